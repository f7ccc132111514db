def rm_X7_length : Room := { frames := 0, cells := 0, slots := 0, locals := 0 }
theorem hd_X7_lengthS : yX7_length.cls ≠ "java/lang/invoke/MethodHandle" ∧ yX7_length.cls ≠ "java/lang/invoke/VarHandle" ∧ (parseMethodDescriptor yX7_length.desc).map (fun d => d.parameters.length) = some 0 := by decide +kernel
theorem hd_X7_length : yX7_length.cls = RX7 ∧ yX7_length.cls ≠ "java/lang/invoke/MethodHandle" ∧ yX7_length.cls ≠ "java/lang/invoke/VarHandle" ∧ (parseMethodDescriptor yX7_length.desc).map (fun d => d.parameters.length) = some 0 := ⟨rfl, hd_X7_lengthS⟩
set_option maxHeartbeats 4000000 in
set_option maxRecDepth 100000 in
theorem c_X7_length (V : ga_V) (a : Nat → Nat) (x_rulesSeen : Int32) (x_placesSeen : Int32) (x_length : Int32) (K : Int32 → Prop) (h : wp_X7_length x_length K) : ga_C V yX7_length wsX7_length rm_X7_length [.ref (a 0)] [(a 0, .inr (7, [.ref (a 1), .int x_length, .int x_rulesSeen, .int x_placesSeen]))] 0 0 (ga_Fi (fun (u : Unit) => [(a 0, .inr (7, [.ref (a 1), .int x_length, .int x_rulesSeen, .int x_placesSeen]))]) (fun r u => K r)) := by
  refine ga_met (cc := cX7_length) (maxL := 1) (rt := (some .int)) (by decide) rfl [(0, .ref (a 0))] rfl (Nat.le_of_ble_eq_true rfl) ?_
  intro G hR hE
  have hinX7 : ∀ w ∈ u_ws RX7 TX7 4, w ∈ wsX7_length := by decide +kernel
  have f15 : Cond.fieldLink RX7 15 "BoundaryRules$Text" "length" "I" ∈ wsX7_length := by decide +kernel
  unfold wp_X7_length at h
  refine ga_aload_n hR (pc := 0) 0 rfl rfl dX7_length_0 ?_
  refine ga_get hR (pc := 1) 0 rfl rfl hinX7 1 (by decide) f15 rfl dX7_length_1 ?_
  exact ga_iret hE dX7_length_4 rfl (ga_ri () rfl h)

def rm_X7_add : Room := { frames := 0, cells := 0, slots := 0, locals := 0 }
theorem hd_X7_addS : yX7_add.cls ≠ "java/lang/invoke/MethodHandle" ∧ yX7_add.cls ≠ "java/lang/invoke/VarHandle" ∧ (parseMethodDescriptor yX7_add.desc).map (fun d => d.parameters.length) = some 1 := by decide +kernel
theorem hd_X7_add : yX7_add.cls = RX7 ∧ yX7_add.cls ≠ "java/lang/invoke/MethodHandle" ∧ yX7_add.cls ≠ "java/lang/invoke/VarHandle" ∧ (parseMethodDescriptor yX7_add.desc).map (fun d => d.parameters.length) = some 1 := ⟨rfl, hd_X7_addS⟩
set_option maxHeartbeats 4000000 in
set_option maxRecDepth 100000 in
theorem c_X7_add (V : ga_V) (a : Nat → Nat) (x_rulesSeen : Int32) (x_placesSeen : Int32) (x_length : Int32) (x_signs : Nat → Int32) (p1 : Int32) (K : Int32 → (Nat → Int32) → Prop) (h : wp_X7_add x_length x_signs p1 K) : ga_C V yX7_add wsX7_add rm_X7_add [.ref (a 0), .int p1] [(a 0, .inr (7, [.ref (a 1), .int x_length, .int x_rulesSeen, .int x_placesSeen])), (a 1, .inl (V.2 0, 200, .inl x_signs))] 0 0 (ga_Fv (fun (u : Int32 × (Nat → Int32)) => [(a 0, .inr (7, [.ref (a 1), .int u.1, .int x_rulesSeen, .int x_placesSeen])), (a 1, .inl (V.2 0, 200, .inl u.2))]) (fun u => K u.1 u.2)) := by
  refine ga_met (cc := cX7_add) (maxL := 2) (rt := none) (by decide) rfl [(0, .ref (a 0)), (1, .int p1)] rfl (Nat.le_of_ble_eq_true rfl) ?_
  intro G hR hE
  have hinX7 : ∀ w ∈ u_ws RX7 TX7 4, w ∈ wsX7_add := by decide +kernel
  have f15 : Cond.fieldLink RX7 15 "BoundaryRules$Text" "length" "I" ∈ wsX7_add := by decide +kernel
  have f9 : Cond.fieldLink RX7 9 "BoundaryRules$Text" "signs" "[I" ∈ wsX7_add := by decide +kernel
  unfold wp_X7_add at h
  refine ga_aload_n hR (pc := 0) 0 rfl rfl dX7_add_0 ?_
  refine ga_get hR (pc := 1) 0 rfl rfl hinX7 1 (by decide) f15 rfl dX7_add_1 ?_
  refine ga_sipush hR (pc := 4) (v := nI 200) (by decide) dX7_add_4 ?_
  refine ga_icmp_ge hR (pc := 7) 30 (by decide) dX7_add_7 (fun c7 => ?_) (fun c7 => ?_)
  · replace h := h.1 c7
    exact ga_vret hE dX7_add_30 (ga_rv (x_length, x_signs) rfl h)
  · replace h := h.2 c7
    refine ga_aload_n hR (pc := 10) 0 rfl rfl dX7_add_10 ?_
    refine ga_get hR (pc := 11) 0 rfl rfl hinX7 0 (by decide) f9 rfl dX7_add_11 ?_
    refine ga_aload_n hR (pc := 14) 0 rfl rfl dX7_add_14 ?_
    refine ga_get hR (pc := 15) 0 rfl rfl hinX7 1 (by decide) f15 rfl dX7_add_15 ?_
    refine ga_iload_n hR (pc := 18) 1 rfl rfl dX7_add_18 ?_
    refine ga_iast hR (pc := 19) (ws' := [(a 0, .inr (7, [.ref (a 1), .int x_length, .int x_rulesSeen, .int x_placesSeen])), (a 1, .inl (V.2 0, 200, .inl ((upd x_signs x_length.toNatClampNeg p1))))]) 1 rfl h.1 rfl dX7_add_19 ?_
    replace h := h.2
    obtain ⟨x_signs_1, ex_signs_1⟩ : ∃ f : Nat → Int32, f = upd x_signs x_length.toNatClampNeg p1 := ⟨_, rfl⟩
    refine ga_cast (ws' := [(a 0, .inr (7, [.ref (a 1), .int x_length, .int x_rulesSeen, .int x_placesSeen])), (a 1, .inl (V.2 0, 200, .inl x_signs_1))]) (by rw [ex_signs_1]) rfl ?_
    replace h := h x_signs_1 ex_signs_1
    refine ga_aload_n hR (pc := 20) 0 rfl rfl dX7_add_20 ?_
    refine ga_dup hR (pc := 21) rfl dX7_add_21 ?_
    refine ga_get hR (pc := 22) 0 rfl rfl hinX7 1 (by decide) f15 rfl dX7_add_22 ?_
    refine ga_iconst hR (pc := 25) (v := nI 1) (by decide) dX7_add_25 ?_
    refine ga_iadd hR (pc := 26) dX7_add_26 ?_
    refine ga_topi (fun x_length_2 ex_length_2 => ?_)
    replace h := h x_length_2 ex_length_2
    refine ga_putf hR (pc := 27) (ws' := [(a 0, .inr (7, [.ref (a 1), .int x_length_2, .int x_rulesSeen, .int x_placesSeen])), (a 1, .inl (V.2 0, 200, .inl x_signs_1))]) 0 rfl rfl hinX7 1 (by decide) f15 tyX7_ok nmX7 rfl rfl rfl (Nat.le_of_ble_eq_true rfl) rfl dX7_add_27 ?_
    exact ga_vret hE dX7_add_30 (ga_rv (x_length_2, x_signs_1) rfl h)

def rm_X7_clear : Room := { frames := 0, cells := 0, slots := 0, locals := 0 }
theorem hd_X7_clearS : yX7_clear.cls ≠ "java/lang/invoke/MethodHandle" ∧ yX7_clear.cls ≠ "java/lang/invoke/VarHandle" ∧ (parseMethodDescriptor yX7_clear.desc).map (fun d => d.parameters.length) = some 0 := by decide +kernel
theorem hd_X7_clear : yX7_clear.cls = RX7 ∧ yX7_clear.cls ≠ "java/lang/invoke/MethodHandle" ∧ yX7_clear.cls ≠ "java/lang/invoke/VarHandle" ∧ (parseMethodDescriptor yX7_clear.desc).map (fun d => d.parameters.length) = some 0 := ⟨rfl, hd_X7_clearS⟩
set_option maxHeartbeats 4000000 in
set_option maxRecDepth 100000 in
theorem c_X7_clear (V : ga_V) (a : Nat → Nat) (x_rulesSeen : Int32) (x_placesSeen : Int32) (x_length : Int32) (K : Int32 → Prop) (h : wp_X7_clear x_length K) : ga_C V yX7_clear wsX7_clear rm_X7_clear [.ref (a 0)] [(a 0, .inr (7, [.ref (a 1), .int x_length, .int x_rulesSeen, .int x_placesSeen]))] 0 0 (ga_Fv (fun (u : Int32) => [(a 0, .inr (7, [.ref (a 1), .int u, .int x_rulesSeen, .int x_placesSeen]))]) (fun u => K u)) := by
  refine ga_met (cc := cX7_clear) (maxL := 1) (rt := none) (by decide) rfl [(0, .ref (a 0))] rfl (Nat.le_of_ble_eq_true rfl) ?_
  intro G hR hE
  have hinX7 : ∀ w ∈ u_ws RX7 TX7 4, w ∈ wsX7_clear := by decide +kernel
  have f15 : Cond.fieldLink RX7 15 "BoundaryRules$Text" "length" "I" ∈ wsX7_clear := by decide +kernel
  unfold wp_X7_clear at h
  refine ga_aload_n hR (pc := 0) 0 rfl rfl dX7_clear_0 ?_
  refine ga_iconst hR (pc := 1) (v := nI 0) (by decide) dX7_clear_1 ?_
  refine ga_putf hR (pc := 2) (ws' := [(a 0, .inr (7, [.ref (a 1), .int (nI 0), .int x_rulesSeen, .int x_placesSeen]))]) 0 rfl rfl hinX7 1 (by decide) f15 tyX7_ok nmX7 rfl rfl rfl (Nat.le_of_ble_eq_true rfl) rfl dX7_clear_2 ?_
  exact ga_vret hE dX7_clear_5 (ga_rv (nI 0) rfl h)

def rm_X7_signAt : Room := { frames := 0, cells := 0, slots := 0, locals := 0 }
theorem hd_X7_signAtS : yX7_signAt.cls ≠ "java/lang/invoke/MethodHandle" ∧ yX7_signAt.cls ≠ "java/lang/invoke/VarHandle" ∧ (parseMethodDescriptor yX7_signAt.desc).map (fun d => d.parameters.length) = some 1 := by decide +kernel
theorem hd_X7_signAt : yX7_signAt.cls = RX7 ∧ yX7_signAt.cls ≠ "java/lang/invoke/MethodHandle" ∧ yX7_signAt.cls ≠ "java/lang/invoke/VarHandle" ∧ (parseMethodDescriptor yX7_signAt.desc).map (fun d => d.parameters.length) = some 1 := ⟨rfl, hd_X7_signAtS⟩
set_option maxHeartbeats 4000000 in
set_option maxRecDepth 100000 in
theorem c_X7_signAt (V : ga_V) (a : Nat → Nat) (x_rulesSeen : Int32) (x_placesSeen : Int32) (x_length : Int32) (x_signs : Nat → Int32) (p1 : Int32) (K : Int32 → Prop) (h : wp_X7_signAt x_length x_signs p1 K) : ga_C V yX7_signAt wsX7_signAt rm_X7_signAt [.ref (a 0), .int p1] [(a 0, .inr (7, [.ref (a 1), .int x_length, .int x_rulesSeen, .int x_placesSeen])), (a 1, .inl (V.2 0, 200, .inl x_signs))] 0 0 (ga_Fi (fun (u : Unit) => [(a 0, .inr (7, [.ref (a 1), .int x_length, .int x_rulesSeen, .int x_placesSeen])), (a 1, .inl (V.2 0, 200, .inl x_signs))]) (fun r u => K r)) := by
  refine ga_met (cc := cX7_signAt) (maxL := 2) (rt := (some .int)) (by decide) rfl [(0, .ref (a 0)), (1, .int p1)] rfl (Nat.le_of_ble_eq_true rfl) ?_
  intro G hR hE
  have hinX7 : ∀ w ∈ u_ws RX7 TX7 4, w ∈ wsX7_signAt := by decide +kernel
  have f15 : Cond.fieldLink RX7 15 "BoundaryRules$Text" "length" "I" ∈ wsX7_signAt := by decide +kernel
  have f9 : Cond.fieldLink RX7 9 "BoundaryRules$Text" "signs" "[I" ∈ wsX7_signAt := by decide +kernel
  unfold wp_X7_signAt at h
  refine ga_iload_n hR (pc := 0) 1 rfl rfl dX7_signAt_0 ?_
  refine ga_if_lt hR (pc := 1) 21 (by decide) dX7_signAt_1 (fun c1 => ?_) (fun c1 => ?_)
  · replace h := h.1 c1
    refine ga_iconst hR (pc := 21) (v := nI 0) (by decide) dX7_signAt_21 ?_
    exact ga_iret hE dX7_signAt_22 rfl (ga_ri () rfl h)
  · replace h := h.2 c1
    refine ga_iload_n hR (pc := 4) 1 rfl rfl dX7_signAt_4 ?_
    refine ga_aload_n hR (pc := 5) 0 rfl rfl dX7_signAt_5 ?_
    refine ga_get hR (pc := 6) 0 rfl rfl hinX7 1 (by decide) f15 rfl dX7_signAt_6 ?_
    refine ga_icmp_ge hR (pc := 9) 21 (by decide) dX7_signAt_9 (fun c9 => ?_) (fun c9 => ?_)
    · replace h := h.1 c9
      refine ga_iconst hR (pc := 21) (v := nI 0) (by decide) dX7_signAt_21 ?_
      exact ga_iret hE dX7_signAt_22 rfl (ga_ri () rfl h)
    · replace h := h.2 c9
      refine ga_aload_n hR (pc := 12) 0 rfl rfl dX7_signAt_12 ?_
      refine ga_get hR (pc := 13) 0 rfl rfl hinX7 0 (by decide) f9 rfl dX7_signAt_13 ?_
      refine ga_iload_n hR (pc := 16) 1 rfl rfl dX7_signAt_16 ?_
      refine ga_iald hR (pc := 17) 1 rfl h.1 dX7_signAt_17 ?_
      replace h := h.2
      refine ga_goto hR (pc := 18) 22 (by decide) dX7_signAt_18 ?_
      exact ga_iret hE dX7_signAt_22 rfl (ga_ri () rfl h)

def rm_X7_endOfItem : Room := { frames := 1, cells := 0, slots := 0, locals := 21 }
theorem hd_X7_endOfItemS : yX7_endOfItem.cls ≠ "java/lang/invoke/MethodHandle" ∧ yX7_endOfItem.cls ≠ "java/lang/invoke/VarHandle" ∧ (parseMethodDescriptor yX7_endOfItem.desc).map (fun d => d.parameters.length) = some 1 := by decide +kernel
theorem hd_X7_endOfItem : yX7_endOfItem.cls = RX7 ∧ yX7_endOfItem.cls ≠ "java/lang/invoke/MethodHandle" ∧ yX7_endOfItem.cls ≠ "java/lang/invoke/VarHandle" ∧ (parseMethodDescriptor yX7_endOfItem.desc).map (fun d => d.parameters.length) = some 1 := ⟨rfl, hd_X7_endOfItemS⟩
set_option maxHeartbeats 4000000 in
set_option maxRecDepth 100000 in
theorem c_X7_endOfItem (V : ga_V) (a : Nat → Nat) (x_rulesSeen : Int32) (x_placesSeen : Int32) (x_length : Int32) (x_signs : Nat → Int32) (p1 : Int32) (K : Int32 → Prop) (h : wp_X7_endOfItem x_length x_signs p1 K) : ga_C V yX7_endOfItem wsX7_endOfItem rm_X7_endOfItem [.ref (a 0), .int p1] [(a 0, .inr (7, [.ref (a 1), .int x_length, .int x_rulesSeen, .int x_placesSeen])), (a 1, .inl (V.2 0, 200, .inl x_signs))] 0 0 (ga_Fi (fun (u : Unit) => [(a 0, .inr (7, [.ref (a 1), .int x_length, .int x_rulesSeen, .int x_placesSeen])), (a 1, .inl (V.2 0, 200, .inl x_signs))]) (fun r u => K r)) := by
  refine ga_met (cc := cX7_endOfItem) (maxL := 3) (rt := (some .int)) (by decide) rfl [(0, .ref (a 0)), (1, .int p1)] rfl (Nat.le_of_ble_eq_true rfl) ?_
  intro G hR hE
  have hinX7 : ∀ w ∈ u_ws RX7 TX7 4, w ∈ wsX7_endOfItem := by decide +kernel
  have f15 : Cond.fieldLink RX7 15 "BoundaryRules$Text" "length" "I" ∈ wsX7_endOfItem := by decide +kernel
  unfold wp_X7_endOfItem at h
  refine ga_iload_n hR (pc := 0) 1 rfl rfl dX7_endOfItem_0 ?_
  refine ga_istore_n hR (pc := 1) (lv' := [(2, .int p1), (0, .ref (a 0)), (1, .int p1)]) rfl (by decide) rfl dX7_endOfItem_1 ?_
  have hJ := h (fun (v2_1 : Int32) => G 0 0 [(a 0, .inr (7, [.ref (a 1), .int x_length, .int x_rulesSeen, .int x_placesSeen])), (a 1, .inl (V.2 0, 200, .inl x_signs))] 20 [(2, .int v2_1)] [])
  refine ga_bind hJ ?_ ?_
  · intro v2_1 h
    show G 0 0 [(a 0, .inr (7, [.ref (a 1), .int x_length, .int x_rulesSeen, .int x_placesSeen])), (a 1, .inl (V.2 0, 200, .inl x_signs))] 20 [(2, .int v2_1)] []
    refine ga_iload_n hR (pc := 20) 0 rfl rfl dX7_endOfItem_20 ?_
    exact ga_iret hE dX7_endOfItem_21 rfl (ga_ri () rfl h)
  · intro h
    have hJ := h (G 0 0 [(a 0, .inr (7, [.ref (a 1), .int x_length, .int x_rulesSeen, .int x_placesSeen])), (a 1, .inl (V.2 0, 200, .inl x_signs))] 28 [] [])
    refine ga_bind hJ ?_ ?_
    · intro h
      show G 0 0 [(a 0, .inr (7, [.ref (a 1), .int x_length, .int x_rulesSeen, .int x_placesSeen])), (a 1, .inl (V.2 0, 200, .inl x_signs))] 28 [] []
      refine ga_iconst hR (pc := 28) (v := -1) (by decide) dX7_endOfItem_28 ?_
      exact ga_iret hE dX7_endOfItem_29 rfl (ga_ri () rfl h)
    · intro h
      obtain ⟨n, h⟩ := h
      have L2 : ∀ (n : Nat) (v2_6 : Int32), lp_X7_endOfItem_2 x_length x_signs (fun (v2_1 : Int32) => G 0 0 [(a 0, .inr (7, [.ref (a 1), .int x_length, .int x_rulesSeen, .int x_placesSeen])), (a 1, .inl (V.2 0, 200, .inl x_signs))] 20 [(2, .int v2_1)] []) (G 0 0 [(a 0, .inr (7, [.ref (a 1), .int x_length, .int x_rulesSeen, .int x_placesSeen])), (a 1, .inl (V.2 0, 200, .inl x_signs))] 28 [] []) n v2_6 → G 0 0 [(a 0, .inr (7, [.ref (a 1), .int x_length, .int x_rulesSeen, .int x_placesSeen])), (a 1, .inl (V.2 0, 200, .inl x_signs))] 2 [(0, .ref (a 0)), (2, .int v2_6)] [] := by
        intro n
        induction n with
        | zero => exact fun _ h => False.elim h
        | succ n ih =>
          intro v2_6 h
          rw [lp_X7_endOfItem_2] at h
          refine ga_iload_n hR (pc := 2) 1 rfl rfl dX7_endOfItem_2 ?_
          refine ga_aload_n hR (pc := 3) 0 rfl rfl dX7_endOfItem_3 ?_
          refine ga_get hR (pc := 4) 0 rfl rfl hinX7 1 (by decide) f15 rfl dX7_endOfItem_4 ?_
          refine ga_icmp_ge hR (pc := 7) 28 (by decide) dX7_endOfItem_7 (fun c7 => ?_) (fun c7 => ?_)
          · replace h := h.1 c7
            exact ga_lv hR [] rfl h
          · replace h := h.2 c7
            refine ga_aload_n hR (pc := 10) 0 rfl rfl dX7_endOfItem_10 ?_
            refine ga_iload_n hR (pc := 11) 1 rfl rfl dX7_endOfItem_11 ?_
            refine ga_callV hR (pc := 12) (As := [.int v2_6]) (rest := []) (st0 := [.int v2_6, .ref (a 0)]) (b := (a 0)) 1 (c_X7_signAt V a x_rulesSeen x_placesSeen x_length x_signs v2_6 _ h) (ga_same_i fun _ => rfl) gX7_endOfItem_X7_signAt rfl rfl rfl hd_X7_signAt ⟨Nat.le_of_ble_eq_true rfl, Nat.le_of_ble_eq_true rfl⟩ rfl rfl (Nat.le_of_ble_eq_true rfl) ⟨Nat.zero_le _, Nat.zero_le _⟩ [0, 1] rfl rfl 0 rfl rfl dX7_endOfItem_12 ?_
            rintro _ _ ⟨r_7, ⟨⟩, rfl, rfl, h⟩
            refine ga_to [(a 0, .inr (7, [.ref (a 1), .int x_length, .int x_rulesSeen, .int x_placesSeen])), (a 1, .inl (V.2 0, 200, .inl x_signs))] [.int r_7] rfl rfl ?_
            try dsimp only at h
            refine ga_bipush hR (pc := 15) (v := nI 59) (by decide) dX7_endOfItem_15 ?_
            refine ga_icmp_ne hR (pc := 17) 22 (by decide) dX7_endOfItem_17 (fun c17 => ?_) (fun c17 => ?_)
            · replace h := h.1 c17
              obtain ⟨v2_8, ev2_8⟩ : ∃ v : Int32, v = v2_6 + (nI 1) := ⟨_, rfl⟩
              replace h := h v2_8 ev2_8
              refine ga_iinc hR (pc := 22) (lv' := [(2, .int v2_8), (0, .ref (a 0))]) 1 (by decide) rfl ev2_8 (by decide) rfl dX7_endOfItem_22 ?_
              refine ga_goto hR (pc := 25) 2 (by decide) dX7_endOfItem_25 ?_
              exact ga_lv hR [1, 0] rfl (ih _ h)
            · replace h := h.2 c17
              exact ga_lv hR [1] rfl h
      exact ga_lv hR [1, 0] rfl (L2 n _ h)

def rm_X9_isLetter : Room := { frames := 0, cells := 0, slots := 0, locals := 0 }
theorem hd_X9_isLetterS : yX9_isLetter.cls ≠ "java/lang/invoke/MethodHandle" ∧ yX9_isLetter.cls ≠ "java/lang/invoke/VarHandle" ∧ (parseMethodDescriptor yX9_isLetter.desc).map (fun d => d.parameters.length) = some 1 := by decide +kernel
set_option maxHeartbeats 4000000 in
set_option maxRecDepth 100000 in
theorem c_X9_isLetter (V : ga_V) (p0 : Int32) (K : Int32 → Prop) (h : wp_X9_isLetter p0 K) : ga_C V yX9_isLetter wsX9_isLetter rm_X9_isLetter [.int p0] [] 0 0 (ga_Fi (fun (u : Unit) => []) (fun r u => K r)) := by
  refine ga_met (cc := cX9_isLetter) (maxL := 1) (rt := (some .boolean)) (by decide) rfl [(0, .int p0)] rfl (Nat.le_of_ble_eq_true rfl) ?_
  intro G hR hE
  unfold wp_X9_isLetter at h
  refine ga_iload_n hR (pc := 0) 0 rfl rfl dX9_isLetter_0 ?_
  refine ga_if_lt hR (pc := 1) 14 (by decide) dX9_isLetter_1 (fun c1 => ?_) (fun c1 => ?_)
  · replace h := h.1 c1
    refine ga_iconst hR (pc := 14) (v := nI 0) (by decide) dX9_isLetter_14 ?_
    exact ga_iret hE dX9_isLetter_15 (by decide) (ga_ri () rfl h)
  · replace h := h.2 c1
    refine ga_iload_n hR (pc := 4) 0 rfl rfl dX9_isLetter_4 ?_
    refine ga_bipush hR (pc := 5) (v := nI 26) (by decide) dX9_isLetter_5 ?_
    refine ga_icmp_ge hR (pc := 7) 14 (by decide) dX9_isLetter_7 (fun c7 => ?_) (fun c7 => ?_)
    · replace h := h.1 c7
      refine ga_iconst hR (pc := 14) (v := nI 0) (by decide) dX9_isLetter_14 ?_
      exact ga_iret hE dX9_isLetter_15 (by decide) (ga_ri () rfl h)
    · replace h := h.2 c7
      refine ga_iconst hR (pc := 10) (v := nI 1) (by decide) dX9_isLetter_10 ?_
      refine ga_goto hR (pc := 11) 15 (by decide) dX9_isLetter_11 ?_
      exact ga_iret hE dX9_isLetter_15 (by decide) (ga_ri () rfl h)

def rm_X7_areLetters : Room := { frames := 1, cells := 0, slots := 0, locals := 21 }
theorem hd_X7_areLettersS : yX7_areLetters.cls ≠ "java/lang/invoke/MethodHandle" ∧ yX7_areLetters.cls ≠ "java/lang/invoke/VarHandle" ∧ (parseMethodDescriptor yX7_areLetters.desc).map (fun d => d.parameters.length) = some 4 := by decide +kernel
theorem hd_X7_areLetters : yX7_areLetters.cls = RX7 ∧ yX7_areLetters.cls ≠ "java/lang/invoke/MethodHandle" ∧ yX7_areLetters.cls ≠ "java/lang/invoke/VarHandle" ∧ (parseMethodDescriptor yX7_areLetters.desc).map (fun d => d.parameters.length) = some 4 := ⟨rfl, hd_X7_areLettersS⟩
set_option maxHeartbeats 4000000 in
set_option maxRecDepth 100000 in
theorem c_X7_areLetters (V : ga_V) (a : Nat → Nat) (x_rulesSeen : Int32) (x_placesSeen : Int32) (x_length : Int32) (x_signs : Nat → Int32) (p1 : Int32) (p2 : Int32) (p3 : Int32) (p4 : Int32) (K : Int32 → Prop) (h : wp_X7_areLetters x_length x_signs p1 p2 p3 p4 K) : ga_C V yX7_areLetters wsX7_areLetters rm_X7_areLetters [.ref (a 0), .int p1, .int p2, .int p3, .int p4] [(a 0, .inr (7, [.ref (a 1), .int x_length, .int x_rulesSeen, .int x_placesSeen])), (a 1, .inl (V.2 0, 200, .inl x_signs))] 0 0 (ga_Fi (fun (u : Unit) => [(a 0, .inr (7, [.ref (a 1), .int x_length, .int x_rulesSeen, .int x_placesSeen])), (a 1, .inl (V.2 0, 200, .inl x_signs))]) (fun r u => K r)) := by
  refine ga_met (cc := cX7_areLetters) (maxL := 6) (rt := (some .boolean)) (by decide) rfl [(0, .ref (a 0)), (1, .int p1), (2, .int p2), (3, .int p3), (4, .int p4)] rfl (Nat.le_of_ble_eq_true rfl) ?_
  intro G hR hE
  unfold wp_X7_areLetters at h
  refine ga_iload_n hR (pc := 0) 1 rfl rfl dX7_areLetters_0 ?_
  refine ga_istore hR (pc := 1) (lv' := [(5, .int p1), (0, .ref (a 0)), (1, .int p1), (2, .int p2), (3, .int p3), (4, .int p4)]) (by decide) rfl dX7_areLetters_1 ?_
  have hJ := h (G 0 0 [(a 0, .inr (7, [.ref (a 1), .int x_length, .int x_rulesSeen, .int x_placesSeen])), (a 1, .inl (V.2 0, 200, .inl x_signs))] 24 [] [])
  refine ga_bind hJ ?_ ?_
  · intro h
    show G 0 0 [(a 0, .inr (7, [.ref (a 1), .int x_length, .int x_rulesSeen, .int x_placesSeen])), (a 1, .inl (V.2 0, 200, .inl x_signs))] 24 [] []
    refine ga_iconst hR (pc := 24) (v := nI 0) (by decide) dX7_areLetters_24 ?_
    exact ga_iret hE dX7_areLetters_25 (by decide) (ga_ri () rfl h)
  · intro h
    have hJ := h (G 0 0 [(a 0, .inr (7, [.ref (a 1), .int x_length, .int x_rulesSeen, .int x_placesSeen])), (a 1, .inl (V.2 0, 200, .inl x_signs))] 32 [(1, .int p1), (2, .int p2), (3, .int p3), (4, .int p4)] [])
    refine ga_bind hJ ?_ ?_
    · intro h
      show G 0 0 [(a 0, .inr (7, [.ref (a 1), .int x_length, .int x_rulesSeen, .int x_placesSeen])), (a 1, .inl (V.2 0, 200, .inl x_signs))] 32 [(1, .int p1), (2, .int p2), (3, .int p3), (4, .int p4)] []
      refine ga_iload_n hR (pc := 32) 1 rfl rfl dX7_areLetters_32 ?_
      refine ga_iload_n hR (pc := 33) 0 rfl rfl dX7_areLetters_33 ?_
      refine ga_isub hR (pc := 34) dX7_areLetters_34 ?_
      refine ga_iload_n hR (pc := 35) 2 rfl rfl dX7_areLetters_35 ?_
      refine ga_icmp_lt hR (pc := 36) 51 (by decide) dX7_areLetters_36 (fun c36 => ?_) (fun c36 => ?_)
      · replace h := h.1 c36
        refine ga_iconst hR (pc := 51) (v := nI 0) (by decide) dX7_areLetters_51 ?_
        exact ga_iret hE dX7_areLetters_52 (by decide) (ga_ri () rfl h)
      · replace h := h.2 c36
        refine ga_iload_n hR (pc := 39) 1 rfl rfl dX7_areLetters_39 ?_
        refine ga_iload_n hR (pc := 40) 0 rfl rfl dX7_areLetters_40 ?_
        refine ga_isub hR (pc := 41) dX7_areLetters_41 ?_
        refine ga_iload hR (pc := 42) 3 rfl dX7_areLetters_42 ?_
        refine ga_icmp_gt hR (pc := 44) 51 (by decide) dX7_areLetters_44 (fun c44 => ?_) (fun c44 => ?_)
        · replace h := h.1 c44
          refine ga_iconst hR (pc := 51) (v := nI 0) (by decide) dX7_areLetters_51 ?_
          exact ga_iret hE dX7_areLetters_52 (by decide) (ga_ri () rfl h)
        · replace h := h.2 c44
          refine ga_iconst hR (pc := 47) (v := nI 1) (by decide) dX7_areLetters_47 ?_
          refine ga_goto hR (pc := 48) 52 (by decide) dX7_areLetters_48 ?_
          exact ga_iret hE dX7_areLetters_52 (by decide) (ga_ri () rfl h)
    · intro h
      obtain ⟨n, h⟩ := h
      have L3 : ∀ (n : Nat) (v5_6 : Int32), lp_X7_areLetters_3 x_length x_signs p2 (G 0 0 [(a 0, .inr (7, [.ref (a 1), .int x_length, .int x_rulesSeen, .int x_placesSeen])), (a 1, .inl (V.2 0, 200, .inl x_signs))] 24 [] []) (G 0 0 [(a 0, .inr (7, [.ref (a 1), .int x_length, .int x_rulesSeen, .int x_placesSeen])), (a 1, .inl (V.2 0, 200, .inl x_signs))] 32 [(1, .int p1), (2, .int p2), (3, .int p3), (4, .int p4)] []) n v5_6 → G 0 0 [(a 0, .inr (7, [.ref (a 1), .int x_length, .int x_rulesSeen, .int x_placesSeen])), (a 1, .inl (V.2 0, 200, .inl x_signs))] 3 [(0, .ref (a 0)), (1, .int p1), (2, .int p2), (3, .int p3), (4, .int p4), (5, .int v5_6)] [] := by
        intro n
        induction n with
        | zero => exact fun _ h => False.elim h
        | succ n ih =>
          intro v5_6 h
          rw [lp_X7_areLetters_3] at h
          refine ga_iload hR (pc := 3) 5 rfl dX7_areLetters_3 ?_
          refine ga_iload_n hR (pc := 5) 2 rfl rfl dX7_areLetters_5 ?_
          refine ga_icmp_ge hR (pc := 6) 32 (by decide) dX7_areLetters_6 (fun c6 => ?_) (fun c6 => ?_)
          · replace h := h.1 c6
            exact ga_lv hR [1, 2, 3, 4] rfl h
          · replace h := h.2 c6
            refine ga_aload_n hR (pc := 9) 0 rfl rfl dX7_areLetters_9 ?_
            refine ga_iload hR (pc := 10) 5 rfl dX7_areLetters_10 ?_
            refine ga_callV hR (pc := 12) (As := [.int v5_6]) (rest := []) (st0 := [.int v5_6, .ref (a 0)]) (b := (a 0)) 1 (c_X7_signAt V a x_rulesSeen x_placesSeen x_length x_signs v5_6 _ h) (ga_same_i fun _ => rfl) gX7_areLetters_X7_signAt rfl rfl rfl hd_X7_signAt ⟨Nat.le_of_ble_eq_true rfl, Nat.le_of_ble_eq_true rfl⟩ rfl rfl (Nat.le_of_ble_eq_true rfl) ⟨Nat.zero_le _, Nat.zero_le _⟩ [0, 1] rfl rfl 0 rfl rfl dX7_areLetters_12 ?_
            rintro _ _ ⟨r_7, ⟨⟩, rfl, rfl, h⟩
            refine ga_to [(a 0, .inr (7, [.ref (a 1), .int x_length, .int x_rulesSeen, .int x_placesSeen])), (a 1, .inl (V.2 0, 200, .inl x_signs))] [.int r_7] rfl rfl ?_
            try dsimp only at h
            refine ga_bipush hR (pc := 15) (v := nI 97) (by decide) dX7_areLetters_15 ?_
            refine ga_isub hR (pc := 17) dX7_areLetters_17 ?_
            refine ga_callSN hR (pc := 18) (As := [.int (r_7 - (nI 97))]) (rest := []) (st0 := [.int (r_7 - (nI 97))]) 1 (c_X9_isLetter V (r_7 - (nI 97)) _ h) (ga_same_i fun _ => rfl) gX7_areLetters_X9_isLetter_n74 rfl rfl rfl hd_X9_isLetterS ⟨Nat.le_of_ble_eq_true rfl, Nat.le_of_ble_eq_true rfl⟩ rfl rfl (Nat.le_of_ble_eq_true rfl) ⟨Nat.zero_le _, Nat.zero_le _⟩ [] rfl rfl (host := "BoundaryRules") (by decide +kernel) (by decide +kernel) (by decide +kernel) dX7_areLetters_18 ?_
            rintro _ _ ⟨r_8, ⟨⟩, rfl, rfl, h⟩
            refine ga_to [(a 0, .inr (7, [.ref (a 1), .int x_length, .int x_rulesSeen, .int x_placesSeen])), (a 1, .inl (V.2 0, 200, .inl x_signs))] [.int r_8] rfl rfl ?_
            try dsimp only at h
            refine ga_if_ne hR (pc := 21) 26 (by decide) dX7_areLetters_21 (fun c21 => ?_) (fun c21 => ?_)
            · replace h := h.1 c21
              obtain ⟨v5_9, ev5_9⟩ : ∃ v : Int32, v = v5_6 + (nI 1) := ⟨_, rfl⟩
              replace h := h v5_9 ev5_9
              refine ga_iinc hR (pc := 26) (lv' := [(5, .int v5_9), (0, .ref (a 0)), (1, .int p1), (2, .int p2), (3, .int p3), (4, .int p4)]) 5 (by decide) rfl ev5_9 (by decide) rfl dX7_areLetters_26 ?_
              refine ga_goto hR (pc := 29) 3 (by decide) dX7_areLetters_29 ?_
              exact ga_lv hR [1, 2, 3, 4, 5, 0] rfl (ih _ h)
            · replace h := h.2 c21
              exact ga_lv hR [] rfl h
      exact ga_lv hR [1, 2, 3, 4, 5, 0] rfl (L3 n _ h)

def rm_X7_hasFigure : Room := { frames := 1, cells := 0, slots := 0, locals := 21 }
theorem hd_X7_hasFigureS : yX7_hasFigure.cls ≠ "java/lang/invoke/MethodHandle" ∧ yX7_hasFigure.cls ≠ "java/lang/invoke/VarHandle" ∧ (parseMethodDescriptor yX7_hasFigure.desc).map (fun d => d.parameters.length) = some 3 := by decide +kernel
theorem hd_X7_hasFigure : yX7_hasFigure.cls = RX7 ∧ yX7_hasFigure.cls ≠ "java/lang/invoke/MethodHandle" ∧ yX7_hasFigure.cls ≠ "java/lang/invoke/VarHandle" ∧ (parseMethodDescriptor yX7_hasFigure.desc).map (fun d => d.parameters.length) = some 3 := ⟨rfl, hd_X7_hasFigureS⟩
set_option maxHeartbeats 4000000 in
set_option maxRecDepth 100000 in
theorem c_X7_hasFigure (V : ga_V) (a : Nat → Nat) (x_rulesSeen : Int32) (x_placesSeen : Int32) (x_length : Int32) (x_signs : Nat → Int32) (p1 : Int32) (p2 : Int32) (p3 : Int32) (K : Int32 → Prop) (h : wp_X7_hasFigure x_length x_signs p1 p2 p3 K) : ga_C V yX7_hasFigure wsX7_hasFigure rm_X7_hasFigure [.ref (a 0), .int p1, .int p2, .int p3] [(a 0, .inr (7, [.ref (a 1), .int x_length, .int x_rulesSeen, .int x_placesSeen])), (a 1, .inl (V.2 0, 200, .inl x_signs))] 0 0 (ga_Fi (fun (u : Unit) => [(a 0, .inr (7, [.ref (a 1), .int x_length, .int x_rulesSeen, .int x_placesSeen])), (a 1, .inl (V.2 0, 200, .inl x_signs))]) (fun r u => K r)) := by
  refine ga_met (cc := cX7_hasFigure) (maxL := 5) (rt := (some .boolean)) (by decide) rfl [(0, .ref (a 0)), (1, .int p1), (2, .int p2), (3, .int p3)] rfl (Nat.le_of_ble_eq_true rfl) ?_
  intro G hR hE
  unfold wp_X7_hasFigure at h
  refine ga_aload_n hR (pc := 0) 0 rfl rfl dX7_hasFigure_0 ?_
  refine ga_iload_n hR (pc := 1) 1 rfl rfl dX7_hasFigure_1 ?_
  refine ga_iconst hR (pc := 2) (v := nI 1) (by decide) dX7_hasFigure_2 ?_
  refine ga_iadd hR (pc := 3) dX7_hasFigure_3 ?_
  refine ga_callV hR (pc := 4) (As := [.int (p1 + (nI 1))]) (rest := []) (st0 := [.int (p1 + (nI 1)), .ref (a 0)]) (b := (a 0)) 1 (c_X7_signAt V a x_rulesSeen x_placesSeen x_length x_signs (p1 + (nI 1)) _ h) (ga_same_i fun _ => rfl) gX7_hasFigure_X7_signAt rfl rfl rfl hd_X7_signAt ⟨Nat.le_of_ble_eq_true rfl, Nat.le_of_ble_eq_true rfl⟩ rfl rfl (Nat.le_of_ble_eq_true rfl) ⟨Nat.zero_le _, Nat.zero_le _⟩ [0, 1] rfl rfl 0 rfl rfl dX7_hasFigure_4 ?_
  rintro _ _ ⟨r_1, ⟨⟩, rfl, rfl, h⟩
  refine ga_to [(a 0, .inr (7, [.ref (a 1), .int x_length, .int x_rulesSeen, .int x_placesSeen])), (a 1, .inl (V.2 0, 200, .inl x_signs))] [.int r_1] rfl rfl ?_
  try dsimp only at h
  refine ga_bipush hR (pc := 7) (v := nI 48) (by decide) dX7_hasFigure_7 ?_
  refine ga_isub hR (pc := 9) dX7_hasFigure_9 ?_
  refine ga_topi (fun v4_2 ev4_2 => ?_)
  replace h := h v4_2 ev4_2
  refine ga_istore hR (pc := 10) (lv' := [(4, .int v4_2), (0, .ref (a 0)), (1, .int p1), (2, .int p2), (3, .int p3)]) (by decide) rfl dX7_hasFigure_10 ?_
  refine ga_iload_n hR (pc := 12) 2 rfl rfl dX7_hasFigure_12 ?_
  refine ga_iconst hR (pc := 13) (v := nI 2) (by decide) dX7_hasFigure_13 ?_
  refine ga_iadd hR (pc := 14) dX7_hasFigure_14 ?_
  refine ga_iload_n hR (pc := 15) 3 rfl rfl dX7_hasFigure_15 ?_
  refine ga_icmp_ge hR (pc := 16) 46 (by decide) dX7_hasFigure_16 (fun c16 => ?_) (fun c16 => ?_)
  · replace h := h.1 c16
    refine ga_iconst hR (pc := 46) (v := nI 0) (by decide) dX7_hasFigure_46 ?_
    exact ga_iret hE dX7_hasFigure_47 (by decide) (ga_ri () rfl h)
  · replace h := h.2 c16
    refine ga_iload hR (pc := 19) 0 rfl dX7_hasFigure_19 ?_
    refine ga_if_lt hR (pc := 21) 46 (by decide) dX7_hasFigure_21 (fun c21 => ?_) (fun c21 => ?_)
    · replace h := h.1 c21
      refine ga_iconst hR (pc := 46) (v := nI 0) (by decide) dX7_hasFigure_46 ?_
      exact ga_iret hE dX7_hasFigure_47 (by decide) (ga_ri () rfl h)
    · replace h := h.2 c21
      refine ga_iload hR (pc := 24) 0 rfl dX7_hasFigure_24 ?_
      refine ga_iload_n hR (pc := 26) 4 rfl rfl dX7_hasFigure_26 ?_
      refine ga_icmp_ge hR (pc := 27) 46 (by decide) dX7_hasFigure_27 (fun c27 => ?_) (fun c27 => ?_)
      · replace h := h.1 c27
        refine ga_iconst hR (pc := 46) (v := nI 0) (by decide) dX7_hasFigure_46 ?_
        exact ga_iret hE dX7_hasFigure_47 (by decide) (ga_ri () rfl h)
      · replace h := h.2 c27
        refine ga_aload_n hR (pc := 30) 1 rfl rfl dX7_hasFigure_30 ?_
        refine ga_iload_n hR (pc := 31) 2 rfl rfl dX7_hasFigure_31 ?_
        refine ga_iconst hR (pc := 32) (v := nI 2) (by decide) dX7_hasFigure_32 ?_
        refine ga_iadd hR (pc := 33) dX7_hasFigure_33 ?_
        refine ga_callV hR (pc := 34) (As := [.int (p1 + (nI 2))]) (rest := []) (st0 := [.int (p1 + (nI 2)), .ref (a 0)]) (b := (a 0)) 1 (c_X7_signAt V a x_rulesSeen x_placesSeen x_length x_signs (p1 + (nI 2)) _ h) (ga_same_i fun _ => rfl) gX7_hasFigure_X7_signAt rfl rfl rfl hd_X7_signAt ⟨Nat.le_of_ble_eq_true rfl, Nat.le_of_ble_eq_true rfl⟩ rfl rfl (Nat.le_of_ble_eq_true rfl) ⟨Nat.zero_le _, Nat.zero_le _⟩ [0, 1] rfl rfl 0 rfl rfl dX7_hasFigure_34 ?_
        rintro _ _ ⟨r_3, ⟨⟩, rfl, rfl, h⟩
        refine ga_to [(a 0, .inr (7, [.ref (a 1), .int x_length, .int x_rulesSeen, .int x_placesSeen])), (a 1, .inl (V.2 0, 200, .inl x_signs))] [.int r_3] rfl rfl ?_
        try dsimp only at h
        refine ga_bipush hR (pc := 37) (v := nI 44) (by decide) dX7_hasFigure_37 ?_
        refine ga_icmp_ne hR (pc := 39) 46 (by decide) dX7_hasFigure_39 (fun c39 => ?_) (fun c39 => ?_)
        · replace h := h.1 c39
          refine ga_iconst hR (pc := 46) (v := nI 0) (by decide) dX7_hasFigure_46 ?_
          exact ga_iret hE dX7_hasFigure_47 (by decide) (ga_ri () rfl h)
        · replace h := h.2 c39
          refine ga_iconst hR (pc := 42) (v := nI 1) (by decide) dX7_hasFigure_42 ?_
          refine ga_goto hR (pc := 43) 47 (by decide) dX7_hasFigure_43 ?_
          exact ga_iret hE dX7_hasFigure_47 (by decide) (ga_ri () rfl h)

def rm_X9_isClass : Room := { frames := 0, cells := 0, slots := 0, locals := 0 }
theorem hd_X9_isClassS : yX9_isClass.cls ≠ "java/lang/invoke/MethodHandle" ∧ yX9_isClass.cls ≠ "java/lang/invoke/VarHandle" ∧ (parseMethodDescriptor yX9_isClass.desc).map (fun d => d.parameters.length) = some 1 := by decide +kernel
set_option maxHeartbeats 4000000 in
set_option maxRecDepth 100000 in
theorem c_X9_isClass (V : ga_V) (p0 : Int32) (K : Int32 → Prop) (h : wp_X9_isClass p0 K) : ga_C V yX9_isClass wsX9_isClass rm_X9_isClass [.int p0] [] 0 0 (ga_Fi (fun (u : Unit) => []) (fun r u => K r)) := by
  refine ga_met (cc := cX9_isClass) (maxL := 1) (rt := (some .boolean)) (by decide) rfl [(0, .int p0)] rfl (Nat.le_of_ble_eq_true rfl) ?_
  intro G hR hE
  unfold wp_X9_isClass at h
  refine ga_iload_n hR (pc := 0) 0 rfl rfl dX9_isClass_0 ?_
  refine ga_if_lt hR (pc := 1) 14 (by decide) dX9_isClass_1 (fun c1 => ?_) (fun c1 => ?_)
  · replace h := h.1 c1
    refine ga_iconst hR (pc := 14) (v := nI 0) (by decide) dX9_isClass_14 ?_
    exact ga_iret hE dX9_isClass_15 (by decide) (ga_ri () rfl h)
  · replace h := h.2 c1
    refine ga_iload_n hR (pc := 4) 0 rfl rfl dX9_isClass_4 ?_
    refine ga_bipush hR (pc := 5) (v := nI 6) (by decide) dX9_isClass_5 ?_
    refine ga_icmp_ge hR (pc := 7) 14 (by decide) dX9_isClass_7 (fun c7 => ?_) (fun c7 => ?_)
    · replace h := h.1 c7
      refine ga_iconst hR (pc := 14) (v := nI 0) (by decide) dX9_isClass_14 ?_
      exact ga_iret hE dX9_isClass_15 (by decide) (ga_ri () rfl h)
    · replace h := h.2 c7
      refine ga_iconst hR (pc := 10) (v := nI 1) (by decide) dX9_isClass_10 ?_
      refine ga_goto hR (pc := 11) 15 (by decide) dX9_isClass_11 ?_
      exact ga_iret hE dX9_isClass_15 (by decide) (ga_ri () rfl h)

def rm_X7_partsOf : Room := { frames := 1, cells := 0, slots := 0, locals := 20 }
theorem hd_X7_partsOfS : yX7_partsOf.cls ≠ "java/lang/invoke/MethodHandle" ∧ yX7_partsOf.cls ≠ "java/lang/invoke/VarHandle" ∧ (parseMethodDescriptor yX7_partsOf.desc).map (fun d => d.parameters.length) = some 1 := by decide +kernel
set_option maxHeartbeats 4000000 in
set_option maxRecDepth 100000 in
theorem c_X7_partsOf (V : ga_V) (p0 : Int32) (K : Int32 → Prop) (h : wp_X7_partsOf p0 K) : ga_C V yX7_partsOf wsX7_partsOf rm_X7_partsOf [.int p0] [] 0 0 (ga_Fi (fun (u : Unit) => []) (fun r u => K r)) := by
  refine ga_met (cc := cX7_partsOf) (maxL := 1) (rt := (some .int)) (by decide) rfl [(0, .int p0)] rfl (Nat.le_of_ble_eq_true rfl) ?_
  intro G hR hE
  unfold wp_X7_partsOf at h
  refine ga_iload_n hR (pc := 0) 0 rfl rfl dX7_partsOf_0 ?_
  rcases ga_em (p0 = (nI 38)) with q1_0 | q1_0
  · replace h := h.1 q1_0
    refine ga_look hR (pc := 1) 60 (by decide) (off := 59) (by rw [q1_0]; rfl) (by decide) dX7_partsOf_1 ?_
    refine ga_iconst hR (pc := 60) (v := nI 2) (by decide) dX7_partsOf_60 ?_
    exact ga_iret hE dX7_partsOf_61 rfl (ga_ri () rfl h)
  · replace h := h.2 q1_0
    rcases ga_em (p0 = (nI 42)) with q1_1 | q1_1
    · replace h := h.1 q1_1
      refine ga_look hR (pc := 1) 62 (by decide) (off := 61) (by rw [q1_1]; rfl) (by decide) dX7_partsOf_1 ?_
      refine ga_iconst hR (pc := 62) (v := nI 1) (by decide) dX7_partsOf_62 ?_
      exact ga_iret hE dX7_partsOf_63 rfl (ga_ri () rfl h)
    · replace h := h.2 q1_1
      rcases ga_em (p0 = (nI 43)) with q1_2 | q1_2
      · replace h := h.1 q1_2
        refine ga_look hR (pc := 1) 62 (by decide) (off := 61) (by rw [q1_2]; rfl) (by decide) dX7_partsOf_1 ?_
        refine ga_iconst hR (pc := 62) (v := nI 1) (by decide) dX7_partsOf_62 ?_
        exact ga_iret hE dX7_partsOf_63 rfl (ga_ri () rfl h)
      · replace h := h.2 q1_2
        rcases ga_em (p0 = (nI 46)) with q1_3 | q1_3
        · replace h := h.1 q1_3
          refine ga_look hR (pc := 1) 64 (by decide) (off := 63) (by rw [q1_3]; rfl) (by decide) dX7_partsOf_1 ?_
          refine ga_iconst hR (pc := 64) (v := nI 0) (by decide) dX7_partsOf_64 ?_
          exact ga_iret hE dX7_partsOf_65 rfl (ga_ri () rfl h)
        · replace h := h.2 q1_3
          rcases ga_em (p0 = (nI 63)) with q1_4 | q1_4
          · replace h := h.1 q1_4
            refine ga_look hR (pc := 1) 62 (by decide) (off := 61) (by rw [q1_4]; rfl) (by decide) dX7_partsOf_1 ?_
            refine ga_iconst hR (pc := 62) (v := nI 1) (by decide) dX7_partsOf_62 ?_
            exact ga_iret hE dX7_partsOf_63 rfl (ga_ri () rfl h)
          · replace h := h.2 q1_4
            rcases ga_em (p0 = (nI 124)) with q1_5 | q1_5
            · replace h := h.1 q1_5
              refine ga_look hR (pc := 1) 60 (by decide) (off := 59) (by rw [q1_5]; rfl) (by decide) dX7_partsOf_1 ?_
              refine ga_iconst hR (pc := 60) (v := nI 2) (by decide) dX7_partsOf_60 ?_
              exact ga_iret hE dX7_partsOf_61 rfl (ga_ri () rfl h)
            · replace h := h.2 q1_5
              refine ga_look hR (pc := 1) 66 (by decide) (off := 65) (by simp only [List.toList_toArray]; rw [lv_osw q1_0 (by decide : Int32.toInt (nI 38) = 38), lv_osw q1_1 (by decide : Int32.toInt (nI 42) = 42), lv_osw q1_2 (by decide : Int32.toInt (nI 43) = 43), lv_osw q1_3 (by decide : Int32.toInt (nI 46) = 46), lv_osw q1_4 (by decide : Int32.toInt (nI 63) = 63), lv_osw q1_5 (by decide : Int32.toInt (nI 124) = 124)]; rfl) (by decide) dX7_partsOf_1 ?_
              refine ga_iload_n hR (pc := 66) 0 rfl rfl dX7_partsOf_66 ?_
              refine ga_bipush hR (pc := 67) (v := nI 48) (by decide) dX7_partsOf_67 ?_
              refine ga_isub hR (pc := 69) dX7_partsOf_69 ?_
              refine ga_callSN hR (pc := 70) (As := [.int (p0 - (nI 48))]) (rest := []) (st0 := [.int (p0 - (nI 48))]) 1 (c_X9_isClass V (p0 - (nI 48)) _ h) (ga_same_i fun _ => rfl) gX7_partsOf_X9_isClass_n88 rfl rfl rfl hd_X9_isClassS ⟨Nat.le_of_ble_eq_true rfl, Nat.le_of_ble_eq_true rfl⟩ rfl rfl (Nat.le_of_ble_eq_true rfl) ⟨Nat.zero_le _, Nat.zero_le _⟩ [] rfl rfl (host := "BoundaryRules") (by decide +kernel) (by decide +kernel) (by decide +kernel) dX7_partsOf_70 ?_
              rintro _ _ ⟨r_1, ⟨⟩, rfl, rfl, h⟩
              refine ga_to [] [.int r_1] rfl rfl ?_
              try dsimp only at h
              refine ga_if_eq hR (pc := 73) 80 (by decide) dX7_partsOf_73 (fun c73 => ?_) (fun c73 => ?_)
              · replace h := h.1 c73
                refine ga_iconst hR (pc := 80) (v := -1) (by decide) dX7_partsOf_80 ?_
                exact ga_iret hE dX7_partsOf_81 rfl (ga_ri () rfl h)
              · replace h := h.2 c73
                refine ga_iconst hR (pc := 76) (v := nI 0) (by decide) dX7_partsOf_76 ?_
                refine ga_goto hR (pc := 77) 81 (by decide) dX7_partsOf_77 ?_
                exact ga_iret hE dX7_partsOf_81 rfl (ga_ri () rfl h)

def rm_X7_isRow : Room := { frames := 2, cells := 0, slots := 0, locals := 40 }
theorem hd_X7_isRowS : yX7_isRow.cls ≠ "java/lang/invoke/MethodHandle" ∧ yX7_isRow.cls ≠ "java/lang/invoke/VarHandle" ∧ (parseMethodDescriptor yX7_isRow.desc).map (fun d => d.parameters.length) = some 2 := by decide +kernel
theorem hd_X7_isRow : yX7_isRow.cls = RX7 ∧ yX7_isRow.cls ≠ "java/lang/invoke/MethodHandle" ∧ yX7_isRow.cls ≠ "java/lang/invoke/VarHandle" ∧ (parseMethodDescriptor yX7_isRow.desc).map (fun d => d.parameters.length) = some 2 := ⟨rfl, hd_X7_isRowS⟩
set_option maxHeartbeats 4000000 in
set_option maxRecDepth 100000 in
theorem c_X7_isRow (V : ga_V) (a : Nat → Nat) (x_rulesSeen : Int32) (x_placesSeen : Int32) (x_length : Int32) (x_signs : Nat → Int32) (p1 : Int32) (p2 : Int32) (K : Int32 → Prop) (h : wp_X7_isRow x_length x_signs p1 p2 K) : ga_C V yX7_isRow wsX7_isRow rm_X7_isRow [.ref (a 0), .int p1, .int p2] [(a 0, .inr (7, [.ref (a 1), .int x_length, .int x_rulesSeen, .int x_placesSeen])), (a 1, .inl (V.2 0, 200, .inl x_signs))] 0 0 (ga_Fi (fun (u : Unit) => [(a 0, .inr (7, [.ref (a 1), .int x_length, .int x_rulesSeen, .int x_placesSeen])), (a 1, .inl (V.2 0, 200, .inl x_signs))]) (fun r u => K r)) := by
  refine ga_met (cc := cX7_isRow) (maxL := 6) (rt := (some .boolean)) (by decide) rfl [(0, .ref (a 0)), (1, .int p1), (2, .int p2)] rfl (Nat.le_of_ble_eq_true rfl) ?_
  intro G hR hE
  unfold wp_X7_isRow at h
  refine ga_iconst hR (pc := 0) (v := nI 1) (by decide) dX7_isRow_0 ?_
  refine ga_istore_n hR (pc := 1) (lv' := [(3, .int (nI 1)), (0, .ref (a 0)), (1, .int p1), (2, .int p2)]) rfl (by decide) rfl dX7_isRow_1 ?_
  refine ga_iload_n hR (pc := 2) 2 rfl rfl dX7_isRow_2 ?_
  refine ga_istore hR (pc := 3) (lv' := [(4, .int p1), (3, .int (nI 1)), (0, .ref (a 0)), (1, .int p1), (2, .int p2)]) (by decide) rfl dX7_isRow_3 ?_
  have hJ := h (G 0 0 [(a 0, .inr (7, [.ref (a 1), .int x_length, .int x_rulesSeen, .int x_placesSeen])), (a 1, .inl (V.2 0, 200, .inl x_signs))] 31 [] [])
  refine ga_bind hJ ?_ ?_
  · intro h
    show G 0 0 [(a 0, .inr (7, [.ref (a 1), .int x_length, .int x_rulesSeen, .int x_placesSeen])), (a 1, .inl (V.2 0, 200, .inl x_signs))] 31 [] []
    refine ga_iconst hR (pc := 31) (v := nI 0) (by decide) dX7_isRow_31 ?_
    exact ga_iret hE dX7_isRow_32 (by decide) (ga_ri () rfl h)
  · intro h
    have hJ := h (fun (v3_2 : Int32) => G 0 0 [(a 0, .inr (7, [.ref (a 1), .int x_length, .int x_rulesSeen, .int x_placesSeen])), (a 1, .inl (V.2 0, 200, .inl x_signs))] 46 [(1, .int p1), (2, .int p2), (3, .int v3_2)] [])
    refine ga_bind hJ ?_ ?_
    · intro v3_2 h
      show G 0 0 [(a 0, .inr (7, [.ref (a 1), .int x_length, .int x_rulesSeen, .int x_placesSeen])), (a 1, .inl (V.2 0, 200, .inl x_signs))] 46 [(1, .int p1), (2, .int p2), (3, .int v3_2)] []
      refine ga_iload_n hR (pc := 46) 2 rfl rfl dX7_isRow_46 ?_
      refine ga_if_ne hR (pc := 47) 62 (by decide) dX7_isRow_47 (fun c47 => ?_) (fun c47 => ?_)
      · replace h := h.1 c47
        refine ga_iconst hR (pc := 62) (v := nI 0) (by decide) dX7_isRow_62 ?_
        exact ga_iret hE dX7_isRow_63 (by decide) (ga_ri () rfl h)
      · replace h := h.2 c47
        refine ga_iload_n hR (pc := 50) 1 rfl rfl dX7_isRow_50 ?_
        refine ga_iload_n hR (pc := 51) 0 rfl rfl dX7_isRow_51 ?_
        refine ga_isub hR (pc := 52) dX7_isRow_52 ?_
        refine ga_bipush hR (pc := 53) (v := nI 16) (by decide) dX7_isRow_53 ?_
        refine ga_icmp_gt hR (pc := 55) 62 (by decide) dX7_isRow_55 (fun c55 => ?_) (fun c55 => ?_)
        · replace h := h.1 c55
          refine ga_iconst hR (pc := 62) (v := nI 0) (by decide) dX7_isRow_62 ?_
          exact ga_iret hE dX7_isRow_63 (by decide) (ga_ri () rfl h)
        · replace h := h.2 c55
          refine ga_iconst hR (pc := 58) (v := nI 1) (by decide) dX7_isRow_58 ?_
          refine ga_goto hR (pc := 59) 63 (by decide) dX7_isRow_59 ?_
          exact ga_iret hE dX7_isRow_63 (by decide) (ga_ri () rfl h)
    · intro h
      obtain ⟨n, h⟩ := h
      have L5 : ∀ (n : Nat) (v3_8 : Int32) (v4_9 : Int32), lp_X7_isRow_5 x_length x_signs p2 (G 0 0 [(a 0, .inr (7, [.ref (a 1), .int x_length, .int x_rulesSeen, .int x_placesSeen])), (a 1, .inl (V.2 0, 200, .inl x_signs))] 31 [] []) (fun (v3_2 : Int32) => G 0 0 [(a 0, .inr (7, [.ref (a 1), .int x_length, .int x_rulesSeen, .int x_placesSeen])), (a 1, .inl (V.2 0, 200, .inl x_signs))] 46 [(1, .int p1), (2, .int p2), (3, .int v3_2)] []) n v3_8 v4_9 → G 0 0 [(a 0, .inr (7, [.ref (a 1), .int x_length, .int x_rulesSeen, .int x_placesSeen])), (a 1, .inl (V.2 0, 200, .inl x_signs))] 5 [(0, .ref (a 0)), (1, .int p1), (2, .int p2), (3, .int v3_8), (4, .int v4_9)] [] := by
        intro n
        induction n with
        | zero => exact fun _ _ h => False.elim h
        | succ n ih =>
          intro v3_8 v4_9 h
          rw [lp_X7_isRow_5] at h
          refine ga_iload hR (pc := 5) 4 rfl dX7_isRow_5 ?_
          refine ga_iload_n hR (pc := 7) 2 rfl rfl dX7_isRow_7 ?_
          refine ga_icmp_ge hR (pc := 8) 46 (by decide) dX7_isRow_8 (fun c8 => ?_) (fun c8 => ?_)
          · replace h := h.1 c8
            exact ga_lv hR [1, 2, 3] rfl h
          · replace h := h.2 c8
            refine ga_aload_n hR (pc := 11) 0 rfl rfl dX7_isRow_11 ?_
            refine ga_iload hR (pc := 12) 4 rfl dX7_isRow_12 ?_
            refine ga_callV hR (pc := 14) (As := [.int v4_9]) (rest := []) (st0 := [.int v4_9, .ref (a 0)]) (b := (a 0)) 1 (c_X7_signAt V a x_rulesSeen x_placesSeen x_length x_signs v4_9 _ h) (ga_same_i fun _ => rfl) gX7_isRow_X7_signAt rfl rfl rfl hd_X7_signAt ⟨Nat.le_of_ble_eq_true rfl, Nat.le_of_ble_eq_true rfl⟩ rfl rfl (Nat.le_of_ble_eq_true rfl) ⟨Nat.zero_le _, Nat.zero_le _⟩ [0, 1] rfl rfl 0 rfl rfl dX7_isRow_14 ?_
            rintro _ _ ⟨r_10, ⟨⟩, rfl, rfl, h⟩
            refine ga_to [(a 0, .inr (7, [.ref (a 1), .int x_length, .int x_rulesSeen, .int x_placesSeen])), (a 1, .inl (V.2 0, 200, .inl x_signs))] [.int r_10] rfl rfl ?_
            try dsimp only at h
            refine ga_callS hR (pc := 17) (As := [.int r_10]) (rest := []) (st0 := [.int r_10]) 1 (c_X7_partsOf V r_10 _ h) (ga_same_i fun _ => rfl) gX7_isRow_X7_partsOf rfl rfl rfl hd_X7_partsOfS ⟨Nat.le_of_ble_eq_true rfl, Nat.le_of_ble_eq_true rfl⟩ rfl rfl (Nat.le_of_ble_eq_true rfl) ⟨Nat.zero_le _, Nat.zero_le _⟩ [] rfl rfl dX7_isRow_17 ?_
            rintro _ _ ⟨r_11, ⟨⟩, rfl, rfl, h⟩
            refine ga_to [(a 0, .inr (7, [.ref (a 1), .int x_length, .int x_rulesSeen, .int x_placesSeen])), (a 1, .inl (V.2 0, 200, .inl x_signs))] [.int r_11] rfl rfl ?_
            try dsimp only at h
            refine ga_istore hR (pc := 20) (lv' := [(5, .int r_11), (0, .ref (a 0)), (1, .int p1), (2, .int p2), (3, .int v3_8), (4, .int v4_9)]) (by decide) rfl dX7_isRow_20 ?_
            refine ga_iload hR (pc := 22) 0 rfl dX7_isRow_22 ?_
            refine ga_if_lt hR (pc := 24) 31 (by decide) dX7_isRow_24 (fun c24 => ?_) (fun c24 => ?_)
            · replace h := h.1 c24
              exact ga_lv hR [] rfl h
            · replace h := h.2 c24
              refine ga_iload_n hR (pc := 27) 4 rfl rfl dX7_isRow_27 ?_
              refine ga_if_ne hR (pc := 28) 33 (by decide) dX7_isRow_28 (fun c28 => ?_) (fun c28 => ?_)
              · replace h := h.1 c28
                refine ga_iload_n hR (pc := 33) 4 rfl rfl dX7_isRow_33 ?_
                refine ga_iload hR (pc := 34) 0 rfl dX7_isRow_34 ?_
                refine ga_iconst hR (pc := 36) (v := nI 1) (by decide) dX7_isRow_36 ?_
                refine ga_isub hR (pc := 37) dX7_isRow_37 ?_
                refine ga_iadd hR (pc := 38) dX7_isRow_38 ?_
                refine ga_topi (fun v3_12 ev3_12 => ?_)
                replace h := h v3_12 ev3_12
                refine ga_istore_n hR (pc := 39) (lv' := [(3, .int v3_12), (5, .int r_11), (0, .ref (a 0)), (1, .int p1), (2, .int p2), (4, .int v4_9)]) rfl (by decide) rfl dX7_isRow_39 ?_
                obtain ⟨v4_13, ev4_13⟩ : ∃ v : Int32, v = v4_9 + (nI 1) := ⟨_, rfl⟩
                replace h := h v4_13 ev4_13
                refine ga_iinc hR (pc := 40) (lv' := [(4, .int v4_13), (3, .int v3_12), (5, .int r_11), (0, .ref (a 0)), (1, .int p1), (2, .int p2)]) 5 (by decide) rfl ev4_13 (by decide) rfl dX7_isRow_40 ?_
                refine ga_goto hR (pc := 43) 5 (by decide) dX7_isRow_43 ?_
                exact ga_lv hR [3, 4, 5, 1, 0] rfl (ih _ _ h)
              · replace h := h.2 c28
                exact ga_lv hR [] rfl h
      exact ga_lv hR [2, 3, 4, 1, 0] rfl (L5 n _ _ h)

def rm_X7_placesIn : Room := { frames := 2, cells := 0, slots := 0, locals := 40 }
theorem hd_X7_placesInS : yX7_placesIn.cls ≠ "java/lang/invoke/MethodHandle" ∧ yX7_placesIn.cls ≠ "java/lang/invoke/VarHandle" ∧ (parseMethodDescriptor yX7_placesIn.desc).map (fun d => d.parameters.length) = some 2 := by decide +kernel
theorem hd_X7_placesIn : yX7_placesIn.cls = RX7 ∧ yX7_placesIn.cls ≠ "java/lang/invoke/MethodHandle" ∧ yX7_placesIn.cls ≠ "java/lang/invoke/VarHandle" ∧ (parseMethodDescriptor yX7_placesIn.desc).map (fun d => d.parameters.length) = some 2 := ⟨rfl, hd_X7_placesInS⟩
set_option maxHeartbeats 4000000 in
set_option maxRecDepth 100000 in
theorem c_X7_placesIn (V : ga_V) (a : Nat → Nat) (x_rulesSeen : Int32) (x_placesSeen : Int32) (x_length : Int32) (x_signs : Nat → Int32) (p1 : Int32) (p2 : Int32) (K : Int32 → Prop) (h : wp_X7_placesIn x_length x_signs p1 p2 K) : ga_C V yX7_placesIn wsX7_placesIn rm_X7_placesIn [.ref (a 0), .int p1, .int p2] [(a 0, .inr (7, [.ref (a 1), .int x_length, .int x_rulesSeen, .int x_placesSeen])), (a 1, .inl (V.2 0, 200, .inl x_signs))] 0 0 (ga_Fi (fun (u : Unit) => [(a 0, .inr (7, [.ref (a 1), .int x_length, .int x_rulesSeen, .int x_placesSeen])), (a 1, .inl (V.2 0, 200, .inl x_signs))]) (fun r u => K r)) := by
  refine ga_met (cc := cX7_placesIn) (maxL := 5) (rt := (some .int)) (by decide) rfl [(0, .ref (a 0)), (1, .int p1), (2, .int p2)] rfl (Nat.le_of_ble_eq_true rfl) ?_
  intro G hR hE
  unfold wp_X7_placesIn at h
  refine ga_iconst hR (pc := 0) (v := nI 0) (by decide) dX7_placesIn_0 ?_
  refine ga_istore_n hR (pc := 1) (lv' := [(3, .int (nI 0)), (0, .ref (a 0)), (1, .int p1), (2, .int p2)]) rfl (by decide) rfl dX7_placesIn_1 ?_
  refine ga_iload_n hR (pc := 2) 2 rfl rfl dX7_placesIn_2 ?_
  refine ga_istore hR (pc := 3) (lv' := [(4, .int p1), (3, .int (nI 0)), (0, .ref (a 0)), (1, .int p1), (2, .int p2)]) (by decide) rfl dX7_placesIn_3 ?_
  have hJ := h (fun (v3_1 : Int32) => G 0 0 [(a 0, .inr (7, [.ref (a 1), .int x_length, .int x_rulesSeen, .int x_placesSeen])), (a 1, .inl (V.2 0, 200, .inl x_signs))] 32 [(3, .int v3_1)] [])
  refine ga_bind hJ ?_ ?_
  · intro v3_1 h
    show G 0 0 [(a 0, .inr (7, [.ref (a 1), .int x_length, .int x_rulesSeen, .int x_placesSeen])), (a 1, .inl (V.2 0, 200, .inl x_signs))] 32 [(3, .int v3_1)] []
    refine ga_iload_n hR (pc := 32) 0 rfl rfl dX7_placesIn_32 ?_
    exact ga_iret hE dX7_placesIn_33 rfl (ga_ri () rfl h)
  · intro h
    obtain ⟨n, h⟩ := h
    have L5 : ∀ (n : Nat) (v3_8 : Int32) (v4_9 : Int32), lp_X7_placesIn_5 x_length x_signs p2 (fun (v3_1 : Int32) => G 0 0 [(a 0, .inr (7, [.ref (a 1), .int x_length, .int x_rulesSeen, .int x_placesSeen])), (a 1, .inl (V.2 0, 200, .inl x_signs))] 32 [(3, .int v3_1)] []) n v3_8 v4_9 → G 0 0 [(a 0, .inr (7, [.ref (a 1), .int x_length, .int x_rulesSeen, .int x_placesSeen])), (a 1, .inl (V.2 0, 200, .inl x_signs))] 5 [(0, .ref (a 0)), (2, .int p2), (3, .int v3_8), (4, .int v4_9)] [] := by
      intro n
      induction n with
      | zero => exact fun _ _ h => False.elim h
      | succ n ih =>
        intro v3_8 v4_9 h
        rw [lp_X7_placesIn_5] at h
        refine ga_iload hR (pc := 5) 3 rfl dX7_placesIn_5 ?_
        refine ga_iload_n hR (pc := 7) 1 rfl rfl dX7_placesIn_7 ?_
        refine ga_icmp_ge hR (pc := 8) 32 (by decide) dX7_placesIn_8 (fun c8 => ?_) (fun c8 => ?_)
        · replace h := h.1 c8
          exact ga_lv hR [2] rfl h
        · replace h := h.2 c8
          refine ga_aload_n hR (pc := 11) 0 rfl rfl dX7_placesIn_11 ?_
          refine ga_iload hR (pc := 12) 3 rfl dX7_placesIn_12 ?_
          refine ga_callV hR (pc := 14) (As := [.int v4_9]) (rest := []) (st0 := [.int v4_9, .ref (a 0)]) (b := (a 0)) 1 (c_X7_signAt V a x_rulesSeen x_placesSeen x_length x_signs v4_9 _ h) (ga_same_i fun _ => rfl) gX7_placesIn_X7_signAt rfl rfl rfl hd_X7_signAt ⟨Nat.le_of_ble_eq_true rfl, Nat.le_of_ble_eq_true rfl⟩ rfl rfl (Nat.le_of_ble_eq_true rfl) ⟨Nat.zero_le _, Nat.zero_le _⟩ [0, 1] rfl rfl 0 rfl rfl dX7_placesIn_14 ?_
          rintro _ _ ⟨r_10, ⟨⟩, rfl, rfl, h⟩
          refine ga_to [(a 0, .inr (7, [.ref (a 1), .int x_length, .int x_rulesSeen, .int x_placesSeen])), (a 1, .inl (V.2 0, 200, .inl x_signs))] [.int r_10] rfl rfl ?_
          try dsimp only at h
          refine ga_callS hR (pc := 17) (As := [.int r_10]) (rest := []) (st0 := [.int r_10]) 1 (c_X7_partsOf V r_10 _ h) (ga_same_i fun _ => rfl) gX7_placesIn_X7_partsOf rfl rfl rfl hd_X7_partsOfS ⟨Nat.le_of_ble_eq_true rfl, Nat.le_of_ble_eq_true rfl⟩ rfl rfl (Nat.le_of_ble_eq_true rfl) ⟨Nat.zero_le _, Nat.zero_le _⟩ [] rfl rfl dX7_placesIn_17 ?_
          rintro _ _ ⟨r_11, ⟨⟩, rfl, rfl, h⟩
          refine ga_to [(a 0, .inr (7, [.ref (a 1), .int x_length, .int x_rulesSeen, .int x_placesSeen])), (a 1, .inl (V.2 0, 200, .inl x_signs))] [.int r_11] rfl rfl ?_
          try dsimp only at h
          refine ga_if_ne hR (pc := 20) 26 (by decide) dX7_placesIn_20 (fun c20 => ?_) (fun c20 => ?_)
          · replace h := h.1 c20
            obtain ⟨v4_12, ev4_12⟩ : ∃ v : Int32, v = v4_9 + (nI 1) := ⟨_, rfl⟩
            replace h := h v4_12 ev4_12
            refine ga_iinc hR (pc := 26) (lv' := [(4, .int v4_12), (0, .ref (a 0)), (2, .int p2), (3, .int v3_8)]) 3 (by decide) rfl ev4_12 (by decide) rfl dX7_placesIn_26 ?_
            refine ga_goto hR (pc := 29) 5 (by decide) dX7_placesIn_29 ?_
            exact ga_lv hR [1, 2, 3, 0] rfl (ih _ _ h)
          · replace h := h.2 c20
            obtain ⟨v3_13, ev3_13⟩ : ∃ v : Int32, v = v3_8 + (nI 1) := ⟨_, rfl⟩
            replace h := h v3_13 ev3_13
            refine ga_iinc hR (pc := 23) (lv' := [(3, .int v3_13), (0, .ref (a 0)), (2, .int p2), (4, .int v4_9)]) 2 (by decide) rfl ev3_13 (by decide) rfl dX7_placesIn_23 ?_
            obtain ⟨v4_14, ev4_14⟩ : ∃ v : Int32, v = v4_9 + (nI 1) := ⟨_, rfl⟩
            replace h := h v4_14 ev4_14
            refine ga_iinc hR (pc := 26) (lv' := [(4, .int v4_14), (3, .int v3_13), (0, .ref (a 0)), (2, .int p2)]) 3 (by decide) rfl ev4_14 (by decide) rfl dX7_placesIn_26 ?_
            refine ga_goto hR (pc := 29) 5 (by decide) dX7_placesIn_29 ?_
            exact ga_lv hR [2, 3, 1, 0] rfl (ih _ _ h)
    exact ga_lv hR [2, 4, 1, 0] rfl (L5 n _ _ h)

def rm_X7_isNextRule : Room := { frames := 3, cells := 0, slots := 0, locals := 65 }
theorem hd_X7_isNextRuleS : yX7_isNextRule.cls ≠ "java/lang/invoke/MethodHandle" ∧ yX7_isNextRule.cls ≠ "java/lang/invoke/VarHandle" ∧ (parseMethodDescriptor yX7_isNextRule.desc).map (fun d => d.parameters.length) = some 2 := by decide +kernel
theorem hd_X7_isNextRule : yX7_isNextRule.cls = RX7 ∧ yX7_isNextRule.cls ≠ "java/lang/invoke/MethodHandle" ∧ yX7_isNextRule.cls ≠ "java/lang/invoke/VarHandle" ∧ (parseMethodDescriptor yX7_isNextRule.desc).map (fun d => d.parameters.length) = some 2 := ⟨rfl, hd_X7_isNextRuleS⟩
set_option maxHeartbeats 4000000 in
set_option maxRecDepth 100000 in
theorem c_X7_isNextRule (V : ga_V) (a : Nat → Nat) (x_length : Int32) (x_rulesSeen : Int32) (x_placesSeen : Int32) (x_signs : Nat → Int32) (p1 : Int32) (p2 : Int32) (K : Int32 → Int32 → Int32 → Prop) (h : wp_X7_isNextRule x_length x_rulesSeen x_placesSeen x_signs p1 p2 K) : ga_C V yX7_isNextRule wsX7_isNextRule rm_X7_isNextRule [.ref (a 0), .int p1, .int p2] [(a 0, .inr (7, [.ref (a 1), .int x_length, .int x_rulesSeen, .int x_placesSeen])), (a 1, .inl (V.2 0, 200, .inl x_signs))] 0 0 (ga_Fi (fun (u : Int32 × Int32) => [(a 0, .inr (7, [.ref (a 1), .int x_length, .int u.1, .int u.2])), (a 1, .inl (V.2 0, 200, .inl x_signs))]) (fun r u => K r u.1 u.2)) := by
  refine ga_met (cc := cX7_isNextRule) (maxL := 4) (rt := (some .boolean)) (by decide) rfl [(0, .ref (a 0)), (1, .int p1), (2, .int p2)] rfl (Nat.le_of_ble_eq_true rfl) ?_
  intro G hR hE
  have hinX7 : ∀ w ∈ u_ws RX7 TX7 4, w ∈ wsX7_isNextRule := by decide +kernel
  have f19 : Cond.fieldLink RX7 19 "BoundaryRules$Text" "rulesSeen" "I" ∈ wsX7_isNextRule := by decide +kernel
  have f22 : Cond.fieldLink RX7 22 "BoundaryRules$Text" "placesSeen" "I" ∈ wsX7_isNextRule := by decide +kernel
  unfold wp_X7_isNextRule at h
  refine ga_aload_n hR (pc := 0) 0 rfl rfl dX7_isNextRule_0 ?_
  refine ga_iload_n hR (pc := 1) 1 rfl rfl dX7_isNextRule_1 ?_
  refine ga_iload_n hR (pc := 2) 2 rfl rfl dX7_isNextRule_2 ?_
  refine ga_callV hR (pc := 3) (As := [.int p1, .int p2]) (rest := []) (st0 := [.int p2, .int p1, .ref (a 0)]) (b := (a 0)) 2 (c_X7_isRow V a x_rulesSeen x_placesSeen x_length x_signs p1 p2 _ h) (ga_same_i fun _ => rfl) gX7_isNextRule_X7_isRow rfl rfl rfl hd_X7_isRow ⟨Nat.le_of_ble_eq_true rfl, Nat.le_of_ble_eq_true rfl⟩ rfl rfl (Nat.le_of_ble_eq_true rfl) ⟨Nat.zero_le _, Nat.zero_le _⟩ [0, 1] rfl rfl 0 rfl rfl dX7_isNextRule_3 ?_
  rintro _ _ ⟨r_1, ⟨⟩, rfl, rfl, h⟩
  refine ga_to [(a 0, .inr (7, [.ref (a 1), .int x_length, .int x_rulesSeen, .int x_placesSeen])), (a 1, .inl (V.2 0, 200, .inl x_signs))] [.int r_1] rfl rfl ?_
  try dsimp only at h
  refine ga_if_eq hR (pc := 6) 17 (by decide) dX7_isNextRule_6 (fun c6 => ?_) (fun c6 => ?_)
  · replace h := h.1 c6
    refine ga_iconst hR (pc := 17) (v := nI 0) (by decide) dX7_isNextRule_17 ?_
    exact ga_iret hE dX7_isNextRule_18 (by decide) (ga_ri (x_rulesSeen, x_placesSeen) rfl h)
  · replace h := h.2 c6
    refine ga_aload_n hR (pc := 9) 0 rfl rfl dX7_isNextRule_9 ?_
    refine ga_get hR (pc := 10) 0 rfl rfl hinX7 2 (by decide) f19 rfl dX7_isNextRule_10 ?_
    refine ga_iconst hR (pc := 13) (v := nI 4) (by decide) dX7_isNextRule_13 ?_
    refine ga_icmp_lt hR (pc := 14) 19 (by decide) dX7_isNextRule_14 (fun c14 => ?_) (fun c14 => ?_)
    · replace h := h.1 c14
      refine ga_aload_n hR (pc := 19) 0 rfl rfl dX7_isNextRule_19 ?_
      refine ga_iload_n hR (pc := 20) 1 rfl rfl dX7_isNextRule_20 ?_
      refine ga_iload_n hR (pc := 21) 2 rfl rfl dX7_isNextRule_21 ?_
      refine ga_callV hR (pc := 22) (As := [.int p1, .int p2]) (rest := []) (st0 := [.int p2, .int p1, .ref (a 0)]) (b := (a 0)) 2 (c_X7_placesIn V a x_rulesSeen x_placesSeen x_length x_signs p1 p2 _ h) (ga_same_i fun _ => rfl) gX7_isNextRule_X7_placesIn rfl rfl rfl hd_X7_placesIn ⟨Nat.le_of_ble_eq_true rfl, Nat.le_of_ble_eq_true rfl⟩ rfl rfl (Nat.le_of_ble_eq_true rfl) ⟨Nat.zero_le _, Nat.zero_le _⟩ [0, 1] rfl rfl 0 rfl rfl dX7_isNextRule_22 ?_
      rintro _ _ ⟨r_2, ⟨⟩, rfl, rfl, h⟩
      refine ga_to [(a 0, .inr (7, [.ref (a 1), .int x_length, .int x_rulesSeen, .int x_placesSeen])), (a 1, .inl (V.2 0, 200, .inl x_signs))] [.int r_2] rfl rfl ?_
      try dsimp only at h
      refine ga_istore_n hR (pc := 25) (lv' := [(3, .int r_2), (0, .ref (a 0)), (1, .int p1), (2, .int p2)]) rfl (by decide) rfl dX7_isNextRule_25 ?_
      refine ga_aload_n hR (pc := 26) 1 rfl rfl dX7_isNextRule_26 ?_
      refine ga_get hR (pc := 27) 0 rfl rfl hinX7 3 (by decide) f22 rfl dX7_isNextRule_27 ?_
      refine ga_iload_n hR (pc := 30) 0 rfl rfl dX7_isNextRule_30 ?_
      refine ga_iadd hR (pc := 31) dX7_isNextRule_31 ?_
      refine ga_bipush hR (pc := 32) (v := nI 10) (by decide) dX7_isNextRule_32 ?_
      refine ga_icmp_le hR (pc := 34) 39 (by decide) dX7_isNextRule_34 (fun c34 => ?_) (fun c34 => ?_)
      · replace h := h.1 c34
        refine ga_aload_n hR (pc := 39) 1 rfl rfl dX7_isNextRule_39 ?_
        refine ga_dup hR (pc := 40) rfl dX7_isNextRule_40 ?_
        refine ga_get hR (pc := 41) 0 rfl rfl hinX7 2 (by decide) f19 rfl dX7_isNextRule_41 ?_
        refine ga_iconst hR (pc := 44) (v := nI 1) (by decide) dX7_isNextRule_44 ?_
        refine ga_iadd hR (pc := 45) dX7_isNextRule_45 ?_
        refine ga_topi (fun x_rulesSeen_3 ex_rulesSeen_3 => ?_)
        replace h := h x_rulesSeen_3 ex_rulesSeen_3
        refine ga_putf hR (pc := 46) (ws' := [(a 0, .inr (7, [.ref (a 1), .int x_length, .int x_rulesSeen_3, .int x_placesSeen])), (a 1, .inl (V.2 0, 200, .inl x_signs))]) 0 rfl rfl hinX7 2 (by decide) f19 tyX7_ok nmX7 rfl rfl rfl (Nat.le_of_ble_eq_true rfl) rfl dX7_isNextRule_46 ?_
        refine ga_aload_n hR (pc := 49) 1 rfl rfl dX7_isNextRule_49 ?_
        refine ga_dup hR (pc := 50) rfl dX7_isNextRule_50 ?_
        refine ga_get hR (pc := 51) 0 rfl rfl hinX7 3 (by decide) f22 rfl dX7_isNextRule_51 ?_
        refine ga_iload_n hR (pc := 54) 0 rfl rfl dX7_isNextRule_54 ?_
        refine ga_iadd hR (pc := 55) dX7_isNextRule_55 ?_
        refine ga_topi (fun x_placesSeen_4 ex_placesSeen_4 => ?_)
        replace h := h x_placesSeen_4 ex_placesSeen_4
        refine ga_putf hR (pc := 56) (ws' := [(a 0, .inr (7, [.ref (a 1), .int x_length, .int x_rulesSeen_3, .int x_placesSeen_4])), (a 1, .inl (V.2 0, 200, .inl x_signs))]) 0 rfl rfl hinX7 3 (by decide) f22 tyX7_ok nmX7 rfl rfl rfl (Nat.le_of_ble_eq_true rfl) rfl dX7_isNextRule_56 ?_
        refine ga_iconst hR (pc := 59) (v := nI 1) (by decide) dX7_isNextRule_59 ?_
        exact ga_iret hE dX7_isNextRule_60 (by decide) (ga_ri (x_rulesSeen_3, x_placesSeen_4) rfl h)
      · replace h := h.2 c34
        refine ga_iconst hR (pc := 37) (v := nI 0) (by decide) dX7_isNextRule_37 ?_
        exact ga_iret hE dX7_isNextRule_38 (by decide) (ga_ri (x_rulesSeen, x_placesSeen) rfl h)
    · replace h := h.2 c14
      refine ga_iconst hR (pc := 17) (v := nI 0) (by decide) dX7_isNextRule_17 ?_
      exact ga_iret hE dX7_isNextRule_18 (by decide) (ga_ri (x_rulesSeen, x_placesSeen) rfl h)

def rm_X7_isItem : Room := { frames := 4, cells := 0, slots := 0, locals := 88 }
theorem hd_X7_isItemS : yX7_isItem.cls ≠ "java/lang/invoke/MethodHandle" ∧ yX7_isItem.cls ≠ "java/lang/invoke/VarHandle" ∧ (parseMethodDescriptor yX7_isItem.desc).map (fun d => d.parameters.length) = some 2 := by decide +kernel
theorem hd_X7_isItem : yX7_isItem.cls = RX7 ∧ yX7_isItem.cls ≠ "java/lang/invoke/MethodHandle" ∧ yX7_isItem.cls ≠ "java/lang/invoke/VarHandle" ∧ (parseMethodDescriptor yX7_isItem.desc).map (fun d => d.parameters.length) = some 2 := ⟨rfl, hd_X7_isItemS⟩
set_option maxHeartbeats 4000000 in
set_option maxRecDepth 100000 in
theorem c_X7_isItem (V : ga_V) (a : Nat → Nat) (x_length : Int32) (x_rulesSeen : Int32) (x_placesSeen : Int32) (x_signs : Nat → Int32) (p1 : Int32) (p2 : Int32) (K : Int32 → Int32 → Int32 → Prop) (h : wp_X7_isItem x_length x_rulesSeen x_placesSeen x_signs p1 p2 K) : ga_C V yX7_isItem wsX7_isItem rm_X7_isItem [.ref (a 0), .int p1, .int p2] [(a 0, .inr (7, [.ref (a 1), .int x_length, .int x_rulesSeen, .int x_placesSeen])), (a 1, .inl (V.2 0, 200, .inl x_signs))] 0 0 (ga_Fi (fun (u : Int32 × Int32) => [(a 0, .inr (7, [.ref (a 1), .int x_length, .int u.1, .int u.2])), (a 1, .inl (V.2 0, 200, .inl x_signs))]) (fun r u => K r u.1 u.2)) := by
  refine ga_met (cc := cX7_isItem) (maxL := 3) (rt := (some .boolean)) (by decide) rfl [(0, .ref (a 0)), (1, .int p1), (2, .int p2)] rfl (Nat.le_of_ble_eq_true rfl) ?_
  intro G hR hE
  unfold wp_X7_isItem at h
  refine ga_aload_n hR (pc := 0) 0 rfl rfl dX7_isItem_0 ?_
  refine ga_iload_n hR (pc := 1) 1 rfl rfl dX7_isItem_1 ?_
  refine ga_callV hR (pc := 2) (As := [.int p1]) (rest := []) (st0 := [.int p1, .ref (a 0)]) (b := (a 0)) 1 (c_X7_signAt V a x_rulesSeen x_placesSeen x_length x_signs p1 _ h) (ga_same_i fun _ => rfl) gX7_isItem_X7_signAt rfl rfl rfl hd_X7_signAt ⟨Nat.le_of_ble_eq_true rfl, Nat.le_of_ble_eq_true rfl⟩ rfl rfl (Nat.le_of_ble_eq_true rfl) ⟨Nat.zero_le _, Nat.zero_le _⟩ [0, 1] rfl rfl 0 rfl rfl dX7_isItem_2 ?_
  rintro _ _ ⟨r_1, ⟨⟩, rfl, rfl, h⟩
  refine ga_to [(a 0, .inr (7, [.ref (a 1), .int x_length, .int x_rulesSeen, .int x_placesSeen])), (a 1, .inl (V.2 0, 200, .inl x_signs))] [.int r_1] rfl rfl ?_
  try dsimp only at h
  rcases ga_em (r_1 = (nI 99)) with q5_0 | q5_0
  · replace h := h.1 q5_0
    refine ga_look hR (pc := 5) 40 (by decide) (off := 35) (by rw [q5_0]; rfl) (by decide) dX7_isItem_5 ?_
    refine ga_aload_n hR (pc := 40) 0 rfl rfl dX7_isItem_40 ?_
    refine ga_iload_n hR (pc := 41) 1 rfl rfl dX7_isItem_41 ?_
    refine ga_iload_n hR (pc := 42) 2 rfl rfl dX7_isItem_42 ?_
    refine ga_bipush hR (pc := 43) (v := nI 6) (by decide) dX7_isItem_43 ?_
    refine ga_callV hR (pc := 45) (As := [.int p1, .int p2, .int (nI 6)]) (rest := []) (st0 := [.int (nI 6), .int p2, .int p1, .ref (a 0)]) (b := (a 0)) 3 (c_X7_hasFigure V a x_rulesSeen x_placesSeen x_length x_signs p1 p2 (nI 6) _ h) (ga_same_i fun _ => rfl) gX7_isItem_X7_hasFigure rfl rfl rfl hd_X7_hasFigure ⟨Nat.le_of_ble_eq_true rfl, Nat.le_of_ble_eq_true rfl⟩ rfl rfl (Nat.le_of_ble_eq_true rfl) ⟨Nat.zero_le _, Nat.zero_le _⟩ [0, 1] rfl rfl 0 rfl rfl dX7_isItem_45 ?_
    rintro _ _ ⟨r_2, ⟨⟩, rfl, rfl, h⟩
    refine ga_to [(a 0, .inr (7, [.ref (a 1), .int x_length, .int x_rulesSeen, .int x_placesSeen])), (a 1, .inl (V.2 0, 200, .inl x_signs))] [.int r_2] rfl rfl ?_
    try dsimp only at h
    refine ga_if_eq hR (pc := 48) 69 (by decide) dX7_isItem_48 (fun c48 => ?_) (fun c48 => ?_)
    · replace h := h.1 c48
      refine ga_iconst hR (pc := 69) (v := nI 0) (by decide) dX7_isItem_69 ?_
      exact ga_iret hE dX7_isItem_70 (by decide) (ga_ri (x_rulesSeen, x_placesSeen) rfl h)
    · replace h := h.2 c48
      refine ga_aload_n hR (pc := 51) 0 rfl rfl dX7_isItem_51 ?_
      refine ga_iload_n hR (pc := 52) 1 rfl rfl dX7_isItem_52 ?_
      refine ga_iconst hR (pc := 53) (v := nI 3) (by decide) dX7_isItem_53 ?_
      refine ga_iadd hR (pc := 54) dX7_isItem_54 ?_
      refine ga_iload_n hR (pc := 55) 2 rfl rfl dX7_isItem_55 ?_
      refine ga_iconst hR (pc := 56) (v := nI 1) (by decide) dX7_isItem_56 ?_
      refine ga_bipush hR (pc := 57) (v := nI 26) (by decide) dX7_isItem_57 ?_
      refine ga_callV hR (pc := 59) (As := [.int (p1 + (nI 3)), .int p2, .int (nI 1), .int (nI 26)]) (rest := []) (st0 := [.int (nI 26), .int (nI 1), .int p2, .int (p1 + (nI 3)), .ref (a 0)]) (b := (a 0)) 4 (c_X7_areLetters V a x_rulesSeen x_placesSeen x_length x_signs (p1 + (nI 3)) p2 (nI 1) (nI 26) _ h) (ga_same_i fun _ => rfl) gX7_isItem_X7_areLetters rfl rfl rfl hd_X7_areLetters ⟨Nat.le_of_ble_eq_true rfl, Nat.le_of_ble_eq_true rfl⟩ rfl rfl (Nat.le_of_ble_eq_true rfl) ⟨Nat.zero_le _, Nat.zero_le _⟩ [0, 1] rfl rfl 0 rfl rfl dX7_isItem_59 ?_
      rintro _ _ ⟨r_3, ⟨⟩, rfl, rfl, h⟩
      refine ga_to [(a 0, .inr (7, [.ref (a 1), .int x_length, .int x_rulesSeen, .int x_placesSeen])), (a 1, .inl (V.2 0, 200, .inl x_signs))] [.int r_3] rfl rfl ?_
      try dsimp only at h
      refine ga_if_eq hR (pc := 62) 69 (by decide) dX7_isItem_62 (fun c62 => ?_) (fun c62 => ?_)
      · replace h := h.1 c62
        refine ga_iconst hR (pc := 69) (v := nI 0) (by decide) dX7_isItem_69 ?_
        exact ga_iret hE dX7_isItem_70 (by decide) (ga_ri (x_rulesSeen, x_placesSeen) rfl h)
      · replace h := h.2 c62
        refine ga_iconst hR (pc := 65) (v := nI 1) (by decide) dX7_isItem_65 ?_
        refine ga_goto hR (pc := 66) 70 (by decide) dX7_isItem_66 ?_
        exact ga_iret hE dX7_isItem_70 (by decide) (ga_ri (x_rulesSeen, x_placesSeen) rfl h)
  · replace h := h.2 q5_0
    rcases ga_em (r_1 = (nI 114)) with q5_1 | q5_1
    · replace h := h.1 q5_1
      refine ga_look hR (pc := 5) 71 (by decide) (off := 66) (by rw [q5_1]; rfl) (by decide) dX7_isItem_5 ?_
      refine ga_aload_n hR (pc := 71) 0 rfl rfl dX7_isItem_71 ?_
      refine ga_iload_n hR (pc := 72) 1 rfl rfl dX7_isItem_72 ?_
      refine ga_iload_n hR (pc := 73) 2 rfl rfl dX7_isItem_73 ?_
      refine ga_iconst hR (pc := 74) (v := nI 4) (by decide) dX7_isItem_74 ?_
      refine ga_callV hR (pc := 75) (As := [.int p1, .int p2, .int (nI 4)]) (rest := []) (st0 := [.int (nI 4), .int p2, .int p1, .ref (a 0)]) (b := (a 0)) 3 (c_X7_hasFigure V a x_rulesSeen x_placesSeen x_length x_signs p1 p2 (nI 4) _ h) (ga_same_i fun _ => rfl) gX7_isItem_X7_hasFigure rfl rfl rfl hd_X7_hasFigure ⟨Nat.le_of_ble_eq_true rfl, Nat.le_of_ble_eq_true rfl⟩ rfl rfl (Nat.le_of_ble_eq_true rfl) ⟨Nat.zero_le _, Nat.zero_le _⟩ [0, 1] rfl rfl 0 rfl rfl dX7_isItem_75 ?_
      rintro _ _ ⟨r_4, ⟨⟩, rfl, rfl, h⟩
      refine ga_to [(a 0, .inr (7, [.ref (a 1), .int x_length, .int x_rulesSeen, .int x_placesSeen])), (a 1, .inl (V.2 0, 200, .inl x_signs))] [.int r_4] rfl rfl ?_
      try dsimp only at h
      refine ga_if_eq hR (pc := 78) 96 (by decide) dX7_isItem_78 (fun c78 => ?_) (fun c78 => ?_)
      · replace h := h.1 c78
        refine ga_iconst hR (pc := 96) (v := nI 0) (by decide) dX7_isItem_96 ?_
        exact ga_iret hE dX7_isItem_97 (by decide) (ga_ri (x_rulesSeen, x_placesSeen) rfl h)
      · replace h := h.2 c78
        refine ga_aload_n hR (pc := 81) 0 rfl rfl dX7_isItem_81 ?_
        refine ga_iload_n hR (pc := 82) 1 rfl rfl dX7_isItem_82 ?_
        refine ga_iconst hR (pc := 83) (v := nI 3) (by decide) dX7_isItem_83 ?_
        refine ga_iadd hR (pc := 84) dX7_isItem_84 ?_
        refine ga_iload_n hR (pc := 85) 2 rfl rfl dX7_isItem_85 ?_
        refine ga_callV hR (pc := 86) (As := [.int (p1 + (nI 3)), .int p2]) (rest := []) (st0 := [.int p2, .int (p1 + (nI 3)), .ref (a 0)]) (b := (a 0)) 2 (c_X7_isNextRule V a x_length x_rulesSeen x_placesSeen x_signs (p1 + (nI 3)) p2 _ h) (ga_same_i fun _ => rfl) gX7_isItem_X7_isNextRule rfl rfl rfl hd_X7_isNextRule ⟨Nat.le_of_ble_eq_true rfl, Nat.le_of_ble_eq_true rfl⟩ rfl rfl (Nat.le_of_ble_eq_true rfl) ⟨Nat.zero_le _, Nat.zero_le _⟩ [0, 1] rfl rfl 0 rfl rfl dX7_isItem_86 ?_
        rintro _ _ ⟨r_7, ⟨x_rulesSeen_5, x_placesSeen_6⟩, rfl, rfl, h⟩
        refine ga_to [(a 0, .inr (7, [.ref (a 1), .int x_length, .int x_rulesSeen_5, .int x_placesSeen_6])), (a 1, .inl (V.2 0, 200, .inl x_signs))] [.int r_7] rfl rfl ?_
        try dsimp only at h
        refine ga_if_eq hR (pc := 89) 96 (by decide) dX7_isItem_89 (fun c89 => ?_) (fun c89 => ?_)
        · replace h := h.1 c89
          refine ga_iconst hR (pc := 96) (v := nI 0) (by decide) dX7_isItem_96 ?_
          exact ga_iret hE dX7_isItem_97 (by decide) (ga_ri (x_rulesSeen_5, x_placesSeen_6) rfl h)
        · replace h := h.2 c89
          refine ga_iconst hR (pc := 92) (v := nI 1) (by decide) dX7_isItem_92 ?_
          refine ga_goto hR (pc := 93) 97 (by decide) dX7_isItem_93 ?_
          exact ga_iret hE dX7_isItem_97 (by decide) (ga_ri (x_rulesSeen_5, x_placesSeen_6) rfl h)
    · replace h := h.2 q5_1
      rcases ga_em (r_1 = (nI 115)) with q5_2 | q5_2
      · replace h := h.1 q5_2
        refine ga_look hR (pc := 5) 98 (by decide) (off := 93) (by rw [q5_2]; rfl) (by decide) dX7_isItem_5 ?_
        refine ga_aload_n hR (pc := 98) 0 rfl rfl dX7_isItem_98 ?_
        refine ga_iload_n hR (pc := 99) 1 rfl rfl dX7_isItem_99 ?_
        refine ga_iconst hR (pc := 100) (v := nI 1) (by decide) dX7_isItem_100 ?_
        refine ga_iadd hR (pc := 101) dX7_isItem_101 ?_
        refine ga_iload_n hR (pc := 102) 2 rfl rfl dX7_isItem_102 ?_
        refine ga_iconst hR (pc := 103) (v := nI 0) (by decide) dX7_isItem_103 ?_
        refine ga_bipush hR (pc := 104) (v := nI 30) (by decide) dX7_isItem_104 ?_
        refine ga_callV hR (pc := 106) (As := [.int (p1 + (nI 1)), .int p2, .int (nI 0), .int (nI 30)]) (rest := []) (st0 := [.int (nI 30), .int (nI 0), .int p2, .int (p1 + (nI 1)), .ref (a 0)]) (b := (a 0)) 4 (c_X7_areLetters V a x_rulesSeen x_placesSeen x_length x_signs (p1 + (nI 1)) p2 (nI 0) (nI 30) _ h) (ga_same_i fun _ => rfl) gX7_isItem_X7_areLetters rfl rfl rfl hd_X7_areLetters ⟨Nat.le_of_ble_eq_true rfl, Nat.le_of_ble_eq_true rfl⟩ rfl rfl (Nat.le_of_ble_eq_true rfl) ⟨Nat.zero_le _, Nat.zero_le _⟩ [0, 1] rfl rfl 0 rfl rfl dX7_isItem_106 ?_
        rintro _ _ ⟨r_8, ⟨⟩, rfl, rfl, h⟩
        refine ga_to [(a 0, .inr (7, [.ref (a 1), .int x_length, .int x_rulesSeen, .int x_placesSeen])), (a 1, .inl (V.2 0, 200, .inl x_signs))] [.int r_8] rfl rfl ?_
        try dsimp only at h
        exact ga_iret hE dX7_isItem_109 h.1 (ga_ri (x_rulesSeen, x_placesSeen) rfl h.2)
      · replace h := h.2 q5_2
        refine ga_look hR (pc := 5) 110 (by decide) (off := 105) (by simp only [List.toList_toArray]; rw [lv_osw q5_0 (by decide : Int32.toInt (nI 99) = 99), lv_osw q5_1 (by decide : Int32.toInt (nI 114) = 114), lv_osw q5_2 (by decide : Int32.toInt (nI 115) = 115)]; rfl) (by decide) dX7_isItem_5 ?_
        refine ga_iconst hR (pc := 110) (v := nI 0) (by decide) dX7_isItem_110 ?_
        exact ga_iret hE dX7_isItem_111 (by decide) (ga_ri (x_rulesSeen, x_placesSeen) rfl h)

def rm_X7_firstFault : Room := { frames := 5, cells := 0, slots := 0, locals := 110 }
theorem hd_X7_firstFaultS : yX7_firstFault.cls ≠ "java/lang/invoke/MethodHandle" ∧ yX7_firstFault.cls ≠ "java/lang/invoke/VarHandle" ∧ (parseMethodDescriptor yX7_firstFault.desc).map (fun d => d.parameters.length) = some 0 := by decide +kernel
theorem hd_X7_firstFault : yX7_firstFault.cls = RX7 ∧ yX7_firstFault.cls ≠ "java/lang/invoke/MethodHandle" ∧ yX7_firstFault.cls ≠ "java/lang/invoke/VarHandle" ∧ (parseMethodDescriptor yX7_firstFault.desc).map (fun d => d.parameters.length) = some 0 := ⟨rfl, hd_X7_firstFaultS⟩
set_option maxHeartbeats 4000000 in
set_option maxRecDepth 100000 in
theorem c_X7_firstFault (V : ga_V) (a : Nat → Nat) (x_length : Int32) (x_rulesSeen : Int32) (x_placesSeen : Int32) (x_signs : Nat → Int32) (K : Int32 → Int32 → Int32 → Prop) (h : wp_X7_firstFault x_length x_rulesSeen x_placesSeen x_signs K) : ga_C V yX7_firstFault wsX7_firstFault rm_X7_firstFault [.ref (a 0)] [(a 0, .inr (7, [.ref (a 1), .int x_length, .int x_rulesSeen, .int x_placesSeen])), (a 1, .inl (V.2 0, 200, .inl x_signs))] 0 0 (ga_Fi (fun (u : Int32 × Int32) => [(a 0, .inr (7, [.ref (a 1), .int x_length, .int u.1, .int u.2])), (a 1, .inl (V.2 0, 200, .inl x_signs))]) (fun r u => K r u.1 u.2)) := by
  refine ga_met (cc := cX7_firstFault) (maxL := 4) (rt := (some .int)) (by decide) rfl [(0, .ref (a 0))] rfl (Nat.le_of_ble_eq_true rfl) ?_
  intro G hR hE
  have hinX7 : ∀ w ∈ u_ws RX7 TX7 4, w ∈ wsX7_firstFault := by decide +kernel
  have f19 : Cond.fieldLink RX7 19 "BoundaryRules$Text" "rulesSeen" "I" ∈ wsX7_firstFault := by decide +kernel
  have f22 : Cond.fieldLink RX7 22 "BoundaryRules$Text" "placesSeen" "I" ∈ wsX7_firstFault := by decide +kernel
  have f15 : Cond.fieldLink RX7 15 "BoundaryRules$Text" "length" "I" ∈ wsX7_firstFault := by decide +kernel
  unfold wp_X7_firstFault at h
  refine ga_aload_n hR (pc := 0) 0 rfl rfl dX7_firstFault_0 ?_
  refine ga_iconst hR (pc := 1) (v := nI 0) (by decide) dX7_firstFault_1 ?_
  refine ga_putf hR (pc := 2) (ws' := [(a 0, .inr (7, [.ref (a 1), .int x_length, .int (nI 0), .int x_placesSeen])), (a 1, .inl (V.2 0, 200, .inl x_signs))]) 0 rfl rfl hinX7 2 (by decide) f19 tyX7_ok nmX7 rfl rfl rfl (Nat.le_of_ble_eq_true rfl) rfl dX7_firstFault_2 ?_
  refine ga_aload_n hR (pc := 5) 0 rfl rfl dX7_firstFault_5 ?_
  refine ga_iconst hR (pc := 6) (v := nI 0) (by decide) dX7_firstFault_6 ?_
  refine ga_putf hR (pc := 7) (ws' := [(a 0, .inr (7, [.ref (a 1), .int x_length, .int (nI 0), .int (nI 0)])), (a 1, .inl (V.2 0, 200, .inl x_signs))]) 0 rfl rfl hinX7 3 (by decide) f22 tyX7_ok nmX7 rfl rfl rfl (Nat.le_of_ble_eq_true rfl) rfl dX7_firstFault_7 ?_
  refine ga_iconst hR (pc := 10) (v := nI 0) (by decide) dX7_firstFault_10 ?_
  refine ga_istore_n hR (pc := 11) (lv' := [(1, .int (nI 0)), (0, .ref (a 0))]) rfl (by decide) rfl dX7_firstFault_11 ?_
  refine ga_iconst hR (pc := 12) (v := nI 0) (by decide) dX7_firstFault_12 ?_
  refine ga_istore_n hR (pc := 13) (lv' := [(2, .int (nI 0)), (1, .int (nI 0)), (0, .ref (a 0))]) rfl (by decide) rfl dX7_firstFault_13 ?_
  have hJ := h (fun (v1_1 : Int32) (x_rulesSeen_2 : Int32) (x_placesSeen_3 : Int32) => G 0 0 [(a 0, .inr (7, [.ref (a 1), .int x_length, .int x_rulesSeen_2, .int x_placesSeen_3])), (a 1, .inl (V.2 0, 200, .inl x_signs))] 48 [(1, .int v1_1)] [])
  refine ga_bind hJ ?_ ?_
  · intro v1_1 x_rulesSeen_2 x_placesSeen_3 h
    show G 0 0 [(a 0, .inr (7, [.ref (a 1), .int x_length, .int x_rulesSeen_2, .int x_placesSeen_3])), (a 1, .inl (V.2 0, 200, .inl x_signs))] 48 [(1, .int v1_1)] []
    refine ga_iload_n hR (pc := 48) 0 rfl rfl dX7_firstFault_48 ?_
    exact ga_iret hE dX7_firstFault_49 rfl (ga_ri (x_rulesSeen_2, x_placesSeen_3) rfl h)
  · intro h
    have hJ := h (fun (x_rulesSeen_5 : Int32) (x_placesSeen_6 : Int32) => G 0 0 [(a 0, .inr (7, [.ref (a 1), .int x_length, .int x_rulesSeen_5, .int x_placesSeen_6])), (a 1, .inl (V.2 0, 200, .inl x_signs))] 60 [] [])
    refine ga_bind hJ ?_ ?_
    · intro x_rulesSeen_5 x_placesSeen_6 h
      show G 0 0 [(a 0, .inr (7, [.ref (a 1), .int x_length, .int x_rulesSeen_5, .int x_placesSeen_6])), (a 1, .inl (V.2 0, 200, .inl x_signs))] 60 [] []
      refine ga_bipush hR (pc := 60) (v := -4) (by decide) dX7_firstFault_60 ?_
      exact ga_iret hE dX7_firstFault_62 rfl (ga_ri (x_rulesSeen_5, x_placesSeen_6) rfl h)
    · intro h
      obtain ⟨n, h⟩ := h
      have L14 : ∀ (n : Nat) (v1_14 : Int32) (v2_15 : Int32) (x_rulesSeen_16 : Int32) (x_placesSeen_17 : Int32), lp_X7_firstFault_14 x_length x_signs (fun (v1_1 : Int32) (x_rulesSeen_2 : Int32) (x_placesSeen_3 : Int32) => G 0 0 [(a 0, .inr (7, [.ref (a 1), .int x_length, .int x_rulesSeen_2, .int x_placesSeen_3])), (a 1, .inl (V.2 0, 200, .inl x_signs))] 48 [(1, .int v1_1)] []) (fun (x_rulesSeen_5 : Int32) (x_placesSeen_6 : Int32) => G 0 0 [(a 0, .inr (7, [.ref (a 1), .int x_length, .int x_rulesSeen_5, .int x_placesSeen_6])), (a 1, .inl (V.2 0, 200, .inl x_signs))] 60 [] []) n v1_14 v2_15 x_rulesSeen_16 x_placesSeen_17 → G 0 0 [(a 0, .inr (7, [.ref (a 1), .int x_length, .int x_rulesSeen_16, .int x_placesSeen_17])), (a 1, .inl (V.2 0, 200, .inl x_signs))] 14 [(0, .ref (a 0)), (1, .int v1_14), (2, .int v2_15)] [] := by
        intro n
        induction n with
        | zero => exact fun _ _ _ _ h => False.elim h
        | succ n ih =>
          intro v1_14 v2_15 x_rulesSeen_16 x_placesSeen_17 h
          rw [lp_X7_firstFault_14] at h
          refine ga_iload_n hR (pc := 14) 2 rfl rfl dX7_firstFault_14 ?_
          refine ga_sipush hR (pc := 15) (v := nI 200) (by decide) dX7_firstFault_15 ?_
          refine ga_icmp_ge hR (pc := 18) 60 (by decide) dX7_firstFault_18 (fun c18 => ?_) (fun c18 => ?_)
          · replace h := h.1 c18
            exact ga_lv hR [] rfl h
          · replace h := h.2 c18
            refine ga_iload_n hR (pc := 21) 1 rfl rfl dX7_firstFault_21 ?_
            refine ga_aload_n hR (pc := 22) 0 rfl rfl dX7_firstFault_22 ?_
            refine ga_get hR (pc := 23) 0 rfl rfl hinX7 1 (by decide) f15 rfl dX7_firstFault_23 ?_
            refine ga_icmp_ge hR (pc := 26) 60 (by decide) dX7_firstFault_26 (fun c26 => ?_) (fun c26 => ?_)
            · replace h := h.1 c26
              exact ga_lv hR [] rfl h
            · replace h := h.2 c26
              refine ga_aload_n hR (pc := 29) 0 rfl rfl dX7_firstFault_29 ?_
              refine ga_iload_n hR (pc := 30) 1 rfl rfl dX7_firstFault_30 ?_
              refine ga_callV hR (pc := 31) (As := [.int v1_14]) (rest := []) (st0 := [.int v1_14, .ref (a 0)]) (b := (a 0)) 1 (c_X7_endOfItem V a x_rulesSeen_16 x_placesSeen_17 x_length x_signs v1_14 _ h) (ga_same_i fun _ => rfl) gX7_firstFault_X7_endOfItem rfl rfl rfl hd_X7_endOfItem ⟨Nat.le_of_ble_eq_true rfl, Nat.le_of_ble_eq_true rfl⟩ rfl rfl (Nat.le_of_ble_eq_true rfl) ⟨Nat.zero_le _, Nat.zero_le _⟩ [0, 1] rfl rfl 0 rfl rfl dX7_firstFault_31 ?_
              rintro _ _ ⟨r_18, ⟨⟩, rfl, rfl, h⟩
              refine ga_to [(a 0, .inr (7, [.ref (a 1), .int x_length, .int x_rulesSeen_16, .int x_placesSeen_17])), (a 1, .inl (V.2 0, 200, .inl x_signs))] [.int r_18] rfl rfl ?_
              try dsimp only at h
              refine ga_istore_n hR (pc := 34) (lv' := [(3, .int r_18), (0, .ref (a 0)), (1, .int v1_14), (2, .int v2_15)]) rfl (by decide) rfl dX7_firstFault_34 ?_
              refine ga_iload_n hR (pc := 35) 0 rfl rfl dX7_firstFault_35 ?_
              refine ga_if_lt hR (pc := 36) 48 (by decide) dX7_firstFault_36 (fun c36 => ?_) (fun c36 => ?_)
              · replace h := h.1 c36
                exact ga_lv hR [2] rfl h
              · replace h := h.2 c36
                refine ga_aload_n hR (pc := 39) 1 rfl rfl dX7_firstFault_39 ?_
                refine ga_iload_n hR (pc := 40) 2 rfl rfl dX7_firstFault_40 ?_
                refine ga_iload_n hR (pc := 41) 0 rfl rfl dX7_firstFault_41 ?_
                refine ga_callV hR (pc := 42) (As := [.int v1_14, .int r_18]) (rest := []) (st0 := [.int r_18, .int v1_14, .ref (a 0)]) (b := (a 0)) 2 (c_X7_isItem V a x_length x_rulesSeen_16 x_placesSeen_17 x_signs v1_14 r_18 _ h) (ga_same_i fun _ => rfl) gX7_firstFault_X7_isItem rfl rfl rfl hd_X7_isItem ⟨Nat.le_of_ble_eq_true rfl, Nat.le_of_ble_eq_true rfl⟩ rfl rfl (Nat.le_of_ble_eq_true rfl) ⟨Nat.zero_le _, Nat.zero_le _⟩ [0, 1] rfl rfl 0 rfl rfl dX7_firstFault_42 ?_
                rintro _ _ ⟨r_21, ⟨x_rulesSeen_19, x_placesSeen_20⟩, rfl, rfl, h⟩
                refine ga_to [(a 0, .inr (7, [.ref (a 1), .int x_length, .int x_rulesSeen_19, .int x_placesSeen_20])), (a 1, .inl (V.2 0, 200, .inl x_signs))] [.int r_21] rfl rfl ?_
                try dsimp only at h
                refine ga_if_ne hR (pc := 45) 50 (by decide) dX7_firstFault_45 (fun c45 => ?_) (fun c45 => ?_)
                · replace h := h.1 c45
                  refine ga_iload_n hR (pc := 50) 0 rfl rfl dX7_firstFault_50 ?_
                  refine ga_iconst hR (pc := 51) (v := nI 1) (by decide) dX7_firstFault_51 ?_
                  refine ga_iadd hR (pc := 52) dX7_firstFault_52 ?_
                  refine ga_topi (fun v1_22 ev1_22 => ?_)
                  replace h := h v1_22 ev1_22
                  refine ga_istore_n hR (pc := 53) (lv' := [(1, .int v1_22), (3, .int r_18), (0, .ref (a 0)), (2, .int v2_15)]) rfl (by decide) rfl dX7_firstFault_53 ?_
                  obtain ⟨v2_23, ev2_23⟩ : ∃ v : Int32, v = v2_15 + (nI 1) := ⟨_, rfl⟩
                  replace h := h v2_23 ev2_23
                  refine ga_iinc hR (pc := 54) (lv' := [(2, .int v2_23), (1, .int v1_22), (3, .int r_18), (0, .ref (a 0))]) 3 (by decide) rfl ev2_23 (by decide) rfl dX7_firstFault_54 ?_
                  refine ga_goto hR (pc := 57) 14 (by decide) dX7_firstFault_57 ?_
                  exact ga_lv hR [3, 1, 0] rfl (ih _ _ _ _ h)
                · replace h := h.2 c45
                  exact ga_lv hR [2] rfl h
      exact ga_lv hR [2, 1, 0] rfl (L14 n _ _ _ _ h)

def rm_X7_rulesSeen : Room := { frames := 0, cells := 0, slots := 0, locals := 0 }
theorem hd_X7_rulesSeenS : yX7_rulesSeen.cls ≠ "java/lang/invoke/MethodHandle" ∧ yX7_rulesSeen.cls ≠ "java/lang/invoke/VarHandle" ∧ (parseMethodDescriptor yX7_rulesSeen.desc).map (fun d => d.parameters.length) = some 0 := by decide +kernel
theorem hd_X7_rulesSeen : yX7_rulesSeen.cls = RX7 ∧ yX7_rulesSeen.cls ≠ "java/lang/invoke/MethodHandle" ∧ yX7_rulesSeen.cls ≠ "java/lang/invoke/VarHandle" ∧ (parseMethodDescriptor yX7_rulesSeen.desc).map (fun d => d.parameters.length) = some 0 := ⟨rfl, hd_X7_rulesSeenS⟩
set_option maxHeartbeats 4000000 in
set_option maxRecDepth 100000 in
theorem c_X7_rulesSeen (V : ga_V) (a : Nat → Nat) (x_length : Int32) (x_placesSeen : Int32) (x_rulesSeen : Int32) (K : Int32 → Prop) (h : wp_X7_rulesSeen x_rulesSeen K) : ga_C V yX7_rulesSeen wsX7_rulesSeen rm_X7_rulesSeen [.ref (a 0)] [(a 0, .inr (7, [.ref (a 1), .int x_length, .int x_rulesSeen, .int x_placesSeen]))] 0 0 (ga_Fi (fun (u : Unit) => [(a 0, .inr (7, [.ref (a 1), .int x_length, .int x_rulesSeen, .int x_placesSeen]))]) (fun r u => K r)) := by
  refine ga_met (cc := cX7_rulesSeen) (maxL := 1) (rt := (some .int)) (by decide) rfl [(0, .ref (a 0))] rfl (Nat.le_of_ble_eq_true rfl) ?_
  intro G hR hE
  have hinX7 : ∀ w ∈ u_ws RX7 TX7 4, w ∈ wsX7_rulesSeen := by decide +kernel
  have f19 : Cond.fieldLink RX7 19 "BoundaryRules$Text" "rulesSeen" "I" ∈ wsX7_rulesSeen := by decide +kernel
  unfold wp_X7_rulesSeen at h
  refine ga_aload_n hR (pc := 0) 0 rfl rfl dX7_rulesSeen_0 ?_
  refine ga_get hR (pc := 1) 0 rfl rfl hinX7 2 (by decide) f19 rfl dX7_rulesSeen_1 ?_
  exact ga_iret hE dX7_rulesSeen_4 rfl (ga_ri () rfl h)

def rm_X4_clear : Room := { frames := 0, cells := 0, slots := 0, locals := 0 }
theorem hd_X4_clearS : yX4_clear.cls ≠ "java/lang/invoke/MethodHandle" ∧ yX4_clear.cls ≠ "java/lang/invoke/VarHandle" ∧ (parseMethodDescriptor yX4_clear.desc).map (fun d => d.parameters.length) = some 0 := by decide +kernel
theorem hd_X4_clear : yX4_clear.cls = RX4 ∧ yX4_clear.cls ≠ "java/lang/invoke/MethodHandle" ∧ yX4_clear.cls ≠ "java/lang/invoke/VarHandle" ∧ (parseMethodDescriptor yX4_clear.desc).map (fun d => d.parameters.length) = some 0 := ⟨rfl, hd_X4_clearS⟩
set_option maxHeartbeats 4000000 in
set_option maxRecDepth 100000 in
theorem c_X4_clear (V : ga_V) (a : Nat → Nat) (x_number : Int32) (x_placeNumber : Int32) (K : Int32 → Int32 → Prop) (h : wp_X4_clear x_number x_placeNumber K) : ga_C V yX4_clear wsX4_clear rm_X4_clear [.ref (a 0)] [(a 0, .inr (4, [.ref (a 1), .ref (a 2), .ref (a 3), .ref (a 4), .ref (a 5), .ref (a 6), .int x_number, .int x_placeNumber]))] 0 0 (ga_Fv (fun (u : Int32 × Int32) => [(a 0, .inr (4, [.ref (a 1), .ref (a 2), .ref (a 3), .ref (a 4), .ref (a 5), .ref (a 6), .int u.1, .int u.2]))]) (fun u => K u.1 u.2)) := by
  refine ga_met (cc := cX4_clear) (maxL := 1) (rt := none) (by decide) rfl [(0, .ref (a 0))] rfl (Nat.le_of_ble_eq_true rfl) ?_
  intro G hR hE
  have hinX4 : ∀ w ∈ u_ws RX4 TX4 8, w ∈ wsX4_clear := by decide +kernel
  have f34 : Cond.fieldLink RX4 34 "BoundaryRules$Rules" "number" "I" ∈ wsX4_clear := by decide +kernel
  have f38 : Cond.fieldLink RX4 38 "BoundaryRules$Rules" "placeNumber" "I" ∈ wsX4_clear := by decide +kernel
  unfold wp_X4_clear at h
  refine ga_aload_n hR (pc := 0) 0 rfl rfl dX4_clear_0 ?_
  refine ga_iconst hR (pc := 1) (v := nI 0) (by decide) dX4_clear_1 ?_
  refine ga_putf hR (pc := 2) (ws' := [(a 0, .inr (4, [.ref (a 1), .ref (a 2), .ref (a 3), .ref (a 4), .ref (a 5), .ref (a 6), .int (nI 0), .int x_placeNumber]))]) 0 rfl rfl hinX4 6 (by decide) f34 tyX4_ok nmX4 rfl rfl rfl (Nat.le_of_ble_eq_true rfl) rfl dX4_clear_2 ?_
  refine ga_aload_n hR (pc := 5) 0 rfl rfl dX4_clear_5 ?_
  refine ga_iconst hR (pc := 6) (v := nI 0) (by decide) dX4_clear_6 ?_
  refine ga_putf hR (pc := 7) (ws' := [(a 0, .inr (4, [.ref (a 1), .ref (a 2), .ref (a 3), .ref (a 4), .ref (a 5), .ref (a 6), .int (nI 0), .int (nI 0)]))]) 0 rfl rfl hinX4 7 (by decide) f38 tyX4_ok nmX4 rfl rfl rfl (Nat.le_of_ble_eq_true rfl) rfl dX4_clear_7 ?_
  exact ga_vret hE dX4_clear_10 (ga_rv (nI 0, nI 0) rfl h)

def rm_J7_fill_53178 : Room := { frames := 0, cells := 0, slots := 0, locals := 0 }
theorem hd_J7_fill_53178S : yJ7_fill_53178.cls ≠ "java/lang/invoke/MethodHandle" ∧ yJ7_fill_53178.cls ≠ "java/lang/invoke/VarHandle" ∧ (parseMethodDescriptor yJ7_fill_53178.desc).map (fun d => d.parameters.length) = some 2 := by decide +kernel
set_option maxHeartbeats 4000000 in
set_option maxRecDepth 100000 in
theorem c_J7_fill_53178 (V : ga_V) (a : Nat → Nat) (n_a : Nat) (x : Nat → Int32) (p1 : Int32) (K : (Nat → Int32) → Prop) (h : wp_J7_fill_53178 n_a x p1 K) : ga_C V yJ7_fill_53178 wsJ7_fill_53178 rm_J7_fill_53178 [.ref (a 0), .int p1] [(a 0, .inl (V.2 0, n_a, .inl x))] 0 0 (ga_Fv (fun (u : (Nat → Int32)) => [(a 0, .inl (V.2 0, n_a, .inl u))]) (fun u => K u)) := by
  refine ga_met (cc := cJ7_fill_53178) (maxL := 4) (rt := none) (by decide) rfl [(0, .ref (a 0)), (1, .int p1)] rfl (Nat.le_of_ble_eq_true rfl) ?_
  intro G hR hE
  unfold wp_J7_fill_53178 at h
  refine ga_iconst hR (pc := 0) (v := nI 0) (by decide) dJ7_fill_53178_0 ?_
  refine ga_istore_n hR (pc := 1) (lv' := [(2, .int (nI 0)), (0, .ref (a 0)), (1, .int p1)]) rfl (by decide) rfl dJ7_fill_53178_1 ?_
  refine ga_aload_n hR (pc := 2) 1 rfl rfl dJ7_fill_53178_2 ?_
  refine ga_alen hR (pc := 3) (v := nI n_a) 0 rfl rfl rfl dJ7_fill_53178_3 ?_
  refine ga_topi (fun v3_1 ev3_1 => ?_)
  replace h := h v3_1 ev3_1
  refine ga_istore_n hR (pc := 4) (lv' := [(3, .int v3_1), (2, .int (nI 0)), (0, .ref (a 0)), (1, .int p1)]) rfl (by decide) rfl dJ7_fill_53178_4 ?_
  have hJ := h (fun (x_2 : Nat → Int32) => G 0 0 [(a 0, .inl (V.2 0, n_a, .inl x_2))] 20 [] [])
  refine ga_bind hJ ?_ ?_
  · intro x_2 h
    show G 0 0 [(a 0, .inl (V.2 0, n_a, .inl x_2))] 20 [] []
    exact ga_vret hE dJ7_fill_53178_20 (ga_rv x_2 rfl h)
  · intro h
    obtain ⟨n, h⟩ := h
    have L5 : ∀ (n : Nat) (v2_6 : Int32) (x_7 : Nat → Int32), lp_J7_fill_53178_5 n_a p1 v3_1 (fun (x_2 : Nat → Int32) => G 0 0 [(a 0, .inl (V.2 0, n_a, .inl x_2))] 20 [] []) n v2_6 x_7 → G 0 0 [(a 0, .inl (V.2 0, n_a, .inl x_7))] 5 [(0, .ref (a 0)), (1, .int p1), (2, .int v2_6), (3, .int v3_1)] [] := by
      intro n
      induction n with
      | zero => exact fun _ _ h => False.elim h
      | succ n ih =>
        intro v2_6 x_7 h
        rw [lp_J7_fill_53178_5] at h
        refine ga_iload_n hR (pc := 5) 2 rfl rfl dJ7_fill_53178_5 ?_
        refine ga_iload_n hR (pc := 6) 3 rfl rfl dJ7_fill_53178_6 ?_
        refine ga_icmp_ge hR (pc := 7) 20 (by decide) dJ7_fill_53178_7 (fun c7 => ?_) (fun c7 => ?_)
        · replace h := h.1 c7
          exact ga_lv hR [] rfl h
        · replace h := h.2 c7
          refine ga_aload_n hR (pc := 10) 0 rfl rfl dJ7_fill_53178_10 ?_
          refine ga_iload_n hR (pc := 11) 2 rfl rfl dJ7_fill_53178_11 ?_
          refine ga_iload_n hR (pc := 12) 1 rfl rfl dJ7_fill_53178_12 ?_
          refine ga_iast hR (pc := 13) (ws' := [(a 0, .inl (V.2 0, n_a, .inl ((upd x_7 v2_6.toNatClampNeg p1))))]) 0 rfl h.1 rfl dJ7_fill_53178_13 ?_
          replace h := h.2
          obtain ⟨x_8, ex_8⟩ : ∃ f : Nat → Int32, f = upd x_7 v2_6.toNatClampNeg p1 := ⟨_, rfl⟩
          refine ga_cast (ws' := [(a 0, .inl (V.2 0, n_a, .inl x_8))]) (by rw [ex_8]) rfl ?_
          replace h := h x_8 ex_8
          obtain ⟨v2_9, ev2_9⟩ : ∃ v : Int32, v = v2_6 + (nI 1) := ⟨_, rfl⟩
          replace h := h v2_9 ev2_9
          refine ga_iinc hR (pc := 14) (lv' := [(2, .int v2_9), (0, .ref (a 0)), (1, .int p1), (3, .int v3_1)]) 2 (by decide) rfl ev2_9 (by decide) rfl dJ7_fill_53178_14 ?_
          refine ga_goto hR (pc := 17) 5 (by decide) dJ7_fill_53178_17 ?_
          exact ga_lv hR [1, 2, 0, 3] rfl (ih _ _ h)
    exact ga_lv hR [2, 3, 1, 0] rfl (L5 n _ _ h)

def rm_X6_clear : Room := { frames := 1, cells := 0, slots := 0, locals := 23 }
theorem hd_X6_clearS : yX6_clear.cls ≠ "java/lang/invoke/MethodHandle" ∧ yX6_clear.cls ≠ "java/lang/invoke/VarHandle" ∧ (parseMethodDescriptor yX6_clear.desc).map (fun d => d.parameters.length) = some 0 := by decide +kernel
theorem hd_X6_clear : yX6_clear.cls = RX6 ∧ yX6_clear.cls ≠ "java/lang/invoke/MethodHandle" ∧ yX6_clear.cls ≠ "java/lang/invoke/VarHandle" ∧ (parseMethodDescriptor yX6_clear.desc).map (fun d => d.parameters.length) = some 0 := ⟨rfl, hd_X6_clearS⟩
set_option maxHeartbeats 4000000 in
set_option maxRecDepth 100000 in
theorem c_X6_clear (V : ga_V) (a : Nat → Nat) (x_length : Int32) (x_classes : Nat → Int32) (x_kinds : Nat → Int32) (K : Int32 → (Nat → Int32) → (Nat → Int32) → Prop) (h : wp_X6_clear x_length x_classes x_kinds K) : ga_C V yX6_clear wsX6_clear rm_X6_clear [.ref (a 0)] [(a 0, .inr (6, [.ref (a 1), .ref (a 2), .ref (a 3), .int x_length])), (a 1, .inl (V.2 0, 26, .inl x_classes)), (a 2, .inl (V.2 0, 4, .inl x_kinds))] 0 0 (ga_Fv (fun (u : Int32 × (Nat → Int32) × (Nat → Int32)) => [(a 0, .inr (6, [.ref (a 1), .ref (a 2), .ref (a 3), .int u.1])), (a 1, .inl (V.2 0, 26, .inl u.2.1)), (a 2, .inl (V.2 0, 4, .inl u.2.2))]) (fun u => K u.1 u.2.1 u.2.2)) := by
  refine ga_met (cc := cX6_clear) (maxL := 1) (rt := none) (by decide) rfl [(0, .ref (a 0))] rfl (Nat.le_of_ble_eq_true rfl) ?_
  intro G hR hE
  have hinX6 : ∀ w ∈ u_ws RX6 TX6 4, w ∈ wsX6_clear := by decide +kernel
  have f9 : Cond.fieldLink RX6 9 "BoundaryRules$Stock" "classes" "[I" ∈ wsX6_clear := by decide +kernel
  have f15 : Cond.fieldLink RX6 15 "BoundaryRules$Stock" "kinds" "[I" ∈ wsX6_clear := by decide +kernel
  have f21 : Cond.fieldLink RX6 21 "BoundaryRules$Stock" "length" "I" ∈ wsX6_clear := by decide +kernel
  unfold wp_X6_clear at h
  refine ga_aload_n hR (pc := 0) 0 rfl rfl dX6_clear_0 ?_
  refine ga_get hR (pc := 1) 0 rfl rfl hinX6 0 (by decide) f9 rfl dX6_clear_1 ?_
  refine ga_iconst hR (pc := 4) (v := nI 0) (by decide) dX6_clear_4 ?_
  refine ga_callS hR (pc := 5) (As := [.ref (a 1), .int (nI 0)]) (rest := []) (st0 := [.int (nI 0), .ref (a 1)]) 2 (c_J7_fill_53178 V (fun k => a (k + 1)) 26 x_classes (nI 0) _ h) (ga_same_v fun _ => rfl) gX6_clear_J7_fill_53178 rfl rfl rfl hd_J7_fill_53178S ⟨Nat.le_of_ble_eq_true rfl, Nat.le_of_ble_eq_true rfl⟩ rfl rfl (Nat.le_of_ble_eq_true rfl) ⟨Nat.zero_le _, Nat.zero_le _⟩ [1] rfl rfl dX6_clear_5 ?_
  rintro _ _ ⟨x_classes_1, rfl, rfl, h⟩
  refine ga_to [(a 0, .inr (6, [.ref (a 1), .ref (a 2), .ref (a 3), .int x_length])), (a 1, .inl (V.2 0, 26, .inl x_classes_1)), (a 2, .inl (V.2 0, 4, .inl x_kinds))] [] rfl rfl ?_
  try dsimp only at h
  refine ga_aload_n hR (pc := 8) 0 rfl rfl dX6_clear_8 ?_
  refine ga_get hR (pc := 9) 0 rfl rfl hinX6 1 (by decide) f15 rfl dX6_clear_9 ?_
  refine ga_iconst hR (pc := 12) (v := nI 0) (by decide) dX6_clear_12 ?_
  refine ga_callS hR (pc := 13) (As := [.ref (a 2), .int (nI 0)]) (rest := []) (st0 := [.int (nI 0), .ref (a 2)]) 2 (c_J7_fill_53178 V (fun k => a (k + 2)) 4 x_kinds (nI 0) _ h) (ga_same_v fun _ => rfl) gX6_clear_J7_fill_53178 rfl rfl rfl hd_J7_fill_53178S ⟨Nat.le_of_ble_eq_true rfl, Nat.le_of_ble_eq_true rfl⟩ rfl rfl (Nat.le_of_ble_eq_true rfl) ⟨Nat.zero_le _, Nat.zero_le _⟩ [2] rfl rfl dX6_clear_13 ?_
  rintro _ _ ⟨x_kinds_2, rfl, rfl, h⟩
  refine ga_to [(a 0, .inr (6, [.ref (a 1), .ref (a 2), .ref (a 3), .int x_length])), (a 1, .inl (V.2 0, 26, .inl x_classes_1)), (a 2, .inl (V.2 0, 4, .inl x_kinds_2))] [] rfl rfl ?_
  try dsimp only at h
  refine ga_aload_n hR (pc := 16) 0 rfl rfl dX6_clear_16 ?_
  refine ga_iconst hR (pc := 17) (v := nI 0) (by decide) dX6_clear_17 ?_
  refine ga_putf hR (pc := 18) (ws' := [(a 0, .inr (6, [.ref (a 1), .ref (a 2), .ref (a 3), .int (nI 0)])), (a 1, .inl (V.2 0, 26, .inl x_classes_1)), (a 2, .inl (V.2 0, 4, .inl x_kinds_2))]) 0 rfl rfl hinX6 3 (by decide) f21 tyX6_ok nmX6 rfl rfl rfl (Nat.le_of_ble_eq_true rfl) rfl dX6_clear_18 ?_
  exact ga_vret hE dX6_clear_21 (ga_rv (nI 0, x_classes_1, x_kinds_2) rfl h)

def rm_X6_clearLine : Room := { frames := 0, cells := 0, slots := 0, locals := 0 }
theorem hd_X6_clearLineS : yX6_clearLine.cls ≠ "java/lang/invoke/MethodHandle" ∧ yX6_clearLine.cls ≠ "java/lang/invoke/VarHandle" ∧ (parseMethodDescriptor yX6_clearLine.desc).map (fun d => d.parameters.length) = some 0 := by decide +kernel
theorem hd_X6_clearLine : yX6_clearLine.cls = RX6 ∧ yX6_clearLine.cls ≠ "java/lang/invoke/MethodHandle" ∧ yX6_clearLine.cls ≠ "java/lang/invoke/VarHandle" ∧ (parseMethodDescriptor yX6_clearLine.desc).map (fun d => d.parameters.length) = some 0 := ⟨rfl, hd_X6_clearLineS⟩
set_option maxHeartbeats 4000000 in
set_option maxRecDepth 100000 in
theorem c_X6_clearLine (V : ga_V) (a : Nat → Nat) (x_length : Int32) (K : Int32 → Prop) (h : wp_X6_clearLine x_length K) : ga_C V yX6_clearLine wsX6_clearLine rm_X6_clearLine [.ref (a 0)] [(a 0, .inr (6, [.ref (a 1), .ref (a 2), .ref (a 3), .int x_length]))] 0 0 (ga_Fv (fun (u : Int32) => [(a 0, .inr (6, [.ref (a 1), .ref (a 2), .ref (a 3), .int u]))]) (fun u => K u)) := by
  refine ga_met (cc := cX6_clearLine) (maxL := 1) (rt := none) (by decide) rfl [(0, .ref (a 0))] rfl (Nat.le_of_ble_eq_true rfl) ?_
  intro G hR hE
  have hinX6 : ∀ w ∈ u_ws RX6 TX6 4, w ∈ wsX6_clearLine := by decide +kernel
  have f21 : Cond.fieldLink RX6 21 "BoundaryRules$Stock" "length" "I" ∈ wsX6_clearLine := by decide +kernel
  unfold wp_X6_clearLine at h
  refine ga_aload_n hR (pc := 0) 0 rfl rfl dX6_clearLine_0 ?_
  refine ga_iconst hR (pc := 1) (v := nI 0) (by decide) dX6_clearLine_1 ?_
  refine ga_putf hR (pc := 2) (ws' := [(a 0, .inr (6, [.ref (a 1), .ref (a 2), .ref (a 3), .int (nI 0)]))]) 0 rfl rfl hinX6 3 (by decide) f21 tyX6_ok nmX6 rfl rfl rfl (Nat.le_of_ble_eq_true rfl) rfl dX6_clearLine_2 ?_
  exact ga_vret hE dX6_clearLine_5 (ga_rv (nI 0) rfl h)

def rm_X6_length : Room := { frames := 0, cells := 0, slots := 0, locals := 0 }
theorem hd_X6_lengthS : yX6_length.cls ≠ "java/lang/invoke/MethodHandle" ∧ yX6_length.cls ≠ "java/lang/invoke/VarHandle" ∧ (parseMethodDescriptor yX6_length.desc).map (fun d => d.parameters.length) = some 0 := by decide +kernel
theorem hd_X6_length : yX6_length.cls = RX6 ∧ yX6_length.cls ≠ "java/lang/invoke/MethodHandle" ∧ yX6_length.cls ≠ "java/lang/invoke/VarHandle" ∧ (parseMethodDescriptor yX6_length.desc).map (fun d => d.parameters.length) = some 0 := ⟨rfl, hd_X6_lengthS⟩
set_option maxHeartbeats 4000000 in
set_option maxRecDepth 100000 in
theorem c_X6_length (V : ga_V) (a : Nat → Nat) (x_length : Int32) (K : Int32 → Prop) (h : wp_X6_length x_length K) : ga_C V yX6_length wsX6_length rm_X6_length [.ref (a 0)] [(a 0, .inr (6, [.ref (a 1), .ref (a 2), .ref (a 3), .int x_length]))] 0 0 (ga_Fi (fun (u : Unit) => [(a 0, .inr (6, [.ref (a 1), .ref (a 2), .ref (a 3), .int x_length]))]) (fun r u => K r)) := by
  refine ga_met (cc := cX6_length) (maxL := 1) (rt := (some .int)) (by decide) rfl [(0, .ref (a 0))] rfl (Nat.le_of_ble_eq_true rfl) ?_
  intro G hR hE
  have hinX6 : ∀ w ∈ u_ws RX6 TX6 4, w ∈ wsX6_length := by decide +kernel
  have f21 : Cond.fieldLink RX6 21 "BoundaryRules$Stock" "length" "I" ∈ wsX6_length := by decide +kernel
  unfold wp_X6_length at h
  refine ga_aload_n hR (pc := 0) 0 rfl rfl dX6_length_0 ?_
  refine ga_get hR (pc := 1) 0 rfl rfl hinX6 3 (by decide) f21 rfl dX6_length_1 ?_
  exact ga_iret hE dX6_length_4 rfl (ga_ri () rfl h)

def rm_X6_putIn : Room := { frames := 0, cells := 0, slots := 0, locals := 0 }
theorem hd_X6_putInS : yX6_putIn.cls ≠ "java/lang/invoke/MethodHandle" ∧ yX6_putIn.cls ≠ "java/lang/invoke/VarHandle" ∧ (parseMethodDescriptor yX6_putIn.desc).map (fun d => d.parameters.length) = some 2 := by decide +kernel
theorem hd_X6_putIn : yX6_putIn.cls = RX6 ∧ yX6_putIn.cls ≠ "java/lang/invoke/MethodHandle" ∧ yX6_putIn.cls ≠ "java/lang/invoke/VarHandle" ∧ (parseMethodDescriptor yX6_putIn.desc).map (fun d => d.parameters.length) = some 2 := ⟨rfl, hd_X6_putInS⟩
set_option maxHeartbeats 4000000 in
set_option maxRecDepth 100000 in
theorem c_X6_putIn (V : ga_V) (a : Nat → Nat) (x_length : Int32) (x_line : Nat → Int32) (p1 : Int32) (p2 : Int32) (K : Int32 → (Nat → Int32) → Prop) (h : wp_X6_putIn x_length x_line p1 p2 K) : ga_C V yX6_putIn wsX6_putIn rm_X6_putIn [.ref (a 0), .int p1, .int p2] [(a 0, .inr (6, [.ref (a 1), .ref (a 2), .ref (a 3), .int x_length])), (a 3, .inl (V.2 0, 30, .inl x_line))] 0 0 (ga_Fv (fun (u : Int32 × (Nat → Int32)) => [(a 0, .inr (6, [.ref (a 1), .ref (a 2), .ref (a 3), .int u.1])), (a 3, .inl (V.2 0, 30, .inl u.2))]) (fun u => K u.1 u.2)) := by
  refine ga_met (cc := cX6_putIn) (maxL := 4) (rt := none) (by decide) rfl [(0, .ref (a 0)), (1, .int p1), (2, .int p2)] rfl (Nat.le_of_ble_eq_true rfl) ?_
  intro G hR hE
  have hinX6 : ∀ w ∈ u_ws RX6 TX6 4, w ∈ wsX6_putIn := by decide +kernel
  have f21 : Cond.fieldLink RX6 21 "BoundaryRules$Stock" "length" "I" ∈ wsX6_putIn := by decide +kernel
  have f18 : Cond.fieldLink RX6 18 "BoundaryRules$Stock" "line" "[I" ∈ wsX6_putIn := by decide +kernel
  unfold wp_X6_putIn at h
  refine ga_iload_n hR (pc := 0) 1 rfl rfl dX6_putIn_0 ?_
  refine ga_if_lt hR (pc := 1) 21 (by decide) dX6_putIn_1 (fun c1 => ?_) (fun c1 => ?_)
  · replace h := h.1 c1
    exact ga_vret hE dX6_putIn_21 (ga_rv (x_length, x_line) rfl h)
  · replace h := h.2 c1
    refine ga_iload_n hR (pc := 4) 1 rfl rfl dX6_putIn_4 ?_
    refine ga_aload_n hR (pc := 5) 0 rfl rfl dX6_putIn_5 ?_
    refine ga_get hR (pc := 6) 0 rfl rfl hinX6 3 (by decide) f21 rfl dX6_putIn_6 ?_
    refine ga_icmp_gt hR (pc := 9) 21 (by decide) dX6_putIn_9 (fun c9 => ?_) (fun c9 => ?_)
    · replace h := h.1 c9
      exact ga_vret hE dX6_putIn_21 (ga_rv (x_length, x_line) rfl h)
    · replace h := h.2 c9
      refine ga_aload_n hR (pc := 12) 0 rfl rfl dX6_putIn_12 ?_
      refine ga_get hR (pc := 13) 0 rfl rfl hinX6 3 (by decide) f21 rfl dX6_putIn_13 ?_
      refine ga_bipush hR (pc := 16) (v := nI 30) (by decide) dX6_putIn_16 ?_
      refine ga_icmp_lt hR (pc := 18) 22 (by decide) dX6_putIn_18 (fun c18 => ?_) (fun c18 => ?_)
      · replace h := h.1 c18
        refine ga_aload_n hR (pc := 22) 0 rfl rfl dX6_putIn_22 ?_
        refine ga_get hR (pc := 23) 0 rfl rfl hinX6 3 (by decide) f21 rfl dX6_putIn_23 ?_
        refine ga_istore_n hR (pc := 26) (lv' := [(3, .int x_length), (0, .ref (a 0)), (1, .int p1), (2, .int p2)]) rfl (by decide) rfl dX6_putIn_26 ?_
        have hJ := h (fun (x_line_1 : Nat → Int32) => G 0 0 [(a 0, .inr (6, [.ref (a 1), .ref (a 2), .ref (a 3), .int x_length])), (a 3, .inl (V.2 0, 30, .inl x_line_1))] 52 [(0, .ref (a 0)), (1, .int p1), (2, .int p2)] [])
        refine ga_bind hJ ?_ ?_
        · intro x_line_1 h
          show G 0 0 [(a 0, .inr (6, [.ref (a 1), .ref (a 2), .ref (a 3), .int x_length])), (a 3, .inl (V.2 0, 30, .inl x_line_1))] 52 [(0, .ref (a 0)), (1, .int p1), (2, .int p2)] []
          refine ga_aload_n hR (pc := 52) 0 rfl rfl dX6_putIn_52 ?_
          refine ga_get hR (pc := 53) 0 rfl rfl hinX6 2 (by decide) f18 rfl dX6_putIn_53 ?_
          refine ga_iload_n hR (pc := 56) 1 rfl rfl dX6_putIn_56 ?_
          refine ga_iload_n hR (pc := 57) 2 rfl rfl dX6_putIn_57 ?_
          refine ga_iast hR (pc := 58) (ws' := [(a 0, .inr (6, [.ref (a 1), .ref (a 2), .ref (a 3), .int x_length])), (a 3, .inl (V.2 0, 30, .inl ((upd x_line_1 p1.toNatClampNeg p2))))]) 1 rfl h.1 rfl dX6_putIn_58 ?_
          replace h := h.2
          obtain ⟨x_line_3, ex_line_3⟩ : ∃ f : Nat → Int32, f = upd x_line_1 p1.toNatClampNeg p2 := ⟨_, rfl⟩
          refine ga_cast (ws' := [(a 0, .inr (6, [.ref (a 1), .ref (a 2), .ref (a 3), .int x_length])), (a 3, .inl (V.2 0, 30, .inl x_line_3))]) (by rw [ex_line_3]) rfl ?_
          replace h := h x_line_3 ex_line_3
          refine ga_aload_n hR (pc := 59) 0 rfl rfl dX6_putIn_59 ?_
          refine ga_dup hR (pc := 60) rfl dX6_putIn_60 ?_
          refine ga_get hR (pc := 61) 0 rfl rfl hinX6 3 (by decide) f21 rfl dX6_putIn_61 ?_
          refine ga_iconst hR (pc := 64) (v := nI 1) (by decide) dX6_putIn_64 ?_
          refine ga_iadd hR (pc := 65) dX6_putIn_65 ?_
          refine ga_topi (fun x_length_4 ex_length_4 => ?_)
          replace h := h x_length_4 ex_length_4
          refine ga_putf hR (pc := 66) (ws' := [(a 0, .inr (6, [.ref (a 1), .ref (a 2), .ref (a 3), .int x_length_4])), (a 3, .inl (V.2 0, 30, .inl x_line_3))]) 0 rfl rfl hinX6 3 (by decide) f21 tyX6_ok nmX6 rfl rfl rfl (Nat.le_of_ble_eq_true rfl) rfl dX6_putIn_66 ?_
          exact ga_vret hE dX6_putIn_69 (ga_rv (x_length_4, x_line_3) rfl h)
        · intro h
          obtain ⟨n, h⟩ := h
          have L27 : ∀ (n : Nat) (v3_8 : Int32) (x_line_9 : Nat → Int32), lp_X6_putIn_27 p1 (fun (x_line_1 : Nat → Int32) => G 0 0 [(a 0, .inr (6, [.ref (a 1), .ref (a 2), .ref (a 3), .int x_length])), (a 3, .inl (V.2 0, 30, .inl x_line_1))] 52 [(0, .ref (a 0)), (1, .int p1), (2, .int p2)] []) n v3_8 x_line_9 → G 0 0 [(a 0, .inr (6, [.ref (a 1), .ref (a 2), .ref (a 3), .int x_length])), (a 3, .inl (V.2 0, 30, .inl x_line_9))] 27 [(0, .ref (a 0)), (1, .int p1), (2, .int p2), (3, .int v3_8)] [] := by
            intro n
            induction n with
            | zero => exact fun _ _ h => False.elim h
            | succ n ih =>
              intro v3_8 x_line_9 h
              rw [lp_X6_putIn_27] at h
              refine ga_iload_n hR (pc := 27) 3 rfl rfl dX6_putIn_27 ?_
              refine ga_iload_n hR (pc := 28) 1 rfl rfl dX6_putIn_28 ?_
              refine ga_icmp_le hR (pc := 29) 52 (by decide) dX6_putIn_29 (fun c29 => ?_) (fun c29 => ?_)
              · replace h := h.1 c29
                exact ga_lv hR [0, 1, 2] rfl h
              · replace h := h.2 c29
                refine ga_aload_n hR (pc := 32) 0 rfl rfl dX6_putIn_32 ?_
                refine ga_get hR (pc := 33) 0 rfl rfl hinX6 2 (by decide) f18 rfl dX6_putIn_33 ?_
                refine ga_iload_n hR (pc := 36) 3 rfl rfl dX6_putIn_36 ?_
                refine ga_aload_n hR (pc := 37) 0 rfl rfl dX6_putIn_37 ?_
                refine ga_get hR (pc := 38) 0 rfl rfl hinX6 2 (by decide) f18 rfl dX6_putIn_38 ?_
                refine ga_iload_n hR (pc := 41) 3 rfl rfl dX6_putIn_41 ?_
                refine ga_iconst hR (pc := 42) (v := nI 1) (by decide) dX6_putIn_42 ?_
                refine ga_isub hR (pc := 43) dX6_putIn_43 ?_
                refine ga_iald hR (pc := 44) 1 rfl h.1 dX6_putIn_44 ?_
                replace h := h.2
                refine ga_topi (fun t_10 et_10 => ?_)
                replace h := h t_10 et_10
                refine ga_iast hR (pc := 45) (ws' := [(a 0, .inr (6, [.ref (a 1), .ref (a 2), .ref (a 3), .int x_length])), (a 3, .inl (V.2 0, 30, .inl ((upd x_line_9 v3_8.toNatClampNeg t_10))))]) 1 rfl h.1 rfl dX6_putIn_45 ?_
                replace h := h.2
                obtain ⟨x_line_11, ex_line_11⟩ : ∃ f : Nat → Int32, f = upd x_line_9 v3_8.toNatClampNeg t_10 := ⟨_, rfl⟩
                refine ga_cast (ws' := [(a 0, .inr (6, [.ref (a 1), .ref (a 2), .ref (a 3), .int x_length])), (a 3, .inl (V.2 0, 30, .inl x_line_11))]) (by rw [ex_line_11]) rfl ?_
                replace h := h x_line_11 ex_line_11
                obtain ⟨v3_12, ev3_12⟩ : ∃ v : Int32, v = v3_8 + (-1) := ⟨_, rfl⟩
                replace h := h v3_12 ev3_12
                refine ga_iinc hR (pc := 46) (lv' := [(3, .int v3_12), (0, .ref (a 0)), (1, .int p1), (2, .int p2)]) 3 (by decide) rfl ev3_12 (by decide) rfl dX6_putIn_46 ?_
                refine ga_goto hR (pc := 49) 27 (by decide) dX6_putIn_49 ?_
                exact ga_lv hR [1, 2, 3, 0] rfl (ih _ _ h)
          exact ga_lv hR [1, 2, 3, 0] rfl (L27 n _ _ h)
      · replace h := h.2 c18
        exact ga_vret hE dX6_putIn_21 (ga_rv (x_length, x_line) rfl h)

def rm_X4_number : Room := { frames := 0, cells := 0, slots := 0, locals := 0 }
theorem hd_X4_numberS : yX4_number.cls ≠ "java/lang/invoke/MethodHandle" ∧ yX4_number.cls ≠ "java/lang/invoke/VarHandle" ∧ (parseMethodDescriptor yX4_number.desc).map (fun d => d.parameters.length) = some 0 := by decide +kernel
theorem hd_X4_number : yX4_number.cls = RX4 ∧ yX4_number.cls ≠ "java/lang/invoke/MethodHandle" ∧ yX4_number.cls ≠ "java/lang/invoke/VarHandle" ∧ (parseMethodDescriptor yX4_number.desc).map (fun d => d.parameters.length) = some 0 := ⟨rfl, hd_X4_numberS⟩
set_option maxHeartbeats 4000000 in
set_option maxRecDepth 100000 in
theorem c_X4_number (V : ga_V) (a : Nat → Nat) (x_placeNumber : Int32) (x_number : Int32) (K : Int32 → Prop) (h : wp_X4_number x_number K) : ga_C V yX4_number wsX4_number rm_X4_number [.ref (a 0)] [(a 0, .inr (4, [.ref (a 1), .ref (a 2), .ref (a 3), .ref (a 4), .ref (a 5), .ref (a 6), .int x_number, .int x_placeNumber]))] 0 0 (ga_Fi (fun (u : Unit) => [(a 0, .inr (4, [.ref (a 1), .ref (a 2), .ref (a 3), .ref (a 4), .ref (a 5), .ref (a 6), .int x_number, .int x_placeNumber]))]) (fun r u => K r)) := by
  refine ga_met (cc := cX4_number) (maxL := 1) (rt := (some .int)) (by decide) rfl [(0, .ref (a 0))] rfl (Nat.le_of_ble_eq_true rfl) ?_
  intro G hR hE
  have hinX4 : ∀ w ∈ u_ws RX4 TX4 8, w ∈ wsX4_number := by decide +kernel
  have f34 : Cond.fieldLink RX4 34 "BoundaryRules$Rules" "number" "I" ∈ wsX4_number := by decide +kernel
  unfold wp_X4_number at h
  refine ga_aload_n hR (pc := 0) 0 rfl rfl dX4_number_0 ?_
  refine ga_get hR (pc := 1) 0 rfl rfl hinX4 6 (by decide) f34 rfl dX4_number_1 ?_
  exact ga_iret hE dX4_number_4 rfl (ga_ri () rfl h)

def rm_X6_setKind : Room := { frames := 0, cells := 0, slots := 0, locals := 0 }
theorem hd_X6_setKindS : yX6_setKind.cls ≠ "java/lang/invoke/MethodHandle" ∧ yX6_setKind.cls ≠ "java/lang/invoke/VarHandle" ∧ (parseMethodDescriptor yX6_setKind.desc).map (fun d => d.parameters.length) = some 2 := by decide +kernel
theorem hd_X6_setKind : yX6_setKind.cls = RX6 ∧ yX6_setKind.cls ≠ "java/lang/invoke/MethodHandle" ∧ yX6_setKind.cls ≠ "java/lang/invoke/VarHandle" ∧ (parseMethodDescriptor yX6_setKind.desc).map (fun d => d.parameters.length) = some 2 := ⟨rfl, hd_X6_setKindS⟩
set_option maxHeartbeats 4000000 in
set_option maxRecDepth 100000 in
theorem c_X6_setKind (V : ga_V) (a : Nat → Nat) (x_length : Int32) (x_kinds : Nat → Int32) (p1 : Int32) (p2 : Int32) (K : (Nat → Int32) → Prop) (h : wp_X6_setKind x_kinds p1 p2 K) : ga_C V yX6_setKind wsX6_setKind rm_X6_setKind [.ref (a 0), .int p1, .int p2] [(a 0, .inr (6, [.ref (a 1), .ref (a 2), .ref (a 3), .int x_length])), (a 2, .inl (V.2 0, 4, .inl x_kinds))] 0 0 (ga_Fv (fun (u : (Nat → Int32)) => [(a 0, .inr (6, [.ref (a 1), .ref (a 2), .ref (a 3), .int x_length])), (a 2, .inl (V.2 0, 4, .inl u))]) (fun u => K u)) := by
  refine ga_met (cc := cX6_setKind) (maxL := 3) (rt := none) (by decide) rfl [(0, .ref (a 0)), (1, .int p1), (2, .int p2)] rfl (Nat.le_of_ble_eq_true rfl) ?_
  intro G hR hE
  have hinX6 : ∀ w ∈ u_ws RX6 TX6 4, w ∈ wsX6_setKind := by decide +kernel
  have f15 : Cond.fieldLink RX6 15 "BoundaryRules$Stock" "kinds" "[I" ∈ wsX6_setKind := by decide +kernel
  unfold wp_X6_setKind at h
  refine ga_iload_n hR (pc := 0) 1 rfl rfl dX6_setKind_0 ?_
  refine ga_if_lt hR (pc := 1) 16 (by decide) dX6_setKind_1 (fun c1 => ?_) (fun c1 => ?_)
  · replace h := h.1 c1
    exact ga_vret hE dX6_setKind_16 (ga_rv x_kinds rfl h)
  · replace h := h.2 c1
    refine ga_iload_n hR (pc := 4) 1 rfl rfl dX6_setKind_4 ?_
    refine ga_iconst hR (pc := 5) (v := nI 4) (by decide) dX6_setKind_5 ?_
    refine ga_icmp_ge hR (pc := 6) 16 (by decide) dX6_setKind_6 (fun c6 => ?_) (fun c6 => ?_)
    · replace h := h.1 c6
      exact ga_vret hE dX6_setKind_16 (ga_rv x_kinds rfl h)
    · replace h := h.2 c6
      refine ga_aload_n hR (pc := 9) 0 rfl rfl dX6_setKind_9 ?_
      refine ga_get hR (pc := 10) 0 rfl rfl hinX6 1 (by decide) f15 rfl dX6_setKind_10 ?_
      refine ga_iload_n hR (pc := 13) 1 rfl rfl dX6_setKind_13 ?_
      refine ga_iload_n hR (pc := 14) 2 rfl rfl dX6_setKind_14 ?_
      refine ga_iast hR (pc := 15) (ws' := [(a 0, .inr (6, [.ref (a 1), .ref (a 2), .ref (a 3), .int x_length])), (a 2, .inl (V.2 0, 4, .inl ((upd x_kinds p1.toNatClampNeg p2))))]) 1 rfl h.1 rfl dX6_setKind_15 ?_
      replace h := h.2
      obtain ⟨x_kinds_1, ex_kinds_1⟩ : ∃ f : Nat → Int32, f = upd x_kinds p1.toNatClampNeg p2 := ⟨_, rfl⟩
      refine ga_cast (ws' := [(a 0, .inr (6, [.ref (a 1), .ref (a 2), .ref (a 3), .int x_length])), (a 2, .inl (V.2 0, 4, .inl x_kinds_1))]) (by rw [ex_kinds_1]) rfl ?_
      replace h := h x_kinds_1 ex_kinds_1
      exact ga_vret hE dX6_setKind_16 (ga_rv x_kinds_1 rfl h)

def rm_X2_clear : Room := { frames := 0, cells := 0, slots := 0, locals := 0 }
theorem hd_X2_clearS : yX2_clear.cls ≠ "java/lang/invoke/MethodHandle" ∧ yX2_clear.cls ≠ "java/lang/invoke/VarHandle" ∧ (parseMethodDescriptor yX2_clear.desc).map (fun d => d.parameters.length) = some 0 := by decide +kernel
theorem hd_X2_clear : yX2_clear.cls = RX2 ∧ yX2_clear.cls ≠ "java/lang/invoke/MethodHandle" ∧ yX2_clear.cls ≠ "java/lang/invoke/VarHandle" ∧ (parseMethodDescriptor yX2_clear.desc).map (fun d => d.parameters.length) = some 0 := ⟨rfl, hd_X2_clearS⟩
set_option maxHeartbeats 4000000 in
set_option maxRecDepth 100000 in
theorem c_X2_clear (V : ga_V) (a : Nat → Nat) (x_height : Int32) (K : Int32 → Prop) (h : wp_X2_clear x_height K) : ga_C V yX2_clear wsX2_clear rm_X2_clear [.ref (a 0)] [(a 0, .inr (2, [.ref (a 1), .ref (a 2), .ref (a 3), .int x_height]))] 0 0 (ga_Fv (fun (u : Int32) => [(a 0, .inr (2, [.ref (a 1), .ref (a 2), .ref (a 3), .int u]))]) (fun u => K u)) := by
  refine ga_met (cc := cX2_clear) (maxL := 1) (rt := none) (by decide) rfl [(0, .ref (a 0))] rfl (Nat.le_of_ble_eq_true rfl) ?_
  intro G hR hE
  have hinX2 : ∀ w ∈ u_ws RX2 TX2 4, w ∈ wsX2_clear := by decide +kernel
  have f22 : Cond.fieldLink RX2 22 "BoundaryRules$Parts" "height" "I" ∈ wsX2_clear := by decide +kernel
  unfold wp_X2_clear at h
  refine ga_aload_n hR (pc := 0) 0 rfl rfl dX2_clear_0 ?_
  refine ga_iconst hR (pc := 1) (v := nI 0) (by decide) dX2_clear_1 ?_
  refine ga_putf hR (pc := 2) (ws' := [(a 0, .inr (2, [.ref (a 1), .ref (a 2), .ref (a 3), .int (nI 0)]))]) 0 rfl rfl hinX2 3 (by decide) f22 tyX2_ok nmX2 rfl rfl rfl (Nat.le_of_ble_eq_true rfl) rfl dX2_clear_2 ?_
  exact ga_vret hE dX2_clear_5 (ga_rv (nI 0) rfl h)

def rm_X2_push : Room := { frames := 0, cells := 0, slots := 0, locals := 0 }
theorem hd_X2_pushS : yX2_push.cls ≠ "java/lang/invoke/MethodHandle" ∧ yX2_push.cls ≠ "java/lang/invoke/VarHandle" ∧ (parseMethodDescriptor yX2_push.desc).map (fun d => d.parameters.length) = some 3 := by decide +kernel
theorem hd_X2_push : yX2_push.cls = RX2 ∧ yX2_push.cls ≠ "java/lang/invoke/MethodHandle" ∧ yX2_push.cls ≠ "java/lang/invoke/VarHandle" ∧ (parseMethodDescriptor yX2_push.desc).map (fun d => d.parameters.length) = some 3 := ⟨rfl, hd_X2_pushS⟩
set_option maxHeartbeats 4000000 in
set_option maxRecDepth 100000 in
theorem c_X2_push (V : ga_V) (a : Nat → Nat) (x_height : Int32) (x_firsts : Nat → Int32) (x_lasts : Nat → Int32) (x_lacking : Nat → Int32) (p1 : Int32) (p2 : Int32) (p3 : Int32) (K : Int32 → (Nat → Int32) → (Nat → Int32) → (Nat → Int32) → Prop) (h : wp_X2_push x_height x_firsts x_lasts x_lacking p1 p2 p3 K) : ga_C V yX2_push wsX2_push rm_X2_push [.ref (a 0), .int p1, .int p2, .int p3] [(a 0, .inr (2, [.ref (a 1), .ref (a 2), .ref (a 3), .int x_height])), (a 1, .inl (V.2 0, 16, .inl x_firsts)), (a 2, .inl (V.2 0, 16, .inl x_lasts)), (a 3, .inl (V.2 1, 16, .inl x_lacking))] 0 0 (ga_Fv (fun (u : Int32 × (Nat → Int32) × (Nat → Int32) × (Nat → Int32)) => [(a 0, .inr (2, [.ref (a 1), .ref (a 2), .ref (a 3), .int u.1])), (a 1, .inl (V.2 0, 16, .inl u.2.1)), (a 2, .inl (V.2 0, 16, .inl u.2.2.1)), (a 3, .inl (V.2 1, 16, .inl u.2.2.2))]) (fun u => K u.1 u.2.1 u.2.2.1 u.2.2.2)) := by
  refine ga_met (cc := cX2_push) (maxL := 4) (rt := none) (by decide) rfl [(0, .ref (a 0)), (1, .int p1), (2, .int p2), (3, .int p3)] rfl (Nat.le_of_ble_eq_true rfl) ?_
  intro G hR hE
  have hinX2 : ∀ w ∈ u_ws RX2 TX2 4, w ∈ wsX2_push := by decide +kernel
  have f22 : Cond.fieldLink RX2 22 "BoundaryRules$Parts" "height" "I" ∈ wsX2_push := by decide +kernel
  have f9 : Cond.fieldLink RX2 9 "BoundaryRules$Parts" "firsts" "[I" ∈ wsX2_push := by decide +kernel
  have f15 : Cond.fieldLink RX2 15 "BoundaryRules$Parts" "lasts" "[I" ∈ wsX2_push := by decide +kernel
  have f18 : Cond.fieldLink RX2 18 "BoundaryRules$Parts" "lacking" "[Z" ∈ wsX2_push := by decide +kernel
  unfold wp_X2_push at h
  refine ga_aload_n hR (pc := 0) 0 rfl rfl dX2_push_0 ?_
  refine ga_get hR (pc := 1) 0 rfl rfl hinX2 3 (by decide) f22 rfl dX2_push_1 ?_
  refine ga_bipush hR (pc := 4) (v := nI 16) (by decide) dX2_push_4 ?_
  refine ga_icmp_ge hR (pc := 6) 49 (by decide) dX2_push_6 (fun c6 => ?_) (fun c6 => ?_)
  · replace h := h.1 c6
    exact ga_vret hE dX2_push_49 (ga_rv (x_height, x_firsts, x_lasts, x_lacking) rfl h)
  · replace h := h.2 c6
    refine ga_aload_n hR (pc := 9) 0 rfl rfl dX2_push_9 ?_
    refine ga_get hR (pc := 10) 0 rfl rfl hinX2 0 (by decide) f9 rfl dX2_push_10 ?_
    refine ga_aload_n hR (pc := 13) 0 rfl rfl dX2_push_13 ?_
    refine ga_get hR (pc := 14) 0 rfl rfl hinX2 3 (by decide) f22 rfl dX2_push_14 ?_
    refine ga_iload_n hR (pc := 17) 1 rfl rfl dX2_push_17 ?_
    refine ga_iast hR (pc := 18) (ws' := [(a 0, .inr (2, [.ref (a 1), .ref (a 2), .ref (a 3), .int x_height])), (a 1, .inl (V.2 0, 16, .inl ((upd x_firsts x_height.toNatClampNeg p1)))), (a 2, .inl (V.2 0, 16, .inl x_lasts)), (a 3, .inl (V.2 1, 16, .inl x_lacking))]) 1 rfl h.1 rfl dX2_push_18 ?_
    replace h := h.2
    obtain ⟨x_firsts_1, ex_firsts_1⟩ : ∃ f : Nat → Int32, f = upd x_firsts x_height.toNatClampNeg p1 := ⟨_, rfl⟩
    refine ga_cast (ws' := [(a 0, .inr (2, [.ref (a 1), .ref (a 2), .ref (a 3), .int x_height])), (a 1, .inl (V.2 0, 16, .inl x_firsts_1)), (a 2, .inl (V.2 0, 16, .inl x_lasts)), (a 3, .inl (V.2 1, 16, .inl x_lacking))]) (by rw [ex_firsts_1]) rfl ?_
    replace h := h x_firsts_1 ex_firsts_1
    refine ga_aload_n hR (pc := 19) 0 rfl rfl dX2_push_19 ?_
    refine ga_get hR (pc := 20) 0 rfl rfl hinX2 1 (by decide) f15 rfl dX2_push_20 ?_
    refine ga_aload_n hR (pc := 23) 0 rfl rfl dX2_push_23 ?_
    refine ga_get hR (pc := 24) 0 rfl rfl hinX2 3 (by decide) f22 rfl dX2_push_24 ?_
    refine ga_iload_n hR (pc := 27) 2 rfl rfl dX2_push_27 ?_
    refine ga_iast hR (pc := 28) (ws' := [(a 0, .inr (2, [.ref (a 1), .ref (a 2), .ref (a 3), .int x_height])), (a 1, .inl (V.2 0, 16, .inl x_firsts_1)), (a 2, .inl (V.2 0, 16, .inl ((upd x_lasts x_height.toNatClampNeg p2)))), (a 3, .inl (V.2 1, 16, .inl x_lacking))]) 2 rfl h.1 rfl dX2_push_28 ?_
    replace h := h.2
    obtain ⟨x_lasts_2, ex_lasts_2⟩ : ∃ f : Nat → Int32, f = upd x_lasts x_height.toNatClampNeg p2 := ⟨_, rfl⟩
    refine ga_cast (ws' := [(a 0, .inr (2, [.ref (a 1), .ref (a 2), .ref (a 3), .int x_height])), (a 1, .inl (V.2 0, 16, .inl x_firsts_1)), (a 2, .inl (V.2 0, 16, .inl x_lasts_2)), (a 3, .inl (V.2 1, 16, .inl x_lacking))]) (by rw [ex_lasts_2]) rfl ?_
    replace h := h x_lasts_2 ex_lasts_2
    refine ga_aload_n hR (pc := 29) 0 rfl rfl dX2_push_29 ?_
    refine ga_get hR (pc := 30) 0 rfl rfl hinX2 2 (by decide) f18 rfl dX2_push_30 ?_
    refine ga_aload_n hR (pc := 33) 0 rfl rfl dX2_push_33 ?_
    refine ga_get hR (pc := 34) 0 rfl rfl hinX2 3 (by decide) f22 rfl dX2_push_34 ?_
    refine ga_iload_n hR (pc := 37) 3 rfl rfl dX2_push_37 ?_
    refine ga_zast hR (pc := 38) (ws' := [(a 0, .inr (2, [.ref (a 1), .ref (a 2), .ref (a 3), .int x_height])), (a 1, .inl (V.2 0, 16, .inl x_firsts_1)), (a 2, .inl (V.2 0, 16, .inl x_lasts_2)), (a 3, .inl (V.2 1, 16, .inl ((upd x_lacking x_height.toNatClampNeg (vp_nar .boolean p3)))))]) 3 rfl h.1 rfl dX2_push_38 ?_
    replace h := h.2
    obtain ⟨x_lacking_3, ex_lacking_3⟩ : ∃ f : Nat → Int32, f = upd x_lacking x_height.toNatClampNeg (vp_nar .boolean p3) := ⟨_, rfl⟩
    refine ga_cast (ws' := [(a 0, .inr (2, [.ref (a 1), .ref (a 2), .ref (a 3), .int x_height])), (a 1, .inl (V.2 0, 16, .inl x_firsts_1)), (a 2, .inl (V.2 0, 16, .inl x_lasts_2)), (a 3, .inl (V.2 1, 16, .inl x_lacking_3))]) (by rw [ex_lacking_3]) rfl ?_
    replace h := h x_lacking_3 ex_lacking_3
    refine ga_aload_n hR (pc := 39) 0 rfl rfl dX2_push_39 ?_
    refine ga_dup hR (pc := 40) rfl dX2_push_40 ?_
    refine ga_get hR (pc := 41) 0 rfl rfl hinX2 3 (by decide) f22 rfl dX2_push_41 ?_
    refine ga_iconst hR (pc := 44) (v := nI 1) (by decide) dX2_push_44 ?_
    refine ga_iadd hR (pc := 45) dX2_push_45 ?_
    refine ga_topi (fun x_height_4 ex_height_4 => ?_)
    replace h := h x_height_4 ex_height_4
    refine ga_putf hR (pc := 46) (ws' := [(a 0, .inr (2, [.ref (a 1), .ref (a 2), .ref (a 3), .int x_height_4])), (a 1, .inl (V.2 0, 16, .inl x_firsts_1)), (a 2, .inl (V.2 0, 16, .inl x_lasts_2)), (a 3, .inl (V.2 1, 16, .inl x_lacking_3))]) 0 rfl rfl hinX2 3 (by decide) f22 tyX2_ok nmX2 rfl rfl rfl (Nat.le_of_ble_eq_true rfl) rfl dX2_push_46 ?_
    exact ga_vret hE dX2_push_49 (ga_rv (x_height_4, x_firsts_1, x_lasts_2, x_lacking_3) rfl h)

def rm_X4_addPlace : Room := { frames := 1, cells := 0, slots := 0, locals := 23 }
theorem hd_X4_addPlaceS : yX4_addPlace.cls ≠ "java/lang/invoke/MethodHandle" ∧ yX4_addPlace.cls ≠ "java/lang/invoke/VarHandle" ∧ (parseMethodDescriptor yX4_addPlace.desc).map (fun d => d.parameters.length) = some 2 := by decide +kernel
theorem hd_X4_addPlace : yX4_addPlace.cls = RX4 ∧ yX4_addPlace.cls ≠ "java/lang/invoke/MethodHandle" ∧ yX4_addPlace.cls ≠ "java/lang/invoke/VarHandle" ∧ (parseMethodDescriptor yX4_addPlace.desc).map (fun d => d.parameters.length) = some 2 := ⟨rfl, hd_X4_addPlaceS⟩
set_option maxHeartbeats 4000000 in
set_option maxRecDepth 100000 in
theorem c_X4_addPlace (V : ga_V) (a : Nat → Nat) (x_number : Int32) (x_placeNumber : Int32) (x_taken : Nat → Int32) (x_behinds : Nat → Int32) (x_parts_height : Int32) (x_parts_firsts : Nat → Int32) (x_parts_lasts : Nat → Int32) (x_parts_lacking : Nat → Int32) (p1 : Int32) (p2 : Int32) (K : (Nat → Int32) → (Nat → Int32) → Int32 → (Nat → Int32) → (Nat → Int32) → (Nat → Int32) → Prop) (h : wp_X4_addPlace x_taken x_behinds x_parts_height x_parts_firsts x_parts_lasts x_parts_lacking p1 p2 K) : ga_C V yX4_addPlace wsX4_addPlace rm_X4_addPlace [.ref (a 0), .int p1, .int p2] [(a 0, .inr (4, [.ref (a 1), .ref (a 2), .ref (a 3), .ref (a 4), .ref (a 5), .ref (a 6), .int x_number, .int x_placeNumber])), (a 4, .inl (V.2 0, 10, .inl x_taken)), (a 5, .inl (V.2 0, 10, .inl x_behinds)), (a 6, .inr (2, [.ref (a 7), .ref (a 8), .ref (a 9), .int x_parts_height])), (a 7, .inl (V.2 0, 16, .inl x_parts_firsts)), (a 8, .inl (V.2 0, 16, .inl x_parts_lasts)), (a 9, .inl (V.2 1, 16, .inl x_parts_lacking))] 0 0 (ga_Fv (fun (u : (Nat → Int32) × (Nat → Int32) × Int32 × (Nat → Int32) × (Nat → Int32) × (Nat → Int32)) => [(a 0, .inr (4, [.ref (a 1), .ref (a 2), .ref (a 3), .ref (a 4), .ref (a 5), .ref (a 6), .int x_number, .int x_placeNumber])), (a 4, .inl (V.2 0, 10, .inl u.1)), (a 5, .inl (V.2 0, 10, .inl u.2.1)), (a 6, .inr (2, [.ref (a 7), .ref (a 8), .ref (a 9), .int u.2.2.1])), (a 7, .inl (V.2 0, 16, .inl u.2.2.2.1)), (a 8, .inl (V.2 0, 16, .inl u.2.2.2.2.1)), (a 9, .inl (V.2 1, 16, .inl u.2.2.2.2.2))]) (fun u => K u.1 u.2.1 u.2.2.1 u.2.2.2.1 u.2.2.2.2.1 u.2.2.2.2.2)) := by
  refine ga_met (cc := cX4_addPlace) (maxL := 3) (rt := none) (by decide) rfl [(0, .ref (a 0)), (1, .int p1), (2, .int p2)] rfl (Nat.le_of_ble_eq_true rfl) ?_
  intro G hR hE
  have hinX4 : ∀ w ∈ u_ws RX4 TX4 8, w ∈ wsX4_addPlace := by decide +kernel
  have f21 : Cond.fieldLink RX4 21 "BoundaryRules$Rules" "taken" "[I" ∈ wsX4_addPlace := by decide +kernel
  have f24 : Cond.fieldLink RX4 24 "BoundaryRules$Rules" "behinds" "[I" ∈ wsX4_addPlace := by decide +kernel
  have f30 : Cond.fieldLink RX4 30 "BoundaryRules$Rules" "parts" "LBoundaryRules$Parts;" ∈ wsX4_addPlace := by decide +kernel
  unfold wp_X4_addPlace at h
  refine ga_iload_n hR (pc := 0) 1 rfl rfl dX4_addPlace_0 ?_
  refine ga_if_lt hR (pc := 1) 38 (by decide) dX4_addPlace_1 (fun c1 => ?_) (fun c1 => ?_)
  · replace h := h.1 c1
    exact ga_vret hE dX4_addPlace_38 (ga_rv (x_taken, x_behinds, x_parts_height, x_parts_firsts, x_parts_lasts, x_parts_lacking) rfl h)
  · replace h := h.2 c1
    refine ga_iload_n hR (pc := 4) 1 rfl rfl dX4_addPlace_4 ?_
    refine ga_bipush hR (pc := 5) (v := nI 10) (by decide) dX4_addPlace_5 ?_
    refine ga_icmp_ge hR (pc := 7) 38 (by decide) dX4_addPlace_7 (fun c7 => ?_) (fun c7 => ?_)
    · replace h := h.1 c7
      exact ga_vret hE dX4_addPlace_38 (ga_rv (x_taken, x_behinds, x_parts_height, x_parts_firsts, x_parts_lasts, x_parts_lacking) rfl h)
    · replace h := h.2 c7
      refine ga_aload_n hR (pc := 10) 0 rfl rfl dX4_addPlace_10 ?_
      refine ga_get hR (pc := 11) 0 rfl rfl hinX4 3 (by decide) f21 rfl dX4_addPlace_11 ?_
      refine ga_iload_n hR (pc := 14) 1 rfl rfl dX4_addPlace_14 ?_
      refine ga_iload_n hR (pc := 15) 2 rfl rfl dX4_addPlace_15 ?_
      refine ga_iast hR (pc := 16) (ws' := [(a 0, .inr (4, [.ref (a 1), .ref (a 2), .ref (a 3), .ref (a 4), .ref (a 5), .ref (a 6), .int x_number, .int x_placeNumber])), (a 4, .inl (V.2 0, 10, .inl ((upd x_taken p1.toNatClampNeg p2)))), (a 5, .inl (V.2 0, 10, .inl x_behinds)), (a 6, .inr (2, [.ref (a 7), .ref (a 8), .ref (a 9), .int x_parts_height])), (a 7, .inl (V.2 0, 16, .inl x_parts_firsts)), (a 8, .inl (V.2 0, 16, .inl x_parts_lasts)), (a 9, .inl (V.2 1, 16, .inl x_parts_lacking))]) 1 rfl h.1 rfl dX4_addPlace_16 ?_
      replace h := h.2
      obtain ⟨x_taken_1, ex_taken_1⟩ : ∃ f : Nat → Int32, f = upd x_taken p1.toNatClampNeg p2 := ⟨_, rfl⟩
      refine ga_cast (ws' := [(a 0, .inr (4, [.ref (a 1), .ref (a 2), .ref (a 3), .ref (a 4), .ref (a 5), .ref (a 6), .int x_number, .int x_placeNumber])), (a 4, .inl (V.2 0, 10, .inl x_taken_1)), (a 5, .inl (V.2 0, 10, .inl x_behinds)), (a 6, .inr (2, [.ref (a 7), .ref (a 8), .ref (a 9), .int x_parts_height])), (a 7, .inl (V.2 0, 16, .inl x_parts_firsts)), (a 8, .inl (V.2 0, 16, .inl x_parts_lasts)), (a 9, .inl (V.2 1, 16, .inl x_parts_lacking))]) (by rw [ex_taken_1]) rfl ?_
      replace h := h x_taken_1 ex_taken_1
      refine ga_aload_n hR (pc := 17) 0 rfl rfl dX4_addPlace_17 ?_
      refine ga_get hR (pc := 18) 0 rfl rfl hinX4 4 (by decide) f24 rfl dX4_addPlace_18 ?_
      refine ga_iload_n hR (pc := 21) 1 rfl rfl dX4_addPlace_21 ?_
      refine ga_iconst hR (pc := 22) (v := nI 0) (by decide) dX4_addPlace_22 ?_
      refine ga_iast hR (pc := 23) (ws' := [(a 0, .inr (4, [.ref (a 1), .ref (a 2), .ref (a 3), .ref (a 4), .ref (a 5), .ref (a 6), .int x_number, .int x_placeNumber])), (a 4, .inl (V.2 0, 10, .inl x_taken_1)), (a 5, .inl (V.2 0, 10, .inl ((upd x_behinds p1.toNatClampNeg (nI 0))))), (a 6, .inr (2, [.ref (a 7), .ref (a 8), .ref (a 9), .int x_parts_height])), (a 7, .inl (V.2 0, 16, .inl x_parts_firsts)), (a 8, .inl (V.2 0, 16, .inl x_parts_lasts)), (a 9, .inl (V.2 1, 16, .inl x_parts_lacking))]) 2 rfl h.1 rfl dX4_addPlace_23 ?_
      replace h := h.2
      obtain ⟨x_behinds_2, ex_behinds_2⟩ : ∃ f : Nat → Int32, f = upd x_behinds p1.toNatClampNeg (nI 0) := ⟨_, rfl⟩
      refine ga_cast (ws' := [(a 0, .inr (4, [.ref (a 1), .ref (a 2), .ref (a 3), .ref (a 4), .ref (a 5), .ref (a 6), .int x_number, .int x_placeNumber])), (a 4, .inl (V.2 0, 10, .inl x_taken_1)), (a 5, .inl (V.2 0, 10, .inl x_behinds_2)), (a 6, .inr (2, [.ref (a 7), .ref (a 8), .ref (a 9), .int x_parts_height])), (a 7, .inl (V.2 0, 16, .inl x_parts_firsts)), (a 8, .inl (V.2 0, 16, .inl x_parts_lasts)), (a 9, .inl (V.2 1, 16, .inl x_parts_lacking))]) (by rw [ex_behinds_2]) rfl ?_
      replace h := h x_behinds_2 ex_behinds_2
      refine ga_aload_n hR (pc := 24) 0 rfl rfl dX4_addPlace_24 ?_
      refine ga_get hR (pc := 25) 0 rfl rfl hinX4 5 (by decide) f30 rfl dX4_addPlace_25 ?_
      refine ga_iconst hR (pc := 28) (v := nI 1) (by decide) dX4_addPlace_28 ?_
      refine ga_iload_n hR (pc := 29) 1 rfl rfl dX4_addPlace_29 ?_
      refine ga_ishl hR (pc := 30) dX4_addPlace_30 ?_
      refine ga_iconst hR (pc := 31) (v := nI 1) (by decide) dX4_addPlace_31 ?_
      refine ga_iload_n hR (pc := 32) 1 rfl rfl dX4_addPlace_32 ?_
      refine ga_ishl hR (pc := 33) dX4_addPlace_33 ?_
      refine ga_iconst hR (pc := 34) (v := nI 0) (by decide) dX4_addPlace_34 ?_
      refine ga_callV hR (pc := 35) (As := [.int ((nI 1) <<< (p1 &&& 31)), .int ((nI 1) <<< (p1 &&& 31)), .int (nI 0)]) (rest := []) (st0 := [.int (nI 0), .int ((nI 1) <<< (p1 &&& 31)), .int ((nI 1) <<< (p1 &&& 31)), .ref (a 6)]) (b := (a 6)) 3 (c_X2_push V (fun k => a (k + 6)) x_parts_height x_parts_firsts x_parts_lasts x_parts_lacking ((nI 1) <<< (p1 &&& 31)) ((nI 1) <<< (p1 &&& 31)) (nI 0) _ h) (ga_same_v fun _ => rfl) gX4_addPlace_X2_push rfl rfl rfl hd_X2_push ⟨Nat.le_of_ble_eq_true rfl, Nat.le_of_ble_eq_true rfl⟩ rfl rfl (Nat.le_of_ble_eq_true rfl) ⟨Nat.zero_le _, Nat.zero_le _⟩ [3, 4, 5, 6] rfl rfl 3 rfl rfl dX4_addPlace_35 ?_
      rintro _ _ ⟨⟨x_parts_height_3, x_parts_firsts_4, x_parts_lasts_5, x_parts_lacking_6⟩, rfl, rfl, h⟩
      refine ga_to [(a 0, .inr (4, [.ref (a 1), .ref (a 2), .ref (a 3), .ref (a 4), .ref (a 5), .ref (a 6), .int x_number, .int x_placeNumber])), (a 4, .inl (V.2 0, 10, .inl x_taken_1)), (a 5, .inl (V.2 0, 10, .inl x_behinds_2)), (a 6, .inr (2, [.ref (a 7), .ref (a 8), .ref (a 9), .int x_parts_height_3])), (a 7, .inl (V.2 0, 16, .inl x_parts_firsts_4)), (a 8, .inl (V.2 0, 16, .inl x_parts_lasts_5)), (a 9, .inl (V.2 1, 16, .inl x_parts_lacking_6))] [] rfl rfl ?_
      try dsimp only at h
      exact ga_vret hE dX4_addPlace_38 (ga_rv (x_taken_1, x_behinds_2, x_parts_height_3, x_parts_firsts_4, x_parts_lasts_5, x_parts_lacking_6) rfl h)

def rm_X2_first : Room := { frames := 0, cells := 0, slots := 0, locals := 0 }
theorem hd_X2_firstS : yX2_first.cls ≠ "java/lang/invoke/MethodHandle" ∧ yX2_first.cls ≠ "java/lang/invoke/VarHandle" ∧ (parseMethodDescriptor yX2_first.desc).map (fun d => d.parameters.length) = some 0 := by decide +kernel
theorem hd_X2_first : yX2_first.cls = RX2 ∧ yX2_first.cls ≠ "java/lang/invoke/MethodHandle" ∧ yX2_first.cls ≠ "java/lang/invoke/VarHandle" ∧ (parseMethodDescriptor yX2_first.desc).map (fun d => d.parameters.length) = some 0 := ⟨rfl, hd_X2_firstS⟩
set_option maxHeartbeats 4000000 in
set_option maxRecDepth 100000 in
theorem c_X2_first (V : ga_V) (a : Nat → Nat) (x_height : Int32) (x_firsts : Nat → Int32) (K : Int32 → Prop) (h : wp_X2_first x_height x_firsts K) : ga_C V yX2_first wsX2_first rm_X2_first [.ref (a 0)] [(a 0, .inr (2, [.ref (a 1), .ref (a 2), .ref (a 3), .int x_height])), (a 1, .inl (V.2 0, 16, .inl x_firsts))] 0 0 (ga_Fi (fun (u : Unit) => [(a 0, .inr (2, [.ref (a 1), .ref (a 2), .ref (a 3), .int x_height])), (a 1, .inl (V.2 0, 16, .inl x_firsts))]) (fun r u => K r)) := by
  refine ga_met (cc := cX2_first) (maxL := 1) (rt := (some .int)) (by decide) rfl [(0, .ref (a 0))] rfl (Nat.le_of_ble_eq_true rfl) ?_
  intro G hR hE
  have hinX2 : ∀ w ∈ u_ws RX2 TX2 4, w ∈ wsX2_first := by decide +kernel
  have f22 : Cond.fieldLink RX2 22 "BoundaryRules$Parts" "height" "I" ∈ wsX2_first := by decide +kernel
  have f9 : Cond.fieldLink RX2 9 "BoundaryRules$Parts" "firsts" "[I" ∈ wsX2_first := by decide +kernel
  unfold wp_X2_first at h
  refine ga_aload_n hR (pc := 0) 0 rfl rfl dX2_first_0 ?_
  refine ga_get hR (pc := 1) 0 rfl rfl hinX2 3 (by decide) f22 rfl dX2_first_1 ?_
  refine ga_if_le hR (pc := 4) 21 (by decide) dX2_first_4 (fun c4 => ?_) (fun c4 => ?_)
  · replace h := h.1 c4
    refine ga_iconst hR (pc := 21) (v := nI 0) (by decide) dX2_first_21 ?_
    exact ga_iret hE dX2_first_22 rfl (ga_ri () rfl h)
  · replace h := h.2 c4
    refine ga_aload_n hR (pc := 7) 0 rfl rfl dX2_first_7 ?_
    refine ga_get hR (pc := 8) 0 rfl rfl hinX2 0 (by decide) f9 rfl dX2_first_8 ?_
    refine ga_aload_n hR (pc := 11) 0 rfl rfl dX2_first_11 ?_
    refine ga_get hR (pc := 12) 0 rfl rfl hinX2 3 (by decide) f22 rfl dX2_first_12 ?_
    refine ga_iconst hR (pc := 15) (v := nI 1) (by decide) dX2_first_15 ?_
    refine ga_isub hR (pc := 16) dX2_first_16 ?_
    refine ga_iald hR (pc := 17) 1 rfl h.1 dX2_first_17 ?_
    replace h := h.2
    refine ga_goto hR (pc := 18) 22 (by decide) dX2_first_18 ?_
    exact ga_iret hE dX2_first_22 rfl (ga_ri () rfl h)

def rm_X2_last : Room := { frames := 0, cells := 0, slots := 0, locals := 0 }
theorem hd_X2_lastS : yX2_last.cls ≠ "java/lang/invoke/MethodHandle" ∧ yX2_last.cls ≠ "java/lang/invoke/VarHandle" ∧ (parseMethodDescriptor yX2_last.desc).map (fun d => d.parameters.length) = some 0 := by decide +kernel
theorem hd_X2_last : yX2_last.cls = RX2 ∧ yX2_last.cls ≠ "java/lang/invoke/MethodHandle" ∧ yX2_last.cls ≠ "java/lang/invoke/VarHandle" ∧ (parseMethodDescriptor yX2_last.desc).map (fun d => d.parameters.length) = some 0 := ⟨rfl, hd_X2_lastS⟩
set_option maxHeartbeats 4000000 in
set_option maxRecDepth 100000 in
theorem c_X2_last (V : ga_V) (a : Nat → Nat) (x_height : Int32) (x_lasts : Nat → Int32) (K : Int32 → Prop) (h : wp_X2_last x_height x_lasts K) : ga_C V yX2_last wsX2_last rm_X2_last [.ref (a 0)] [(a 0, .inr (2, [.ref (a 1), .ref (a 2), .ref (a 3), .int x_height])), (a 2, .inl (V.2 0, 16, .inl x_lasts))] 0 0 (ga_Fi (fun (u : Unit) => [(a 0, .inr (2, [.ref (a 1), .ref (a 2), .ref (a 3), .int x_height])), (a 2, .inl (V.2 0, 16, .inl x_lasts))]) (fun r u => K r)) := by
  refine ga_met (cc := cX2_last) (maxL := 1) (rt := (some .int)) (by decide) rfl [(0, .ref (a 0))] rfl (Nat.le_of_ble_eq_true rfl) ?_
  intro G hR hE
  have hinX2 : ∀ w ∈ u_ws RX2 TX2 4, w ∈ wsX2_last := by decide +kernel
  have f22 : Cond.fieldLink RX2 22 "BoundaryRules$Parts" "height" "I" ∈ wsX2_last := by decide +kernel
  have f15 : Cond.fieldLink RX2 15 "BoundaryRules$Parts" "lasts" "[I" ∈ wsX2_last := by decide +kernel
  unfold wp_X2_last at h
  refine ga_aload_n hR (pc := 0) 0 rfl rfl dX2_last_0 ?_
  refine ga_get hR (pc := 1) 0 rfl rfl hinX2 3 (by decide) f22 rfl dX2_last_1 ?_
  refine ga_if_le hR (pc := 4) 21 (by decide) dX2_last_4 (fun c4 => ?_) (fun c4 => ?_)
  · replace h := h.1 c4
    refine ga_iconst hR (pc := 21) (v := nI 0) (by decide) dX2_last_21 ?_
    exact ga_iret hE dX2_last_22 rfl (ga_ri () rfl h)
  · replace h := h.2 c4
    refine ga_aload_n hR (pc := 7) 0 rfl rfl dX2_last_7 ?_
    refine ga_get hR (pc := 8) 0 rfl rfl hinX2 1 (by decide) f15 rfl dX2_last_8 ?_
    refine ga_aload_n hR (pc := 11) 0 rfl rfl dX2_last_11 ?_
    refine ga_get hR (pc := 12) 0 rfl rfl hinX2 3 (by decide) f22 rfl dX2_last_12 ?_
    refine ga_iconst hR (pc := 15) (v := nI 1) (by decide) dX2_last_15 ?_
    refine ga_isub hR (pc := 16) dX2_last_16 ?_
    refine ga_iald hR (pc := 17) 1 rfl h.1 dX2_last_17 ?_
    replace h := h.2
    refine ga_goto hR (pc := 18) 22 (by decide) dX2_last_18 ?_
    exact ga_iret hE dX2_last_22 rfl (ga_ri () rfl h)

def rm_X2_mayLack : Room := { frames := 0, cells := 0, slots := 0, locals := 0 }
theorem hd_X2_mayLackS : yX2_mayLack.cls ≠ "java/lang/invoke/MethodHandle" ∧ yX2_mayLack.cls ≠ "java/lang/invoke/VarHandle" ∧ (parseMethodDescriptor yX2_mayLack.desc).map (fun d => d.parameters.length) = some 0 := by decide +kernel
theorem hd_X2_mayLack : yX2_mayLack.cls = RX2 ∧ yX2_mayLack.cls ≠ "java/lang/invoke/MethodHandle" ∧ yX2_mayLack.cls ≠ "java/lang/invoke/VarHandle" ∧ (parseMethodDescriptor yX2_mayLack.desc).map (fun d => d.parameters.length) = some 0 := ⟨rfl, hd_X2_mayLackS⟩
set_option maxHeartbeats 4000000 in
set_option maxRecDepth 100000 in
theorem c_X2_mayLack (V : ga_V) (a : Nat → Nat) (x_height : Int32) (x_lacking : Nat → Int32) (K : Int32 → Prop) (h : wp_X2_mayLack x_height x_lacking K) : ga_C V yX2_mayLack wsX2_mayLack rm_X2_mayLack [.ref (a 0)] [(a 0, .inr (2, [.ref (a 1), .ref (a 2), .ref (a 3), .int x_height])), (a 3, .inl (V.2 1, 16, .inl x_lacking))] 0 0 (ga_Fi (fun (u : Unit) => [(a 0, .inr (2, [.ref (a 1), .ref (a 2), .ref (a 3), .int x_height])), (a 3, .inl (V.2 1, 16, .inl x_lacking))]) (fun r u => K r)) := by
  refine ga_met (cc := cX2_mayLack) (maxL := 1) (rt := (some .boolean)) (by decide) rfl [(0, .ref (a 0))] rfl (Nat.le_of_ble_eq_true rfl) ?_
  intro G hR hE
  have hinX2 : ∀ w ∈ u_ws RX2 TX2 4, w ∈ wsX2_mayLack := by decide +kernel
  have f22 : Cond.fieldLink RX2 22 "BoundaryRules$Parts" "height" "I" ∈ wsX2_mayLack := by decide +kernel
  have f18 : Cond.fieldLink RX2 18 "BoundaryRules$Parts" "lacking" "[Z" ∈ wsX2_mayLack := by decide +kernel
  unfold wp_X2_mayLack at h
  refine ga_aload_n hR (pc := 0) 0 rfl rfl dX2_mayLack_0 ?_
  refine ga_get hR (pc := 1) 0 rfl rfl hinX2 3 (by decide) f22 rfl dX2_mayLack_1 ?_
  refine ga_if_le hR (pc := 4) 25 (by decide) dX2_mayLack_4 (fun c4 => ?_) (fun c4 => ?_)
  · replace h := h.1 c4
    refine ga_iconst hR (pc := 25) (v := nI 0) (by decide) dX2_mayLack_25 ?_
    exact ga_iret hE dX2_mayLack_26 (by decide) (ga_ri () rfl h)
  · replace h := h.2 c4
    refine ga_aload_n hR (pc := 7) 0 rfl rfl dX2_mayLack_7 ?_
    refine ga_get hR (pc := 8) 0 rfl rfl hinX2 2 (by decide) f18 rfl dX2_mayLack_8 ?_
    refine ga_aload_n hR (pc := 11) 0 rfl rfl dX2_mayLack_11 ?_
    refine ga_get hR (pc := 12) 0 rfl rfl hinX2 3 (by decide) f22 rfl dX2_mayLack_12 ?_
    refine ga_iconst hR (pc := 15) (v := nI 1) (by decide) dX2_mayLack_15 ?_
    refine ga_isub hR (pc := 16) dX2_mayLack_16 ?_
    refine ga_zald hR (pc := 17) 1 rfl h.1 dX2_mayLack_17 ?_
    replace h := h.2
    refine ga_if_eq hR (pc := 18) 25 (by decide) dX2_mayLack_18 (fun c18 => ?_) (fun c18 => ?_)
    · replace h := h.1 c18
      refine ga_iconst hR (pc := 25) (v := nI 0) (by decide) dX2_mayLack_25 ?_
      exact ga_iret hE dX2_mayLack_26 (by decide) (ga_ri () rfl h)
    · replace h := h.2 c18
      refine ga_iconst hR (pc := 21) (v := nI 1) (by decide) dX2_mayLack_21 ?_
      refine ga_goto hR (pc := 22) 26 (by decide) dX2_mayLack_22 ?_
      exact ga_iret hE dX2_mayLack_26 (by decide) (ga_ri () rfl h)

def rm_X2_pop : Room := { frames := 0, cells := 0, slots := 0, locals := 0 }
theorem hd_X2_popS : yX2_pop.cls ≠ "java/lang/invoke/MethodHandle" ∧ yX2_pop.cls ≠ "java/lang/invoke/VarHandle" ∧ (parseMethodDescriptor yX2_pop.desc).map (fun d => d.parameters.length) = some 0 := by decide +kernel
theorem hd_X2_pop : yX2_pop.cls = RX2 ∧ yX2_pop.cls ≠ "java/lang/invoke/MethodHandle" ∧ yX2_pop.cls ≠ "java/lang/invoke/VarHandle" ∧ (parseMethodDescriptor yX2_pop.desc).map (fun d => d.parameters.length) = some 0 := ⟨rfl, hd_X2_popS⟩
set_option maxHeartbeats 4000000 in
set_option maxRecDepth 100000 in
theorem c_X2_pop (V : ga_V) (a : Nat → Nat) (x_height : Int32) (K : Int32 → Prop) (h : wp_X2_pop x_height K) : ga_C V yX2_pop wsX2_pop rm_X2_pop [.ref (a 0)] [(a 0, .inr (2, [.ref (a 1), .ref (a 2), .ref (a 3), .int x_height]))] 0 0 (ga_Fv (fun (u : Int32) => [(a 0, .inr (2, [.ref (a 1), .ref (a 2), .ref (a 3), .int u]))]) (fun u => K u)) := by
  refine ga_met (cc := cX2_pop) (maxL := 1) (rt := none) (by decide) rfl [(0, .ref (a 0))] rfl (Nat.le_of_ble_eq_true rfl) ?_
  intro G hR hE
  have hinX2 : ∀ w ∈ u_ws RX2 TX2 4, w ∈ wsX2_pop := by decide +kernel
  have f22 : Cond.fieldLink RX2 22 "BoundaryRules$Parts" "height" "I" ∈ wsX2_pop := by decide +kernel
  unfold wp_X2_pop at h
  refine ga_aload_n hR (pc := 0) 0 rfl rfl dX2_pop_0 ?_
  refine ga_get hR (pc := 1) 0 rfl rfl hinX2 3 (by decide) f22 rfl dX2_pop_1 ?_
  refine ga_if_le hR (pc := 4) 17 (by decide) dX2_pop_4 (fun c4 => ?_) (fun c4 => ?_)
  · replace h := h.1 c4
    exact ga_vret hE dX2_pop_17 (ga_rv x_height rfl h)
  · replace h := h.2 c4
    refine ga_aload_n hR (pc := 7) 0 rfl rfl dX2_pop_7 ?_
    refine ga_dup hR (pc := 8) rfl dX2_pop_8 ?_
    refine ga_get hR (pc := 9) 0 rfl rfl hinX2 3 (by decide) f22 rfl dX2_pop_9 ?_
    refine ga_iconst hR (pc := 12) (v := nI 1) (by decide) dX2_pop_12 ?_
    refine ga_isub hR (pc := 13) dX2_pop_13 ?_
    refine ga_topi (fun x_height_1 ex_height_1 => ?_)
    replace h := h x_height_1 ex_height_1
    refine ga_putf hR (pc := 14) (ws' := [(a 0, .inr (2, [.ref (a 1), .ref (a 2), .ref (a 3), .int x_height_1]))]) 0 rfl rfl hinX2 3 (by decide) f22 tyX2_ok nmX2 rfl rfl rfl (Nat.le_of_ble_eq_true rfl) rfl dX2_pop_14 ?_
    exact ga_vret hE dX2_pop_17 (ga_rv x_height_1 rfl h)

def rm_X4_goOn : Room := { frames := 0, cells := 0, slots := 0, locals := 0 }
theorem hd_X4_goOnS : yX4_goOn.cls ≠ "java/lang/invoke/MethodHandle" ∧ yX4_goOn.cls ≠ "java/lang/invoke/VarHandle" ∧ (parseMethodDescriptor yX4_goOn.desc).map (fun d => d.parameters.length) = some 2 := by decide +kernel
theorem hd_X4_goOn : yX4_goOn.cls = RX4 ∧ yX4_goOn.cls ≠ "java/lang/invoke/MethodHandle" ∧ yX4_goOn.cls ≠ "java/lang/invoke/VarHandle" ∧ (parseMethodDescriptor yX4_goOn.desc).map (fun d => d.parameters.length) = some 2 := ⟨rfl, hd_X4_goOnS⟩
set_option maxHeartbeats 4000000 in
set_option maxRecDepth 100000 in
theorem c_X4_goOn (V : ga_V) (a : Nat → Nat) (x_number : Int32) (x_placeNumber : Int32) (x_behinds : Nat → Int32) (p1 : Int32) (p2 : Int32) (K : (Nat → Int32) → Prop) (h : wp_X4_goOn x_behinds p1 p2 K) : ga_C V yX4_goOn wsX4_goOn rm_X4_goOn [.ref (a 0), .int p1, .int p2] [(a 0, .inr (4, [.ref (a 1), .ref (a 2), .ref (a 3), .ref (a 4), .ref (a 5), .ref (a 6), .int x_number, .int x_placeNumber])), (a 5, .inl (V.2 0, 10, .inl x_behinds))] 0 0 (ga_Fv (fun (u : (Nat → Int32)) => [(a 0, .inr (4, [.ref (a 1), .ref (a 2), .ref (a 3), .ref (a 4), .ref (a 5), .ref (a 6), .int x_number, .int x_placeNumber])), (a 5, .inl (V.2 0, 10, .inl u))]) (fun u => K u)) := by
  refine ga_met (cc := cX4_goOn) (maxL := 4) (rt := none) (by decide) rfl [(0, .ref (a 0)), (1, .int p1), (2, .int p2)] rfl (Nat.le_of_ble_eq_true rfl) ?_
  intro G hR hE
  have hinX4 : ∀ w ∈ u_ws RX4 TX4 8, w ∈ wsX4_goOn := by decide +kernel
  have f24 : Cond.fieldLink RX4 24 "BoundaryRules$Rules" "behinds" "[I" ∈ wsX4_goOn := by decide +kernel
  unfold wp_X4_goOn at h
  refine ga_iconst hR (pc := 0) (v := nI 0) (by decide) dX4_goOn_0 ?_
  refine ga_istore_n hR (pc := 1) (lv' := [(3, .int (nI 0)), (0, .ref (a 0)), (1, .int p1), (2, .int p2)]) rfl (by decide) rfl dX4_goOn_1 ?_
  have hJ := h (fun (x_behinds_1 : Nat → Int32) => G 0 0 [(a 0, .inr (4, [.ref (a 1), .ref (a 2), .ref (a 3), .ref (a 4), .ref (a 5), .ref (a 6), .int x_number, .int x_placeNumber])), (a 5, .inl (V.2 0, 10, .inl x_behinds_1))] 32 [] [])
  refine ga_bind hJ ?_ ?_
  · intro x_behinds_1 h
    show G 0 0 [(a 0, .inr (4, [.ref (a 1), .ref (a 2), .ref (a 3), .ref (a 4), .ref (a 5), .ref (a 6), .int x_number, .int x_placeNumber])), (a 5, .inl (V.2 0, 10, .inl x_behinds_1))] 32 [] []
    exact ga_vret hE dX4_goOn_32 (ga_rv x_behinds_1 rfl h)
  · intro h
    obtain ⟨n, h⟩ := h
    have L2 : ∀ (n : Nat) (v3_7 : Int32) (x_behinds_8 : Nat → Int32), lp_X4_goOn_2 p1 p2 (fun (x_behinds_1 : Nat → Int32) => G 0 0 [(a 0, .inr (4, [.ref (a 1), .ref (a 2), .ref (a 3), .ref (a 4), .ref (a 5), .ref (a 6), .int x_number, .int x_placeNumber])), (a 5, .inl (V.2 0, 10, .inl x_behinds_1))] 32 [] []) n v3_7 x_behinds_8 → G 0 0 [(a 0, .inr (4, [.ref (a 1), .ref (a 2), .ref (a 3), .ref (a 4), .ref (a 5), .ref (a 6), .int x_number, .int x_placeNumber])), (a 5, .inl (V.2 0, 10, .inl x_behinds_8))] 2 [(0, .ref (a 0)), (1, .int p1), (2, .int p2), (3, .int v3_7)] [] := by
      intro n
      induction n with
      | zero => exact fun _ _ h => False.elim h
      | succ n ih =>
        intro v3_7 x_behinds_8 h
        rw [lp_X4_goOn_2] at h
        refine ga_iload_n hR (pc := 2) 3 rfl rfl dX4_goOn_2 ?_
        refine ga_bipush hR (pc := 3) (v := nI 10) (by decide) dX4_goOn_3 ?_
        refine ga_icmp_ge hR (pc := 5) 32 (by decide) dX4_goOn_5 (fun c5 => ?_) (fun c5 => ?_)
        · replace h := h.1 c5
          exact ga_lv hR [] rfl h
        · replace h := h.2 c5
          refine ga_iload_n hR (pc := 8) 1 rfl rfl dX4_goOn_8 ?_
          refine ga_iload_n hR (pc := 9) 3 rfl rfl dX4_goOn_9 ?_
          refine ga_ishr hR (pc := 10) dX4_goOn_10 ?_
          refine ga_iconst hR (pc := 11) (v := nI 1) (by decide) dX4_goOn_11 ?_
          refine ga_iand hR (pc := 12) dX4_goOn_12 ?_
          refine ga_if_eq hR (pc := 13) 26 (by decide) dX4_goOn_13 (fun c13 => ?_) (fun c13 => ?_)
          · replace h := h.1 c13
            obtain ⟨v3_9, ev3_9⟩ : ∃ v : Int32, v = v3_7 + (nI 1) := ⟨_, rfl⟩
            replace h := h v3_9 ev3_9
            refine ga_iinc hR (pc := 26) (lv' := [(3, .int v3_9), (0, .ref (a 0)), (1, .int p1), (2, .int p2)]) 3 (by decide) rfl ev3_9 (by decide) rfl dX4_goOn_26 ?_
            refine ga_goto hR (pc := 29) 2 (by decide) dX4_goOn_29 ?_
            exact ga_lv hR [1, 2, 3, 0] rfl (ih _ _ h)
          · replace h := h.2 c13
            refine ga_aload_n hR (pc := 16) 0 rfl rfl dX4_goOn_16 ?_
            refine ga_get hR (pc := 17) 0 rfl rfl hinX4 4 (by decide) f24 rfl dX4_goOn_17 ?_
            refine ga_iload_n hR (pc := 20) 3 rfl rfl dX4_goOn_20 ?_
            refine ga_dup2 hR (pc := 21) rfl rfl dX4_goOn_21 ?_
            refine ga_iald hR (pc := 22) 1 rfl h.1 dX4_goOn_22 ?_
            replace h := h.2
            refine ga_iload_n hR (pc := 23) 2 rfl rfl dX4_goOn_23 ?_
            refine ga_ior hR (pc := 24) dX4_goOn_24 ?_
            refine ga_topi (fun t_10 et_10 => ?_)
            replace h := h t_10 et_10
            refine ga_iast hR (pc := 25) (ws' := [(a 0, .inr (4, [.ref (a 1), .ref (a 2), .ref (a 3), .ref (a 4), .ref (a 5), .ref (a 6), .int x_number, .int x_placeNumber])), (a 5, .inl (V.2 0, 10, .inl ((upd x_behinds_8 v3_7.toNatClampNeg t_10))))]) 1 rfl h.1 rfl dX4_goOn_25 ?_
            replace h := h.2
            obtain ⟨x_behinds_11, ex_behinds_11⟩ : ∃ f : Nat → Int32, f = upd x_behinds_8 v3_7.toNatClampNeg t_10 := ⟨_, rfl⟩
            refine ga_cast (ws' := [(a 0, .inr (4, [.ref (a 1), .ref (a 2), .ref (a 3), .ref (a 4), .ref (a 5), .ref (a 6), .int x_number, .int x_placeNumber])), (a 5, .inl (V.2 0, 10, .inl x_behinds_11))]) (by rw [ex_behinds_11]) rfl ?_
            replace h := h x_behinds_11 ex_behinds_11
            obtain ⟨v3_12, ev3_12⟩ : ∃ v : Int32, v = v3_7 + (nI 1) := ⟨_, rfl⟩
            replace h := h v3_12 ev3_12
            refine ga_iinc hR (pc := 26) (lv' := [(3, .int v3_12), (0, .ref (a 0)), (1, .int p1), (2, .int p2)]) 3 (by decide) rfl ev3_12 (by decide) rfl dX4_goOn_26 ?_
            refine ga_goto hR (pc := 29) 2 (by decide) dX4_goOn_29 ?_
            exact ga_lv hR [1, 2, 3, 0] rfl (ih _ _ h)
    exact ga_lv hR [1, 2, 3, 0] rfl (L2 n _ _ h)

def rm_X4_joinOther : Room := { frames := 1, cells := 0, slots := 0, locals := 23 }
theorem hd_X4_joinOtherS : yX4_joinOther.cls ≠ "java/lang/invoke/MethodHandle" ∧ yX4_joinOther.cls ≠ "java/lang/invoke/VarHandle" ∧ (parseMethodDescriptor yX4_joinOther.desc).map (fun d => d.parameters.length) = some 3 := by decide +kernel
theorem hd_X4_joinOther : yX4_joinOther.cls = RX4 ∧ yX4_joinOther.cls ≠ "java/lang/invoke/MethodHandle" ∧ yX4_joinOther.cls ≠ "java/lang/invoke/VarHandle" ∧ (parseMethodDescriptor yX4_joinOther.desc).map (fun d => d.parameters.length) = some 3 := ⟨rfl, hd_X4_joinOtherS⟩
set_option maxHeartbeats 4000000 in
set_option maxRecDepth 100000 in
theorem c_X4_joinOther (V : ga_V) (a : Nat → Nat) (x_number : Int32) (x_placeNumber : Int32) (x_parts_height : Int32) (x_parts_firsts : Nat → Int32) (x_parts_lasts : Nat → Int32) (x_parts_lacking : Nat → Int32) (p1 : Int32) (p2 : Int32) (p3 : Int32) (K : Int32 → (Nat → Int32) → (Nat → Int32) → (Nat → Int32) → Prop) (h : wp_X4_joinOther x_parts_height x_parts_firsts x_parts_lasts x_parts_lacking p1 p2 p3 K) : ga_C V yX4_joinOther wsX4_joinOther rm_X4_joinOther [.ref (a 0), .int p1, .int p2, .int p3] [(a 0, .inr (4, [.ref (a 1), .ref (a 2), .ref (a 3), .ref (a 4), .ref (a 5), .ref (a 6), .int x_number, .int x_placeNumber])), (a 6, .inr (2, [.ref (a 7), .ref (a 8), .ref (a 9), .int x_parts_height])), (a 7, .inl (V.2 0, 16, .inl x_parts_firsts)), (a 8, .inl (V.2 0, 16, .inl x_parts_lasts)), (a 9, .inl (V.2 1, 16, .inl x_parts_lacking))] 0 0 (ga_Fv (fun (u : Int32 × (Nat → Int32) × (Nat → Int32) × (Nat → Int32)) => [(a 0, .inr (4, [.ref (a 1), .ref (a 2), .ref (a 3), .ref (a 4), .ref (a 5), .ref (a 6), .int x_number, .int x_placeNumber])), (a 6, .inr (2, [.ref (a 7), .ref (a 8), .ref (a 9), .int u.1])), (a 7, .inl (V.2 0, 16, .inl u.2.1)), (a 8, .inl (V.2 0, 16, .inl u.2.2.1)), (a 9, .inl (V.2 1, 16, .inl u.2.2.2))]) (fun u => K u.1 u.2.1 u.2.2.1 u.2.2.2)) := by
  refine ga_met (cc := cX4_joinOther) (maxL := 7) (rt := none) (by decide) rfl [(0, .ref (a 0)), (1, .int p1), (2, .int p2), (3, .int p3)] rfl (Nat.le_of_ble_eq_true rfl) ?_
  intro G hR hE
  have hinX4 : ∀ w ∈ u_ws RX4 TX4 8, w ∈ wsX4_joinOther := by decide +kernel
  have f30 : Cond.fieldLink RX4 30 "BoundaryRules$Rules" "parts" "LBoundaryRules$Parts;" ∈ wsX4_joinOther := by decide +kernel
  unfold wp_X4_joinOther at h
  refine ga_aload_n hR (pc := 0) 0 rfl rfl dX4_joinOther_0 ?_
  refine ga_get hR (pc := 1) 0 rfl rfl hinX4 5 (by decide) f30 rfl dX4_joinOther_1 ?_
  refine ga_callV hR (pc := 4) (As := []) (rest := []) (st0 := [.ref (a 6)]) (b := (a 6)) 0 (c_X2_first V (fun k => a (k + 6)) x_parts_height x_parts_firsts _ h) (ga_same_i fun _ => rfl) gX4_joinOther_X2_first rfl rfl rfl hd_X2_first ⟨Nat.le_of_ble_eq_true rfl, Nat.le_of_ble_eq_true rfl⟩ rfl rfl (Nat.le_of_ble_eq_true rfl) ⟨Nat.zero_le _, Nat.zero_le _⟩ [1, 2] rfl rfl 1 rfl rfl dX4_joinOther_4 ?_
  rintro _ _ ⟨r_1, ⟨⟩, rfl, rfl, h⟩
  refine ga_to [(a 0, .inr (4, [.ref (a 1), .ref (a 2), .ref (a 3), .ref (a 4), .ref (a 5), .ref (a 6), .int x_number, .int x_placeNumber])), (a 6, .inr (2, [.ref (a 7), .ref (a 8), .ref (a 9), .int x_parts_height])), (a 7, .inl (V.2 0, 16, .inl x_parts_firsts)), (a 8, .inl (V.2 0, 16, .inl x_parts_lasts)), (a 9, .inl (V.2 1, 16, .inl x_parts_lacking))] [.int r_1] rfl rfl ?_
  try dsimp only at h
  refine ga_istore hR (pc := 7) (lv' := [(4, .int r_1), (0, .ref (a 0)), (1, .int p1), (2, .int p2), (3, .int p3)]) (by decide) rfl dX4_joinOther_7 ?_
  refine ga_aload_n hR (pc := 9) 1 rfl rfl dX4_joinOther_9 ?_
  refine ga_get hR (pc := 10) 0 rfl rfl hinX4 5 (by decide) f30 rfl dX4_joinOther_10 ?_
  refine ga_callV hR (pc := 13) (As := []) (rest := []) (st0 := [.ref (a 6)]) (b := (a 6)) 0 (c_X2_last V (fun k => a (k + 6)) x_parts_height x_parts_lasts _ h) (ga_same_i fun _ => rfl) gX4_joinOther_X2_last rfl rfl rfl hd_X2_last ⟨Nat.le_of_ble_eq_true rfl, Nat.le_of_ble_eq_true rfl⟩ rfl rfl (Nat.le_of_ble_eq_true rfl) ⟨Nat.zero_le _, Nat.zero_le _⟩ [1, 3] rfl rfl 1 rfl rfl dX4_joinOther_13 ?_
  rintro _ _ ⟨r_2, ⟨⟩, rfl, rfl, h⟩
  refine ga_to [(a 0, .inr (4, [.ref (a 1), .ref (a 2), .ref (a 3), .ref (a 4), .ref (a 5), .ref (a 6), .int x_number, .int x_placeNumber])), (a 6, .inr (2, [.ref (a 7), .ref (a 8), .ref (a 9), .int x_parts_height])), (a 7, .inl (V.2 0, 16, .inl x_parts_firsts)), (a 8, .inl (V.2 0, 16, .inl x_parts_lasts)), (a 9, .inl (V.2 1, 16, .inl x_parts_lacking))] [.int r_2] rfl rfl ?_
  try dsimp only at h
  refine ga_istore hR (pc := 16) (lv' := [(5, .int r_2), (4, .int r_1), (0, .ref (a 0)), (1, .int p1), (2, .int p2), (3, .int p3)]) (by decide) rfl dX4_joinOther_16 ?_
  refine ga_aload_n hR (pc := 18) 2 rfl rfl dX4_joinOther_18 ?_
  refine ga_get hR (pc := 19) 0 rfl rfl hinX4 5 (by decide) f30 rfl dX4_joinOther_19 ?_
  refine ga_callV hR (pc := 22) (As := []) (rest := []) (st0 := [.ref (a 6)]) (b := (a 6)) 0 (c_X2_mayLack V (fun k => a (k + 6)) x_parts_height x_parts_lacking _ h) (ga_same_i fun _ => rfl) gX4_joinOther_X2_mayLack rfl rfl rfl hd_X2_mayLack ⟨Nat.le_of_ble_eq_true rfl, Nat.le_of_ble_eq_true rfl⟩ rfl rfl (Nat.le_of_ble_eq_true rfl) ⟨Nat.zero_le _, Nat.zero_le _⟩ [1, 4] rfl rfl 1 rfl rfl dX4_joinOther_22 ?_
  rintro _ _ ⟨r_3, ⟨⟩, rfl, rfl, h⟩
  refine ga_to [(a 0, .inr (4, [.ref (a 1), .ref (a 2), .ref (a 3), .ref (a 4), .ref (a 5), .ref (a 6), .int x_number, .int x_placeNumber])), (a 6, .inr (2, [.ref (a 7), .ref (a 8), .ref (a 9), .int x_parts_height])), (a 7, .inl (V.2 0, 16, .inl x_parts_firsts)), (a 8, .inl (V.2 0, 16, .inl x_parts_lasts)), (a 9, .inl (V.2 1, 16, .inl x_parts_lacking))] [.int r_3] rfl rfl ?_
  try dsimp only at h
  refine ga_istore hR (pc := 25) (lv' := [(6, .int r_3), (5, .int r_2), (4, .int r_1), (0, .ref (a 0)), (1, .int p1), (2, .int p2), (3, .int p3)]) (by decide) rfl dX4_joinOther_25 ?_
  refine ga_aload_n hR (pc := 27) 3 rfl rfl dX4_joinOther_27 ?_
  refine ga_get hR (pc := 28) 0 rfl rfl hinX4 5 (by decide) f30 rfl dX4_joinOther_28 ?_
  refine ga_callV hR (pc := 31) (As := []) (rest := []) (st0 := [.ref (a 6)]) (b := (a 6)) 0 (c_X2_pop V (fun k => a (k + 6)) x_parts_height _ h) (ga_same_v fun _ => rfl) gX4_joinOther_X2_pop rfl rfl rfl hd_X2_pop ⟨Nat.le_of_ble_eq_true rfl, Nat.le_of_ble_eq_true rfl⟩ rfl rfl (Nat.le_of_ble_eq_true rfl) ⟨Nat.zero_le _, Nat.zero_le _⟩ [1] rfl rfl 1 rfl rfl dX4_joinOther_31 ?_
  rintro _ _ ⟨x_parts_height_4, rfl, rfl, h⟩
  refine ga_to [(a 0, .inr (4, [.ref (a 1), .ref (a 2), .ref (a 3), .ref (a 4), .ref (a 5), .ref (a 6), .int x_number, .int x_placeNumber])), (a 6, .inr (2, [.ref (a 7), .ref (a 8), .ref (a 9), .int x_parts_height_4])), (a 7, .inl (V.2 0, 16, .inl x_parts_firsts)), (a 8, .inl (V.2 0, 16, .inl x_parts_lasts)), (a 9, .inl (V.2 1, 16, .inl x_parts_lacking))] [] rfl rfl ?_
  try dsimp only at h
  refine ga_aload_n hR (pc := 34) 3 rfl rfl dX4_joinOther_34 ?_
  refine ga_get hR (pc := 35) 0 rfl rfl hinX4 5 (by decide) f30 rfl dX4_joinOther_35 ?_
  refine ga_iload_n hR (pc := 38) 4 rfl rfl dX4_joinOther_38 ?_
  refine ga_iload hR (pc := 39) 2 rfl dX4_joinOther_39 ?_
  refine ga_ior hR (pc := 41) dX4_joinOther_41 ?_
  refine ga_iload_n hR (pc := 42) 5 rfl rfl dX4_joinOther_42 ?_
  refine ga_iload hR (pc := 43) 1 rfl dX4_joinOther_43 ?_
  refine ga_ior hR (pc := 45) dX4_joinOther_45 ?_
  refine ga_iload_n hR (pc := 46) 6 rfl rfl dX4_joinOther_46 ?_
  have hJ := h (fun (s3_5 : Int32) => G 0 0 [(a 0, .inr (4, [.ref (a 1), .ref (a 2), .ref (a 3), .ref (a 4), .ref (a 5), .ref (a 6), .int x_number, .int x_placeNumber])), (a 6, .inr (2, [.ref (a 7), .ref (a 8), .ref (a 9), .int x_parts_height_4])), (a 7, .inl (V.2 0, 16, .inl x_parts_firsts)), (a 8, .inl (V.2 0, 16, .inl x_parts_lasts)), (a 9, .inl (V.2 1, 16, .inl x_parts_lacking))] 60 [] [.int s3_5, .int (p2 ||| r_2), .int (p1 ||| r_1), .ref (a 6)])
  refine ga_bind hJ ?_ ?_
  · intro s3_5 h
    show G 0 0 [(a 0, .inr (4, [.ref (a 1), .ref (a 2), .ref (a 3), .ref (a 4), .ref (a 5), .ref (a 6), .int x_number, .int x_placeNumber])), (a 6, .inr (2, [.ref (a 7), .ref (a 8), .ref (a 9), .int x_parts_height_4])), (a 7, .inl (V.2 0, 16, .inl x_parts_firsts)), (a 8, .inl (V.2 0, 16, .inl x_parts_lasts)), (a 9, .inl (V.2 1, 16, .inl x_parts_lacking))] 60 [] [.int s3_5, .int (p2 ||| r_2), .int (p1 ||| r_1), .ref (a 6)]
    refine ga_callV hR (pc := 60) (As := [.int (p1 ||| r_1), .int (p2 ||| r_2), .int s3_5]) (rest := []) (st0 := [.int s3_5, .int (p2 ||| r_2), .int (p1 ||| r_1), .ref (a 6)]) (b := (a 6)) 3 (c_X2_push V (fun k => a (k + 6)) x_parts_height_4 x_parts_firsts x_parts_lasts x_parts_lacking (p1 ||| r_1) (p2 ||| r_2) s3_5 _ h) (ga_same_v fun _ => rfl) gX4_joinOther_X2_push rfl rfl rfl hd_X2_push ⟨Nat.le_of_ble_eq_true rfl, Nat.le_of_ble_eq_true rfl⟩ rfl rfl (Nat.le_of_ble_eq_true rfl) ⟨Nat.zero_le _, Nat.zero_le _⟩ [1, 2, 3, 4] rfl rfl 1 rfl rfl dX4_joinOther_60 ?_
    rintro _ _ ⟨⟨x_parts_height_7, x_parts_firsts_8, x_parts_lasts_9, x_parts_lacking_10⟩, rfl, rfl, h⟩
    refine ga_to [(a 0, .inr (4, [.ref (a 1), .ref (a 2), .ref (a 3), .ref (a 4), .ref (a 5), .ref (a 6), .int x_number, .int x_placeNumber])), (a 6, .inr (2, [.ref (a 7), .ref (a 8), .ref (a 9), .int x_parts_height_7])), (a 7, .inl (V.2 0, 16, .inl x_parts_firsts_8)), (a 8, .inl (V.2 0, 16, .inl x_parts_lasts_9)), (a 9, .inl (V.2 1, 16, .inl x_parts_lacking_10))] [] rfl rfl ?_
    try dsimp only at h
    exact ga_vret hE dX4_joinOther_63 (ga_rv (x_parts_height_7, x_parts_firsts_8, x_parts_lasts_9, x_parts_lacking_10) rfl h)
  · intro h
    have hJ := h (G 0 0 [(a 0, .inr (4, [.ref (a 1), .ref (a 2), .ref (a 3), .ref (a 4), .ref (a 5), .ref (a 6), .int x_number, .int x_placeNumber])), (a 6, .inr (2, [.ref (a 7), .ref (a 8), .ref (a 9), .int x_parts_height_4])), (a 7, .inl (V.2 0, 16, .inl x_parts_firsts)), (a 8, .inl (V.2 0, 16, .inl x_parts_lasts)), (a 9, .inl (V.2 1, 16, .inl x_parts_lacking))] 55 [] [.int (p2 ||| r_2), .int (p1 ||| r_1), .ref (a 6)])
    refine ga_bind hJ ?_ ?_
    · intro h
      show G 0 0 [(a 0, .inr (4, [.ref (a 1), .ref (a 2), .ref (a 3), .ref (a 4), .ref (a 5), .ref (a 6), .int x_number, .int x_placeNumber])), (a 6, .inr (2, [.ref (a 7), .ref (a 8), .ref (a 9), .int x_parts_height_4])), (a 7, .inl (V.2 0, 16, .inl x_parts_firsts)), (a 8, .inl (V.2 0, 16, .inl x_parts_lasts)), (a 9, .inl (V.2 1, 16, .inl x_parts_lacking))] 55 [] [.int (p2 ||| r_2), .int (p1 ||| r_1), .ref (a 6)]
      refine ga_iconst hR (pc := 55) (v := nI 1) (by decide) dX4_joinOther_55 ?_
      refine ga_goto hR (pc := 56) 60 (by decide) dX4_joinOther_56 ?_
      exact ga_lv hR [] rfl h
    · intro h
      refine ga_if_ne hR (pc := 47) 55 (by decide) dX4_joinOther_47 (fun c47 => ?_) (fun c47 => ?_)
      · replace h := h.1 c47
        exact ga_lv hR [] rfl h
      · replace h := h.2 c47
        refine ga_iload hR (pc := 50) 0 rfl dX4_joinOther_50 ?_
        refine ga_if_eq hR (pc := 52) 59 (by decide) dX4_joinOther_52 (fun c52 => ?_) (fun c52 => ?_)
        · replace h := h.1 c52
          refine ga_iconst hR (pc := 59) (v := nI 0) (by decide) dX4_joinOther_59 ?_
          exact ga_lv hR [] rfl h
        · replace h := h.2 c52
          exact ga_lv hR [] rfl h

def rm_X4_joinNext : Room := { frames := 1, cells := 0, slots := 0, locals := 23 }
theorem hd_X4_joinNextS : yX4_joinNext.cls ≠ "java/lang/invoke/MethodHandle" ∧ yX4_joinNext.cls ≠ "java/lang/invoke/VarHandle" ∧ (parseMethodDescriptor yX4_joinNext.desc).map (fun d => d.parameters.length) = some 3 := by decide +kernel
theorem hd_X4_joinNext : yX4_joinNext.cls = RX4 ∧ yX4_joinNext.cls ≠ "java/lang/invoke/MethodHandle" ∧ yX4_joinNext.cls ≠ "java/lang/invoke/VarHandle" ∧ (parseMethodDescriptor yX4_joinNext.desc).map (fun d => d.parameters.length) = some 3 := ⟨rfl, hd_X4_joinNextS⟩
set_option maxHeartbeats 4000000 in
set_option maxRecDepth 100000 in
theorem c_X4_joinNext (V : ga_V) (a : Nat → Nat) (x_number : Int32) (x_placeNumber : Int32) (x_behinds : Nat → Int32) (x_parts_height : Int32) (x_parts_firsts : Nat → Int32) (x_parts_lasts : Nat → Int32) (x_parts_lacking : Nat → Int32) (p1 : Int32) (p2 : Int32) (p3 : Int32) (K : (Nat → Int32) → Int32 → (Nat → Int32) → (Nat → Int32) → (Nat → Int32) → Prop) (h : wp_X4_joinNext x_behinds x_parts_height x_parts_firsts x_parts_lasts x_parts_lacking p1 p2 p3 K) : ga_C V yX4_joinNext wsX4_joinNext rm_X4_joinNext [.ref (a 0), .int p1, .int p2, .int p3] [(a 0, .inr (4, [.ref (a 1), .ref (a 2), .ref (a 3), .ref (a 4), .ref (a 5), .ref (a 6), .int x_number, .int x_placeNumber])), (a 5, .inl (V.2 0, 10, .inl x_behinds)), (a 6, .inr (2, [.ref (a 7), .ref (a 8), .ref (a 9), .int x_parts_height])), (a 7, .inl (V.2 0, 16, .inl x_parts_firsts)), (a 8, .inl (V.2 0, 16, .inl x_parts_lasts)), (a 9, .inl (V.2 1, 16, .inl x_parts_lacking))] 0 0 (ga_Fv (fun (u : (Nat → Int32) × Int32 × (Nat → Int32) × (Nat → Int32) × (Nat → Int32)) => [(a 0, .inr (4, [.ref (a 1), .ref (a 2), .ref (a 3), .ref (a 4), .ref (a 5), .ref (a 6), .int x_number, .int x_placeNumber])), (a 5, .inl (V.2 0, 10, .inl u.1)), (a 6, .inr (2, [.ref (a 7), .ref (a 8), .ref (a 9), .int u.2.1])), (a 7, .inl (V.2 0, 16, .inl u.2.2.1)), (a 8, .inl (V.2 0, 16, .inl u.2.2.2.1)), (a 9, .inl (V.2 1, 16, .inl u.2.2.2.2))]) (fun u => K u.1 u.2.1 u.2.2.1 u.2.2.2.1 u.2.2.2.2)) := by
  refine ga_met (cc := cX4_joinNext) (maxL := 7) (rt := none) (by decide) rfl [(0, .ref (a 0)), (1, .int p1), (2, .int p2), (3, .int p3)] rfl (Nat.le_of_ble_eq_true rfl) ?_
  intro G hR hE
  have hinX4 : ∀ w ∈ u_ws RX4 TX4 8, w ∈ wsX4_joinNext := by decide +kernel
  have f30 : Cond.fieldLink RX4 30 "BoundaryRules$Rules" "parts" "LBoundaryRules$Parts;" ∈ wsX4_joinNext := by decide +kernel
  unfold wp_X4_joinNext at h
  refine ga_aload_n hR (pc := 0) 0 rfl rfl dX4_joinNext_0 ?_
  refine ga_get hR (pc := 1) 0 rfl rfl hinX4 5 (by decide) f30 rfl dX4_joinNext_1 ?_
  refine ga_callV hR (pc := 4) (As := []) (rest := []) (st0 := [.ref (a 6)]) (b := (a 6)) 0 (c_X2_first V (fun k => a (k + 6)) x_parts_height x_parts_firsts _ h) (ga_same_i fun _ => rfl) gX4_joinNext_X2_first rfl rfl rfl hd_X2_first ⟨Nat.le_of_ble_eq_true rfl, Nat.le_of_ble_eq_true rfl⟩ rfl rfl (Nat.le_of_ble_eq_true rfl) ⟨Nat.zero_le _, Nat.zero_le _⟩ [2, 3] rfl rfl 2 rfl rfl dX4_joinNext_4 ?_
  rintro _ _ ⟨r_1, ⟨⟩, rfl, rfl, h⟩
  refine ga_to [(a 0, .inr (4, [.ref (a 1), .ref (a 2), .ref (a 3), .ref (a 4), .ref (a 5), .ref (a 6), .int x_number, .int x_placeNumber])), (a 5, .inl (V.2 0, 10, .inl x_behinds)), (a 6, .inr (2, [.ref (a 7), .ref (a 8), .ref (a 9), .int x_parts_height])), (a 7, .inl (V.2 0, 16, .inl x_parts_firsts)), (a 8, .inl (V.2 0, 16, .inl x_parts_lasts)), (a 9, .inl (V.2 1, 16, .inl x_parts_lacking))] [.int r_1] rfl rfl ?_
  try dsimp only at h
  refine ga_istore hR (pc := 7) (lv' := [(4, .int r_1), (0, .ref (a 0)), (1, .int p1), (2, .int p2), (3, .int p3)]) (by decide) rfl dX4_joinNext_7 ?_
  refine ga_aload_n hR (pc := 9) 1 rfl rfl dX4_joinNext_9 ?_
  refine ga_get hR (pc := 10) 0 rfl rfl hinX4 5 (by decide) f30 rfl dX4_joinNext_10 ?_
  refine ga_callV hR (pc := 13) (As := []) (rest := []) (st0 := [.ref (a 6)]) (b := (a 6)) 0 (c_X2_last V (fun k => a (k + 6)) x_parts_height x_parts_lasts _ h) (ga_same_i fun _ => rfl) gX4_joinNext_X2_last rfl rfl rfl hd_X2_last ⟨Nat.le_of_ble_eq_true rfl, Nat.le_of_ble_eq_true rfl⟩ rfl rfl (Nat.le_of_ble_eq_true rfl) ⟨Nat.zero_le _, Nat.zero_le _⟩ [2, 4] rfl rfl 2 rfl rfl dX4_joinNext_13 ?_
  rintro _ _ ⟨r_2, ⟨⟩, rfl, rfl, h⟩
  refine ga_to [(a 0, .inr (4, [.ref (a 1), .ref (a 2), .ref (a 3), .ref (a 4), .ref (a 5), .ref (a 6), .int x_number, .int x_placeNumber])), (a 5, .inl (V.2 0, 10, .inl x_behinds)), (a 6, .inr (2, [.ref (a 7), .ref (a 8), .ref (a 9), .int x_parts_height])), (a 7, .inl (V.2 0, 16, .inl x_parts_firsts)), (a 8, .inl (V.2 0, 16, .inl x_parts_lasts)), (a 9, .inl (V.2 1, 16, .inl x_parts_lacking))] [.int r_2] rfl rfl ?_
  try dsimp only at h
  refine ga_istore hR (pc := 16) (lv' := [(5, .int r_2), (4, .int r_1), (0, .ref (a 0)), (1, .int p1), (2, .int p2), (3, .int p3)]) (by decide) rfl dX4_joinNext_16 ?_
  refine ga_aload_n hR (pc := 18) 2 rfl rfl dX4_joinNext_18 ?_
  refine ga_get hR (pc := 19) 0 rfl rfl hinX4 5 (by decide) f30 rfl dX4_joinNext_19 ?_
  refine ga_callV hR (pc := 22) (As := []) (rest := []) (st0 := [.ref (a 6)]) (b := (a 6)) 0 (c_X2_mayLack V (fun k => a (k + 6)) x_parts_height x_parts_lacking _ h) (ga_same_i fun _ => rfl) gX4_joinNext_X2_mayLack rfl rfl rfl hd_X2_mayLack ⟨Nat.le_of_ble_eq_true rfl, Nat.le_of_ble_eq_true rfl⟩ rfl rfl (Nat.le_of_ble_eq_true rfl) ⟨Nat.zero_le _, Nat.zero_le _⟩ [2, 5] rfl rfl 2 rfl rfl dX4_joinNext_22 ?_
  rintro _ _ ⟨r_3, ⟨⟩, rfl, rfl, h⟩
  refine ga_to [(a 0, .inr (4, [.ref (a 1), .ref (a 2), .ref (a 3), .ref (a 4), .ref (a 5), .ref (a 6), .int x_number, .int x_placeNumber])), (a 5, .inl (V.2 0, 10, .inl x_behinds)), (a 6, .inr (2, [.ref (a 7), .ref (a 8), .ref (a 9), .int x_parts_height])), (a 7, .inl (V.2 0, 16, .inl x_parts_firsts)), (a 8, .inl (V.2 0, 16, .inl x_parts_lasts)), (a 9, .inl (V.2 1, 16, .inl x_parts_lacking))] [.int r_3] rfl rfl ?_
  try dsimp only at h
  refine ga_istore hR (pc := 25) (lv' := [(6, .int r_3), (5, .int r_2), (4, .int r_1), (0, .ref (a 0)), (1, .int p1), (2, .int p2), (3, .int p3)]) (by decide) rfl dX4_joinNext_25 ?_
  refine ga_aload_n hR (pc := 27) 3 rfl rfl dX4_joinNext_27 ?_
  refine ga_get hR (pc := 28) 0 rfl rfl hinX4 5 (by decide) f30 rfl dX4_joinNext_28 ?_
  refine ga_callV hR (pc := 31) (As := []) (rest := []) (st0 := [.ref (a 6)]) (b := (a 6)) 0 (c_X2_pop V (fun k => a (k + 6)) x_parts_height _ h) (ga_same_v fun _ => rfl) gX4_joinNext_X2_pop rfl rfl rfl hd_X2_pop ⟨Nat.le_of_ble_eq_true rfl, Nat.le_of_ble_eq_true rfl⟩ rfl rfl (Nat.le_of_ble_eq_true rfl) ⟨Nat.zero_le _, Nat.zero_le _⟩ [2] rfl rfl 2 rfl rfl dX4_joinNext_31 ?_
  rintro _ _ ⟨x_parts_height_4, rfl, rfl, h⟩
  refine ga_to [(a 0, .inr (4, [.ref (a 1), .ref (a 2), .ref (a 3), .ref (a 4), .ref (a 5), .ref (a 6), .int x_number, .int x_placeNumber])), (a 5, .inl (V.2 0, 10, .inl x_behinds)), (a 6, .inr (2, [.ref (a 7), .ref (a 8), .ref (a 9), .int x_parts_height_4])), (a 7, .inl (V.2 0, 16, .inl x_parts_firsts)), (a 8, .inl (V.2 0, 16, .inl x_parts_lasts)), (a 9, .inl (V.2 1, 16, .inl x_parts_lacking))] [] rfl rfl ?_
  try dsimp only at h
  refine ga_aload_n hR (pc := 34) 3 rfl rfl dX4_joinNext_34 ?_
  refine ga_iload_n hR (pc := 35) 5 rfl rfl dX4_joinNext_35 ?_
  refine ga_iload hR (pc := 36) 2 rfl dX4_joinNext_36 ?_
  refine ga_callV hR (pc := 38) (As := [.int p2, .int r_1]) (rest := []) (st0 := [.int r_1, .int p2, .ref (a 0)]) (b := (a 0)) 2 (c_X4_goOn V a x_number x_placeNumber x_behinds p2 r_1 _ h) (ga_same_v fun _ => rfl) gX4_joinNext_X4_goOn rfl rfl rfl hd_X4_goOn ⟨Nat.le_of_ble_eq_true rfl, Nat.le_of_ble_eq_true rfl⟩ rfl rfl (Nat.le_of_ble_eq_true rfl) ⟨Nat.zero_le _, Nat.zero_le _⟩ [0, 1] rfl rfl 0 rfl rfl dX4_joinNext_38 ?_
  rintro _ _ ⟨x_behinds_5, rfl, rfl, h⟩
  refine ga_to [(a 0, .inr (4, [.ref (a 1), .ref (a 2), .ref (a 3), .ref (a 4), .ref (a 5), .ref (a 6), .int x_number, .int x_placeNumber])), (a 5, .inl (V.2 0, 10, .inl x_behinds_5)), (a 6, .inr (2, [.ref (a 7), .ref (a 8), .ref (a 9), .int x_parts_height_4])), (a 7, .inl (V.2 0, 16, .inl x_parts_firsts)), (a 8, .inl (V.2 0, 16, .inl x_parts_lasts)), (a 9, .inl (V.2 1, 16, .inl x_parts_lacking))] [] rfl rfl ?_
  try dsimp only at h
  refine ga_aload_n hR (pc := 41) 3 rfl rfl dX4_joinNext_41 ?_
  refine ga_get hR (pc := 42) 0 rfl rfl hinX4 5 (by decide) f30 rfl dX4_joinNext_42 ?_
  refine ga_iload_n hR (pc := 45) 6 rfl rfl dX4_joinNext_45 ?_
  have hJ := h (fun (s1_6 : Int32) => G 0 0 [(a 0, .inr (4, [.ref (a 1), .ref (a 2), .ref (a 3), .ref (a 4), .ref (a 5), .ref (a 6), .int x_number, .int x_placeNumber])), (a 5, .inl (V.2 0, 10, .inl x_behinds_5)), (a 6, .inr (2, [.ref (a 7), .ref (a 8), .ref (a 9), .int x_parts_height_4])), (a 7, .inl (V.2 0, 16, .inl x_parts_firsts)), (a 8, .inl (V.2 0, 16, .inl x_parts_lasts)), (a 9, .inl (V.2 1, 16, .inl x_parts_lacking))] 57 [(2, .int p2), (3, .int p3), (5, .int r_2), (6, .int r_3)] [.int s1_6, .ref (a 6)])
  refine ga_bind hJ ?_ ?_
  · intro s1_6 h
    show G 0 0 [(a 0, .inr (4, [.ref (a 1), .ref (a 2), .ref (a 3), .ref (a 4), .ref (a 5), .ref (a 6), .int x_number, .int x_placeNumber])), (a 5, .inl (V.2 0, 10, .inl x_behinds_5)), (a 6, .inr (2, [.ref (a 7), .ref (a 8), .ref (a 9), .int x_parts_height_4])), (a 7, .inl (V.2 0, 16, .inl x_parts_firsts)), (a 8, .inl (V.2 0, 16, .inl x_parts_lasts)), (a 9, .inl (V.2 1, 16, .inl x_parts_lacking))] 57 [(2, .int p2), (3, .int p3), (5, .int r_2), (6, .int r_3)] [.int s1_6, .ref (a 6)]
    refine ga_iload hR (pc := 57) 3 rfl dX4_joinNext_57 ?_
    have hJ := h (fun (s2_8 : Int32) => G 0 0 [(a 0, .inr (4, [.ref (a 1), .ref (a 2), .ref (a 3), .ref (a 4), .ref (a 5), .ref (a 6), .int x_number, .int x_placeNumber])), (a 5, .inl (V.2 0, 10, .inl x_behinds_5)), (a 6, .inr (2, [.ref (a 7), .ref (a 8), .ref (a 9), .int x_parts_height_4])), (a 7, .inl (V.2 0, 16, .inl x_parts_firsts)), (a 8, .inl (V.2 0, 16, .inl x_parts_lasts)), (a 9, .inl (V.2 1, 16, .inl x_parts_lacking))] 71 [(3, .int p3), (6, .int r_3)] [.int s2_8, .int s1_6, .ref (a 6)])
    refine ga_bind hJ ?_ ?_
    · intro s2_8 h
      show G 0 0 [(a 0, .inr (4, [.ref (a 1), .ref (a 2), .ref (a 3), .ref (a 4), .ref (a 5), .ref (a 6), .int x_number, .int x_placeNumber])), (a 5, .inl (V.2 0, 10, .inl x_behinds_5)), (a 6, .inr (2, [.ref (a 7), .ref (a 8), .ref (a 9), .int x_parts_height_4])), (a 7, .inl (V.2 0, 16, .inl x_parts_firsts)), (a 8, .inl (V.2 0, 16, .inl x_parts_lasts)), (a 9, .inl (V.2 1, 16, .inl x_parts_lacking))] 71 [(3, .int p3), (6, .int r_3)] [.int s2_8, .int s1_6, .ref (a 6)]
      refine ga_iload_n hR (pc := 71) 0 rfl rfl dX4_joinNext_71 ?_
      have hJ := h (fun (s3_10 : Int32) => G 0 0 [(a 0, .inr (4, [.ref (a 1), .ref (a 2), .ref (a 3), .ref (a 4), .ref (a 5), .ref (a 6), .int x_number, .int x_placeNumber])), (a 5, .inl (V.2 0, 10, .inl x_behinds_5)), (a 6, .inr (2, [.ref (a 7), .ref (a 8), .ref (a 9), .int x_parts_height_4])), (a 7, .inl (V.2 0, 16, .inl x_parts_firsts)), (a 8, .inl (V.2 0, 16, .inl x_parts_lasts)), (a 9, .inl (V.2 1, 16, .inl x_parts_lacking))] 85 [] [.int s3_10, .int s2_8, .int s1_6, .ref (a 6)])
      refine ga_bind hJ ?_ ?_
      · intro s3_10 h
        show G 0 0 [(a 0, .inr (4, [.ref (a 1), .ref (a 2), .ref (a 3), .ref (a 4), .ref (a 5), .ref (a 6), .int x_number, .int x_placeNumber])), (a 5, .inl (V.2 0, 10, .inl x_behinds_5)), (a 6, .inr (2, [.ref (a 7), .ref (a 8), .ref (a 9), .int x_parts_height_4])), (a 7, .inl (V.2 0, 16, .inl x_parts_firsts)), (a 8, .inl (V.2 0, 16, .inl x_parts_lasts)), (a 9, .inl (V.2 1, 16, .inl x_parts_lacking))] 85 [] [.int s3_10, .int s2_8, .int s1_6, .ref (a 6)]
        refine ga_callV hR (pc := 85) (As := [.int s1_6, .int s2_8, .int s3_10]) (rest := []) (st0 := [.int s3_10, .int s2_8, .int s1_6, .ref (a 6)]) (b := (a 6)) 3 (c_X2_push V (fun k => a (k + 6)) x_parts_height_4 x_parts_firsts x_parts_lasts x_parts_lacking s1_6 s2_8 s3_10 _ h) (ga_same_v fun _ => rfl) gX4_joinNext_X2_push rfl rfl rfl hd_X2_push ⟨Nat.le_of_ble_eq_true rfl, Nat.le_of_ble_eq_true rfl⟩ rfl rfl (Nat.le_of_ble_eq_true rfl) ⟨Nat.zero_le _, Nat.zero_le _⟩ [2, 3, 4, 5] rfl rfl 2 rfl rfl dX4_joinNext_85 ?_
        rintro _ _ ⟨⟨x_parts_height_12, x_parts_firsts_13, x_parts_lasts_14, x_parts_lacking_15⟩, rfl, rfl, h⟩
        refine ga_to [(a 0, .inr (4, [.ref (a 1), .ref (a 2), .ref (a 3), .ref (a 4), .ref (a 5), .ref (a 6), .int x_number, .int x_placeNumber])), (a 5, .inl (V.2 0, 10, .inl x_behinds_5)), (a 6, .inr (2, [.ref (a 7), .ref (a 8), .ref (a 9), .int x_parts_height_12])), (a 7, .inl (V.2 0, 16, .inl x_parts_firsts_13)), (a 8, .inl (V.2 0, 16, .inl x_parts_lasts_14)), (a 9, .inl (V.2 1, 16, .inl x_parts_lacking_15))] [] rfl rfl ?_
        try dsimp only at h
        exact ga_vret hE dX4_joinNext_88 (ga_rv (x_behinds_5, x_parts_height_12, x_parts_firsts_13, x_parts_lasts_14, x_parts_lacking_15) rfl h)
      · intro h
        have hJ := h (G 0 0 [(a 0, .inr (4, [.ref (a 1), .ref (a 2), .ref (a 3), .ref (a 4), .ref (a 5), .ref (a 6), .int x_number, .int x_placeNumber])), (a 5, .inl (V.2 0, 10, .inl x_behinds_5)), (a 6, .inr (2, [.ref (a 7), .ref (a 8), .ref (a 9), .int x_parts_height_4])), (a 7, .inl (V.2 0, 16, .inl x_parts_firsts)), (a 8, .inl (V.2 0, 16, .inl x_parts_lasts)), (a 9, .inl (V.2 1, 16, .inl x_parts_lacking))] 84 [] [.int s2_8, .int s1_6, .ref (a 6)])
        refine ga_bind hJ ?_ ?_
        · intro h
          show G 0 0 [(a 0, .inr (4, [.ref (a 1), .ref (a 2), .ref (a 3), .ref (a 4), .ref (a 5), .ref (a 6), .int x_number, .int x_placeNumber])), (a 5, .inl (V.2 0, 10, .inl x_behinds_5)), (a 6, .inr (2, [.ref (a 7), .ref (a 8), .ref (a 9), .int x_parts_height_4])), (a 7, .inl (V.2 0, 16, .inl x_parts_firsts)), (a 8, .inl (V.2 0, 16, .inl x_parts_lasts)), (a 9, .inl (V.2 1, 16, .inl x_parts_lacking))] 84 [] [.int s2_8, .int s1_6, .ref (a 6)]
          refine ga_iconst hR (pc := 84) (v := nI 0) (by decide) dX4_joinNext_84 ?_
          exact ga_lv hR [] rfl h
        · intro h
          refine ga_if_eq hR (pc := 72) 84 (by decide) dX4_joinNext_72 (fun c72 => ?_) (fun c72 => ?_)
          · replace h := h.1 c72
            exact ga_lv hR [] rfl h
          · replace h := h.2 c72
            refine ga_iload hR (pc := 75) 1 rfl dX4_joinNext_75 ?_
            refine ga_if_eq hR (pc := 77) 84 (by decide) dX4_joinNext_77 (fun c77 => ?_) (fun c77 => ?_)
            · replace h := h.1 c77
              exact ga_lv hR [] rfl h
            · replace h := h.2 c77
              refine ga_iconst hR (pc := 80) (v := nI 1) (by decide) dX4_joinNext_80 ?_
              refine ga_goto hR (pc := 81) 85 (by decide) dX4_joinNext_81 ?_
              exact ga_lv hR [] rfl h
    · intro h
      refine ga_if_eq hR (pc := 59) 69 (by decide) dX4_joinNext_59 (fun c59 => ?_) (fun c59 => ?_)
      · replace h := h.1 c59
        refine ga_iload hR (pc := 69) 2 rfl dX4_joinNext_69 ?_
        exact ga_lv hR [1, 3] rfl h
      · replace h := h.2 c59
        refine ga_iload_n hR (pc := 62) 0 rfl rfl dX4_joinNext_62 ?_
        refine ga_iload hR (pc := 63) 2 rfl dX4_joinNext_63 ?_
        refine ga_ior hR (pc := 65) dX4_joinNext_65 ?_
        refine ga_goto hR (pc := 66) 71 (by decide) dX4_joinNext_66 ?_
        exact ga_lv hR [1, 3] rfl h
  · intro h
    refine ga_if_eq hR (pc := 46) 56 (by decide) dX4_joinNext_46 (fun c46 => ?_) (fun c46 => ?_)
    · replace h := h.1 c46
      refine ga_iload_n hR (pc := 56) 4 rfl rfl dX4_joinNext_56 ?_
      exact ga_lv hR [5, 6, 1, 0] rfl h
    · replace h := h.2 c46
      refine ga_iload_n hR (pc := 49) 4 rfl rfl dX4_joinNext_49 ?_
      refine ga_iload hR (pc := 50) 2 rfl dX4_joinNext_50 ?_
      refine ga_ior hR (pc := 52) dX4_joinNext_52 ?_
      refine ga_goto hR (pc := 53) 57 (by decide) dX4_joinNext_53 ?_
      exact ga_lv hR [5, 6, 1, 0] rfl h

def rm_X4_join : Room := { frames := 2, cells := 0, slots := 0, locals := 49 }
theorem hd_X4_joinS : yX4_join.cls ≠ "java/lang/invoke/MethodHandle" ∧ yX4_join.cls ≠ "java/lang/invoke/VarHandle" ∧ (parseMethodDescriptor yX4_join.desc).map (fun d => d.parameters.length) = some 1 := by decide +kernel
theorem hd_X4_join : yX4_join.cls = RX4 ∧ yX4_join.cls ≠ "java/lang/invoke/MethodHandle" ∧ yX4_join.cls ≠ "java/lang/invoke/VarHandle" ∧ (parseMethodDescriptor yX4_join.desc).map (fun d => d.parameters.length) = some 1 := ⟨rfl, hd_X4_joinS⟩
set_option maxHeartbeats 4000000 in
set_option maxRecDepth 100000 in
theorem c_X4_join (V : ga_V) (a : Nat → Nat) (x_number : Int32) (x_placeNumber : Int32) (x_behinds : Nat → Int32) (x_parts_height : Int32) (x_parts_firsts : Nat → Int32) (x_parts_lasts : Nat → Int32) (x_parts_lacking : Nat → Int32) (p1 : Int32) (K : (Nat → Int32) → Int32 → (Nat → Int32) → (Nat → Int32) → (Nat → Int32) → Prop) (h : wp_X4_join x_behinds x_parts_height x_parts_firsts x_parts_lasts x_parts_lacking p1 K) : ga_C V yX4_join wsX4_join rm_X4_join [.ref (a 0), .int p1] [(a 0, .inr (4, [.ref (a 1), .ref (a 2), .ref (a 3), .ref (a 4), .ref (a 5), .ref (a 6), .int x_number, .int x_placeNumber])), (a 5, .inl (V.2 0, 10, .inl x_behinds)), (a 6, .inr (2, [.ref (a 7), .ref (a 8), .ref (a 9), .int x_parts_height])), (a 7, .inl (V.2 0, 16, .inl x_parts_firsts)), (a 8, .inl (V.2 0, 16, .inl x_parts_lasts)), (a 9, .inl (V.2 1, 16, .inl x_parts_lacking))] 0 0 (ga_Fv (fun (u : (Nat → Int32) × Int32 × (Nat → Int32) × (Nat → Int32) × (Nat → Int32)) => [(a 0, .inr (4, [.ref (a 1), .ref (a 2), .ref (a 3), .ref (a 4), .ref (a 5), .ref (a 6), .int x_number, .int x_placeNumber])), (a 5, .inl (V.2 0, 10, .inl u.1)), (a 6, .inr (2, [.ref (a 7), .ref (a 8), .ref (a 9), .int u.2.1])), (a 7, .inl (V.2 0, 16, .inl u.2.2.1)), (a 8, .inl (V.2 0, 16, .inl u.2.2.2.1)), (a 9, .inl (V.2 1, 16, .inl u.2.2.2.2))]) (fun u => K u.1 u.2.1 u.2.2.1 u.2.2.2.1 u.2.2.2.2)) := by
  refine ga_met (cc := cX4_join) (maxL := 5) (rt := none) (by decide) rfl [(0, .ref (a 0)), (1, .int p1)] rfl (Nat.le_of_ble_eq_true rfl) ?_
  intro G hR hE
  have hinX4 : ∀ w ∈ u_ws RX4 TX4 8, w ∈ wsX4_join := by decide +kernel
  have f30 : Cond.fieldLink RX4 30 "BoundaryRules$Rules" "parts" "LBoundaryRules$Parts;" ∈ wsX4_join := by decide +kernel
  unfold wp_X4_join at h
  refine ga_aload_n hR (pc := 0) 0 rfl rfl dX4_join_0 ?_
  refine ga_get hR (pc := 1) 0 rfl rfl hinX4 5 (by decide) f30 rfl dX4_join_1 ?_
  refine ga_callV hR (pc := 4) (As := []) (rest := []) (st0 := [.ref (a 6)]) (b := (a 6)) 0 (c_X2_first V (fun k => a (k + 6)) x_parts_height x_parts_firsts _ h) (ga_same_i fun _ => rfl) gX4_join_X2_first rfl rfl rfl hd_X2_first ⟨Nat.le_of_ble_eq_true rfl, Nat.le_of_ble_eq_true rfl⟩ rfl rfl (Nat.le_of_ble_eq_true rfl) ⟨Nat.zero_le _, Nat.zero_le _⟩ [2, 3] rfl rfl 2 rfl rfl dX4_join_4 ?_
  rintro _ _ ⟨r_1, ⟨⟩, rfl, rfl, h⟩
  refine ga_to [(a 0, .inr (4, [.ref (a 1), .ref (a 2), .ref (a 3), .ref (a 4), .ref (a 5), .ref (a 6), .int x_number, .int x_placeNumber])), (a 5, .inl (V.2 0, 10, .inl x_behinds)), (a 6, .inr (2, [.ref (a 7), .ref (a 8), .ref (a 9), .int x_parts_height])), (a 7, .inl (V.2 0, 16, .inl x_parts_firsts)), (a 8, .inl (V.2 0, 16, .inl x_parts_lasts)), (a 9, .inl (V.2 1, 16, .inl x_parts_lacking))] [.int r_1] rfl rfl ?_
  try dsimp only at h
  refine ga_istore_n hR (pc := 7) (lv' := [(2, .int r_1), (0, .ref (a 0)), (1, .int p1)]) rfl (by decide) rfl dX4_join_7 ?_
  refine ga_aload_n hR (pc := 8) 1 rfl rfl dX4_join_8 ?_
  refine ga_get hR (pc := 9) 0 rfl rfl hinX4 5 (by decide) f30 rfl dX4_join_9 ?_
  refine ga_callV hR (pc := 12) (As := []) (rest := []) (st0 := [.ref (a 6)]) (b := (a 6)) 0 (c_X2_last V (fun k => a (k + 6)) x_parts_height x_parts_lasts _ h) (ga_same_i fun _ => rfl) gX4_join_X2_last rfl rfl rfl hd_X2_last ⟨Nat.le_of_ble_eq_true rfl, Nat.le_of_ble_eq_true rfl⟩ rfl rfl (Nat.le_of_ble_eq_true rfl) ⟨Nat.zero_le _, Nat.zero_le _⟩ [2, 4] rfl rfl 2 rfl rfl dX4_join_12 ?_
  rintro _ _ ⟨r_2, ⟨⟩, rfl, rfl, h⟩
  refine ga_to [(a 0, .inr (4, [.ref (a 1), .ref (a 2), .ref (a 3), .ref (a 4), .ref (a 5), .ref (a 6), .int x_number, .int x_placeNumber])), (a 5, .inl (V.2 0, 10, .inl x_behinds)), (a 6, .inr (2, [.ref (a 7), .ref (a 8), .ref (a 9), .int x_parts_height])), (a 7, .inl (V.2 0, 16, .inl x_parts_firsts)), (a 8, .inl (V.2 0, 16, .inl x_parts_lasts)), (a 9, .inl (V.2 1, 16, .inl x_parts_lacking))] [.int r_2] rfl rfl ?_
  try dsimp only at h
  refine ga_istore_n hR (pc := 15) (lv' := [(3, .int r_2), (2, .int r_1), (0, .ref (a 0)), (1, .int p1)]) rfl (by decide) rfl dX4_join_15 ?_
  refine ga_aload_n hR (pc := 16) 2 rfl rfl dX4_join_16 ?_
  refine ga_get hR (pc := 17) 0 rfl rfl hinX4 5 (by decide) f30 rfl dX4_join_17 ?_
  refine ga_callV hR (pc := 20) (As := []) (rest := []) (st0 := [.ref (a 6)]) (b := (a 6)) 0 (c_X2_mayLack V (fun k => a (k + 6)) x_parts_height x_parts_lacking _ h) (ga_same_i fun _ => rfl) gX4_join_X2_mayLack rfl rfl rfl hd_X2_mayLack ⟨Nat.le_of_ble_eq_true rfl, Nat.le_of_ble_eq_true rfl⟩ rfl rfl (Nat.le_of_ble_eq_true rfl) ⟨Nat.zero_le _, Nat.zero_le _⟩ [2, 5] rfl rfl 2 rfl rfl dX4_join_20 ?_
  rintro _ _ ⟨r_3, ⟨⟩, rfl, rfl, h⟩
  refine ga_to [(a 0, .inr (4, [.ref (a 1), .ref (a 2), .ref (a 3), .ref (a 4), .ref (a 5), .ref (a 6), .int x_number, .int x_placeNumber])), (a 5, .inl (V.2 0, 10, .inl x_behinds)), (a 6, .inr (2, [.ref (a 7), .ref (a 8), .ref (a 9), .int x_parts_height])), (a 7, .inl (V.2 0, 16, .inl x_parts_firsts)), (a 8, .inl (V.2 0, 16, .inl x_parts_lasts)), (a 9, .inl (V.2 1, 16, .inl x_parts_lacking))] [.int r_3] rfl rfl ?_
  try dsimp only at h
  refine ga_istore hR (pc := 23) (lv' := [(4, .int r_3), (3, .int r_2), (2, .int r_1), (0, .ref (a 0)), (1, .int p1)]) (by decide) rfl dX4_join_23 ?_
  refine ga_aload_n hR (pc := 25) 3 rfl rfl dX4_join_25 ?_
  refine ga_get hR (pc := 26) 0 rfl rfl hinX4 5 (by decide) f30 rfl dX4_join_26 ?_
  refine ga_callV hR (pc := 29) (As := []) (rest := []) (st0 := [.ref (a 6)]) (b := (a 6)) 0 (c_X2_pop V (fun k => a (k + 6)) x_parts_height _ h) (ga_same_v fun _ => rfl) gX4_join_X2_pop rfl rfl rfl hd_X2_pop ⟨Nat.le_of_ble_eq_true rfl, Nat.le_of_ble_eq_true rfl⟩ rfl rfl (Nat.le_of_ble_eq_true rfl) ⟨Nat.zero_le _, Nat.zero_le _⟩ [2] rfl rfl 2 rfl rfl dX4_join_29 ?_
  rintro _ _ ⟨x_parts_height_4, rfl, rfl, h⟩
  refine ga_to [(a 0, .inr (4, [.ref (a 1), .ref (a 2), .ref (a 3), .ref (a 4), .ref (a 5), .ref (a 6), .int x_number, .int x_placeNumber])), (a 5, .inl (V.2 0, 10, .inl x_behinds)), (a 6, .inr (2, [.ref (a 7), .ref (a 8), .ref (a 9), .int x_parts_height_4])), (a 7, .inl (V.2 0, 16, .inl x_parts_firsts)), (a 8, .inl (V.2 0, 16, .inl x_parts_lasts)), (a 9, .inl (V.2 1, 16, .inl x_parts_lacking))] [] rfl rfl ?_
  try dsimp only at h
  refine ga_iload_n hR (pc := 32) 4 rfl rfl dX4_join_32 ?_
  rcases ga_em (p1 = (nI 38)) with q33_0 | q33_0
  · replace h := h.1 q33_0
    refine ga_look hR (pc := 33) 68 (by decide) (off := 35) (by rw [q33_0]; rfl) (by decide) dX4_join_33 ?_
    refine ga_aload_n hR (pc := 68) 3 rfl rfl dX4_join_68 ?_
    refine ga_iload_n hR (pc := 69) 2 rfl rfl dX4_join_69 ?_
    refine ga_iload_n hR (pc := 70) 1 rfl rfl dX4_join_70 ?_
    refine ga_iload hR (pc := 71) 0 rfl dX4_join_71 ?_
    refine ga_callV hR (pc := 73) (As := [.int r_1, .int r_2, .int r_3]) (rest := []) (st0 := [.int r_3, .int r_2, .int r_1, .ref (a 0)]) (b := (a 0)) 3 (c_X4_joinNext V a x_number x_placeNumber x_behinds x_parts_height_4 x_parts_firsts x_parts_lasts x_parts_lacking r_1 r_2 r_3 _ h) (ga_same_v fun _ => rfl) gX4_join_X4_joinNext rfl rfl rfl hd_X4_joinNext ⟨Nat.le_of_ble_eq_true rfl, Nat.le_of_ble_eq_true rfl⟩ rfl rfl (Nat.le_of_ble_eq_true rfl) ⟨Nat.zero_le _, Nat.zero_le _⟩ [0, 1, 2, 3, 4, 5] rfl rfl 0 rfl rfl dX4_join_73 ?_
    rintro _ _ ⟨⟨x_behinds_5, x_parts_height_6, x_parts_firsts_7, x_parts_lasts_8, x_parts_lacking_9⟩, rfl, rfl, h⟩
    refine ga_to [(a 0, .inr (4, [.ref (a 1), .ref (a 2), .ref (a 3), .ref (a 4), .ref (a 5), .ref (a 6), .int x_number, .int x_placeNumber])), (a 5, .inl (V.2 0, 10, .inl x_behinds_5)), (a 6, .inr (2, [.ref (a 7), .ref (a 8), .ref (a 9), .int x_parts_height_6])), (a 7, .inl (V.2 0, 16, .inl x_parts_firsts_7)), (a 8, .inl (V.2 0, 16, .inl x_parts_lasts_8)), (a 9, .inl (V.2 1, 16, .inl x_parts_lacking_9))] [] rfl rfl ?_
    try dsimp only at h
    refine ga_goto hR (pc := 76) 134 (by decide) dX4_join_76 ?_
    exact ga_vret hE dX4_join_134 (ga_rv (x_behinds_5, x_parts_height_6, x_parts_firsts_7, x_parts_lasts_8, x_parts_lacking_9) rfl h)
  · replace h := h.2 q33_0
    rcases ga_em (p1 = (nI 63)) with q33_1 | q33_1
    · replace h := h.1 q33_1
      refine ga_look hR (pc := 33) 90 (by decide) (off := 57) (by rw [q33_1]; rfl) (by decide) dX4_join_33 ?_
      refine ga_aload_n hR (pc := 90) 3 rfl rfl dX4_join_90 ?_
      refine ga_get hR (pc := 91) 0 rfl rfl hinX4 5 (by decide) f30 rfl dX4_join_91 ?_
      refine ga_iload_n hR (pc := 94) 2 rfl rfl dX4_join_94 ?_
      refine ga_iload_n hR (pc := 95) 1 rfl rfl dX4_join_95 ?_
      refine ga_iconst hR (pc := 96) (v := nI 1) (by decide) dX4_join_96 ?_
      refine ga_callV hR (pc := 97) (As := [.int r_1, .int r_2, .int (nI 1)]) (rest := []) (st0 := [.int (nI 1), .int r_2, .int r_1, .ref (a 6)]) (b := (a 6)) 3 (c_X2_push V (fun k => a (k + 6)) x_parts_height_4 x_parts_firsts x_parts_lasts x_parts_lacking r_1 r_2 (nI 1) _ h) (ga_same_v fun _ => rfl) gX4_join_X2_push rfl rfl rfl hd_X2_push ⟨Nat.le_of_ble_eq_true rfl, Nat.le_of_ble_eq_true rfl⟩ rfl rfl (Nat.le_of_ble_eq_true rfl) ⟨Nat.zero_le _, Nat.zero_le _⟩ [2, 3, 4, 5] rfl rfl 2 rfl rfl dX4_join_97 ?_
      rintro _ _ ⟨⟨x_parts_height_10, x_parts_firsts_11, x_parts_lasts_12, x_parts_lacking_13⟩, rfl, rfl, h⟩
      refine ga_to [(a 0, .inr (4, [.ref (a 1), .ref (a 2), .ref (a 3), .ref (a 4), .ref (a 5), .ref (a 6), .int x_number, .int x_placeNumber])), (a 5, .inl (V.2 0, 10, .inl x_behinds)), (a 6, .inr (2, [.ref (a 7), .ref (a 8), .ref (a 9), .int x_parts_height_10])), (a 7, .inl (V.2 0, 16, .inl x_parts_firsts_11)), (a 8, .inl (V.2 0, 16, .inl x_parts_lasts_12)), (a 9, .inl (V.2 1, 16, .inl x_parts_lacking_13))] [] rfl rfl ?_
      try dsimp only at h
      refine ga_goto hR (pc := 100) 134 (by decide) dX4_join_100 ?_
      exact ga_vret hE dX4_join_134 (ga_rv (x_behinds, x_parts_height_10, x_parts_firsts_11, x_parts_lasts_12, x_parts_lacking_13) rfl h)
    · replace h := h.2 q33_1
      rcases ga_em (p1 = (nI 124)) with q33_2 | q33_2
      · replace h := h.1 q33_2
        refine ga_look hR (pc := 33) 79 (by decide) (off := 46) (by rw [q33_2]; rfl) (by decide) dX4_join_33 ?_
        refine ga_aload_n hR (pc := 79) 3 rfl rfl dX4_join_79 ?_
        refine ga_iload_n hR (pc := 80) 2 rfl rfl dX4_join_80 ?_
        refine ga_iload_n hR (pc := 81) 1 rfl rfl dX4_join_81 ?_
        refine ga_iload hR (pc := 82) 0 rfl dX4_join_82 ?_
        refine ga_callV hR (pc := 84) (As := [.int r_1, .int r_2, .int r_3]) (rest := []) (st0 := [.int r_3, .int r_2, .int r_1, .ref (a 0)]) (b := (a 0)) 3 (c_X4_joinOther V a x_number x_placeNumber x_parts_height_4 x_parts_firsts x_parts_lasts x_parts_lacking r_1 r_2 r_3 _ h) (ga_same_v fun _ => rfl) gX4_join_X4_joinOther rfl rfl rfl hd_X4_joinOther ⟨Nat.le_of_ble_eq_true rfl, Nat.le_of_ble_eq_true rfl⟩ rfl rfl (Nat.le_of_ble_eq_true rfl) ⟨Nat.zero_le _, Nat.zero_le _⟩ [0, 2, 3, 4, 5] rfl rfl 0 rfl rfl dX4_join_84 ?_
        rintro _ _ ⟨⟨x_parts_height_14, x_parts_firsts_15, x_parts_lasts_16, x_parts_lacking_17⟩, rfl, rfl, h⟩
        refine ga_to [(a 0, .inr (4, [.ref (a 1), .ref (a 2), .ref (a 3), .ref (a 4), .ref (a 5), .ref (a 6), .int x_number, .int x_placeNumber])), (a 5, .inl (V.2 0, 10, .inl x_behinds)), (a 6, .inr (2, [.ref (a 7), .ref (a 8), .ref (a 9), .int x_parts_height_14])), (a 7, .inl (V.2 0, 16, .inl x_parts_firsts_15)), (a 8, .inl (V.2 0, 16, .inl x_parts_lasts_16)), (a 9, .inl (V.2 1, 16, .inl x_parts_lacking_17))] [] rfl rfl ?_
        try dsimp only at h
        refine ga_goto hR (pc := 87) 134 (by decide) dX4_join_87 ?_
        exact ga_vret hE dX4_join_134 (ga_rv (x_behinds, x_parts_height_14, x_parts_firsts_15, x_parts_lasts_16, x_parts_lacking_17) rfl h)
      · replace h := h.2 q33_2
        refine ga_look hR (pc := 33) 103 (by decide) (off := 70) (by simp only [List.toList_toArray]; rw [lv_osw q33_0 (by decide : Int32.toInt (nI 38) = 38), lv_osw q33_1 (by decide : Int32.toInt (nI 63) = 63), lv_osw q33_2 (by decide : Int32.toInt (nI 124) = 124)]; rfl) (by decide) dX4_join_33 ?_
        refine ga_aload_n hR (pc := 103) 3 rfl rfl dX4_join_103 ?_
        refine ga_iload_n hR (pc := 104) 1 rfl rfl dX4_join_104 ?_
        refine ga_iload_n hR (pc := 105) 2 rfl rfl dX4_join_105 ?_
        refine ga_callV hR (pc := 106) (As := [.int r_2, .int r_1]) (rest := []) (st0 := [.int r_1, .int r_2, .ref (a 0)]) (b := (a 0)) 2 (c_X4_goOn V a x_number x_placeNumber x_behinds r_2 r_1 _ h) (ga_same_v fun _ => rfl) gX4_join_X4_goOn rfl rfl rfl hd_X4_goOn ⟨Nat.le_of_ble_eq_true rfl, Nat.le_of_ble_eq_true rfl⟩ rfl rfl (Nat.le_of_ble_eq_true rfl) ⟨Nat.zero_le _, Nat.zero_le _⟩ [0, 1] rfl rfl 0 rfl rfl dX4_join_106 ?_
        rintro _ _ ⟨x_behinds_18, rfl, rfl, h⟩
        refine ga_to [(a 0, .inr (4, [.ref (a 1), .ref (a 2), .ref (a 3), .ref (a 4), .ref (a 5), .ref (a 6), .int x_number, .int x_placeNumber])), (a 5, .inl (V.2 0, 10, .inl x_behinds_18)), (a 6, .inr (2, [.ref (a 7), .ref (a 8), .ref (a 9), .int x_parts_height_4])), (a 7, .inl (V.2 0, 16, .inl x_parts_firsts)), (a 8, .inl (V.2 0, 16, .inl x_parts_lasts)), (a 9, .inl (V.2 1, 16, .inl x_parts_lacking))] [] rfl rfl ?_
        try dsimp only at h
        refine ga_aload_n hR (pc := 109) 3 rfl rfl dX4_join_109 ?_
        refine ga_get hR (pc := 110) 0 rfl rfl hinX4 5 (by decide) f30 rfl dX4_join_110 ?_
        refine ga_iload_n hR (pc := 113) 2 rfl rfl dX4_join_113 ?_
        refine ga_iload_n hR (pc := 114) 1 rfl rfl dX4_join_114 ?_
        refine ga_iload hR (pc := 115) 0 rfl dX4_join_115 ?_
        have hJ := h (fun (s3_19 : Int32) => G 0 0 [(a 0, .inr (4, [.ref (a 1), .ref (a 2), .ref (a 3), .ref (a 4), .ref (a 5), .ref (a 6), .int x_number, .int x_placeNumber])), (a 5, .inl (V.2 0, 10, .inl x_behinds_18)), (a 6, .inr (2, [.ref (a 7), .ref (a 8), .ref (a 9), .int x_parts_height_4])), (a 7, .inl (V.2 0, 16, .inl x_parts_firsts)), (a 8, .inl (V.2 0, 16, .inl x_parts_lasts)), (a 9, .inl (V.2 1, 16, .inl x_parts_lacking))] 131 [] [.int s3_19, .int r_2, .int r_1, .ref (a 6)])
        refine ga_bind hJ ?_ ?_
        · intro s3_19 h
          show G 0 0 [(a 0, .inr (4, [.ref (a 1), .ref (a 2), .ref (a 3), .ref (a 4), .ref (a 5), .ref (a 6), .int x_number, .int x_placeNumber])), (a 5, .inl (V.2 0, 10, .inl x_behinds_18)), (a 6, .inr (2, [.ref (a 7), .ref (a 8), .ref (a 9), .int x_parts_height_4])), (a 7, .inl (V.2 0, 16, .inl x_parts_firsts)), (a 8, .inl (V.2 0, 16, .inl x_parts_lasts)), (a 9, .inl (V.2 1, 16, .inl x_parts_lacking))] 131 [] [.int s3_19, .int r_2, .int r_1, .ref (a 6)]
          refine ga_callV hR (pc := 131) (As := [.int r_1, .int r_2, .int s3_19]) (rest := []) (st0 := [.int s3_19, .int r_2, .int r_1, .ref (a 6)]) (b := (a 6)) 3 (c_X2_push V (fun k => a (k + 6)) x_parts_height_4 x_parts_firsts x_parts_lasts x_parts_lacking r_1 r_2 s3_19 _ h) (ga_same_v fun _ => rfl) gX4_join_X2_push rfl rfl rfl hd_X2_push ⟨Nat.le_of_ble_eq_true rfl, Nat.le_of_ble_eq_true rfl⟩ rfl rfl (Nat.le_of_ble_eq_true rfl) ⟨Nat.zero_le _, Nat.zero_le _⟩ [2, 3, 4, 5] rfl rfl 2 rfl rfl dX4_join_131 ?_
          rintro _ _ ⟨⟨x_parts_height_21, x_parts_firsts_22, x_parts_lasts_23, x_parts_lacking_24⟩, rfl, rfl, h⟩
          refine ga_to [(a 0, .inr (4, [.ref (a 1), .ref (a 2), .ref (a 3), .ref (a 4), .ref (a 5), .ref (a 6), .int x_number, .int x_placeNumber])), (a 5, .inl (V.2 0, 10, .inl x_behinds_18)), (a 6, .inr (2, [.ref (a 7), .ref (a 8), .ref (a 9), .int x_parts_height_21])), (a 7, .inl (V.2 0, 16, .inl x_parts_firsts_22)), (a 8, .inl (V.2 0, 16, .inl x_parts_lasts_23)), (a 9, .inl (V.2 1, 16, .inl x_parts_lacking_24))] [] rfl rfl ?_
          try dsimp only at h
          exact ga_vret hE dX4_join_134 (ga_rv (x_behinds_18, x_parts_height_21, x_parts_firsts_22, x_parts_lasts_23, x_parts_lacking_24) rfl h)
        · intro h
          have hJ := h (G 0 0 [(a 0, .inr (4, [.ref (a 1), .ref (a 2), .ref (a 3), .ref (a 4), .ref (a 5), .ref (a 6), .int x_number, .int x_placeNumber])), (a 5, .inl (V.2 0, 10, .inl x_behinds_18)), (a 6, .inr (2, [.ref (a 7), .ref (a 8), .ref (a 9), .int x_parts_height_4])), (a 7, .inl (V.2 0, 16, .inl x_parts_firsts)), (a 8, .inl (V.2 0, 16, .inl x_parts_lasts)), (a 9, .inl (V.2 1, 16, .inl x_parts_lacking))] 126 [] [.int r_2, .int r_1, .ref (a 6)])
          refine ga_bind hJ ?_ ?_
          · intro h
            show G 0 0 [(a 0, .inr (4, [.ref (a 1), .ref (a 2), .ref (a 3), .ref (a 4), .ref (a 5), .ref (a 6), .int x_number, .int x_placeNumber])), (a 5, .inl (V.2 0, 10, .inl x_behinds_18)), (a 6, .inr (2, [.ref (a 7), .ref (a 8), .ref (a 9), .int x_parts_height_4])), (a 7, .inl (V.2 0, 16, .inl x_parts_firsts)), (a 8, .inl (V.2 0, 16, .inl x_parts_lasts)), (a 9, .inl (V.2 1, 16, .inl x_parts_lacking))] 126 [] [.int r_2, .int r_1, .ref (a 6)]
            refine ga_iconst hR (pc := 126) (v := nI 1) (by decide) dX4_join_126 ?_
            refine ga_goto hR (pc := 127) 131 (by decide) dX4_join_127 ?_
            exact ga_lv hR [] rfl h
          · intro h
            refine ga_if_ne hR (pc := 117) 126 (by decide) dX4_join_117 (fun c117 => ?_) (fun c117 => ?_)
            · replace h := h.1 c117
              exact ga_lv hR [] rfl h
            · replace h := h.2 c117
              refine ga_iload_n hR (pc := 120) 4 rfl rfl dX4_join_120 ?_
              refine ga_bipush hR (pc := 121) (v := nI 42) (by decide) dX4_join_121 ?_
              refine ga_icmp_ne hR (pc := 123) 130 (by decide) dX4_join_123 (fun c123 => ?_) (fun c123 => ?_)
              · replace h := h.1 c123
                refine ga_iconst hR (pc := 130) (v := nI 0) (by decide) dX4_join_130 ?_
                exact ga_lv hR [] rfl h
              · replace h := h.2 c123
                exact ga_lv hR [] rfl h

def rm_X4_add : Room := { frames := 3, cells := 0, slots := 0, locals := 73 }
theorem hd_X4_addS : yX4_add.cls ≠ "java/lang/invoke/MethodHandle" ∧ yX4_add.cls ≠ "java/lang/invoke/VarHandle" ∧ (parseMethodDescriptor yX4_add.desc).map (fun d => d.parameters.length) = some 3 := by decide +kernel
theorem hd_X4_add : yX4_add.cls = RX4 ∧ yX4_add.cls ≠ "java/lang/invoke/MethodHandle" ∧ yX4_add.cls ≠ "java/lang/invoke/VarHandle" ∧ (parseMethodDescriptor yX4_add.desc).map (fun d => d.parameters.length) = some 3 := ⟨rfl, hd_X4_addS⟩
set_option maxHeartbeats 4000000 in
set_option maxRecDepth 100000 in
theorem c_X4_add (V : ga_V) (a : Nat → Nat) (b : Nat → Nat) (y_rulesSeen : Int32) (y_placesSeen : Int32) (x_number : Int32) (x_placeNumber : Int32) (x_places : Nat → Int32) (x_firsts : Nat → Int32) (x_wholes : Nat → Int32) (x_taken : Nat → Int32) (x_behinds : Nat → Int32) (x_parts_height : Int32) (x_parts_firsts : Nat → Int32) (x_parts_lasts : Nat → Int32) (x_parts_lacking : Nat → Int32) (y_length : Int32) (y_signs : Nat → Int32) (p2 : Int32) (p3 : Int32) (K : Int32 → Int32 → (Nat → Int32) → (Nat → Int32) → (Nat → Int32) → (Nat → Int32) → (Nat → Int32) → Int32 → (Nat → Int32) → (Nat → Int32) → (Nat → Int32) → Prop) (h : wp_X4_add x_number x_placeNumber x_places x_firsts x_wholes x_taken x_behinds x_parts_height x_parts_firsts x_parts_lasts x_parts_lacking y_length y_signs p2 p3 K) : ga_C V yX4_add wsX4_add rm_X4_add [.ref (a 0), .ref (b 0), .int p2, .int p3] [(a 0, .inr (4, [.ref (a 1), .ref (a 2), .ref (a 3), .ref (a 4), .ref (a 5), .ref (a 6), .int x_number, .int x_placeNumber])), (a 1, .inl (V.2 0, 4, .inl x_places)), (a 2, .inl (V.2 0, 4, .inl x_firsts)), (a 3, .inl (V.2 0, 4, .inl x_wholes)), (a 4, .inl (V.2 0, 10, .inl x_taken)), (a 5, .inl (V.2 0, 10, .inl x_behinds)), (a 6, .inr (2, [.ref (a 7), .ref (a 8), .ref (a 9), .int x_parts_height])), (a 7, .inl (V.2 0, 16, .inl x_parts_firsts)), (a 8, .inl (V.2 0, 16, .inl x_parts_lasts)), (a 9, .inl (V.2 1, 16, .inl x_parts_lacking)), (b 0, .inr (7, [.ref (b 1), .int y_length, .int y_rulesSeen, .int y_placesSeen])), (b 1, .inl (V.2 0, 200, .inl y_signs))] 0 0 (ga_Fv (fun (u : Int32 × Int32 × (Nat → Int32) × (Nat → Int32) × (Nat → Int32) × (Nat → Int32) × (Nat → Int32) × Int32 × (Nat → Int32) × (Nat → Int32) × (Nat → Int32)) => [(a 0, .inr (4, [.ref (a 1), .ref (a 2), .ref (a 3), .ref (a 4), .ref (a 5), .ref (a 6), .int u.1, .int u.2.1])), (a 1, .inl (V.2 0, 4, .inl u.2.2.1)), (a 2, .inl (V.2 0, 4, .inl u.2.2.2.1)), (a 3, .inl (V.2 0, 4, .inl u.2.2.2.2.1)), (a 4, .inl (V.2 0, 10, .inl u.2.2.2.2.2.1)), (a 5, .inl (V.2 0, 10, .inl u.2.2.2.2.2.2.1)), (a 6, .inr (2, [.ref (a 7), .ref (a 8), .ref (a 9), .int u.2.2.2.2.2.2.2.1])), (a 7, .inl (V.2 0, 16, .inl u.2.2.2.2.2.2.2.2.1)), (a 8, .inl (V.2 0, 16, .inl u.2.2.2.2.2.2.2.2.2.1)), (a 9, .inl (V.2 1, 16, .inl u.2.2.2.2.2.2.2.2.2.2)), (b 0, .inr (7, [.ref (b 1), .int y_length, .int y_rulesSeen, .int y_placesSeen])), (b 1, .inl (V.2 0, 200, .inl y_signs))]) (fun u => K u.1 u.2.1 u.2.2.1 u.2.2.2.1 u.2.2.2.2.1 u.2.2.2.2.2.1 u.2.2.2.2.2.2.1 u.2.2.2.2.2.2.2.1 u.2.2.2.2.2.2.2.2.1 u.2.2.2.2.2.2.2.2.2.1 u.2.2.2.2.2.2.2.2.2.2)) := by
  refine ga_met (cc := cX4_add) (maxL := 8) (rt := none) (by decide) rfl [(0, .ref (a 0)), (1, .ref (b 0)), (2, .int p2), (3, .int p3)] rfl (Nat.le_of_ble_eq_true rfl) ?_
  intro G hR hE
  have hinX4 : ∀ w ∈ u_ws RX4 TX4 8, w ∈ wsX4_add := by decide +kernel
  have f34 : Cond.fieldLink RX4 34 "BoundaryRules$Rules" "number" "I" ∈ wsX4_add := by decide +kernel
  have f38 : Cond.fieldLink RX4 38 "BoundaryRules$Rules" "placeNumber" "I" ∈ wsX4_add := by decide +kernel
  have f30 : Cond.fieldLink RX4 30 "BoundaryRules$Rules" "parts" "LBoundaryRules$Parts;" ∈ wsX4_add := by decide +kernel
  have f9 : Cond.fieldLink RX4 9 "BoundaryRules$Rules" "places" "[I" ∈ wsX4_add := by decide +kernel
  have f15 : Cond.fieldLink RX4 15 "BoundaryRules$Rules" "firsts" "[I" ∈ wsX4_add := by decide +kernel
  have f18 : Cond.fieldLink RX4 18 "BoundaryRules$Rules" "wholes" "[I" ∈ wsX4_add := by decide +kernel
  unfold wp_X4_add at h
  refine ga_aload_n hR (pc := 0) 1 rfl rfl dX4_add_0 ?_
  refine ga_iload_n hR (pc := 1) 2 rfl rfl dX4_add_1 ?_
  refine ga_iload_n hR (pc := 2) 3 rfl rfl dX4_add_2 ?_
  refine ga_callV hR (pc := 3) (As := [.int p2, .int p3]) (rest := []) (st0 := [.int p3, .int p2, .ref (b 0)]) (b := (b 0)) 2 (c_X7_placesIn V b y_rulesSeen y_placesSeen y_length y_signs p2 p3 _ h) (ga_same_i fun _ => rfl) gX4_add_X7_placesIn rfl rfl rfl hd_X7_placesIn ⟨Nat.le_of_ble_eq_true rfl, Nat.le_of_ble_eq_true rfl⟩ rfl rfl (Nat.le_of_ble_eq_true rfl) ⟨Nat.zero_le _, Nat.zero_le _⟩ [10, 11] rfl rfl 10 rfl rfl dX4_add_3 ?_
  rintro _ _ ⟨r_1, ⟨⟩, rfl, rfl, h⟩
  refine ga_to [(a 0, .inr (4, [.ref (a 1), .ref (a 2), .ref (a 3), .ref (a 4), .ref (a 5), .ref (a 6), .int x_number, .int x_placeNumber])), (a 1, .inl (V.2 0, 4, .inl x_places)), (a 2, .inl (V.2 0, 4, .inl x_firsts)), (a 3, .inl (V.2 0, 4, .inl x_wholes)), (a 4, .inl (V.2 0, 10, .inl x_taken)), (a 5, .inl (V.2 0, 10, .inl x_behinds)), (a 6, .inr (2, [.ref (a 7), .ref (a 8), .ref (a 9), .int x_parts_height])), (a 7, .inl (V.2 0, 16, .inl x_parts_firsts)), (a 8, .inl (V.2 0, 16, .inl x_parts_lasts)), (a 9, .inl (V.2 1, 16, .inl x_parts_lacking)), (b 0, .inr (7, [.ref (b 1), .int y_length, .int y_rulesSeen, .int y_placesSeen])), (b 1, .inl (V.2 0, 200, .inl y_signs))] [.int r_1] rfl rfl ?_
  try dsimp only at h
  refine ga_istore hR (pc := 6) (lv' := [(4, .int r_1), (0, .ref (a 0)), (1, .ref (b 0)), (2, .int p2), (3, .int p3)]) (by decide) rfl dX4_add_6 ?_
  refine ga_aload_n hR (pc := 8) 1 rfl rfl dX4_add_8 ?_
  refine ga_get hR (pc := 9) 0 rfl rfl hinX4 6 (by decide) f34 rfl dX4_add_9 ?_
  refine ga_iconst hR (pc := 12) (v := nI 4) (by decide) dX4_add_12 ?_
  refine ga_icmp_ge hR (pc := 13) 28 (by decide) dX4_add_13 (fun c13 => ?_) (fun c13 => ?_)
  · replace h := h.1 c13
    exact ga_vret hE dX4_add_28 (ga_rv (x_number, x_placeNumber, x_places, x_firsts, x_wholes, x_taken, x_behinds, x_parts_height, x_parts_firsts, x_parts_lasts, x_parts_lacking) rfl h)
  · replace h := h.2 c13
    refine ga_aload_n hR (pc := 16) 1 rfl rfl dX4_add_16 ?_
    refine ga_get hR (pc := 17) 0 rfl rfl hinX4 7 (by decide) f38 rfl dX4_add_17 ?_
    refine ga_iload hR (pc := 20) 0 rfl dX4_add_20 ?_
    refine ga_iadd hR (pc := 22) dX4_add_22 ?_
    refine ga_bipush hR (pc := 23) (v := nI 10) (by decide) dX4_add_23 ?_
    refine ga_icmp_le hR (pc := 25) 29 (by decide) dX4_add_25 (fun c25 => ?_) (fun c25 => ?_)
    · replace h := h.1 c25
      refine ga_aload_n hR (pc := 29) 1 rfl rfl dX4_add_29 ?_
      refine ga_get hR (pc := 30) 0 rfl rfl hinX4 5 (by decide) f30 rfl dX4_add_30 ?_
      refine ga_callV hR (pc := 33) (As := []) (rest := []) (st0 := [.ref (a 6)]) (b := (a 6)) 0 (c_X2_clear V (fun k => a (k + 6)) x_parts_height _ h) (ga_same_v fun _ => rfl) gX4_add_X2_clear rfl rfl rfl hd_X2_clear ⟨Nat.le_of_ble_eq_true rfl, Nat.le_of_ble_eq_true rfl⟩ rfl rfl (Nat.le_of_ble_eq_true rfl) ⟨Nat.zero_le _, Nat.zero_le _⟩ [6] rfl rfl 6 rfl rfl dX4_add_33 ?_
      rintro _ _ ⟨x_parts_height_2, rfl, rfl, h⟩
      refine ga_to [(a 0, .inr (4, [.ref (a 1), .ref (a 2), .ref (a 3), .ref (a 4), .ref (a 5), .ref (a 6), .int x_number, .int x_placeNumber])), (a 1, .inl (V.2 0, 4, .inl x_places)), (a 2, .inl (V.2 0, 4, .inl x_firsts)), (a 3, .inl (V.2 0, 4, .inl x_wholes)), (a 4, .inl (V.2 0, 10, .inl x_taken)), (a 5, .inl (V.2 0, 10, .inl x_behinds)), (a 6, .inr (2, [.ref (a 7), .ref (a 8), .ref (a 9), .int x_parts_height_2])), (a 7, .inl (V.2 0, 16, .inl x_parts_firsts)), (a 8, .inl (V.2 0, 16, .inl x_parts_lasts)), (a 9, .inl (V.2 1, 16, .inl x_parts_lacking)), (b 0, .inr (7, [.ref (b 1), .int y_length, .int y_rulesSeen, .int y_placesSeen])), (b 1, .inl (V.2 0, 200, .inl y_signs))] [] rfl rfl ?_
      try dsimp only at h
      refine ga_aload_n hR (pc := 36) 1 rfl rfl dX4_add_36 ?_
      refine ga_get hR (pc := 37) 0 rfl rfl hinX4 7 (by decide) f38 rfl dX4_add_37 ?_
      refine ga_iload hR (pc := 40) 0 rfl dX4_add_40 ?_
      refine ga_iadd hR (pc := 42) dX4_add_42 ?_
      refine ga_topi (fun v5_3 ev5_3 => ?_)
      replace h := h v5_3 ev5_3
      refine ga_istore hR (pc := 43) (lv' := [(5, .int v5_3), (4, .int r_1), (0, .ref (a 0)), (1, .ref (b 0)), (2, .int p2), (3, .int p3)]) (by decide) rfl dX4_add_43 ?_
      refine ga_iload_n hR (pc := 45) 5 rfl rfl dX4_add_45 ?_
      refine ga_iconst hR (pc := 46) (v := nI 1) (by decide) dX4_add_46 ?_
      refine ga_isub hR (pc := 47) dX4_add_47 ?_
      refine ga_topi (fun v6_4 ev6_4 => ?_)
      replace h := h v6_4 ev6_4
      refine ga_istore hR (pc := 48) (lv' := [(6, .int v6_4), (5, .int v5_3), (4, .int r_1), (0, .ref (a 0)), (1, .ref (b 0)), (2, .int p2), (3, .int p3)]) (by decide) rfl dX4_add_48 ?_
      have hJ := h (fun (x_taken_5 : Nat → Int32) (x_behinds_6 : Nat → Int32) (x_parts_height_7 : Int32) (x_parts_firsts_8 : Nat → Int32) (x_parts_lasts_9 : Nat → Int32) (x_parts_lacking_10 : Nat → Int32) => G 0 0 [(a 0, .inr (4, [.ref (a 1), .ref (a 2), .ref (a 3), .ref (a 4), .ref (a 5), .ref (a 6), .int x_number, .int x_placeNumber])), (a 1, .inl (V.2 0, 4, .inl x_places)), (a 2, .inl (V.2 0, 4, .inl x_firsts)), (a 3, .inl (V.2 0, 4, .inl x_wholes)), (a 4, .inl (V.2 0, 10, .inl x_taken_5)), (a 5, .inl (V.2 0, 10, .inl x_behinds_6)), (a 6, .inr (2, [.ref (a 7), .ref (a 8), .ref (a 9), .int x_parts_height_7])), (a 7, .inl (V.2 0, 16, .inl x_parts_firsts_8)), (a 8, .inl (V.2 0, 16, .inl x_parts_lasts_9)), (a 9, .inl (V.2 1, 16, .inl x_parts_lacking_10)), (b 0, .inr (7, [.ref (b 1), .int y_length, .int y_rulesSeen, .int y_placesSeen])), (b 1, .inl (V.2 0, 200, .inl y_signs))] 123 [(0, .ref (a 0)), (4, .int r_1)] [])
      refine ga_bind hJ ?_ ?_
      · intro x_taken_5 x_behinds_6 x_parts_height_7 x_parts_firsts_8 x_parts_lasts_9 x_parts_lacking_10 h
        show G 0 0 [(a 0, .inr (4, [.ref (a 1), .ref (a 2), .ref (a 3), .ref (a 4), .ref (a 5), .ref (a 6), .int x_number, .int x_placeNumber])), (a 1, .inl (V.2 0, 4, .inl x_places)), (a 2, .inl (V.2 0, 4, .inl x_firsts)), (a 3, .inl (V.2 0, 4, .inl x_wholes)), (a 4, .inl (V.2 0, 10, .inl x_taken_5)), (a 5, .inl (V.2 0, 10, .inl x_behinds_6)), (a 6, .inr (2, [.ref (a 7), .ref (a 8), .ref (a 9), .int x_parts_height_7])), (a 7, .inl (V.2 0, 16, .inl x_parts_firsts_8)), (a 8, .inl (V.2 0, 16, .inl x_parts_lasts_9)), (a 9, .inl (V.2 1, 16, .inl x_parts_lacking_10)), (b 0, .inr (7, [.ref (b 1), .int y_length, .int y_rulesSeen, .int y_placesSeen])), (b 1, .inl (V.2 0, 200, .inl y_signs))] 123 [(0, .ref (a 0)), (4, .int r_1)] []
        refine ga_aload_n hR (pc := 123) 0 rfl rfl dX4_add_123 ?_
        refine ga_get hR (pc := 124) 0 rfl rfl hinX4 0 (by decide) f9 rfl dX4_add_124 ?_
        refine ga_aload_n hR (pc := 127) 0 rfl rfl dX4_add_127 ?_
        refine ga_get hR (pc := 128) 0 rfl rfl hinX4 6 (by decide) f34 rfl dX4_add_128 ?_
        refine ga_iconst hR (pc := 131) (v := nI 1) (by decide) dX4_add_131 ?_
        refine ga_aload_n hR (pc := 132) 0 rfl rfl dX4_add_132 ?_
        refine ga_get hR (pc := 133) 0 rfl rfl hinX4 7 (by decide) f38 rfl dX4_add_133 ?_
        refine ga_iload hR (pc := 136) 1 rfl dX4_add_136 ?_
        refine ga_iadd hR (pc := 138) dX4_add_138 ?_
        refine ga_ishl hR (pc := 139) dX4_add_139 ?_
        refine ga_iconst hR (pc := 140) (v := nI 1) (by decide) dX4_add_140 ?_
        refine ga_aload_n hR (pc := 141) 0 rfl rfl dX4_add_141 ?_
        refine ga_get hR (pc := 142) 0 rfl rfl hinX4 7 (by decide) f38 rfl dX4_add_142 ?_
        refine ga_ishl hR (pc := 145) dX4_add_145 ?_
        refine ga_isub hR (pc := 146) dX4_add_146 ?_
        refine ga_topi (fun t_12 et_12 => ?_)
        replace h := h t_12 et_12
        refine ga_iast hR (pc := 147) (ws' := [(a 0, .inr (4, [.ref (a 1), .ref (a 2), .ref (a 3), .ref (a 4), .ref (a 5), .ref (a 6), .int x_number, .int x_placeNumber])), (a 1, .inl (V.2 0, 4, .inl ((upd x_places x_number.toNatClampNeg t_12)))), (a 2, .inl (V.2 0, 4, .inl x_firsts)), (a 3, .inl (V.2 0, 4, .inl x_wholes)), (a 4, .inl (V.2 0, 10, .inl x_taken_5)), (a 5, .inl (V.2 0, 10, .inl x_behinds_6)), (a 6, .inr (2, [.ref (a 7), .ref (a 8), .ref (a 9), .int x_parts_height_7])), (a 7, .inl (V.2 0, 16, .inl x_parts_firsts_8)), (a 8, .inl (V.2 0, 16, .inl x_parts_lasts_9)), (a 9, .inl (V.2 1, 16, .inl x_parts_lacking_10)), (b 0, .inr (7, [.ref (b 1), .int y_length, .int y_rulesSeen, .int y_placesSeen])), (b 1, .inl (V.2 0, 200, .inl y_signs))]) 1 rfl h.1 rfl dX4_add_147 ?_
        replace h := h.2
        obtain ⟨x_places_13, ex_places_13⟩ : ∃ f : Nat → Int32, f = upd x_places x_number.toNatClampNeg t_12 := ⟨_, rfl⟩
        refine ga_cast (ws' := [(a 0, .inr (4, [.ref (a 1), .ref (a 2), .ref (a 3), .ref (a 4), .ref (a 5), .ref (a 6), .int x_number, .int x_placeNumber])), (a 1, .inl (V.2 0, 4, .inl x_places_13)), (a 2, .inl (V.2 0, 4, .inl x_firsts)), (a 3, .inl (V.2 0, 4, .inl x_wholes)), (a 4, .inl (V.2 0, 10, .inl x_taken_5)), (a 5, .inl (V.2 0, 10, .inl x_behinds_6)), (a 6, .inr (2, [.ref (a 7), .ref (a 8), .ref (a 9), .int x_parts_height_7])), (a 7, .inl (V.2 0, 16, .inl x_parts_firsts_8)), (a 8, .inl (V.2 0, 16, .inl x_parts_lasts_9)), (a 9, .inl (V.2 1, 16, .inl x_parts_lacking_10)), (b 0, .inr (7, [.ref (b 1), .int y_length, .int y_rulesSeen, .int y_placesSeen])), (b 1, .inl (V.2 0, 200, .inl y_signs))]) (by rw [ex_places_13]) rfl ?_
        replace h := h x_places_13 ex_places_13
        refine ga_aload_n hR (pc := 148) 0 rfl rfl dX4_add_148 ?_
        refine ga_get hR (pc := 149) 0 rfl rfl hinX4 1 (by decide) f15 rfl dX4_add_149 ?_
        refine ga_aload_n hR (pc := 152) 0 rfl rfl dX4_add_152 ?_
        refine ga_get hR (pc := 153) 0 rfl rfl hinX4 6 (by decide) f34 rfl dX4_add_153 ?_
        refine ga_aload_n hR (pc := 156) 0 rfl rfl dX4_add_156 ?_
        refine ga_get hR (pc := 157) 0 rfl rfl hinX4 5 (by decide) f30 rfl dX4_add_157 ?_
        refine ga_callV hR (pc := 160) (As := []) (rest := [.int x_number, .ref (a 2)]) (st0 := [.ref (a 6), .int x_number, .ref (a 2)]) (b := (a 6)) 0 (c_X2_first V (fun k => a (k + 6)) x_parts_height_7 x_parts_firsts_8 _ h) (ga_same_i fun _ => rfl) gX4_add_X2_first rfl rfl rfl hd_X2_first ⟨Nat.le_of_ble_eq_true rfl, Nat.le_of_ble_eq_true rfl⟩ rfl rfl (Nat.le_of_ble_eq_true rfl) ⟨Nat.zero_le _, Nat.zero_le _⟩ [6, 7] rfl rfl 6 rfl rfl dX4_add_160 ?_
        rintro _ _ ⟨r_14, ⟨⟩, rfl, rfl, h⟩
        refine ga_to [(a 0, .inr (4, [.ref (a 1), .ref (a 2), .ref (a 3), .ref (a 4), .ref (a 5), .ref (a 6), .int x_number, .int x_placeNumber])), (a 1, .inl (V.2 0, 4, .inl x_places_13)), (a 2, .inl (V.2 0, 4, .inl x_firsts)), (a 3, .inl (V.2 0, 4, .inl x_wholes)), (a 4, .inl (V.2 0, 10, .inl x_taken_5)), (a 5, .inl (V.2 0, 10, .inl x_behinds_6)), (a 6, .inr (2, [.ref (a 7), .ref (a 8), .ref (a 9), .int x_parts_height_7])), (a 7, .inl (V.2 0, 16, .inl x_parts_firsts_8)), (a 8, .inl (V.2 0, 16, .inl x_parts_lasts_9)), (a 9, .inl (V.2 1, 16, .inl x_parts_lacking_10)), (b 0, .inr (7, [.ref (b 1), .int y_length, .int y_rulesSeen, .int y_placesSeen])), (b 1, .inl (V.2 0, 200, .inl y_signs))] [.int r_14, .int x_number, .ref (a 2)] rfl rfl ?_
        try dsimp only at h
        refine ga_iast hR (pc := 163) (ws' := [(a 0, .inr (4, [.ref (a 1), .ref (a 2), .ref (a 3), .ref (a 4), .ref (a 5), .ref (a 6), .int x_number, .int x_placeNumber])), (a 1, .inl (V.2 0, 4, .inl x_places_13)), (a 2, .inl (V.2 0, 4, .inl ((upd x_firsts x_number.toNatClampNeg r_14)))), (a 3, .inl (V.2 0, 4, .inl x_wholes)), (a 4, .inl (V.2 0, 10, .inl x_taken_5)), (a 5, .inl (V.2 0, 10, .inl x_behinds_6)), (a 6, .inr (2, [.ref (a 7), .ref (a 8), .ref (a 9), .int x_parts_height_7])), (a 7, .inl (V.2 0, 16, .inl x_parts_firsts_8)), (a 8, .inl (V.2 0, 16, .inl x_parts_lasts_9)), (a 9, .inl (V.2 1, 16, .inl x_parts_lacking_10)), (b 0, .inr (7, [.ref (b 1), .int y_length, .int y_rulesSeen, .int y_placesSeen])), (b 1, .inl (V.2 0, 200, .inl y_signs))]) 2 rfl h.1 rfl dX4_add_163 ?_
        replace h := h.2
        obtain ⟨x_firsts_15, ex_firsts_15⟩ : ∃ f : Nat → Int32, f = upd x_firsts x_number.toNatClampNeg r_14 := ⟨_, rfl⟩
        refine ga_cast (ws' := [(a 0, .inr (4, [.ref (a 1), .ref (a 2), .ref (a 3), .ref (a 4), .ref (a 5), .ref (a 6), .int x_number, .int x_placeNumber])), (a 1, .inl (V.2 0, 4, .inl x_places_13)), (a 2, .inl (V.2 0, 4, .inl x_firsts_15)), (a 3, .inl (V.2 0, 4, .inl x_wholes)), (a 4, .inl (V.2 0, 10, .inl x_taken_5)), (a 5, .inl (V.2 0, 10, .inl x_behinds_6)), (a 6, .inr (2, [.ref (a 7), .ref (a 8), .ref (a 9), .int x_parts_height_7])), (a 7, .inl (V.2 0, 16, .inl x_parts_firsts_8)), (a 8, .inl (V.2 0, 16, .inl x_parts_lasts_9)), (a 9, .inl (V.2 1, 16, .inl x_parts_lacking_10)), (b 0, .inr (7, [.ref (b 1), .int y_length, .int y_rulesSeen, .int y_placesSeen])), (b 1, .inl (V.2 0, 200, .inl y_signs))]) (by rw [ex_firsts_15]) rfl ?_
        replace h := h x_firsts_15 ex_firsts_15
        refine ga_aload_n hR (pc := 164) 0 rfl rfl dX4_add_164 ?_
        refine ga_get hR (pc := 165) 0 rfl rfl hinX4 2 (by decide) f18 rfl dX4_add_165 ?_
        refine ga_aload_n hR (pc := 168) 0 rfl rfl dX4_add_168 ?_
        refine ga_get hR (pc := 169) 0 rfl rfl hinX4 6 (by decide) f34 rfl dX4_add_169 ?_
        refine ga_aload_n hR (pc := 172) 0 rfl rfl dX4_add_172 ?_
        refine ga_get hR (pc := 173) 0 rfl rfl hinX4 5 (by decide) f30 rfl dX4_add_173 ?_
        refine ga_callV hR (pc := 176) (As := []) (rest := [.int x_number, .ref (a 3)]) (st0 := [.ref (a 6), .int x_number, .ref (a 3)]) (b := (a 6)) 0 (c_X2_last V (fun k => a (k + 6)) x_parts_height_7 x_parts_lasts_9 _ h) (ga_same_i fun _ => rfl) gX4_add_X2_last rfl rfl rfl hd_X2_last ⟨Nat.le_of_ble_eq_true rfl, Nat.le_of_ble_eq_true rfl⟩ rfl rfl (Nat.le_of_ble_eq_true rfl) ⟨Nat.zero_le _, Nat.zero_le _⟩ [6, 8] rfl rfl 6 rfl rfl dX4_add_176 ?_
        rintro _ _ ⟨r_16, ⟨⟩, rfl, rfl, h⟩
        refine ga_to [(a 0, .inr (4, [.ref (a 1), .ref (a 2), .ref (a 3), .ref (a 4), .ref (a 5), .ref (a 6), .int x_number, .int x_placeNumber])), (a 1, .inl (V.2 0, 4, .inl x_places_13)), (a 2, .inl (V.2 0, 4, .inl x_firsts_15)), (a 3, .inl (V.2 0, 4, .inl x_wholes)), (a 4, .inl (V.2 0, 10, .inl x_taken_5)), (a 5, .inl (V.2 0, 10, .inl x_behinds_6)), (a 6, .inr (2, [.ref (a 7), .ref (a 8), .ref (a 9), .int x_parts_height_7])), (a 7, .inl (V.2 0, 16, .inl x_parts_firsts_8)), (a 8, .inl (V.2 0, 16, .inl x_parts_lasts_9)), (a 9, .inl (V.2 1, 16, .inl x_parts_lacking_10)), (b 0, .inr (7, [.ref (b 1), .int y_length, .int y_rulesSeen, .int y_placesSeen])), (b 1, .inl (V.2 0, 200, .inl y_signs))] [.int r_16, .int x_number, .ref (a 3)] rfl rfl ?_
        try dsimp only at h
        refine ga_iast hR (pc := 179) (ws' := [(a 0, .inr (4, [.ref (a 1), .ref (a 2), .ref (a 3), .ref (a 4), .ref (a 5), .ref (a 6), .int x_number, .int x_placeNumber])), (a 1, .inl (V.2 0, 4, .inl x_places_13)), (a 2, .inl (V.2 0, 4, .inl x_firsts_15)), (a 3, .inl (V.2 0, 4, .inl ((upd x_wholes x_number.toNatClampNeg r_16)))), (a 4, .inl (V.2 0, 10, .inl x_taken_5)), (a 5, .inl (V.2 0, 10, .inl x_behinds_6)), (a 6, .inr (2, [.ref (a 7), .ref (a 8), .ref (a 9), .int x_parts_height_7])), (a 7, .inl (V.2 0, 16, .inl x_parts_firsts_8)), (a 8, .inl (V.2 0, 16, .inl x_parts_lasts_9)), (a 9, .inl (V.2 1, 16, .inl x_parts_lacking_10)), (b 0, .inr (7, [.ref (b 1), .int y_length, .int y_rulesSeen, .int y_placesSeen])), (b 1, .inl (V.2 0, 200, .inl y_signs))]) 3 rfl h.1 rfl dX4_add_179 ?_
        replace h := h.2
        obtain ⟨x_wholes_17, ex_wholes_17⟩ : ∃ f : Nat → Int32, f = upd x_wholes x_number.toNatClampNeg r_16 := ⟨_, rfl⟩
        refine ga_cast (ws' := [(a 0, .inr (4, [.ref (a 1), .ref (a 2), .ref (a 3), .ref (a 4), .ref (a 5), .ref (a 6), .int x_number, .int x_placeNumber])), (a 1, .inl (V.2 0, 4, .inl x_places_13)), (a 2, .inl (V.2 0, 4, .inl x_firsts_15)), (a 3, .inl (V.2 0, 4, .inl x_wholes_17)), (a 4, .inl (V.2 0, 10, .inl x_taken_5)), (a 5, .inl (V.2 0, 10, .inl x_behinds_6)), (a 6, .inr (2, [.ref (a 7), .ref (a 8), .ref (a 9), .int x_parts_height_7])), (a 7, .inl (V.2 0, 16, .inl x_parts_firsts_8)), (a 8, .inl (V.2 0, 16, .inl x_parts_lasts_9)), (a 9, .inl (V.2 1, 16, .inl x_parts_lacking_10)), (b 0, .inr (7, [.ref (b 1), .int y_length, .int y_rulesSeen, .int y_placesSeen])), (b 1, .inl (V.2 0, 200, .inl y_signs))]) (by rw [ex_wholes_17]) rfl ?_
        replace h := h x_wholes_17 ex_wholes_17
        refine ga_aload_n hR (pc := 180) 0 rfl rfl dX4_add_180 ?_
        refine ga_dup hR (pc := 181) rfl dX4_add_181 ?_
        refine ga_get hR (pc := 182) 0 rfl rfl hinX4 6 (by decide) f34 rfl dX4_add_182 ?_
        refine ga_iconst hR (pc := 185) (v := nI 1) (by decide) dX4_add_185 ?_
        refine ga_iadd hR (pc := 186) dX4_add_186 ?_
        refine ga_topi (fun x_number_18 ex_number_18 => ?_)
        replace h := h x_number_18 ex_number_18
        refine ga_putf hR (pc := 187) (ws' := [(a 0, .inr (4, [.ref (a 1), .ref (a 2), .ref (a 3), .ref (a 4), .ref (a 5), .ref (a 6), .int x_number_18, .int x_placeNumber])), (a 1, .inl (V.2 0, 4, .inl x_places_13)), (a 2, .inl (V.2 0, 4, .inl x_firsts_15)), (a 3, .inl (V.2 0, 4, .inl x_wholes_17)), (a 4, .inl (V.2 0, 10, .inl x_taken_5)), (a 5, .inl (V.2 0, 10, .inl x_behinds_6)), (a 6, .inr (2, [.ref (a 7), .ref (a 8), .ref (a 9), .int x_parts_height_7])), (a 7, .inl (V.2 0, 16, .inl x_parts_firsts_8)), (a 8, .inl (V.2 0, 16, .inl x_parts_lasts_9)), (a 9, .inl (V.2 1, 16, .inl x_parts_lacking_10)), (b 0, .inr (7, [.ref (b 1), .int y_length, .int y_rulesSeen, .int y_placesSeen])), (b 1, .inl (V.2 0, 200, .inl y_signs))]) 0 rfl rfl hinX4 6 (by decide) f34 tyX4_ok nmX4 rfl rfl rfl (Nat.le_of_ble_eq_true rfl) rfl dX4_add_187 ?_
        refine ga_aload_n hR (pc := 190) 0 rfl rfl dX4_add_190 ?_
        refine ga_dup hR (pc := 191) rfl dX4_add_191 ?_
        refine ga_get hR (pc := 192) 0 rfl rfl hinX4 7 (by decide) f38 rfl dX4_add_192 ?_
        refine ga_iload hR (pc := 195) 1 rfl dX4_add_195 ?_
        refine ga_iadd hR (pc := 197) dX4_add_197 ?_
        refine ga_topi (fun x_placeNumber_19 ex_placeNumber_19 => ?_)
        replace h := h x_placeNumber_19 ex_placeNumber_19
        refine ga_putf hR (pc := 198) (ws' := [(a 0, .inr (4, [.ref (a 1), .ref (a 2), .ref (a 3), .ref (a 4), .ref (a 5), .ref (a 6), .int x_number_18, .int x_placeNumber_19])), (a 1, .inl (V.2 0, 4, .inl x_places_13)), (a 2, .inl (V.2 0, 4, .inl x_firsts_15)), (a 3, .inl (V.2 0, 4, .inl x_wholes_17)), (a 4, .inl (V.2 0, 10, .inl x_taken_5)), (a 5, .inl (V.2 0, 10, .inl x_behinds_6)), (a 6, .inr (2, [.ref (a 7), .ref (a 8), .ref (a 9), .int x_parts_height_7])), (a 7, .inl (V.2 0, 16, .inl x_parts_firsts_8)), (a 8, .inl (V.2 0, 16, .inl x_parts_lasts_9)), (a 9, .inl (V.2 1, 16, .inl x_parts_lacking_10)), (b 0, .inr (7, [.ref (b 1), .int y_length, .int y_rulesSeen, .int y_placesSeen])), (b 1, .inl (V.2 0, 200, .inl y_signs))]) 0 rfl rfl hinX4 7 (by decide) f38 tyX4_ok nmX4 rfl rfl rfl (Nat.le_of_ble_eq_true rfl) rfl dX4_add_198 ?_
        exact ga_vret hE dX4_add_201 (ga_rv (x_number_18, x_placeNumber_19, x_places_13, x_firsts_15, x_wholes_17, x_taken_5, x_behinds_6, x_parts_height_7, x_parts_firsts_8, x_parts_lasts_9, x_parts_lacking_10) rfl h)
      · intro h
        obtain ⟨n, h⟩ := h
        have L50 : ∀ (n : Nat) (v5_39 : Int32) (v6_40 : Int32) (x_taken_41 : Nat → Int32) (x_behinds_42 : Nat → Int32) (x_parts_height_43 : Int32) (x_parts_firsts_44 : Nat → Int32) (x_parts_lasts_45 : Nat → Int32) (x_parts_lacking_46 : Nat → Int32), lp_X4_add_50 y_length y_signs p2 (fun (x_taken_5 : Nat → Int32) (x_behinds_6 : Nat → Int32) (x_parts_height_7 : Int32) (x_parts_firsts_8 : Nat → Int32) (x_parts_lasts_9 : Nat → Int32) (x_parts_lacking_10 : Nat → Int32) => G 0 0 [(a 0, .inr (4, [.ref (a 1), .ref (a 2), .ref (a 3), .ref (a 4), .ref (a 5), .ref (a 6), .int x_number, .int x_placeNumber])), (a 1, .inl (V.2 0, 4, .inl x_places)), (a 2, .inl (V.2 0, 4, .inl x_firsts)), (a 3, .inl (V.2 0, 4, .inl x_wholes)), (a 4, .inl (V.2 0, 10, .inl x_taken_5)), (a 5, .inl (V.2 0, 10, .inl x_behinds_6)), (a 6, .inr (2, [.ref (a 7), .ref (a 8), .ref (a 9), .int x_parts_height_7])), (a 7, .inl (V.2 0, 16, .inl x_parts_firsts_8)), (a 8, .inl (V.2 0, 16, .inl x_parts_lasts_9)), (a 9, .inl (V.2 1, 16, .inl x_parts_lacking_10)), (b 0, .inr (7, [.ref (b 1), .int y_length, .int y_rulesSeen, .int y_placesSeen])), (b 1, .inl (V.2 0, 200, .inl y_signs))] 123 [(0, .ref (a 0)), (4, .int r_1)] []) n v5_39 v6_40 x_taken_41 x_behinds_42 x_parts_height_43 x_parts_firsts_44 x_parts_lasts_45 x_parts_lacking_46 → G 0 0 [(a 0, .inr (4, [.ref (a 1), .ref (a 2), .ref (a 3), .ref (a 4), .ref (a 5), .ref (a 6), .int x_number, .int x_placeNumber])), (a 1, .inl (V.2 0, 4, .inl x_places)), (a 2, .inl (V.2 0, 4, .inl x_firsts)), (a 3, .inl (V.2 0, 4, .inl x_wholes)), (a 4, .inl (V.2 0, 10, .inl x_taken_41)), (a 5, .inl (V.2 0, 10, .inl x_behinds_42)), (a 6, .inr (2, [.ref (a 7), .ref (a 8), .ref (a 9), .int x_parts_height_43])), (a 7, .inl (V.2 0, 16, .inl x_parts_firsts_44)), (a 8, .inl (V.2 0, 16, .inl x_parts_lasts_45)), (a 9, .inl (V.2 1, 16, .inl x_parts_lacking_46)), (b 0, .inr (7, [.ref (b 1), .int y_length, .int y_rulesSeen, .int y_placesSeen])), (b 1, .inl (V.2 0, 200, .inl y_signs))] 50 [(0, .ref (a 0)), (1, .ref (b 0)), (2, .int p2), (4, .int r_1), (5, .int v5_39), (6, .int v6_40)] [] := by
          intro n
          induction n with
          | zero => exact fun _ _ _ _ _ _ _ _ h => False.elim h
          | succ n ih =>
            intro v5_39 v6_40 x_taken_41 x_behinds_42 x_parts_height_43 x_parts_firsts_44 x_parts_lasts_45 x_parts_lacking_46 h
            rw [lp_X4_add_50] at h
            refine ga_iload hR (pc := 50) 5 rfl dX4_add_50 ?_
            refine ga_iload_n hR (pc := 52) 2 rfl rfl dX4_add_52 ?_
            refine ga_icmp_lt hR (pc := 53) 123 (by decide) dX4_add_53 (fun c53 => ?_) (fun c53 => ?_)
            · replace h := h.1 c53
              exact ga_lv hR [0, 3] rfl h
            · replace h := h.2 c53
              refine ga_aload_n hR (pc := 56) 1 rfl rfl dX4_add_56 ?_
              refine ga_iload hR (pc := 57) 5 rfl dX4_add_57 ?_
              refine ga_callV hR (pc := 59) (As := [.int v6_40]) (rest := []) (st0 := [.int v6_40, .ref (b 0)]) (b := (b 0)) 1 (c_X7_signAt V b y_rulesSeen y_placesSeen y_length y_signs v6_40 _ h) (ga_same_i fun _ => rfl) gX4_add_X7_signAt rfl rfl rfl hd_X7_signAt ⟨Nat.le_of_ble_eq_true rfl, Nat.le_of_ble_eq_true rfl⟩ rfl rfl (Nat.le_of_ble_eq_true rfl) ⟨Nat.zero_le _, Nat.zero_le _⟩ [10, 11] rfl rfl 10 rfl rfl dX4_add_59 ?_
              rintro _ _ ⟨r_47, ⟨⟩, rfl, rfl, h⟩
              refine ga_to [(a 0, .inr (4, [.ref (a 1), .ref (a 2), .ref (a 3), .ref (a 4), .ref (a 5), .ref (a 6), .int x_number, .int x_placeNumber])), (a 1, .inl (V.2 0, 4, .inl x_places)), (a 2, .inl (V.2 0, 4, .inl x_firsts)), (a 3, .inl (V.2 0, 4, .inl x_wholes)), (a 4, .inl (V.2 0, 10, .inl x_taken_41)), (a 5, .inl (V.2 0, 10, .inl x_behinds_42)), (a 6, .inr (2, [.ref (a 7), .ref (a 8), .ref (a 9), .int x_parts_height_43])), (a 7, .inl (V.2 0, 16, .inl x_parts_firsts_44)), (a 8, .inl (V.2 0, 16, .inl x_parts_lasts_45)), (a 9, .inl (V.2 1, 16, .inl x_parts_lacking_46)), (b 0, .inr (7, [.ref (b 1), .int y_length, .int y_rulesSeen, .int y_placesSeen])), (b 1, .inl (V.2 0, 200, .inl y_signs))] [.int r_47] rfl rfl ?_
              try dsimp only at h
              refine ga_istore hR (pc := 62) (lv' := [(7, .int r_47), (0, .ref (a 0)), (1, .ref (b 0)), (2, .int p2), (4, .int r_1), (5, .int v5_39), (6, .int v6_40)]) (by decide) rfl dX4_add_62 ?_
              refine ga_iload hR (pc := 64) 0 rfl dX4_add_64 ?_
              refine ga_bipush hR (pc := 66) (v := nI 46) (by decide) dX4_add_66 ?_
              have hJ := h (G 0 0 [(a 0, .inr (4, [.ref (a 1), .ref (a 2), .ref (a 3), .ref (a 4), .ref (a 5), .ref (a 6), .int x_number, .int x_placeNumber])), (a 1, .inl (V.2 0, 4, .inl x_places)), (a 2, .inl (V.2 0, 4, .inl x_firsts)), (a 3, .inl (V.2 0, 4, .inl x_wholes)), (a 4, .inl (V.2 0, 10, .inl x_taken_41)), (a 5, .inl (V.2 0, 10, .inl x_behinds_42)), (a 6, .inr (2, [.ref (a 7), .ref (a 8), .ref (a 9), .int x_parts_height_43])), (a 7, .inl (V.2 0, 16, .inl x_parts_firsts_44)), (a 8, .inl (V.2 0, 16, .inl x_parts_lasts_45)), (a 9, .inl (V.2 1, 16, .inl x_parts_lacking_46)), (b 0, .inr (7, [.ref (b 1), .int y_length, .int y_rulesSeen, .int y_placesSeen])), (b 1, .inl (V.2 0, 200, .inl y_signs))] 82 [(0, .ref (a 0)), (1, .ref (b 0)), (2, .int p2), (4, .int r_1), (5, .int v5_39), (6, .int v6_40), (7, .int r_47)] [])
              refine ga_bind hJ ?_ ?_
              · intro h
                show G 0 0 [(a 0, .inr (4, [.ref (a 1), .ref (a 2), .ref (a 3), .ref (a 4), .ref (a 5), .ref (a 6), .int x_number, .int x_placeNumber])), (a 1, .inl (V.2 0, 4, .inl x_places)), (a 2, .inl (V.2 0, 4, .inl x_firsts)), (a 3, .inl (V.2 0, 4, .inl x_wholes)), (a 4, .inl (V.2 0, 10, .inl x_taken_41)), (a 5, .inl (V.2 0, 10, .inl x_behinds_42)), (a 6, .inr (2, [.ref (a 7), .ref (a 8), .ref (a 9), .int x_parts_height_43])), (a 7, .inl (V.2 0, 16, .inl x_parts_firsts_44)), (a 8, .inl (V.2 0, 16, .inl x_parts_lasts_45)), (a 9, .inl (V.2 1, 16, .inl x_parts_lacking_46)), (b 0, .inr (7, [.ref (b 1), .int y_length, .int y_rulesSeen, .int y_placesSeen])), (b 1, .inl (V.2 0, 200, .inl y_signs))] 82 [(0, .ref (a 0)), (1, .ref (b 0)), (2, .int p2), (4, .int r_1), (5, .int v5_39), (6, .int v6_40), (7, .int r_47)] []
                obtain ⟨v5_49, ev5_49⟩ : ∃ v : Int32, v = v5_39 + (-1) := ⟨_, rfl⟩
                replace h := h v5_49 ev5_49
                refine ga_iinc hR (pc := 82) (lv' := [(5, .int v5_49), (0, .ref (a 0)), (1, .ref (b 0)), (2, .int p2), (4, .int r_1), (6, .int v6_40), (7, .int r_47)]) 4 (by decide) rfl ev5_49 (by decide) rfl dX4_add_82 ?_
                refine ga_aload_n hR (pc := 85) 1 rfl rfl dX4_add_85 ?_
                refine ga_iload hR (pc := 86) 0 rfl dX4_add_86 ?_
                refine ga_iload hR (pc := 88) 6 rfl dX4_add_88 ?_
                refine ga_bipush hR (pc := 90) (v := nI 46) (by decide) dX4_add_90 ?_
                have hJ := h (fun (s2_50 : Int32) => G 0 0 [(a 0, .inr (4, [.ref (a 1), .ref (a 2), .ref (a 3), .ref (a 4), .ref (a 5), .ref (a 6), .int x_number, .int x_placeNumber])), (a 1, .inl (V.2 0, 4, .inl x_places)), (a 2, .inl (V.2 0, 4, .inl x_firsts)), (a 3, .inl (V.2 0, 4, .inl x_wholes)), (a 4, .inl (V.2 0, 10, .inl x_taken_41)), (a 5, .inl (V.2 0, 10, .inl x_behinds_42)), (a 6, .inr (2, [.ref (a 7), .ref (a 8), .ref (a 9), .int x_parts_height_43])), (a 7, .inl (V.2 0, 16, .inl x_parts_firsts_44)), (a 8, .inl (V.2 0, 16, .inl x_parts_lasts_45)), (a 9, .inl (V.2 1, 16, .inl x_parts_lacking_46)), (b 0, .inr (7, [.ref (b 1), .int y_length, .int y_rulesSeen, .int y_placesSeen])), (b 1, .inl (V.2 0, 200, .inl y_signs))] 105 [(0, .ref (a 0)), (1, .ref (b 0)), (2, .int p2), (4, .int r_1), (5, .int v5_49), (6, .int v6_40)] [.int s2_50, .int v5_49, .ref (a 0)])
                refine ga_bind hJ ?_ ?_
                · intro s2_50 h
                  show G 0 0 [(a 0, .inr (4, [.ref (a 1), .ref (a 2), .ref (a 3), .ref (a 4), .ref (a 5), .ref (a 6), .int x_number, .int x_placeNumber])), (a 1, .inl (V.2 0, 4, .inl x_places)), (a 2, .inl (V.2 0, 4, .inl x_firsts)), (a 3, .inl (V.2 0, 4, .inl x_wholes)), (a 4, .inl (V.2 0, 10, .inl x_taken_41)), (a 5, .inl (V.2 0, 10, .inl x_behinds_42)), (a 6, .inr (2, [.ref (a 7), .ref (a 8), .ref (a 9), .int x_parts_height_43])), (a 7, .inl (V.2 0, 16, .inl x_parts_firsts_44)), (a 8, .inl (V.2 0, 16, .inl x_parts_lasts_45)), (a 9, .inl (V.2 1, 16, .inl x_parts_lacking_46)), (b 0, .inr (7, [.ref (b 1), .int y_length, .int y_rulesSeen, .int y_placesSeen])), (b 1, .inl (V.2 0, 200, .inl y_signs))] 105 [(0, .ref (a 0)), (1, .ref (b 0)), (2, .int p2), (4, .int r_1), (5, .int v5_49), (6, .int v6_40)] [.int s2_50, .int v5_49, .ref (a 0)]
                  refine ga_callV hR (pc := 105) (As := [.int v5_49, .int s2_50]) (rest := []) (st0 := [.int s2_50, .int v5_49, .ref (a 0)]) (b := (a 0)) 2 (c_X4_addPlace V a x_number x_placeNumber x_taken_41 x_behinds_42 x_parts_height_43 x_parts_firsts_44 x_parts_lasts_45 x_parts_lacking_46 v5_49 s2_50 _ h) (ga_same_v fun _ => rfl) gX4_add_X4_addPlace rfl rfl rfl hd_X4_addPlace ⟨Nat.le_of_ble_eq_true rfl, Nat.le_of_ble_eq_true rfl⟩ rfl rfl (Nat.le_of_ble_eq_true rfl) ⟨Nat.zero_le _, Nat.zero_le _⟩ [0, 4, 5, 6, 7, 8, 9] rfl rfl 0 rfl rfl dX4_add_105 ?_
                  rintro _ _ ⟨⟨x_taken_52, x_behinds_53, x_parts_height_54, x_parts_firsts_55, x_parts_lasts_56, x_parts_lacking_57⟩, rfl, rfl, h⟩
                  refine ga_to [(a 0, .inr (4, [.ref (a 1), .ref (a 2), .ref (a 3), .ref (a 4), .ref (a 5), .ref (a 6), .int x_number, .int x_placeNumber])), (a 1, .inl (V.2 0, 4, .inl x_places)), (a 2, .inl (V.2 0, 4, .inl x_firsts)), (a 3, .inl (V.2 0, 4, .inl x_wholes)), (a 4, .inl (V.2 0, 10, .inl x_taken_52)), (a 5, .inl (V.2 0, 10, .inl x_behinds_53)), (a 6, .inr (2, [.ref (a 7), .ref (a 8), .ref (a 9), .int x_parts_height_54])), (a 7, .inl (V.2 0, 16, .inl x_parts_firsts_55)), (a 8, .inl (V.2 0, 16, .inl x_parts_lasts_56)), (a 9, .inl (V.2 1, 16, .inl x_parts_lacking_57)), (b 0, .inr (7, [.ref (b 1), .int y_length, .int y_rulesSeen, .int y_placesSeen])), (b 1, .inl (V.2 0, 200, .inl y_signs))] [] rfl rfl ?_
                  try dsimp only at h
                  refine ga_goto hR (pc := 108) 117 (by decide) dX4_add_108 ?_
                  obtain ⟨v6_58, ev6_58⟩ : ∃ v : Int32, v = v6_40 + (-1) := ⟨_, rfl⟩
                  replace h := h v6_58 ev6_58
                  refine ga_iinc hR (pc := 117) (lv' := [(6, .int v6_58), (0, .ref (a 0)), (1, .ref (b 0)), (2, .int p2), (4, .int r_1), (5, .int v5_49)]) 5 (by decide) rfl ev6_58 (by decide) rfl dX4_add_117 ?_
                  refine ga_goto hR (pc := 120) 50 (by decide) dX4_add_120 ?_
                  exact ga_lv hR [1, 2, 3, 4, 5, 0] rfl (ih _ _ _ _ _ _ _ _ h)
                · intro h
                  refine ga_icmp_ne hR (pc := 92) 100 (by decide) dX4_add_92 (fun c92 => ?_) (fun c92 => ?_)
                  · replace h := h.1 c92
                    refine ga_iload hR (pc := 100) 6 rfl dX4_add_100 ?_
                    refine ga_bipush hR (pc := 102) (v := nI 48) (by decide) dX4_add_102 ?_
                    refine ga_isub hR (pc := 104) dX4_add_104 ?_
                    exact ga_lv hR [1, 2, 3, 4, 0, 5] rfl h
                  · replace h := h.2 c92
                    refine ga_bipush hR (pc := 95) (v := nI 6) (by decide) dX4_add_95 ?_
                    refine ga_goto hR (pc := 97) 105 (by decide) dX4_add_97 ?_
                    exact ga_lv hR [1, 2, 3, 4, 0, 5] rfl h
              · intro h
                refine ga_icmp_eq hR (pc := 68) 82 (by decide) dX4_add_68 (fun c68 => ?_) (fun c68 => ?_)
                · replace h := h.1 c68
                  exact ga_lv hR [1, 2, 3, 4, 5, 6, 0] rfl h
                · replace h := h.2 c68
                  refine ga_iload hR (pc := 71) 0 rfl dX4_add_71 ?_
                  refine ga_bipush hR (pc := 73) (v := nI 48) (by decide) dX4_add_73 ?_
                  refine ga_isub hR (pc := 75) dX4_add_75 ?_
                  refine ga_callSN hR (pc := 76) (As := [.int (r_47 - (nI 48))]) (rest := []) (st0 := [.int (r_47 - (nI 48))]) 1 (c_X9_isClass V (r_47 - (nI 48)) _ h) (ga_same_i fun _ => rfl) gX4_add_X9_isClass_n61 rfl rfl rfl hd_X9_isClassS ⟨Nat.le_of_ble_eq_true rfl, Nat.le_of_ble_eq_true rfl⟩ rfl rfl (Nat.le_of_ble_eq_true rfl) ⟨Nat.zero_le _, Nat.zero_le _⟩ [] rfl rfl (host := "BoundaryRules") (by decide +kernel) (by decide +kernel) (by decide +kernel) dX4_add_76 ?_
                  rintro _ _ ⟨r_59, ⟨⟩, rfl, rfl, h⟩
                  refine ga_to [(a 0, .inr (4, [.ref (a 1), .ref (a 2), .ref (a 3), .ref (a 4), .ref (a 5), .ref (a 6), .int x_number, .int x_placeNumber])), (a 1, .inl (V.2 0, 4, .inl x_places)), (a 2, .inl (V.2 0, 4, .inl x_firsts)), (a 3, .inl (V.2 0, 4, .inl x_wholes)), (a 4, .inl (V.2 0, 10, .inl x_taken_41)), (a 5, .inl (V.2 0, 10, .inl x_behinds_42)), (a 6, .inr (2, [.ref (a 7), .ref (a 8), .ref (a 9), .int x_parts_height_43])), (a 7, .inl (V.2 0, 16, .inl x_parts_firsts_44)), (a 8, .inl (V.2 0, 16, .inl x_parts_lasts_45)), (a 9, .inl (V.2 1, 16, .inl x_parts_lacking_46)), (b 0, .inr (7, [.ref (b 1), .int y_length, .int y_rulesSeen, .int y_placesSeen])), (b 1, .inl (V.2 0, 200, .inl y_signs))] [.int r_59] rfl rfl ?_
                  try dsimp only at h
                  refine ga_if_eq hR (pc := 79) 111 (by decide) dX4_add_79 (fun c79 => ?_) (fun c79 => ?_)
                  · replace h := h.1 c79
                    refine ga_aload_n hR (pc := 111) 1 rfl rfl dX4_add_111 ?_
                    refine ga_iload hR (pc := 112) 0 rfl dX4_add_112 ?_
                    refine ga_callV hR (pc := 114) (As := [.int r_47]) (rest := []) (st0 := [.int r_47, .ref (a 0)]) (b := (a 0)) 1 (c_X4_join V a x_number x_placeNumber x_behinds_42 x_parts_height_43 x_parts_firsts_44 x_parts_lasts_45 x_parts_lacking_46 r_47 _ h) (ga_same_v fun _ => rfl) gX4_add_X4_join rfl rfl rfl hd_X4_join ⟨Nat.le_of_ble_eq_true rfl, Nat.le_of_ble_eq_true rfl⟩ rfl rfl (Nat.le_of_ble_eq_true rfl) ⟨Nat.zero_le _, Nat.zero_le _⟩ [0, 5, 6, 7, 8, 9] rfl rfl 0 rfl rfl dX4_add_114 ?_
                    rintro _ _ ⟨⟨x_behinds_60, x_parts_height_61, x_parts_firsts_62, x_parts_lasts_63, x_parts_lacking_64⟩, rfl, rfl, h⟩
                    refine ga_to [(a 0, .inr (4, [.ref (a 1), .ref (a 2), .ref (a 3), .ref (a 4), .ref (a 5), .ref (a 6), .int x_number, .int x_placeNumber])), (a 1, .inl (V.2 0, 4, .inl x_places)), (a 2, .inl (V.2 0, 4, .inl x_firsts)), (a 3, .inl (V.2 0, 4, .inl x_wholes)), (a 4, .inl (V.2 0, 10, .inl x_taken_41)), (a 5, .inl (V.2 0, 10, .inl x_behinds_60)), (a 6, .inr (2, [.ref (a 7), .ref (a 8), .ref (a 9), .int x_parts_height_61])), (a 7, .inl (V.2 0, 16, .inl x_parts_firsts_62)), (a 8, .inl (V.2 0, 16, .inl x_parts_lasts_63)), (a 9, .inl (V.2 1, 16, .inl x_parts_lacking_64)), (b 0, .inr (7, [.ref (b 1), .int y_length, .int y_rulesSeen, .int y_placesSeen])), (b 1, .inl (V.2 0, 200, .inl y_signs))] [] rfl rfl ?_
                    try dsimp only at h
                    obtain ⟨v6_65, ev6_65⟩ : ∃ v : Int32, v = v6_40 + (-1) := ⟨_, rfl⟩
                    replace h := h v6_65 ev6_65
                    refine ga_iinc hR (pc := 117) (lv' := [(6, .int v6_65), (7, .int r_47), (0, .ref (a 0)), (1, .ref (b 0)), (2, .int p2), (4, .int r_1), (5, .int v5_39)]) 6 (by decide) rfl ev6_65 (by decide) rfl dX4_add_117 ?_
                    refine ga_goto hR (pc := 120) 50 (by decide) dX4_add_120 ?_
                    exact ga_lv hR [2, 3, 4, 5, 6, 0] rfl (ih _ _ _ _ _ _ _ _ h)
                  · replace h := h.2 c79
                    exact ga_lv hR [1, 2, 3, 4, 5, 6, 0] rfl h
        exact ga_lv hR [3, 4, 5, 2, 1, 0] rfl (L50 n _ _ _ _ _ _ _ _ h)
    · replace h := h.2 c25
      exact ga_vret hE dX4_add_28 (ga_rv (x_number, x_placeNumber, x_places, x_firsts, x_wholes, x_taken, x_behinds, x_parts_height, x_parts_firsts, x_parts_lasts, x_parts_lacking) rfl h)

def rm_X6_setClass : Room := { frames := 1, cells := 0, slots := 0, locals := 20 }
theorem hd_X6_setClassS : yX6_setClass.cls ≠ "java/lang/invoke/MethodHandle" ∧ yX6_setClass.cls ≠ "java/lang/invoke/VarHandle" ∧ (parseMethodDescriptor yX6_setClass.desc).map (fun d => d.parameters.length) = some 2 := by decide +kernel
theorem hd_X6_setClass : yX6_setClass.cls = RX6 ∧ yX6_setClass.cls ≠ "java/lang/invoke/MethodHandle" ∧ yX6_setClass.cls ≠ "java/lang/invoke/VarHandle" ∧ (parseMethodDescriptor yX6_setClass.desc).map (fun d => d.parameters.length) = some 2 := ⟨rfl, hd_X6_setClassS⟩
set_option maxHeartbeats 4000000 in
set_option maxRecDepth 100000 in
theorem c_X6_setClass (V : ga_V) (a : Nat → Nat) (x_length : Int32) (x_classes : Nat → Int32) (p1 : Int32) (p2 : Int32) (K : (Nat → Int32) → Prop) (h : wp_X6_setClass x_classes p1 p2 K) : ga_C V yX6_setClass wsX6_setClass rm_X6_setClass [.ref (a 0), .int p1, .int p2] [(a 0, .inr (6, [.ref (a 1), .ref (a 2), .ref (a 3), .int x_length])), (a 1, .inl (V.2 0, 26, .inl x_classes))] 0 0 (ga_Fv (fun (u : (Nat → Int32)) => [(a 0, .inr (6, [.ref (a 1), .ref (a 2), .ref (a 3), .int x_length])), (a 1, .inl (V.2 0, 26, .inl u))]) (fun u => K u)) := by
  refine ga_met (cc := cX6_setClass) (maxL := 3) (rt := none) (by decide) rfl [(0, .ref (a 0)), (1, .int p1), (2, .int p2)] rfl (Nat.le_of_ble_eq_true rfl) ?_
  intro G hR hE
  have hinX6 : ∀ w ∈ u_ws RX6 TX6 4, w ∈ wsX6_setClass := by decide +kernel
  have f9 : Cond.fieldLink RX6 9 "BoundaryRules$Stock" "classes" "[I" ∈ wsX6_setClass := by decide +kernel
  unfold wp_X6_setClass at h
  refine ga_iload_n hR (pc := 0) 1 rfl rfl dX6_setClass_0 ?_
  refine ga_callSN hR (pc := 1) (As := [.int p1]) (rest := []) (st0 := [.int p1]) 1 (c_X9_isLetter V p1 _ h) (ga_same_i fun _ => rfl) gX6_setClass_X9_isLetter_n25 rfl rfl rfl hd_X9_isLetterS ⟨Nat.le_of_ble_eq_true rfl, Nat.le_of_ble_eq_true rfl⟩ rfl rfl (Nat.le_of_ble_eq_true rfl) ⟨Nat.zero_le _, Nat.zero_le _⟩ [] rfl rfl (host := "BoundaryRules") (by decide +kernel) (by decide +kernel) (by decide +kernel) dX6_setClass_1 ?_
  rintro _ _ ⟨r_1, ⟨⟩, rfl, rfl, h⟩
  refine ga_to [(a 0, .inr (6, [.ref (a 1), .ref (a 2), .ref (a 3), .int x_length])), (a 1, .inl (V.2 0, 26, .inl x_classes))] [.int r_1] rfl rfl ?_
  try dsimp only at h
  refine ga_if_eq hR (pc := 4) 14 (by decide) dX6_setClass_4 (fun c4 => ?_) (fun c4 => ?_)
  · replace h := h.1 c4
    exact ga_vret hE dX6_setClass_14 (ga_rv x_classes rfl h)
  · replace h := h.2 c4
    refine ga_aload_n hR (pc := 7) 0 rfl rfl dX6_setClass_7 ?_
    refine ga_get hR (pc := 8) 0 rfl rfl hinX6 0 (by decide) f9 rfl dX6_setClass_8 ?_
    refine ga_iload_n hR (pc := 11) 1 rfl rfl dX6_setClass_11 ?_
    refine ga_iload_n hR (pc := 12) 2 rfl rfl dX6_setClass_12 ?_
    refine ga_iast hR (pc := 13) (ws' := [(a 0, .inr (6, [.ref (a 1), .ref (a 2), .ref (a 3), .int x_length])), (a 1, .inl (V.2 0, 26, .inl ((upd x_classes p1.toNatClampNeg p2))))]) 1 rfl h.1 rfl dX6_setClass_13 ?_
    replace h := h.2
    obtain ⟨x_classes_2, ex_classes_2⟩ : ∃ f : Nat → Int32, f = upd x_classes p1.toNatClampNeg p2 := ⟨_, rfl⟩
    refine ga_cast (ws' := [(a 0, .inr (6, [.ref (a 1), .ref (a 2), .ref (a 3), .int x_length])), (a 1, .inl (V.2 0, 26, .inl x_classes_2))]) (by rw [ex_classes_2]) rfl ?_
    replace h := h x_classes_2 ex_classes_2
    exact ga_vret hE dX6_setClass_14 (ga_rv x_classes_2 rfl h)

def rm_X7_tellItem : Room := { frames := 4, cells := 0, slots := 0, locals := 100 }
theorem hd_X7_tellItemS : yX7_tellItem.cls ≠ "java/lang/invoke/MethodHandle" ∧ yX7_tellItem.cls ≠ "java/lang/invoke/VarHandle" ∧ (parseMethodDescriptor yX7_tellItem.desc).map (fun d => d.parameters.length) = some 3 := by decide +kernel
theorem hd_X7_tellItem : yX7_tellItem.cls = RX7 ∧ yX7_tellItem.cls ≠ "java/lang/invoke/MethodHandle" ∧ yX7_tellItem.cls ≠ "java/lang/invoke/VarHandle" ∧ (parseMethodDescriptor yX7_tellItem.desc).map (fun d => d.parameters.length) = some 3 := ⟨rfl, hd_X7_tellItemS⟩
set_option maxHeartbeats 4000000 in
set_option maxRecDepth 100000 in
theorem c_X7_tellItem (V : ga_V) (a : Nat → Nat) (b : Nat → Nat) (c : Nat → Nat) (x_rulesSeen : Int32) (x_placesSeen : Int32) (x_length : Int32) (x_signs : Nat → Int32) (y_number : Int32) (y_placeNumber : Int32) (y_places : Nat → Int32) (y_firsts : Nat → Int32) (y_wholes : Nat → Int32) (y_taken : Nat → Int32) (y_behinds : Nat → Int32) (y_parts_height : Int32) (y_parts_firsts : Nat → Int32) (y_parts_lasts : Nat → Int32) (y_parts_lacking : Nat → Int32) (z_length : Int32) (z_classes : Nat → Int32) (z_kinds : Nat → Int32) (z_line : Nat → Int32) (p1 : Int32) (K : Int32 → Int32 → Int32 → (Nat → Int32) → (Nat → Int32) → (Nat → Int32) → (Nat → Int32) → (Nat → Int32) → Int32 → (Nat → Int32) → (Nat → Int32) → (Nat → Int32) → Int32 → (Nat → Int32) → (Nat → Int32) → (Nat → Int32) → Prop) (h : wp_X7_tellItem x_length x_signs y_number y_placeNumber y_places y_firsts y_wholes y_taken y_behinds y_parts_height y_parts_firsts y_parts_lasts y_parts_lacking z_length z_classes z_kinds z_line p1 K) : ga_C V yX7_tellItem wsX7_tellItem rm_X7_tellItem [.ref (a 0), .int p1, .ref (b 0), .ref (c 0)] [(a 0, .inr (7, [.ref (a 1), .int x_length, .int x_rulesSeen, .int x_placesSeen])), (a 1, .inl (V.2 0, 200, .inl x_signs)), (b 0, .inr (4, [.ref (b 1), .ref (b 2), .ref (b 3), .ref (b 4), .ref (b 5), .ref (b 6), .int y_number, .int y_placeNumber])), (b 1, .inl (V.2 0, 4, .inl y_places)), (b 2, .inl (V.2 0, 4, .inl y_firsts)), (b 3, .inl (V.2 0, 4, .inl y_wholes)), (b 4, .inl (V.2 0, 10, .inl y_taken)), (b 5, .inl (V.2 0, 10, .inl y_behinds)), (b 6, .inr (2, [.ref (b 7), .ref (b 8), .ref (b 9), .int y_parts_height])), (b 7, .inl (V.2 0, 16, .inl y_parts_firsts)), (b 8, .inl (V.2 0, 16, .inl y_parts_lasts)), (b 9, .inl (V.2 1, 16, .inl y_parts_lacking)), (c 0, .inr (6, [.ref (c 1), .ref (c 2), .ref (c 3), .int z_length])), (c 1, .inl (V.2 0, 26, .inl z_classes)), (c 2, .inl (V.2 0, 4, .inl z_kinds)), (c 3, .inl (V.2 0, 30, .inl z_line))] 0 0 (ga_Fi (fun (u : Int32 × Int32 × (Nat → Int32) × (Nat → Int32) × (Nat → Int32) × (Nat → Int32) × (Nat → Int32) × Int32 × (Nat → Int32) × (Nat → Int32) × (Nat → Int32) × Int32 × (Nat → Int32) × (Nat → Int32) × (Nat → Int32)) => [(a 0, .inr (7, [.ref (a 1), .int x_length, .int x_rulesSeen, .int x_placesSeen])), (a 1, .inl (V.2 0, 200, .inl x_signs)), (b 0, .inr (4, [.ref (b 1), .ref (b 2), .ref (b 3), .ref (b 4), .ref (b 5), .ref (b 6), .int u.1, .int u.2.1])), (b 1, .inl (V.2 0, 4, .inl u.2.2.1)), (b 2, .inl (V.2 0, 4, .inl u.2.2.2.1)), (b 3, .inl (V.2 0, 4, .inl u.2.2.2.2.1)), (b 4, .inl (V.2 0, 10, .inl u.2.2.2.2.2.1)), (b 5, .inl (V.2 0, 10, .inl u.2.2.2.2.2.2.1)), (b 6, .inr (2, [.ref (b 7), .ref (b 8), .ref (b 9), .int u.2.2.2.2.2.2.2.1])), (b 7, .inl (V.2 0, 16, .inl u.2.2.2.2.2.2.2.2.1)), (b 8, .inl (V.2 0, 16, .inl u.2.2.2.2.2.2.2.2.2.1)), (b 9, .inl (V.2 1, 16, .inl u.2.2.2.2.2.2.2.2.2.2.1)), (c 0, .inr (6, [.ref (c 1), .ref (c 2), .ref (c 3), .int u.2.2.2.2.2.2.2.2.2.2.2.1])), (c 1, .inl (V.2 0, 26, .inl u.2.2.2.2.2.2.2.2.2.2.2.2.1)), (c 2, .inl (V.2 0, 4, .inl u.2.2.2.2.2.2.2.2.2.2.2.2.2.1)), (c 3, .inl (V.2 0, 30, .inl u.2.2.2.2.2.2.2.2.2.2.2.2.2.2))]) (fun r u => K r u.1 u.2.1 u.2.2.1 u.2.2.2.1 u.2.2.2.2.1 u.2.2.2.2.2.1 u.2.2.2.2.2.2.1 u.2.2.2.2.2.2.2.1 u.2.2.2.2.2.2.2.2.1 u.2.2.2.2.2.2.2.2.2.1 u.2.2.2.2.2.2.2.2.2.2.1 u.2.2.2.2.2.2.2.2.2.2.2.1 u.2.2.2.2.2.2.2.2.2.2.2.2.1 u.2.2.2.2.2.2.2.2.2.2.2.2.2.1 u.2.2.2.2.2.2.2.2.2.2.2.2.2.2)) := by
  refine ga_met (cc := cX7_tellItem) (maxL := 6) (rt := (some .int)) (by decide) rfl [(0, .ref (a 0)), (1, .int p1), (2, .ref (b 0)), (3, .ref (c 0))] rfl (Nat.le_of_ble_eq_true rfl) ?_
  intro G hR hE
  have hinX7 : ∀ w ∈ u_ws RX7 TX7 4, w ∈ wsX7_tellItem := by decide +kernel
  have f15 : Cond.fieldLink RX7 15 "BoundaryRules$Text" "length" "I" ∈ wsX7_tellItem := by decide +kernel
  unfold wp_X7_tellItem at h
  refine ga_aload_n hR (pc := 0) 0 rfl rfl dX7_tellItem_0 ?_
  refine ga_iload_n hR (pc := 1) 1 rfl rfl dX7_tellItem_1 ?_
  refine ga_callV hR (pc := 2) (As := [.int p1]) (rest := []) (st0 := [.int p1, .ref (a 0)]) (b := (a 0)) 1 (c_X7_endOfItem V a x_rulesSeen x_placesSeen x_length x_signs p1 _ h) (ga_same_i fun _ => rfl) gX7_tellItem_X7_endOfItem rfl rfl rfl hd_X7_endOfItem ⟨Nat.le_of_ble_eq_true rfl, Nat.le_of_ble_eq_true rfl⟩ rfl rfl (Nat.le_of_ble_eq_true rfl) ⟨Nat.zero_le _, Nat.zero_le _⟩ [0, 1] rfl rfl 0 rfl rfl dX7_tellItem_2 ?_
  rintro _ _ ⟨r_1, ⟨⟩, rfl, rfl, h⟩
  refine ga_to [(a 0, .inr (7, [.ref (a 1), .int x_length, .int x_rulesSeen, .int x_placesSeen])), (a 1, .inl (V.2 0, 200, .inl x_signs)), (b 0, .inr (4, [.ref (b 1), .ref (b 2), .ref (b 3), .ref (b 4), .ref (b 5), .ref (b 6), .int y_number, .int y_placeNumber])), (b 1, .inl (V.2 0, 4, .inl y_places)), (b 2, .inl (V.2 0, 4, .inl y_firsts)), (b 3, .inl (V.2 0, 4, .inl y_wholes)), (b 4, .inl (V.2 0, 10, .inl y_taken)), (b 5, .inl (V.2 0, 10, .inl y_behinds)), (b 6, .inr (2, [.ref (b 7), .ref (b 8), .ref (b 9), .int y_parts_height])), (b 7, .inl (V.2 0, 16, .inl y_parts_firsts)), (b 8, .inl (V.2 0, 16, .inl y_parts_lasts)), (b 9, .inl (V.2 1, 16, .inl y_parts_lacking)), (c 0, .inr (6, [.ref (c 1), .ref (c 2), .ref (c 3), .int z_length])), (c 1, .inl (V.2 0, 26, .inl z_classes)), (c 2, .inl (V.2 0, 4, .inl z_kinds)), (c 3, .inl (V.2 0, 30, .inl z_line))] [.int r_1] rfl rfl ?_
  try dsimp only at h
  refine ga_istore hR (pc := 5) (lv' := [(4, .int r_1), (0, .ref (a 0)), (1, .int p1), (2, .ref (b 0)), (3, .ref (c 0))]) (by decide) rfl dX7_tellItem_5 ?_
  refine ga_iload hR (pc := 7) 0 rfl dX7_tellItem_7 ?_
  refine ga_if_ge hR (pc := 9) 17 (by decide) dX7_tellItem_9 (fun c9 => ?_) (fun c9 => ?_)
  · replace h := h.1 c9
    refine ga_aload_n hR (pc := 17) 1 rfl rfl dX7_tellItem_17 ?_
    refine ga_iload_n hR (pc := 18) 2 rfl rfl dX7_tellItem_18 ?_
    refine ga_callV hR (pc := 19) (As := [.int p1]) (rest := []) (st0 := [.int p1, .ref (a 0)]) (b := (a 0)) 1 (c_X7_signAt V a x_rulesSeen x_placesSeen x_length x_signs p1 _ h) (ga_same_i fun _ => rfl) gX7_tellItem_X7_signAt rfl rfl rfl hd_X7_signAt ⟨Nat.le_of_ble_eq_true rfl, Nat.le_of_ble_eq_true rfl⟩ rfl rfl (Nat.le_of_ble_eq_true rfl) ⟨Nat.zero_le _, Nat.zero_le _⟩ [0, 1] rfl rfl 0 rfl rfl dX7_tellItem_19 ?_
    rintro _ _ ⟨r_2, ⟨⟩, rfl, rfl, h⟩
    refine ga_to [(a 0, .inr (7, [.ref (a 1), .int x_length, .int x_rulesSeen, .int x_placesSeen])), (a 1, .inl (V.2 0, 200, .inl x_signs)), (b 0, .inr (4, [.ref (b 1), .ref (b 2), .ref (b 3), .ref (b 4), .ref (b 5), .ref (b 6), .int y_number, .int y_placeNumber])), (b 1, .inl (V.2 0, 4, .inl y_places)), (b 2, .inl (V.2 0, 4, .inl y_firsts)), (b 3, .inl (V.2 0, 4, .inl y_wholes)), (b 4, .inl (V.2 0, 10, .inl y_taken)), (b 5, .inl (V.2 0, 10, .inl y_behinds)), (b 6, .inr (2, [.ref (b 7), .ref (b 8), .ref (b 9), .int y_parts_height])), (b 7, .inl (V.2 0, 16, .inl y_parts_firsts)), (b 8, .inl (V.2 0, 16, .inl y_parts_lasts)), (b 9, .inl (V.2 1, 16, .inl y_parts_lacking)), (c 0, .inr (6, [.ref (c 1), .ref (c 2), .ref (c 3), .int z_length])), (c 1, .inl (V.2 0, 26, .inl z_classes)), (c 2, .inl (V.2 0, 4, .inl z_kinds)), (c 3, .inl (V.2 0, 30, .inl z_line))] [.int r_2] rfl rfl ?_
    try dsimp only at h
    rcases ga_em (r_2 = (nI 99)) with q22_0 | q22_0
    · replace h := h.1 q22_0
      refine ga_look hR (pc := 22) 48 (by decide) (off := 26) (by rw [q22_0]; rfl) (by decide) dX7_tellItem_22 ?_
      refine ga_iload_n hR (pc := 48) 2 rfl rfl dX7_tellItem_48 ?_
      refine ga_iconst hR (pc := 49) (v := nI 3) (by decide) dX7_tellItem_49 ?_
      refine ga_iadd hR (pc := 50) dX7_tellItem_50 ?_
      refine ga_topi (fun v5_3 ev5_3 => ?_)
      replace h := h v5_3 ev5_3
      refine ga_istore hR (pc := 51) (lv' := [(5, .int v5_3), (4, .int r_1), (0, .ref (a 0)), (1, .int p1), (2, .ref (b 0)), (3, .ref (c 0))]) (by decide) rfl dX7_tellItem_51 ?_
      have hJ := h (fun (z_classes_4 : Nat → Int32) => G 0 0 [(a 0, .inr (7, [.ref (a 1), .int x_length, .int x_rulesSeen, .int x_placesSeen])), (a 1, .inl (V.2 0, 200, .inl x_signs)), (b 0, .inr (4, [.ref (b 1), .ref (b 2), .ref (b 3), .ref (b 4), .ref (b 5), .ref (b 6), .int y_number, .int y_placeNumber])), (b 1, .inl (V.2 0, 4, .inl y_places)), (b 2, .inl (V.2 0, 4, .inl y_firsts)), (b 3, .inl (V.2 0, 4, .inl y_wholes)), (b 4, .inl (V.2 0, 10, .inl y_taken)), (b 5, .inl (V.2 0, 10, .inl y_behinds)), (b 6, .inr (2, [.ref (b 7), .ref (b 8), .ref (b 9), .int y_parts_height])), (b 7, .inl (V.2 0, 16, .inl y_parts_firsts)), (b 8, .inl (V.2 0, 16, .inl y_parts_lasts)), (b 9, .inl (V.2 1, 16, .inl y_parts_lacking)), (c 0, .inr (6, [.ref (c 1), .ref (c 2), .ref (c 3), .int z_length])), (c 1, .inl (V.2 0, 26, .inl z_classes_4)), (c 2, .inl (V.2 0, 4, .inl z_kinds)), (c 3, .inl (V.2 0, 30, .inl z_line))] 89 [(4, .int r_1)] [])
      refine ga_bind hJ ?_ ?_
      · intro z_classes_4 h
        show G 0 0 [(a 0, .inr (7, [.ref (a 1), .int x_length, .int x_rulesSeen, .int x_placesSeen])), (a 1, .inl (V.2 0, 200, .inl x_signs)), (b 0, .inr (4, [.ref (b 1), .ref (b 2), .ref (b 3), .ref (b 4), .ref (b 5), .ref (b 6), .int y_number, .int y_placeNumber])), (b 1, .inl (V.2 0, 4, .inl y_places)), (b 2, .inl (V.2 0, 4, .inl y_firsts)), (b 3, .inl (V.2 0, 4, .inl y_wholes)), (b 4, .inl (V.2 0, 10, .inl y_taken)), (b 5, .inl (V.2 0, 10, .inl y_behinds)), (b 6, .inr (2, [.ref (b 7), .ref (b 8), .ref (b 9), .int y_parts_height])), (b 7, .inl (V.2 0, 16, .inl y_parts_firsts)), (b 8, .inl (V.2 0, 16, .inl y_parts_lasts)), (b 9, .inl (V.2 1, 16, .inl y_parts_lacking)), (c 0, .inr (6, [.ref (c 1), .ref (c 2), .ref (c 3), .int z_length])), (c 1, .inl (V.2 0, 26, .inl z_classes_4)), (c 2, .inl (V.2 0, 4, .inl z_kinds)), (c 3, .inl (V.2 0, 30, .inl z_line))] 89 [(4, .int r_1)] []
        refine ga_goto hR (pc := 89) 162 (by decide) dX7_tellItem_89 ?_
        refine ga_iload hR (pc := 162) 0 rfl dX7_tellItem_162 ?_
        refine ga_iconst hR (pc := 164) (v := nI 1) (by decide) dX7_tellItem_164 ?_
        refine ga_iadd hR (pc := 165) dX7_tellItem_165 ?_
        exact ga_iret hE dX7_tellItem_166 rfl (ga_ri (y_number, y_placeNumber, y_places, y_firsts, y_wholes, y_taken, y_behinds, y_parts_height, y_parts_firsts, y_parts_lasts, y_parts_lacking, z_length, z_classes_4, z_kinds, z_line) rfl h)
      · intro h
        obtain ⟨n, h⟩ := h
        have L53 : ∀ (n : Nat) (v5_10 : Int32) (z_classes_11 : Nat → Int32), lp_X7_tellItem_53 x_length x_signs p1 r_1 (fun (z_classes_4 : Nat → Int32) => G 0 0 [(a 0, .inr (7, [.ref (a 1), .int x_length, .int x_rulesSeen, .int x_placesSeen])), (a 1, .inl (V.2 0, 200, .inl x_signs)), (b 0, .inr (4, [.ref (b 1), .ref (b 2), .ref (b 3), .ref (b 4), .ref (b 5), .ref (b 6), .int y_number, .int y_placeNumber])), (b 1, .inl (V.2 0, 4, .inl y_places)), (b 2, .inl (V.2 0, 4, .inl y_firsts)), (b 3, .inl (V.2 0, 4, .inl y_wholes)), (b 4, .inl (V.2 0, 10, .inl y_taken)), (b 5, .inl (V.2 0, 10, .inl y_behinds)), (b 6, .inr (2, [.ref (b 7), .ref (b 8), .ref (b 9), .int y_parts_height])), (b 7, .inl (V.2 0, 16, .inl y_parts_firsts)), (b 8, .inl (V.2 0, 16, .inl y_parts_lasts)), (b 9, .inl (V.2 1, 16, .inl y_parts_lacking)), (c 0, .inr (6, [.ref (c 1), .ref (c 2), .ref (c 3), .int z_length])), (c 1, .inl (V.2 0, 26, .inl z_classes_4)), (c 2, .inl (V.2 0, 4, .inl z_kinds)), (c 3, .inl (V.2 0, 30, .inl z_line))] 89 [(4, .int r_1)] []) n v5_10 z_classes_11 → G 0 0 [(a 0, .inr (7, [.ref (a 1), .int x_length, .int x_rulesSeen, .int x_placesSeen])), (a 1, .inl (V.2 0, 200, .inl x_signs)), (b 0, .inr (4, [.ref (b 1), .ref (b 2), .ref (b 3), .ref (b 4), .ref (b 5), .ref (b 6), .int y_number, .int y_placeNumber])), (b 1, .inl (V.2 0, 4, .inl y_places)), (b 2, .inl (V.2 0, 4, .inl y_firsts)), (b 3, .inl (V.2 0, 4, .inl y_wholes)), (b 4, .inl (V.2 0, 10, .inl y_taken)), (b 5, .inl (V.2 0, 10, .inl y_behinds)), (b 6, .inr (2, [.ref (b 7), .ref (b 8), .ref (b 9), .int y_parts_height])), (b 7, .inl (V.2 0, 16, .inl y_parts_firsts)), (b 8, .inl (V.2 0, 16, .inl y_parts_lasts)), (b 9, .inl (V.2 1, 16, .inl y_parts_lacking)), (c 0, .inr (6, [.ref (c 1), .ref (c 2), .ref (c 3), .int z_length])), (c 1, .inl (V.2 0, 26, .inl z_classes_11)), (c 2, .inl (V.2 0, 4, .inl z_kinds)), (c 3, .inl (V.2 0, 30, .inl z_line))] 53 [(0, .ref (a 0)), (1, .int p1), (3, .ref (c 0)), (4, .int r_1), (5, .int v5_10)] [] := by
          intro n
          induction n with
          | zero => exact fun _ _ h => False.elim h
          | succ n ih =>
            intro v5_10 z_classes_11 h
            rw [lp_X7_tellItem_53] at h
            refine ga_iload hR (pc := 53) 4 rfl dX7_tellItem_53 ?_
            refine ga_iload hR (pc := 55) 3 rfl dX7_tellItem_55 ?_
            refine ga_icmp_ge hR (pc := 57) 89 (by decide) dX7_tellItem_57 (fun c57 => ?_) (fun c57 => ?_)
            · replace h := h.1 c57
              exact ga_lv hR [3] rfl h
            · replace h := h.2 c57
              refine ga_aload_n hR (pc := 60) 2 rfl rfl dX7_tellItem_60 ?_
              refine ga_aload_n hR (pc := 61) 0 rfl rfl dX7_tellItem_61 ?_
              refine ga_iload hR (pc := 62) 4 rfl dX7_tellItem_62 ?_
              refine ga_callV hR (pc := 64) (As := [.int v5_10]) (rest := [.ref (c 0)]) (st0 := [.int v5_10, .ref (a 0), .ref (c 0)]) (b := (a 0)) 1 (c_X7_signAt V a x_rulesSeen x_placesSeen x_length x_signs v5_10 _ h) (ga_same_i fun _ => rfl) gX7_tellItem_X7_signAt rfl rfl rfl hd_X7_signAt ⟨Nat.le_of_ble_eq_true rfl, Nat.le_of_ble_eq_true rfl⟩ rfl rfl (Nat.le_of_ble_eq_true rfl) ⟨Nat.zero_le _, Nat.zero_le _⟩ [0, 1] rfl rfl 0 rfl rfl dX7_tellItem_64 ?_
              rintro _ _ ⟨r_12, ⟨⟩, rfl, rfl, h⟩
              refine ga_to [(a 0, .inr (7, [.ref (a 1), .int x_length, .int x_rulesSeen, .int x_placesSeen])), (a 1, .inl (V.2 0, 200, .inl x_signs)), (b 0, .inr (4, [.ref (b 1), .ref (b 2), .ref (b 3), .ref (b 4), .ref (b 5), .ref (b 6), .int y_number, .int y_placeNumber])), (b 1, .inl (V.2 0, 4, .inl y_places)), (b 2, .inl (V.2 0, 4, .inl y_firsts)), (b 3, .inl (V.2 0, 4, .inl y_wholes)), (b 4, .inl (V.2 0, 10, .inl y_taken)), (b 5, .inl (V.2 0, 10, .inl y_behinds)), (b 6, .inr (2, [.ref (b 7), .ref (b 8), .ref (b 9), .int y_parts_height])), (b 7, .inl (V.2 0, 16, .inl y_parts_firsts)), (b 8, .inl (V.2 0, 16, .inl y_parts_lasts)), (b 9, .inl (V.2 1, 16, .inl y_parts_lacking)), (c 0, .inr (6, [.ref (c 1), .ref (c 2), .ref (c 3), .int z_length])), (c 1, .inl (V.2 0, 26, .inl z_classes_11)), (c 2, .inl (V.2 0, 4, .inl z_kinds)), (c 3, .inl (V.2 0, 30, .inl z_line))] [.int r_12, .ref (c 0)] rfl rfl ?_
              try dsimp only at h
              refine ga_bipush hR (pc := 67) (v := nI 97) (by decide) dX7_tellItem_67 ?_
              refine ga_isub hR (pc := 69) dX7_tellItem_69 ?_
              refine ga_aload_n hR (pc := 70) 0 rfl rfl dX7_tellItem_70 ?_
              refine ga_iload_n hR (pc := 71) 1 rfl rfl dX7_tellItem_71 ?_
              refine ga_iconst hR (pc := 72) (v := nI 1) (by decide) dX7_tellItem_72 ?_
              refine ga_iadd hR (pc := 73) dX7_tellItem_73 ?_
              refine ga_callV hR (pc := 74) (As := [.int (p1 + (nI 1))]) (rest := [.int (r_12 - (nI 97)), .ref (c 0)]) (st0 := [.int (p1 + (nI 1)), .ref (a 0), .int (r_12 - (nI 97)), .ref (c 0)]) (b := (a 0)) 1 (c_X7_signAt V a x_rulesSeen x_placesSeen x_length x_signs (p1 + (nI 1)) _ h) (ga_same_i fun _ => rfl) gX7_tellItem_X7_signAt rfl rfl rfl hd_X7_signAt ⟨Nat.le_of_ble_eq_true rfl, Nat.le_of_ble_eq_true rfl⟩ rfl rfl (Nat.le_of_ble_eq_true rfl) ⟨Nat.zero_le _, Nat.zero_le _⟩ [0, 1] rfl rfl 0 rfl rfl dX7_tellItem_74 ?_
              rintro _ _ ⟨r_13, ⟨⟩, rfl, rfl, h⟩
              refine ga_to [(a 0, .inr (7, [.ref (a 1), .int x_length, .int x_rulesSeen, .int x_placesSeen])), (a 1, .inl (V.2 0, 200, .inl x_signs)), (b 0, .inr (4, [.ref (b 1), .ref (b 2), .ref (b 3), .ref (b 4), .ref (b 5), .ref (b 6), .int y_number, .int y_placeNumber])), (b 1, .inl (V.2 0, 4, .inl y_places)), (b 2, .inl (V.2 0, 4, .inl y_firsts)), (b 3, .inl (V.2 0, 4, .inl y_wholes)), (b 4, .inl (V.2 0, 10, .inl y_taken)), (b 5, .inl (V.2 0, 10, .inl y_behinds)), (b 6, .inr (2, [.ref (b 7), .ref (b 8), .ref (b 9), .int y_parts_height])), (b 7, .inl (V.2 0, 16, .inl y_parts_firsts)), (b 8, .inl (V.2 0, 16, .inl y_parts_lasts)), (b 9, .inl (V.2 1, 16, .inl y_parts_lacking)), (c 0, .inr (6, [.ref (c 1), .ref (c 2), .ref (c 3), .int z_length])), (c 1, .inl (V.2 0, 26, .inl z_classes_11)), (c 2, .inl (V.2 0, 4, .inl z_kinds)), (c 3, .inl (V.2 0, 30, .inl z_line))] [.int r_13, .int (r_12 - (nI 97)), .ref (c 0)] rfl rfl ?_
              try dsimp only at h
              refine ga_bipush hR (pc := 77) (v := nI 48) (by decide) dX7_tellItem_77 ?_
              refine ga_isub hR (pc := 79) dX7_tellItem_79 ?_
              refine ga_callV hR (pc := 80) (As := [.int (r_12 - (nI 97)), .int (r_13 - (nI 48))]) (rest := []) (st0 := [.int (r_13 - (nI 48)), .int (r_12 - (nI 97)), .ref (c 0)]) (b := (c 0)) 2 (c_X6_setClass V c z_length z_classes_11 (r_12 - (nI 97)) (r_13 - (nI 48)) _ h) (ga_same_v fun _ => rfl) gX7_tellItem_X6_setClass rfl rfl rfl hd_X6_setClass ⟨Nat.le_of_ble_eq_true rfl, Nat.le_of_ble_eq_true rfl⟩ rfl rfl (Nat.le_of_ble_eq_true rfl) ⟨Nat.zero_le _, Nat.zero_le _⟩ [12, 13] rfl rfl 12 rfl rfl dX7_tellItem_80 ?_
              rintro _ _ ⟨z_classes_14, rfl, rfl, h⟩
              refine ga_to [(a 0, .inr (7, [.ref (a 1), .int x_length, .int x_rulesSeen, .int x_placesSeen])), (a 1, .inl (V.2 0, 200, .inl x_signs)), (b 0, .inr (4, [.ref (b 1), .ref (b 2), .ref (b 3), .ref (b 4), .ref (b 5), .ref (b 6), .int y_number, .int y_placeNumber])), (b 1, .inl (V.2 0, 4, .inl y_places)), (b 2, .inl (V.2 0, 4, .inl y_firsts)), (b 3, .inl (V.2 0, 4, .inl y_wholes)), (b 4, .inl (V.2 0, 10, .inl y_taken)), (b 5, .inl (V.2 0, 10, .inl y_behinds)), (b 6, .inr (2, [.ref (b 7), .ref (b 8), .ref (b 9), .int y_parts_height])), (b 7, .inl (V.2 0, 16, .inl y_parts_firsts)), (b 8, .inl (V.2 0, 16, .inl y_parts_lasts)), (b 9, .inl (V.2 1, 16, .inl y_parts_lacking)), (c 0, .inr (6, [.ref (c 1), .ref (c 2), .ref (c 3), .int z_length])), (c 1, .inl (V.2 0, 26, .inl z_classes_14)), (c 2, .inl (V.2 0, 4, .inl z_kinds)), (c 3, .inl (V.2 0, 30, .inl z_line))] [] rfl rfl ?_
              try dsimp only at h
              obtain ⟨v5_15, ev5_15⟩ : ∃ v : Int32, v = v5_10 + (nI 1) := ⟨_, rfl⟩
              replace h := h v5_15 ev5_15
              refine ga_iinc hR (pc := 83) (lv' := [(5, .int v5_15), (0, .ref (a 0)), (1, .int p1), (3, .ref (c 0)), (4, .int r_1)]) 4 (by decide) rfl ev5_15 (by decide) rfl dX7_tellItem_83 ?_
              refine ga_goto hR (pc := 86) 53 (by decide) dX7_tellItem_86 ?_
              exact ga_lv hR [1, 2, 3, 4, 0] rfl (ih _ _ h)
        exact ga_lv hR [2, 3, 5, 1, 0] rfl (L53 n _ _ h)
    · replace h := h.2 q22_0
      rcases ga_em (r_2 = (nI 114)) with q22_1 | q22_1
      · replace h := h.1 q22_1
        refine ga_look hR (pc := 22) 92 (by decide) (off := 70) (by rw [q22_1]; rfl) (by decide) dX7_tellItem_22 ?_
        refine ga_aload_n hR (pc := 92) 4 rfl rfl dX7_tellItem_92 ?_
        refine ga_aload_n hR (pc := 93) 3 rfl rfl dX7_tellItem_93 ?_
        refine ga_callV hR (pc := 94) (As := []) (rest := [.ref (c 0)]) (st0 := [.ref (b 0), .ref (c 0)]) (b := (b 0)) 0 (c_X4_number V b y_placeNumber y_number _ h) (ga_same_i fun _ => rfl) gX7_tellItem_X4_number rfl rfl rfl hd_X4_number ⟨Nat.le_of_ble_eq_true rfl, Nat.le_of_ble_eq_true rfl⟩ rfl rfl (Nat.le_of_ble_eq_true rfl) ⟨Nat.zero_le _, Nat.zero_le _⟩ [2] rfl rfl 2 rfl rfl dX7_tellItem_94 ?_
        rintro _ _ ⟨r_16, ⟨⟩, rfl, rfl, h⟩
        refine ga_to [(a 0, .inr (7, [.ref (a 1), .int x_length, .int x_rulesSeen, .int x_placesSeen])), (a 1, .inl (V.2 0, 200, .inl x_signs)), (b 0, .inr (4, [.ref (b 1), .ref (b 2), .ref (b 3), .ref (b 4), .ref (b 5), .ref (b 6), .int y_number, .int y_placeNumber])), (b 1, .inl (V.2 0, 4, .inl y_places)), (b 2, .inl (V.2 0, 4, .inl y_firsts)), (b 3, .inl (V.2 0, 4, .inl y_wholes)), (b 4, .inl (V.2 0, 10, .inl y_taken)), (b 5, .inl (V.2 0, 10, .inl y_behinds)), (b 6, .inr (2, [.ref (b 7), .ref (b 8), .ref (b 9), .int y_parts_height])), (b 7, .inl (V.2 0, 16, .inl y_parts_firsts)), (b 8, .inl (V.2 0, 16, .inl y_parts_lasts)), (b 9, .inl (V.2 1, 16, .inl y_parts_lacking)), (c 0, .inr (6, [.ref (c 1), .ref (c 2), .ref (c 3), .int z_length])), (c 1, .inl (V.2 0, 26, .inl z_classes)), (c 2, .inl (V.2 0, 4, .inl z_kinds)), (c 3, .inl (V.2 0, 30, .inl z_line))] [.int r_16, .ref (c 0)] rfl rfl ?_
        try dsimp only at h
        refine ga_aload_n hR (pc := 97) 1 rfl rfl dX7_tellItem_97 ?_
        refine ga_iload_n hR (pc := 98) 2 rfl rfl dX7_tellItem_98 ?_
        refine ga_iconst hR (pc := 99) (v := nI 1) (by decide) dX7_tellItem_99 ?_
        refine ga_iadd hR (pc := 100) dX7_tellItem_100 ?_
        refine ga_callV hR (pc := 101) (As := [.int (p1 + (nI 1))]) (rest := [.int r_16, .ref (c 0)]) (st0 := [.int (p1 + (nI 1)), .ref (a 0), .int r_16, .ref (c 0)]) (b := (a 0)) 1 (c_X7_signAt V a x_rulesSeen x_placesSeen x_length x_signs (p1 + (nI 1)) _ h) (ga_same_i fun _ => rfl) gX7_tellItem_X7_signAt rfl rfl rfl hd_X7_signAt ⟨Nat.le_of_ble_eq_true rfl, Nat.le_of_ble_eq_true rfl⟩ rfl rfl (Nat.le_of_ble_eq_true rfl) ⟨Nat.zero_le _, Nat.zero_le _⟩ [0, 1] rfl rfl 0 rfl rfl dX7_tellItem_101 ?_
        rintro _ _ ⟨r_17, ⟨⟩, rfl, rfl, h⟩
        refine ga_to [(a 0, .inr (7, [.ref (a 1), .int x_length, .int x_rulesSeen, .int x_placesSeen])), (a 1, .inl (V.2 0, 200, .inl x_signs)), (b 0, .inr (4, [.ref (b 1), .ref (b 2), .ref (b 3), .ref (b 4), .ref (b 5), .ref (b 6), .int y_number, .int y_placeNumber])), (b 1, .inl (V.2 0, 4, .inl y_places)), (b 2, .inl (V.2 0, 4, .inl y_firsts)), (b 3, .inl (V.2 0, 4, .inl y_wholes)), (b 4, .inl (V.2 0, 10, .inl y_taken)), (b 5, .inl (V.2 0, 10, .inl y_behinds)), (b 6, .inr (2, [.ref (b 7), .ref (b 8), .ref (b 9), .int y_parts_height])), (b 7, .inl (V.2 0, 16, .inl y_parts_firsts)), (b 8, .inl (V.2 0, 16, .inl y_parts_lasts)), (b 9, .inl (V.2 1, 16, .inl y_parts_lacking)), (c 0, .inr (6, [.ref (c 1), .ref (c 2), .ref (c 3), .int z_length])), (c 1, .inl (V.2 0, 26, .inl z_classes)), (c 2, .inl (V.2 0, 4, .inl z_kinds)), (c 3, .inl (V.2 0, 30, .inl z_line))] [.int r_17, .int r_16, .ref (c 0)] rfl rfl ?_
        try dsimp only at h
        refine ga_bipush hR (pc := 104) (v := nI 48) (by decide) dX7_tellItem_104 ?_
        refine ga_isub hR (pc := 106) dX7_tellItem_106 ?_
        refine ga_callV hR (pc := 107) (As := [.int r_16, .int (r_17 - (nI 48))]) (rest := []) (st0 := [.int (r_17 - (nI 48)), .int r_16, .ref (c 0)]) (b := (c 0)) 2 (c_X6_setKind V c z_length z_kinds r_16 (r_17 - (nI 48)) _ h) (ga_same_v fun _ => rfl) gX7_tellItem_X6_setKind rfl rfl rfl hd_X6_setKind ⟨Nat.le_of_ble_eq_true rfl, Nat.le_of_ble_eq_true rfl⟩ rfl rfl (Nat.le_of_ble_eq_true rfl) ⟨Nat.zero_le _, Nat.zero_le _⟩ [12, 14] rfl rfl 12 rfl rfl dX7_tellItem_107 ?_
        rintro _ _ ⟨z_kinds_18, rfl, rfl, h⟩
        refine ga_to [(a 0, .inr (7, [.ref (a 1), .int x_length, .int x_rulesSeen, .int x_placesSeen])), (a 1, .inl (V.2 0, 200, .inl x_signs)), (b 0, .inr (4, [.ref (b 1), .ref (b 2), .ref (b 3), .ref (b 4), .ref (b 5), .ref (b 6), .int y_number, .int y_placeNumber])), (b 1, .inl (V.2 0, 4, .inl y_places)), (b 2, .inl (V.2 0, 4, .inl y_firsts)), (b 3, .inl (V.2 0, 4, .inl y_wholes)), (b 4, .inl (V.2 0, 10, .inl y_taken)), (b 5, .inl (V.2 0, 10, .inl y_behinds)), (b 6, .inr (2, [.ref (b 7), .ref (b 8), .ref (b 9), .int y_parts_height])), (b 7, .inl (V.2 0, 16, .inl y_parts_firsts)), (b 8, .inl (V.2 0, 16, .inl y_parts_lasts)), (b 9, .inl (V.2 1, 16, .inl y_parts_lacking)), (c 0, .inr (6, [.ref (c 1), .ref (c 2), .ref (c 3), .int z_length])), (c 1, .inl (V.2 0, 26, .inl z_classes)), (c 2, .inl (V.2 0, 4, .inl z_kinds_18)), (c 3, .inl (V.2 0, 30, .inl z_line))] [] rfl rfl ?_
        try dsimp only at h
        refine ga_aload_n hR (pc := 110) 3 rfl rfl dX7_tellItem_110 ?_
        refine ga_aload_n hR (pc := 111) 1 rfl rfl dX7_tellItem_111 ?_
        refine ga_iload_n hR (pc := 112) 2 rfl rfl dX7_tellItem_112 ?_
        refine ga_iconst hR (pc := 113) (v := nI 3) (by decide) dX7_tellItem_113 ?_
        refine ga_iadd hR (pc := 114) dX7_tellItem_114 ?_
        refine ga_iload hR (pc := 115) 0 rfl dX7_tellItem_115 ?_
        refine ga_callV hR (pc := 117) (As := [.ref (a 0), .int (p1 + (nI 3)), .int r_1]) (rest := []) (st0 := [.int r_1, .int (p1 + (nI 3)), .ref (a 0), .ref (b 0)]) (b := (b 0)) 3 (c_X4_add V b a x_rulesSeen x_placesSeen y_number y_placeNumber y_places y_firsts y_wholes y_taken y_behinds y_parts_height y_parts_firsts y_parts_lasts y_parts_lacking x_length x_signs (p1 + (nI 3)) r_1 _ h) (ga_same_v fun _ => rfl) gX7_tellItem_X4_add rfl rfl rfl hd_X4_add ⟨Nat.le_of_ble_eq_true rfl, Nat.le_of_ble_eq_true rfl⟩ rfl rfl (Nat.le_of_ble_eq_true rfl) ⟨Nat.zero_le _, Nat.zero_le _⟩ [2, 3, 4, 5, 6, 7, 8, 9, 10, 11, 0, 1] rfl rfl 2 rfl rfl dX7_tellItem_117 ?_
        rintro _ _ ⟨⟨y_number_19, y_placeNumber_20, y_places_21, y_firsts_22, y_wholes_23, y_taken_24, y_behinds_25, y_parts_height_26, y_parts_firsts_27, y_parts_lasts_28, y_parts_lacking_29⟩, rfl, rfl, h⟩
        refine ga_to [(a 0, .inr (7, [.ref (a 1), .int x_length, .int x_rulesSeen, .int x_placesSeen])), (a 1, .inl (V.2 0, 200, .inl x_signs)), (b 0, .inr (4, [.ref (b 1), .ref (b 2), .ref (b 3), .ref (b 4), .ref (b 5), .ref (b 6), .int y_number_19, .int y_placeNumber_20])), (b 1, .inl (V.2 0, 4, .inl y_places_21)), (b 2, .inl (V.2 0, 4, .inl y_firsts_22)), (b 3, .inl (V.2 0, 4, .inl y_wholes_23)), (b 4, .inl (V.2 0, 10, .inl y_taken_24)), (b 5, .inl (V.2 0, 10, .inl y_behinds_25)), (b 6, .inr (2, [.ref (b 7), .ref (b 8), .ref (b 9), .int y_parts_height_26])), (b 7, .inl (V.2 0, 16, .inl y_parts_firsts_27)), (b 8, .inl (V.2 0, 16, .inl y_parts_lasts_28)), (b 9, .inl (V.2 1, 16, .inl y_parts_lacking_29)), (c 0, .inr (6, [.ref (c 1), .ref (c 2), .ref (c 3), .int z_length])), (c 1, .inl (V.2 0, 26, .inl z_classes)), (c 2, .inl (V.2 0, 4, .inl z_kinds_18)), (c 3, .inl (V.2 0, 30, .inl z_line))] [] rfl rfl ?_
        try dsimp only at h
        refine ga_goto hR (pc := 120) 162 (by decide) dX7_tellItem_120 ?_
        refine ga_iload hR (pc := 162) 0 rfl dX7_tellItem_162 ?_
        refine ga_iconst hR (pc := 164) (v := nI 1) (by decide) dX7_tellItem_164 ?_
        refine ga_iadd hR (pc := 165) dX7_tellItem_165 ?_
        exact ga_iret hE dX7_tellItem_166 rfl (ga_ri (y_number_19, y_placeNumber_20, y_places_21, y_firsts_22, y_wholes_23, y_taken_24, y_behinds_25, y_parts_height_26, y_parts_firsts_27, y_parts_lasts_28, y_parts_lacking_29, z_length, z_classes, z_kinds_18, z_line) rfl h)
      · replace h := h.2 q22_1
        refine ga_look hR (pc := 22) 123 (by decide) (off := 101) (by simp only [List.toList_toArray]; rw [lv_osw q22_0 (by decide : Int32.toInt (nI 99) = 99), lv_osw q22_1 (by decide : Int32.toInt (nI 114) = 114)]; rfl) (by decide) dX7_tellItem_22 ?_
        refine ga_aload_n hR (pc := 123) 4 rfl rfl dX7_tellItem_123 ?_
        refine ga_callV hR (pc := 124) (As := []) (rest := []) (st0 := [.ref (c 0)]) (b := (c 0)) 0 (c_X6_clearLine V c z_length _ h) (ga_same_v fun _ => rfl) gX7_tellItem_X6_clearLine rfl rfl rfl hd_X6_clearLine ⟨Nat.le_of_ble_eq_true rfl, Nat.le_of_ble_eq_true rfl⟩ rfl rfl (Nat.le_of_ble_eq_true rfl) ⟨Nat.zero_le _, Nat.zero_le _⟩ [12] rfl rfl 12 rfl rfl dX7_tellItem_124 ?_
        rintro _ _ ⟨z_length_30, rfl, rfl, h⟩
        refine ga_to [(a 0, .inr (7, [.ref (a 1), .int x_length, .int x_rulesSeen, .int x_placesSeen])), (a 1, .inl (V.2 0, 200, .inl x_signs)), (b 0, .inr (4, [.ref (b 1), .ref (b 2), .ref (b 3), .ref (b 4), .ref (b 5), .ref (b 6), .int y_number, .int y_placeNumber])), (b 1, .inl (V.2 0, 4, .inl y_places)), (b 2, .inl (V.2 0, 4, .inl y_firsts)), (b 3, .inl (V.2 0, 4, .inl y_wholes)), (b 4, .inl (V.2 0, 10, .inl y_taken)), (b 5, .inl (V.2 0, 10, .inl y_behinds)), (b 6, .inr (2, [.ref (b 7), .ref (b 8), .ref (b 9), .int y_parts_height])), (b 7, .inl (V.2 0, 16, .inl y_parts_firsts)), (b 8, .inl (V.2 0, 16, .inl y_parts_lasts)), (b 9, .inl (V.2 1, 16, .inl y_parts_lacking)), (c 0, .inr (6, [.ref (c 1), .ref (c 2), .ref (c 3), .int z_length_30])), (c 1, .inl (V.2 0, 26, .inl z_classes)), (c 2, .inl (V.2 0, 4, .inl z_kinds)), (c 3, .inl (V.2 0, 30, .inl z_line))] [] rfl rfl ?_
        try dsimp only at h
        refine ga_iload_n hR (pc := 127) 2 rfl rfl dX7_tellItem_127 ?_
        refine ga_iconst hR (pc := 128) (v := nI 1) (by decide) dX7_tellItem_128 ?_
        refine ga_iadd hR (pc := 129) dX7_tellItem_129 ?_
        refine ga_topi (fun v5_31 ev5_31 => ?_)
        replace h := h v5_31 ev5_31
        refine ga_istore hR (pc := 130) (lv' := [(5, .int v5_31), (4, .int r_1), (0, .ref (a 0)), (1, .int p1), (2, .ref (b 0)), (3, .ref (c 0))]) (by decide) rfl dX7_tellItem_130 ?_
        have hJ := h (fun (z_length_32 : Int32) (z_line_33 : Nat → Int32) => G 0 0 [(a 0, .inr (7, [.ref (a 1), .int x_length, .int x_rulesSeen, .int x_placesSeen])), (a 1, .inl (V.2 0, 200, .inl x_signs)), (b 0, .inr (4, [.ref (b 1), .ref (b 2), .ref (b 3), .ref (b 4), .ref (b 5), .ref (b 6), .int y_number, .int y_placeNumber])), (b 1, .inl (V.2 0, 4, .inl y_places)), (b 2, .inl (V.2 0, 4, .inl y_firsts)), (b 3, .inl (V.2 0, 4, .inl y_wholes)), (b 4, .inl (V.2 0, 10, .inl y_taken)), (b 5, .inl (V.2 0, 10, .inl y_behinds)), (b 6, .inr (2, [.ref (b 7), .ref (b 8), .ref (b 9), .int y_parts_height])), (b 7, .inl (V.2 0, 16, .inl y_parts_firsts)), (b 8, .inl (V.2 0, 16, .inl y_parts_lasts)), (b 9, .inl (V.2 1, 16, .inl y_parts_lacking)), (c 0, .inr (6, [.ref (c 1), .ref (c 2), .ref (c 3), .int z_length_32])), (c 1, .inl (V.2 0, 26, .inl z_classes)), (c 2, .inl (V.2 0, 4, .inl z_kinds)), (c 3, .inl (V.2 0, 30, .inl z_line_33))] 162 [(4, .int r_1)] [])
        refine ga_bind hJ ?_ ?_
        · intro z_length_32 z_line_33 h
          show G 0 0 [(a 0, .inr (7, [.ref (a 1), .int x_length, .int x_rulesSeen, .int x_placesSeen])), (a 1, .inl (V.2 0, 200, .inl x_signs)), (b 0, .inr (4, [.ref (b 1), .ref (b 2), .ref (b 3), .ref (b 4), .ref (b 5), .ref (b 6), .int y_number, .int y_placeNumber])), (b 1, .inl (V.2 0, 4, .inl y_places)), (b 2, .inl (V.2 0, 4, .inl y_firsts)), (b 3, .inl (V.2 0, 4, .inl y_wholes)), (b 4, .inl (V.2 0, 10, .inl y_taken)), (b 5, .inl (V.2 0, 10, .inl y_behinds)), (b 6, .inr (2, [.ref (b 7), .ref (b 8), .ref (b 9), .int y_parts_height])), (b 7, .inl (V.2 0, 16, .inl y_parts_firsts)), (b 8, .inl (V.2 0, 16, .inl y_parts_lasts)), (b 9, .inl (V.2 1, 16, .inl y_parts_lacking)), (c 0, .inr (6, [.ref (c 1), .ref (c 2), .ref (c 3), .int z_length_32])), (c 1, .inl (V.2 0, 26, .inl z_classes)), (c 2, .inl (V.2 0, 4, .inl z_kinds)), (c 3, .inl (V.2 0, 30, .inl z_line_33))] 162 [(4, .int r_1)] []
          refine ga_iload hR (pc := 162) 0 rfl dX7_tellItem_162 ?_
          refine ga_iconst hR (pc := 164) (v := nI 1) (by decide) dX7_tellItem_164 ?_
          refine ga_iadd hR (pc := 165) dX7_tellItem_165 ?_
          exact ga_iret hE dX7_tellItem_166 rfl (ga_ri (y_number, y_placeNumber, y_places, y_firsts, y_wholes, y_taken, y_behinds, y_parts_height, y_parts_firsts, y_parts_lasts, y_parts_lacking, z_length_32, z_classes, z_kinds, z_line_33) rfl h)
        · intro h
          obtain ⟨n, h⟩ := h
          have L132 : ∀ (n : Nat) (v5_40 : Int32) (z_length_41 : Int32) (z_line_42 : Nat → Int32), lp_X7_tellItem_132 x_length x_signs r_1 (fun (z_length_32 : Int32) (z_line_33 : Nat → Int32) => G 0 0 [(a 0, .inr (7, [.ref (a 1), .int x_length, .int x_rulesSeen, .int x_placesSeen])), (a 1, .inl (V.2 0, 200, .inl x_signs)), (b 0, .inr (4, [.ref (b 1), .ref (b 2), .ref (b 3), .ref (b 4), .ref (b 5), .ref (b 6), .int y_number, .int y_placeNumber])), (b 1, .inl (V.2 0, 4, .inl y_places)), (b 2, .inl (V.2 0, 4, .inl y_firsts)), (b 3, .inl (V.2 0, 4, .inl y_wholes)), (b 4, .inl (V.2 0, 10, .inl y_taken)), (b 5, .inl (V.2 0, 10, .inl y_behinds)), (b 6, .inr (2, [.ref (b 7), .ref (b 8), .ref (b 9), .int y_parts_height])), (b 7, .inl (V.2 0, 16, .inl y_parts_firsts)), (b 8, .inl (V.2 0, 16, .inl y_parts_lasts)), (b 9, .inl (V.2 1, 16, .inl y_parts_lacking)), (c 0, .inr (6, [.ref (c 1), .ref (c 2), .ref (c 3), .int z_length_32])), (c 1, .inl (V.2 0, 26, .inl z_classes)), (c 2, .inl (V.2 0, 4, .inl z_kinds)), (c 3, .inl (V.2 0, 30, .inl z_line_33))] 162 [(4, .int r_1)] []) n v5_40 z_length_41 z_line_42 → G 0 0 [(a 0, .inr (7, [.ref (a 1), .int x_length, .int x_rulesSeen, .int x_placesSeen])), (a 1, .inl (V.2 0, 200, .inl x_signs)), (b 0, .inr (4, [.ref (b 1), .ref (b 2), .ref (b 3), .ref (b 4), .ref (b 5), .ref (b 6), .int y_number, .int y_placeNumber])), (b 1, .inl (V.2 0, 4, .inl y_places)), (b 2, .inl (V.2 0, 4, .inl y_firsts)), (b 3, .inl (V.2 0, 4, .inl y_wholes)), (b 4, .inl (V.2 0, 10, .inl y_taken)), (b 5, .inl (V.2 0, 10, .inl y_behinds)), (b 6, .inr (2, [.ref (b 7), .ref (b 8), .ref (b 9), .int y_parts_height])), (b 7, .inl (V.2 0, 16, .inl y_parts_firsts)), (b 8, .inl (V.2 0, 16, .inl y_parts_lasts)), (b 9, .inl (V.2 1, 16, .inl y_parts_lacking)), (c 0, .inr (6, [.ref (c 1), .ref (c 2), .ref (c 3), .int z_length_41])), (c 1, .inl (V.2 0, 26, .inl z_classes)), (c 2, .inl (V.2 0, 4, .inl z_kinds)), (c 3, .inl (V.2 0, 30, .inl z_line_42))] 132 [(0, .ref (a 0)), (3, .ref (c 0)), (4, .int r_1), (5, .int v5_40)] [] := by
            intro n
            induction n with
            | zero => exact fun _ _ _ h => False.elim h
            | succ n ih =>
              intro v5_40 z_length_41 z_line_42 h
              rw [lp_X7_tellItem_132] at h
              refine ga_iload hR (pc := 132) 3 rfl dX7_tellItem_132 ?_
              refine ga_iload hR (pc := 134) 2 rfl dX7_tellItem_134 ?_
              refine ga_icmp_ge hR (pc := 136) 162 (by decide) dX7_tellItem_136 (fun c136 => ?_) (fun c136 => ?_)
              · replace h := h.1 c136
                exact ga_lv hR [2] rfl h
              · replace h := h.2 c136
                refine ga_aload_n hR (pc := 139) 1 rfl rfl dX7_tellItem_139 ?_
                refine ga_aload_n hR (pc := 140) 1 rfl rfl dX7_tellItem_140 ?_
                refine ga_callV hR (pc := 141) (As := []) (rest := [.ref (c 0)]) (st0 := [.ref (c 0), .ref (c 0)]) (b := (c 0)) 0 (c_X6_length V c z_length_41 _ h) (ga_same_i fun _ => rfl) gX7_tellItem_X6_length rfl rfl rfl hd_X6_length ⟨Nat.le_of_ble_eq_true rfl, Nat.le_of_ble_eq_true rfl⟩ rfl rfl (Nat.le_of_ble_eq_true rfl) ⟨Nat.zero_le _, Nat.zero_le _⟩ [12] rfl rfl 12 rfl rfl dX7_tellItem_141 ?_
                rintro _ _ ⟨r_43, ⟨⟩, rfl, rfl, h⟩
                refine ga_to [(a 0, .inr (7, [.ref (a 1), .int x_length, .int x_rulesSeen, .int x_placesSeen])), (a 1, .inl (V.2 0, 200, .inl x_signs)), (b 0, .inr (4, [.ref (b 1), .ref (b 2), .ref (b 3), .ref (b 4), .ref (b 5), .ref (b 6), .int y_number, .int y_placeNumber])), (b 1, .inl (V.2 0, 4, .inl y_places)), (b 2, .inl (V.2 0, 4, .inl y_firsts)), (b 3, .inl (V.2 0, 4, .inl y_wholes)), (b 4, .inl (V.2 0, 10, .inl y_taken)), (b 5, .inl (V.2 0, 10, .inl y_behinds)), (b 6, .inr (2, [.ref (b 7), .ref (b 8), .ref (b 9), .int y_parts_height])), (b 7, .inl (V.2 0, 16, .inl y_parts_firsts)), (b 8, .inl (V.2 0, 16, .inl y_parts_lasts)), (b 9, .inl (V.2 1, 16, .inl y_parts_lacking)), (c 0, .inr (6, [.ref (c 1), .ref (c 2), .ref (c 3), .int z_length_41])), (c 1, .inl (V.2 0, 26, .inl z_classes)), (c 2, .inl (V.2 0, 4, .inl z_kinds)), (c 3, .inl (V.2 0, 30, .inl z_line_42))] [.int r_43, .ref (c 0)] rfl rfl ?_
                try dsimp only at h
                refine ga_aload_n hR (pc := 144) 0 rfl rfl dX7_tellItem_144 ?_
                refine ga_iload hR (pc := 145) 3 rfl dX7_tellItem_145 ?_
                refine ga_callV hR (pc := 147) (As := [.int v5_40]) (rest := [.int r_43, .ref (c 0)]) (st0 := [.int v5_40, .ref (a 0), .int r_43, .ref (c 0)]) (b := (a 0)) 1 (c_X7_signAt V a x_rulesSeen x_placesSeen x_length x_signs v5_40 _ h) (ga_same_i fun _ => rfl) gX7_tellItem_X7_signAt rfl rfl rfl hd_X7_signAt ⟨Nat.le_of_ble_eq_true rfl, Nat.le_of_ble_eq_true rfl⟩ rfl rfl (Nat.le_of_ble_eq_true rfl) ⟨Nat.zero_le _, Nat.zero_le _⟩ [0, 1] rfl rfl 0 rfl rfl dX7_tellItem_147 ?_
                rintro _ _ ⟨r_44, ⟨⟩, rfl, rfl, h⟩
                refine ga_to [(a 0, .inr (7, [.ref (a 1), .int x_length, .int x_rulesSeen, .int x_placesSeen])), (a 1, .inl (V.2 0, 200, .inl x_signs)), (b 0, .inr (4, [.ref (b 1), .ref (b 2), .ref (b 3), .ref (b 4), .ref (b 5), .ref (b 6), .int y_number, .int y_placeNumber])), (b 1, .inl (V.2 0, 4, .inl y_places)), (b 2, .inl (V.2 0, 4, .inl y_firsts)), (b 3, .inl (V.2 0, 4, .inl y_wholes)), (b 4, .inl (V.2 0, 10, .inl y_taken)), (b 5, .inl (V.2 0, 10, .inl y_behinds)), (b 6, .inr (2, [.ref (b 7), .ref (b 8), .ref (b 9), .int y_parts_height])), (b 7, .inl (V.2 0, 16, .inl y_parts_firsts)), (b 8, .inl (V.2 0, 16, .inl y_parts_lasts)), (b 9, .inl (V.2 1, 16, .inl y_parts_lacking)), (c 0, .inr (6, [.ref (c 1), .ref (c 2), .ref (c 3), .int z_length_41])), (c 1, .inl (V.2 0, 26, .inl z_classes)), (c 2, .inl (V.2 0, 4, .inl z_kinds)), (c 3, .inl (V.2 0, 30, .inl z_line_42))] [.int r_44, .int r_43, .ref (c 0)] rfl rfl ?_
                try dsimp only at h
                refine ga_bipush hR (pc := 150) (v := nI 97) (by decide) dX7_tellItem_150 ?_
                refine ga_isub hR (pc := 152) dX7_tellItem_152 ?_
                refine ga_callV hR (pc := 153) (As := [.int r_43, .int (r_44 - (nI 97))]) (rest := []) (st0 := [.int (r_44 - (nI 97)), .int r_43, .ref (c 0)]) (b := (c 0)) 2 (c_X6_putIn V c z_length_41 z_line_42 r_43 (r_44 - (nI 97)) _ h) (ga_same_v fun _ => rfl) gX7_tellItem_X6_putIn rfl rfl rfl hd_X6_putIn ⟨Nat.le_of_ble_eq_true rfl, Nat.le_of_ble_eq_true rfl⟩ rfl rfl (Nat.le_of_ble_eq_true rfl) ⟨Nat.zero_le _, Nat.zero_le _⟩ [12, 15] rfl rfl 12 rfl rfl dX7_tellItem_153 ?_
                rintro _ _ ⟨⟨z_length_45, z_line_46⟩, rfl, rfl, h⟩
                refine ga_to [(a 0, .inr (7, [.ref (a 1), .int x_length, .int x_rulesSeen, .int x_placesSeen])), (a 1, .inl (V.2 0, 200, .inl x_signs)), (b 0, .inr (4, [.ref (b 1), .ref (b 2), .ref (b 3), .ref (b 4), .ref (b 5), .ref (b 6), .int y_number, .int y_placeNumber])), (b 1, .inl (V.2 0, 4, .inl y_places)), (b 2, .inl (V.2 0, 4, .inl y_firsts)), (b 3, .inl (V.2 0, 4, .inl y_wholes)), (b 4, .inl (V.2 0, 10, .inl y_taken)), (b 5, .inl (V.2 0, 10, .inl y_behinds)), (b 6, .inr (2, [.ref (b 7), .ref (b 8), .ref (b 9), .int y_parts_height])), (b 7, .inl (V.2 0, 16, .inl y_parts_firsts)), (b 8, .inl (V.2 0, 16, .inl y_parts_lasts)), (b 9, .inl (V.2 1, 16, .inl y_parts_lacking)), (c 0, .inr (6, [.ref (c 1), .ref (c 2), .ref (c 3), .int z_length_45])), (c 1, .inl (V.2 0, 26, .inl z_classes)), (c 2, .inl (V.2 0, 4, .inl z_kinds)), (c 3, .inl (V.2 0, 30, .inl z_line_46))] [] rfl rfl ?_
                try dsimp only at h
                obtain ⟨v5_47, ev5_47⟩ : ∃ v : Int32, v = v5_40 + (nI 1) := ⟨_, rfl⟩
                replace h := h v5_47 ev5_47
                refine ga_iinc hR (pc := 156) (lv' := [(5, .int v5_47), (0, .ref (a 0)), (3, .ref (c 0)), (4, .int r_1)]) 3 (by decide) rfl ev5_47 (by decide) rfl dX7_tellItem_156 ?_
                refine ga_goto hR (pc := 159) 132 (by decide) dX7_tellItem_159 ?_
                exact ga_lv hR [1, 2, 3, 0] rfl (ih _ _ _ h)
          exact ga_lv hR [2, 5, 1, 0] rfl (L132 n _ _ _ h)
  · replace h := h.2 c9
    refine ga_aload_n hR (pc := 12) 1 rfl rfl dX7_tellItem_12 ?_
    refine ga_get hR (pc := 13) 0 rfl rfl hinX7 1 (by decide) f15 rfl dX7_tellItem_13 ?_
    exact ga_iret hE dX7_tellItem_16 rfl (ga_ri (y_number, y_placeNumber, y_places, y_firsts, y_wholes, y_taken, y_behinds, y_parts_height, y_parts_firsts, y_parts_lasts, y_parts_lacking, z_length, z_classes, z_kinds, z_line) rfl h)
