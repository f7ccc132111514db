def rm_L_into : Room := { frames := 0, cells := 0, slots := 0, locals := 0 }
theorem hd_L_intoS : yL_into.cls ≠ "java/lang/invoke/MethodHandle" ∧ yL_into.cls ≠ "java/lang/invoke/VarHandle" ∧ (parseMethodDescriptor yL_into.desc).map (fun d => d.parameters.length) = some 2 := by decide +kernel
set_option maxHeartbeats 4000000 in
set_option maxRecDepth 100000 in
theorem c_L_into (V : ga_V) (a : Nat → Nat) (b : Nat → Nat) (n_a : Nat) (n_b : Nat) (x : Nat → Int32) (y : Nat → Int32) (K : (Nat → Int32) → Prop) (h : wp_L_into n_a n_b x y K) : ga_C V yL_into wsL_into rm_L_into [.ref (a 0), .ref (b 0)] [(a 0, .inl (V.2 0, n_a, .inl x)), (b 0, .inl (V.2 0, n_b, .inl y))] 0 0 (ga_Fv (fun (u : (Nat → Int32)) => [(a 0, .inl (V.2 0, n_a, .inl x)), (b 0, .inl (V.2 0, n_b, .inl u))]) (fun u => K u)) := by
  refine ga_met (cc := cL_into) (maxL := 3) (rt := none) (by decide) rfl [(0, .ref (a 0)), (1, .ref (b 0))] rfl (Nat.le_of_ble_eq_true rfl) ?_
  intro G hR hE
  unfold wp_L_into at h
  refine ga_iconst hR (pc := 0) (v := nI 0) (by decide) dL_into_0 ?_
  refine ga_istore_n hR (pc := 1) (lv' := [(2, .int (nI 0)), (0, .ref (a 0)), (1, .ref (b 0))]) rfl (by decide) rfl dL_into_1 ?_
  have hJ := h (fun (y_1 : Nat → Int32) => G 0 0 [(a 0, .inl (V.2 0, n_a, .inl x)), (b 0, .inl (V.2 0, n_b, .inl y_1))] 20 [] [])
  refine ga_bind hJ ?_ ?_
  · intro y_1 h
    show G 0 0 [(a 0, .inl (V.2 0, n_a, .inl x)), (b 0, .inl (V.2 0, n_b, .inl y_1))] 20 [] []
    exact ga_vret hE dL_into_20 (ga_rv y_1 rfl h)
  · intro h
    obtain ⟨n, h⟩ := h
    have L2 : ∀ (n : Nat) (v2_6 : Int32) (y_7 : Nat → Int32), lp_L_into_2 n_a n_b x (fun (y_1 : Nat → Int32) => G 0 0 [(a 0, .inl (V.2 0, n_a, .inl x)), (b 0, .inl (V.2 0, n_b, .inl y_1))] 20 [] []) n v2_6 y_7 → G 0 0 [(a 0, .inl (V.2 0, n_a, .inl x)), (b 0, .inl (V.2 0, n_b, .inl y_7))] 2 [(0, .ref (a 0)), (1, .ref (b 0)), (2, .int v2_6)] [] := by
      intro n
      induction n with
      | zero => exact fun _ _ h => False.elim h
      | succ n ih =>
        intro v2_6 y_7 h
        rw [lp_L_into_2] at h
        refine ga_iload_n hR (pc := 2) 2 rfl rfl dL_into_2 ?_
        refine ga_bipush hR (pc := 3) (v := nI 61) (by decide) dL_into_3 ?_
        refine ga_icmp_ge hR (pc := 5) 20 (by decide) dL_into_5 (fun c5 => ?_) (fun c5 => ?_)
        · replace h := h.1 c5
          exact ga_lv hR [] rfl h
        · replace h := h.2 c5
          refine ga_aload_n hR (pc := 8) 1 rfl rfl dL_into_8 ?_
          refine ga_iload_n hR (pc := 9) 2 rfl rfl dL_into_9 ?_
          refine ga_aload_n hR (pc := 10) 0 rfl rfl dL_into_10 ?_
          refine ga_iload_n hR (pc := 11) 2 rfl rfl dL_into_11 ?_
          refine ga_iald hR (pc := 12) 0 rfl h.1 dL_into_12 ?_
          replace h := h.2
          refine ga_topi (fun t_8 et_8 => ?_)
          replace h := h t_8 et_8
          refine ga_iast hR (pc := 13) (ws' := [(a 0, .inl (V.2 0, n_a, .inl x)), (b 0, .inl (V.2 0, n_b, .inl ((upd y_7 v2_6.toNatClampNeg t_8))))]) 1 rfl h.1 rfl dL_into_13 ?_
          replace h := h.2
          obtain ⟨y_9, ey_9⟩ : ∃ f : Nat → Int32, f = upd y_7 v2_6.toNatClampNeg t_8 := ⟨_, rfl⟩
          refine ga_cast (ws' := [(a 0, .inl (V.2 0, n_a, .inl x)), (b 0, .inl (V.2 0, n_b, .inl y_9))]) (by rw [ey_9]) rfl ?_
          replace h := h y_9 ey_9
          obtain ⟨v2_10, ev2_10⟩ : ∃ v : Int32, v = v2_6 + (nI 1) := ⟨_, rfl⟩
          replace h := h v2_10 ev2_10
          refine ga_iinc hR (pc := 14) (lv' := [(2, .int v2_10), (0, .ref (a 0)), (1, .ref (b 0))]) 2 (by decide) rfl ev2_10 (by decide) rfl dL_into_14 ?_
          refine ga_goto hR (pc := 17) 2 (by decide) dL_into_17 ?_
          exact ga_lv hR [1, 2, 0] rfl (ih _ _ h)
    exact ga_lv hR [1, 2, 0] rfl (L2 n _ _ h)

def rm_L_taking : Room := { frames := 0, cells := 0, slots := 0, locals := 0 }
theorem hd_L_takingS : yL_taking.cls ≠ "java/lang/invoke/MethodHandle" ∧ yL_taking.cls ≠ "java/lang/invoke/VarHandle" ∧ (parseMethodDescriptor yL_taking.desc).map (fun d => d.parameters.length) = some 3 := by decide +kernel
set_option maxHeartbeats 4000000 in
set_option maxRecDepth 100000 in
theorem c_L_taking (V : ga_V) (a : Nat → Nat) (n_a : Nat) (x : Nat → Int32) (p1 : Int32) (p2 : Int32) (K : Int32 → Prop) (h : wp_L_taking n_a x p1 p2 K) : ga_C V yL_taking wsL_taking rm_L_taking [.ref (a 0), .int p1, .int p2] [(a 0, .inl (V.2 0, n_a, .inl x))] 0 0 (ga_Fi (fun (u : Unit) => [(a 0, .inl (V.2 0, n_a, .inl x))]) (fun r u => K r)) := by
  refine ga_met (cc := cL_taking) (maxL := 5) (rt := (some .int)) (by decide) rfl [(0, .ref (a 0)), (1, .int p1), (2, .int p2)] rfl (Nat.le_of_ble_eq_true rfl) ?_
  intro G hR hE
  unfold wp_L_taking at h
  refine ga_iconst hR (pc := 0) (v := nI 0) (by decide) dL_taking_0 ?_
  refine ga_istore_n hR (pc := 1) (lv' := [(3, .int (nI 0)), (0, .ref (a 0)), (1, .int p1), (2, .int p2)]) rfl (by decide) rfl dL_taking_1 ?_
  refine ga_iconst hR (pc := 2) (v := nI 0) (by decide) dL_taking_2 ?_
  refine ga_istore hR (pc := 3) (lv' := [(4, .int (nI 0)), (3, .int (nI 0)), (0, .ref (a 0)), (1, .int p1), (2, .int p2)]) (by decide) rfl dL_taking_3 ?_
  have hJ := h (fun (v3_1 : Int32) => G 0 0 [(a 0, .inl (V.2 0, n_a, .inl x))] 63 [(3, .int v3_1)] [])
  refine ga_bind hJ ?_ ?_
  · intro v3_1 h
    show G 0 0 [(a 0, .inl (V.2 0, n_a, .inl x))] 63 [(3, .int v3_1)] []
    refine ga_iload_n hR (pc := 63) 0 rfl rfl dL_taking_63 ?_
    exact ga_iret hE dL_taking_64 rfl (ga_ri () rfl h)
  · intro h
    obtain ⟨n, h⟩ := h
    have L5 : ∀ (n : Nat) (v3_11 : Int32) (v4_12 : Int32), lp_L_taking_5 n_a x p1 p2 (fun (v3_1 : Int32) => G 0 0 [(a 0, .inl (V.2 0, n_a, .inl x))] 63 [(3, .int v3_1)] []) n v3_11 v4_12 → G 0 0 [(a 0, .inl (V.2 0, n_a, .inl x))] 5 [(0, .ref (a 0)), (1, .int p1), (2, .int p2), (3, .int v3_11), (4, .int v4_12)] [] := by
      intro n
      induction n with
      | zero => exact fun _ _ h => False.elim h
      | succ n ih =>
        intro v3_11 v4_12 h
        rw [lp_L_taking_5] at h
        refine ga_iload hR (pc := 5) 4 rfl dL_taking_5 ?_
        refine ga_aload_n hR (pc := 7) 0 rfl rfl dL_taking_7 ?_
        refine ga_iconst hR (pc := 8) (v := nI 1) (by decide) dL_taking_8 ?_
        refine ga_iald hR (pc := 9) 0 rfl h.1 dL_taking_9 ?_
        replace h := h.2
        refine ga_icmp_ge hR (pc := 10) 63 (by decide) dL_taking_10 (fun c10 => ?_) (fun c10 => ?_)
        · replace h := h.1 c10
          exact ga_lv hR [3] rfl h
        · replace h := h.2 c10
          refine ga_iload_n hR (pc := 13) 3 rfl rfl dL_taking_13 ?_
          refine ga_iload_n hR (pc := 14) 1 rfl rfl dL_taking_14 ?_
          refine ga_iload hR (pc := 15) 4 rfl dL_taking_15 ?_
          refine ga_ishr hR (pc := 17) dL_taking_17 ?_
          refine ga_iconst hR (pc := 18) (v := nI 1) (by decide) dL_taking_18 ?_
          refine ga_iand hR (pc := 19) dL_taking_19 ?_
          refine ga_iconst hR (pc := 20) (v := nI 1) (by decide) dL_taking_20 ?_
          refine ga_icmp_ne hR (pc := 21) 54 (by decide) dL_taking_21 (fun c21 => ?_) (fun c21 => ?_)
          · replace h := h.1 c21
            refine ga_iconst hR (pc := 54) (v := nI 0) (by decide) dL_taking_54 ?_
            refine ga_ior hR (pc := 55) dL_taking_55 ?_
            refine ga_topi (fun v3_13 ev3_13 => ?_)
            replace h := h v3_13 ev3_13
            refine ga_istore_n hR (pc := 56) (lv' := [(3, .int v3_13), (0, .ref (a 0)), (1, .int p1), (2, .int p2), (4, .int v4_12)]) rfl (by decide) rfl dL_taking_56 ?_
            obtain ⟨v4_14, ev4_14⟩ : ∃ v : Int32, v = v4_12 + (nI 1) := ⟨_, rfl⟩
            replace h := h v4_14 ev4_14
            refine ga_iinc hR (pc := 57) (lv' := [(4, .int v4_14), (3, .int v3_13), (0, .ref (a 0)), (1, .int p1), (2, .int p2)]) 4 (by decide) rfl ev4_14 (by decide) rfl dL_taking_57 ?_
            refine ga_goto hR (pc := 60) 5 (by decide) dL_taking_60 ?_
            exact ga_lv hR [2, 3, 4, 1, 0] rfl (ih _ _ h)
          · replace h := h.2 c21
            refine ga_aload_n hR (pc := 24) 0 rfl rfl dL_taking_24 ?_
            refine ga_bipush hR (pc := 25) (v := nI 24) (by decide) dL_taking_25 ?_
            refine ga_iload hR (pc := 27) 4 rfl dL_taking_27 ?_
            refine ga_iadd hR (pc := 29) dL_taking_29 ?_
            refine ga_iald hR (pc := 30) 0 rfl h.1 dL_taking_30 ?_
            replace h := h.2
            refine ga_bipush hR (pc := 31) (v := nI 6) (by decide) dL_taking_31 ?_
            refine ga_icmp_eq hR (pc := 33) 47 (by decide) dL_taking_33 (fun c33 => ?_) (fun c33 => ?_)
            · replace h := h.1 c33
              refine ga_iconst hR (pc := 47) (v := nI 1) (by decide) dL_taking_47 ?_
              refine ga_iload hR (pc := 48) 4 rfl dL_taking_48 ?_
              refine ga_ishl hR (pc := 50) dL_taking_50 ?_
              refine ga_goto hR (pc := 51) 55 (by decide) dL_taking_51 ?_
              refine ga_ior hR (pc := 55) dL_taking_55 ?_
              refine ga_topi (fun v3_15 ev3_15 => ?_)
              replace h := h v3_15 ev3_15
              refine ga_istore_n hR (pc := 56) (lv' := [(3, .int v3_15), (0, .ref (a 0)), (1, .int p1), (2, .int p2), (4, .int v4_12)]) rfl (by decide) rfl dL_taking_56 ?_
              obtain ⟨v4_16, ev4_16⟩ : ∃ v : Int32, v = v4_12 + (nI 1) := ⟨_, rfl⟩
              replace h := h v4_16 ev4_16
              refine ga_iinc hR (pc := 57) (lv' := [(4, .int v4_16), (3, .int v3_15), (0, .ref (a 0)), (1, .int p1), (2, .int p2)]) 4 (by decide) rfl ev4_16 (by decide) rfl dL_taking_57 ?_
              refine ga_goto hR (pc := 60) 5 (by decide) dL_taking_60 ?_
              exact ga_lv hR [2, 3, 4, 1, 0] rfl (ih _ _ h)
            · replace h := h.2 c33
              refine ga_aload_n hR (pc := 36) 0 rfl rfl dL_taking_36 ?_
              refine ga_bipush hR (pc := 37) (v := nI 24) (by decide) dL_taking_37 ?_
              refine ga_iload hR (pc := 39) 4 rfl dL_taking_39 ?_
              refine ga_iadd hR (pc := 41) dL_taking_41 ?_
              refine ga_iald hR (pc := 42) 0 rfl h.1 dL_taking_42 ?_
              replace h := h.2
              refine ga_iload_n hR (pc := 43) 2 rfl rfl dL_taking_43 ?_
              refine ga_icmp_ne hR (pc := 44) 54 (by decide) dL_taking_44 (fun c44 => ?_) (fun c44 => ?_)
              · replace h := h.1 c44
                refine ga_iconst hR (pc := 54) (v := nI 0) (by decide) dL_taking_54 ?_
                refine ga_ior hR (pc := 55) dL_taking_55 ?_
                refine ga_topi (fun v3_17 ev3_17 => ?_)
                replace h := h v3_17 ev3_17
                refine ga_istore_n hR (pc := 56) (lv' := [(3, .int v3_17), (0, .ref (a 0)), (1, .int p1), (2, .int p2), (4, .int v4_12)]) rfl (by decide) rfl dL_taking_56 ?_
                obtain ⟨v4_18, ev4_18⟩ : ∃ v : Int32, v = v4_12 + (nI 1) := ⟨_, rfl⟩
                replace h := h v4_18 ev4_18
                refine ga_iinc hR (pc := 57) (lv' := [(4, .int v4_18), (3, .int v3_17), (0, .ref (a 0)), (1, .int p1), (2, .int p2)]) 4 (by decide) rfl ev4_18 (by decide) rfl dL_taking_57 ?_
                refine ga_goto hR (pc := 60) 5 (by decide) dL_taking_60 ?_
                exact ga_lv hR [2, 3, 4, 1, 0] rfl (ih _ _ h)
              · replace h := h.2 c44
                refine ga_iconst hR (pc := 47) (v := nI 1) (by decide) dL_taking_47 ?_
                refine ga_iload hR (pc := 48) 4 rfl dL_taking_48 ?_
                refine ga_ishl hR (pc := 50) dL_taking_50 ?_
                refine ga_goto hR (pc := 51) 55 (by decide) dL_taking_51 ?_
                refine ga_ior hR (pc := 55) dL_taking_55 ?_
                refine ga_topi (fun v3_19 ev3_19 => ?_)
                replace h := h v3_19 ev3_19
                refine ga_istore_n hR (pc := 56) (lv' := [(3, .int v3_19), (0, .ref (a 0)), (1, .int p1), (2, .int p2), (4, .int v4_12)]) rfl (by decide) rfl dL_taking_56 ?_
                obtain ⟨v4_20, ev4_20⟩ : ∃ v : Int32, v = v4_12 + (nI 1) := ⟨_, rfl⟩
                replace h := h v4_20 ev4_20
                refine ga_iinc hR (pc := 57) (lv' := [(4, .int v4_20), (3, .int v3_19), (0, .ref (a 0)), (1, .int p1), (2, .int p2)]) 4 (by decide) rfl ev4_20 (by decide) rfl dL_taking_57 ?_
                refine ga_goto hR (pc := 60) 5 (by decide) dL_taking_60 ?_
                exact ga_lv hR [2, 3, 4, 1, 0] rfl (ih _ _ h)
    exact ga_lv hR [2, 3, 4, 1, 0] rfl (L5 n _ _ h)

def rm_L_goes : Room := { frames := 1, cells := 0, slots := 0, locals := 24 }
theorem hd_L_goesS : yL_goes.cls ≠ "java/lang/invoke/MethodHandle" ∧ yL_goes.cls ≠ "java/lang/invoke/VarHandle" ∧ (parseMethodDescriptor yL_goes.desc).map (fun d => d.parameters.length) = some 4 := by decide +kernel
set_option maxHeartbeats 4000000 in
set_option maxRecDepth 100000 in
theorem c_L_goes (V : ga_V) (a : Nat → Nat) (b : Nat → Nat) (n_a : Nat) (n_b : Nat) (x : Nat → Int32) (y : Nat → Int32) (p2 : Int32) (p3 : Int32) (K : Int32 → Prop) (h : wp_L_goes n_a n_b x y p2 p3 K) : ga_C V yL_goes wsL_goes rm_L_goes [.ref (a 0), .ref (b 0), .int p2, .int p3] [(a 0, .inl (V.2 0, n_a, .inl x)), (b 0, .inl (V.2 0, n_b, .inl y))] 0 0 (ga_Fi (fun (u : Unit) => [(a 0, .inl (V.2 0, n_a, .inl x)), (b 0, .inl (V.2 0, n_b, .inl y))]) (fun r u => K r)) := by
  refine ga_met (cc := cL_goes) (maxL := 9) (rt := (some .int)) (by decide) rfl [(0, .ref (a 0)), (1, .ref (b 0)), (2, .int p2), (3, .int p3)] rfl (Nat.le_of_ble_eq_true rfl) ?_
  intro G hR hE
  unfold wp_L_goes at h
  refine ga_iconst hR (pc := 0) (v := nI 0) (by decide) dL_goes_0 ?_
  refine ga_istore hR (pc := 1) (lv' := [(4, .int (nI 0)), (0, .ref (a 0)), (1, .ref (b 0)), (2, .int p2), (3, .int p3)]) (by decide) rfl dL_goes_1 ?_
  refine ga_iconst hR (pc := 3) (v := nI 0) (by decide) dL_goes_3 ?_
  refine ga_istore hR (pc := 4) (lv' := [(5, .int (nI 0)), (4, .int (nI 0)), (0, .ref (a 0)), (1, .ref (b 0)), (2, .int p2), (3, .int p3)]) (by decide) rfl dL_goes_4 ?_
  have hJ := h (fun (v4_1 : Int32) => G 0 0 [(a 0, .inl (V.2 0, n_a, .inl x)), (b 0, .inl (V.2 0, n_b, .inl y))] 154 [(4, .int v4_1)] [])
  refine ga_bind hJ ?_ ?_
  · intro v4_1 h
    show G 0 0 [(a 0, .inl (V.2 0, n_a, .inl x)), (b 0, .inl (V.2 0, n_b, .inl y))] 154 [(4, .int v4_1)] []
    refine ga_iload hR (pc := 154) 0 rfl dL_goes_154 ?_
    exact ga_iret hE dL_goes_156 rfl (ga_ri () rfl h)
  · intro h
    obtain ⟨n, h⟩ := h
    have L6 : ∀ (n : Nat) (v4_26 : Int32) (v5_27 : Int32), lp_L_goes_6 n_a n_b x y p2 p3 (fun (v4_1 : Int32) => G 0 0 [(a 0, .inl (V.2 0, n_a, .inl x)), (b 0, .inl (V.2 0, n_b, .inl y))] 154 [(4, .int v4_1)] []) n v4_26 v5_27 → G 0 0 [(a 0, .inl (V.2 0, n_a, .inl x)), (b 0, .inl (V.2 0, n_b, .inl y))] 6 [(0, .ref (a 0)), (1, .ref (b 0)), (2, .int p2), (3, .int p3), (4, .int v4_26), (5, .int v5_27)] [] := by
      intro n
      induction n with
      | zero => exact fun _ _ h => False.elim h
      | succ n ih =>
        intro v4_26 v5_27 h
        rw [lp_L_goes_6] at h
        refine ga_iload hR (pc := 6) 5 rfl dL_goes_6 ?_
        refine ga_aload_n hR (pc := 8) 0 rfl rfl dL_goes_8 ?_
        refine ga_iconst hR (pc := 9) (v := nI 1) (by decide) dL_goes_9 ?_
        refine ga_iald hR (pc := 10) 0 rfl h.1 dL_goes_10 ?_
        replace h := h.2
        refine ga_icmp_ge hR (pc := 11) 154 (by decide) dL_goes_11 (fun c11 => ?_) (fun c11 => ?_)
        · replace h := h.1 c11
          exact ga_lv hR [4] rfl h
        · replace h := h.2 c11
          refine ga_iload_n hR (pc := 14) 2 rfl rfl dL_goes_14 ?_
          refine ga_iload hR (pc := 15) 5 rfl dL_goes_15 ?_
          refine ga_ishr hR (pc := 17) dL_goes_17 ?_
          refine ga_iconst hR (pc := 18) (v := nI 1) (by decide) dL_goes_18 ?_
          refine ga_iand hR (pc := 19) dL_goes_19 ?_
          refine ga_iconst hR (pc := 20) (v := nI 1) (by decide) dL_goes_20 ?_
          refine ga_icmp_ne hR (pc := 21) 148 (by decide) dL_goes_21 (fun c21 => ?_) (fun c21 => ?_)
          · replace h := h.1 c21
            obtain ⟨v5_28, ev5_28⟩ : ∃ v : Int32, v = v5_27 + (nI 1) := ⟨_, rfl⟩
            replace h := h v5_28 ev5_28
            refine ga_iinc hR (pc := 148) (lv' := [(5, .int v5_28), (0, .ref (a 0)), (1, .ref (b 0)), (2, .int p2), (3, .int p3), (4, .int v4_26)]) 5 (by decide) rfl ev5_28 (by decide) rfl dL_goes_148 ?_
            refine ga_goto hR (pc := 151) 6 (by decide) dL_goes_151 ?_
            exact ga_lv hR [1, 2, 3, 4, 5, 0] rfl (ih _ _ h)
          · replace h := h.2 c21
            refine ga_iconst hR (pc := 24) (v := nI 0) (by decide) dL_goes_24 ?_
            refine ga_istore hR (pc := 25) (lv' := [(6, .int (nI 0)), (0, .ref (a 0)), (1, .ref (b 0)), (2, .int p2), (3, .int p3), (4, .int v4_26), (5, .int v5_27)]) (by decide) rfl dL_goes_25 ?_
            have hJ := h (fun (v6_29 : Int32) => G 0 0 [(a 0, .inl (V.2 0, n_a, .inl x)), (b 0, .inl (V.2 0, n_b, .inl y))] 48 [(0, .ref (a 0)), (1, .ref (b 0)), (2, .int p2), (3, .int p3), (4, .int v4_26), (5, .int v5_27), (6, .int v6_29)] [])
            refine ga_bind hJ ?_ ?_
            · intro v6_29 h
              show G 0 0 [(a 0, .inl (V.2 0, n_a, .inl x)), (b 0, .inl (V.2 0, n_b, .inl y))] 48 [(0, .ref (a 0)), (1, .ref (b 0)), (2, .int p2), (3, .int p3), (4, .int v4_26), (5, .int v5_27), (6, .int v6_29)] []
              refine ga_aload_n hR (pc := 48) 1 rfl rfl dL_goes_48 ?_
              refine ga_bipush hR (pc := 49) (v := nI 26) (by decide) dL_goes_49 ?_
              refine ga_iload hR (pc := 51) 6 rfl dL_goes_51 ?_
              refine ga_iadd hR (pc := 53) dL_goes_53 ?_
              refine ga_iald hR (pc := 54) 1 rfl h.1 dL_goes_54 ?_
              replace h := h.2
              refine ga_topi (fun v7_31 ev7_31 => ?_)
              replace h := h v7_31 ev7_31
              refine ga_istore hR (pc := 55) (lv' := [(7, .int v7_31), (0, .ref (a 0)), (1, .ref (b 0)), (2, .int p2), (3, .int p3), (4, .int v4_26), (5, .int v5_27), (6, .int v6_29)]) (by decide) rfl dL_goes_55 ?_
              refine ga_iload hR (pc := 57) 0 rfl dL_goes_57 ?_
              refine ga_iconst hR (pc := 59) (v := nI 2) (by decide) dL_goes_59 ?_
              have hJ := h (fun (s0_32 : Int32) => G 0 0 [(a 0, .inl (V.2 0, n_a, .inl x)), (b 0, .inl (V.2 0, n_b, .inl y))] 90 [(0, .ref (a 0)), (1, .ref (b 0)), (2, .int p2), (3, .int p3), (4, .int v4_26), (5, .int v5_27), (7, .int v7_31)] [.int s0_32])
              refine ga_bind hJ ?_ ?_
              · intro s0_32 h
                show G 0 0 [(a 0, .inl (V.2 0, n_a, .inl x)), (b 0, .inl (V.2 0, n_b, .inl y))] 90 [(0, .ref (a 0)), (1, .ref (b 0)), (2, .int p2), (3, .int p3), (4, .int v4_26), (5, .int v5_27), (7, .int v7_31)] [.int s0_32]
                refine ga_istore hR (pc := 90) (lv' := [(8, .int s0_32), (0, .ref (a 0)), (1, .ref (b 0)), (2, .int p2), (3, .int p3), (4, .int v4_26), (5, .int v5_27), (7, .int v7_31)]) (by decide) rfl dL_goes_90 ?_
                refine ga_iload hR (pc := 92) 5 rfl dL_goes_92 ?_
                refine ga_iload hR (pc := 94) 0 rfl dL_goes_94 ?_
                have hJ := h (fun (s1_34 : Int32) => G 0 0 [(a 0, .inl (V.2 0, n_a, .inl x)), (b 0, .inl (V.2 0, n_b, .inl y))] 115 [(0, .ref (a 0)), (1, .ref (b 0)), (2, .int p2), (3, .int p3), (5, .int v5_27), (7, .int v7_31)] [.int s1_34, .int v4_26])
                refine ga_bind hJ ?_ ?_
                · intro s1_34 h
                  show G 0 0 [(a 0, .inl (V.2 0, n_a, .inl x)), (b 0, .inl (V.2 0, n_b, .inl y))] 115 [(0, .ref (a 0)), (1, .ref (b 0)), (2, .int p2), (3, .int p3), (5, .int v5_27), (7, .int v7_31)] [.int s1_34, .int v4_26]
                  refine ga_ior hR (pc := 115) dL_goes_115 ?_
                  refine ga_topi (fun v4_36 ev4_36 => ?_)
                  replace h := h v4_36 ev4_36
                  refine ga_istore hR (pc := 116) (lv' := [(4, .int v4_36), (0, .ref (a 0)), (1, .ref (b 0)), (2, .int p2), (3, .int p3), (5, .int v5_27), (7, .int v7_31)]) (by decide) rfl dL_goes_116 ?_
                  refine ga_iload hR (pc := 118) 0 rfl dL_goes_118 ?_
                  refine ga_iload_n hR (pc := 120) 4 rfl rfl dL_goes_120 ?_
                  refine ga_iconst hR (pc := 121) (v := nI 5) (by decide) dL_goes_121 ?_
                  refine ga_icmp_ne hR (pc := 122) 144 (by decide) dL_goes_122 (fun c122 => ?_) (fun c122 => ?_)
                  · replace h := h.1 c122
                    refine ga_iconst hR (pc := 144) (v := nI 0) (by decide) dL_goes_144 ?_
                    refine ga_ior hR (pc := 145) dL_goes_145 ?_
                    refine ga_topi (fun v4_37 ev4_37 => ?_)
                    replace h := h v4_37 ev4_37
                    refine ga_istore hR (pc := 146) (lv' := [(4, .int v4_37), (0, .ref (a 0)), (1, .ref (b 0)), (2, .int p2), (3, .int p3), (5, .int v5_27), (7, .int v7_31)]) (by decide) rfl dL_goes_146 ?_
                    obtain ⟨v5_38, ev5_38⟩ : ∃ v : Int32, v = v5_27 + (nI 1) := ⟨_, rfl⟩
                    replace h := h v5_38 ev5_38
                    refine ga_iinc hR (pc := 148) (lv' := [(5, .int v5_38), (4, .int v4_37), (0, .ref (a 0)), (1, .ref (b 0)), (2, .int p2), (3, .int p3), (7, .int v7_31)]) 5 (by decide) rfl ev5_38 (by decide) rfl dL_goes_148 ?_
                    refine ga_goto hR (pc := 151) 6 (by decide) dL_goes_151 ?_
                    exact ga_lv hR [2, 3, 4, 5, 1, 0] rfl (ih _ _ h)
                  · replace h := h.2 c122
                    refine ga_iload hR (pc := 125) 6 rfl dL_goes_125 ?_
                    refine ga_iconst hR (pc := 127) (v := nI 1) (by decide) dL_goes_127 ?_
                    refine ga_icmp_eq hR (pc := 128) 137 (by decide) dL_goes_128 (fun c128 => ?_) (fun c128 => ?_)
                    · replace h := h.1 c128
                      refine ga_iconst hR (pc := 137) (v := nI 1) (by decide) dL_goes_137 ?_
                      refine ga_iload hR (pc := 138) 5 rfl dL_goes_138 ?_
                      refine ga_ishl hR (pc := 140) dL_goes_140 ?_
                      refine ga_goto hR (pc := 141) 145 (by decide) dL_goes_141 ?_
                      refine ga_ior hR (pc := 145) dL_goes_145 ?_
                      refine ga_topi (fun v4_39 ev4_39 => ?_)
                      replace h := h v4_39 ev4_39
                      refine ga_istore hR (pc := 146) (lv' := [(4, .int v4_39), (0, .ref (a 0)), (1, .ref (b 0)), (2, .int p2), (3, .int p3), (5, .int v5_27), (7, .int v7_31)]) (by decide) rfl dL_goes_146 ?_
                      obtain ⟨v5_40, ev5_40⟩ : ∃ v : Int32, v = v5_27 + (nI 1) := ⟨_, rfl⟩
                      replace h := h v5_40 ev5_40
                      refine ga_iinc hR (pc := 148) (lv' := [(5, .int v5_40), (4, .int v4_39), (0, .ref (a 0)), (1, .ref (b 0)), (2, .int p2), (3, .int p3), (7, .int v7_31)]) 5 (by decide) rfl ev5_40 (by decide) rfl dL_goes_148 ?_
                      refine ga_goto hR (pc := 151) 6 (by decide) dL_goes_151 ?_
                      exact ga_lv hR [2, 3, 4, 5, 1, 0] rfl (ih _ _ h)
                    · replace h := h.2 c128
                      refine ga_iload hR (pc := 131) 6 rfl dL_goes_131 ?_
                      refine ga_iconst hR (pc := 133) (v := nI 3) (by decide) dL_goes_133 ?_
                      refine ga_icmp_ne hR (pc := 134) 144 (by decide) dL_goes_134 (fun c134 => ?_) (fun c134 => ?_)
                      · replace h := h.1 c134
                        refine ga_iconst hR (pc := 144) (v := nI 0) (by decide) dL_goes_144 ?_
                        refine ga_ior hR (pc := 145) dL_goes_145 ?_
                        refine ga_topi (fun v4_41 ev4_41 => ?_)
                        replace h := h v4_41 ev4_41
                        refine ga_istore hR (pc := 146) (lv' := [(4, .int v4_41), (0, .ref (a 0)), (1, .ref (b 0)), (2, .int p2), (3, .int p3), (5, .int v5_27), (7, .int v7_31)]) (by decide) rfl dL_goes_146 ?_
                        obtain ⟨v5_42, ev5_42⟩ : ∃ v : Int32, v = v5_27 + (nI 1) := ⟨_, rfl⟩
                        replace h := h v5_42 ev5_42
                        refine ga_iinc hR (pc := 148) (lv' := [(5, .int v5_42), (4, .int v4_41), (0, .ref (a 0)), (1, .ref (b 0)), (2, .int p2), (3, .int p3), (7, .int v7_31)]) 5 (by decide) rfl ev5_42 (by decide) rfl dL_goes_148 ?_
                        refine ga_goto hR (pc := 151) 6 (by decide) dL_goes_151 ?_
                        exact ga_lv hR [2, 3, 4, 5, 1, 0] rfl (ih _ _ h)
                      · replace h := h.2 c134
                        refine ga_iconst hR (pc := 137) (v := nI 1) (by decide) dL_goes_137 ?_
                        refine ga_iload hR (pc := 138) 5 rfl dL_goes_138 ?_
                        refine ga_ishl hR (pc := 140) dL_goes_140 ?_
                        refine ga_goto hR (pc := 141) 145 (by decide) dL_goes_141 ?_
                        refine ga_ior hR (pc := 145) dL_goes_145 ?_
                        refine ga_topi (fun v4_43 ev4_43 => ?_)
                        replace h := h v4_43 ev4_43
                        refine ga_istore hR (pc := 146) (lv' := [(4, .int v4_43), (0, .ref (a 0)), (1, .ref (b 0)), (2, .int p2), (3, .int p3), (5, .int v5_27), (7, .int v7_31)]) (by decide) rfl dL_goes_146 ?_
                        obtain ⟨v5_44, ev5_44⟩ : ∃ v : Int32, v = v5_27 + (nI 1) := ⟨_, rfl⟩
                        replace h := h v5_44 ev5_44
                        refine ga_iinc hR (pc := 148) (lv' := [(5, .int v5_44), (4, .int v4_43), (0, .ref (a 0)), (1, .ref (b 0)), (2, .int p2), (3, .int p3), (7, .int v7_31)]) 5 (by decide) rfl ev5_44 (by decide) rfl dL_goes_148 ?_
                        refine ga_goto hR (pc := 151) 6 (by decide) dL_goes_151 ?_
                        exact ga_lv hR [2, 3, 4, 5, 1, 0] rfl (ih _ _ h)
                · intro h
                  refine ga_if_eq hR (pc := 96) 103 (by decide) dL_goes_96 (fun c96 => ?_) (fun c96 => ?_)
                  · replace h := h.1 c96
                    refine ga_aload_n hR (pc := 103) 1 rfl rfl dL_goes_103 ?_
                    refine ga_aload_n hR (pc := 104) 1 rfl rfl dL_goes_104 ?_
                    refine ga_bipush hR (pc := 105) (v := nI 14) (by decide) dL_goes_105 ?_
                    refine ga_iload hR (pc := 107) 6 rfl dL_goes_107 ?_
                    refine ga_iadd hR (pc := 109) dL_goes_109 ?_
                    refine ga_iald hR (pc := 110) 0 rfl h.1 dL_goes_110 ?_
                    replace h := h.2
                    refine ga_iload_n hR (pc := 111) 4 rfl rfl dL_goes_111 ?_
                    refine ga_callS hR (pc := 112) (As := [.ref (a 0), .int (x ((nI 14) + v5_27).toNatClampNeg), .int p3]) (rest := [.int v4_26]) (st0 := [.int p3, .int (x ((nI 14) + v5_27).toNatClampNeg), .ref (a 0), .int v4_26]) 3 (c_L_taking V a n_a x (x ((nI 14) + v5_27).toNatClampNeg) p3 _ h) (ga_same_i fun _ => rfl) gL_goes_L_taking rfl rfl rfl hd_L_takingS ⟨Nat.le_of_ble_eq_true rfl, Nat.le_of_ble_eq_true rfl⟩ rfl rfl (Nat.le_of_ble_eq_true rfl) ⟨Nat.le_of_ble_eq_true rfl, Nat.le_of_ble_eq_true rfl⟩ [0] rfl rfl dL_goes_112 ?_
                    rintro _ _ ⟨r_45, ⟨⟩, rfl, rfl, h⟩
                    refine ga_to [(a 0, .inl (V.2 0, n_a, .inl x)), (b 0, .inl (V.2 0, n_b, .inl y))] [.int r_45, .int v4_26] rfl rfl ?_
                    try dsimp only at h
                    exact ga_lv hR [1, 2, 3, 4, 6, 7] rfl h
                  · replace h := h.2 c96
                    refine ga_iconst hR (pc := 99) (v := nI 0) (by decide) dL_goes_99 ?_
                    refine ga_goto hR (pc := 100) 115 (by decide) dL_goes_100 ?_
                    exact ga_lv hR [1, 2, 3, 4, 6, 7] rfl h
              · intro h
                have hJ := h (G 0 0 [(a 0, .inl (V.2 0, n_a, .inl x)), (b 0, .inl (V.2 0, n_b, .inl y))] 89 [(0, .ref (a 0)), (1, .ref (b 0)), (2, .int p2), (3, .int p3), (4, .int v4_26), (5, .int v5_27), (7, .int v7_31)] [])
                refine ga_bind hJ ?_ ?_
                · intro h
                  show G 0 0 [(a 0, .inl (V.2 0, n_a, .inl x)), (b 0, .inl (V.2 0, n_b, .inl y))] 89 [(0, .ref (a 0)), (1, .ref (b 0)), (2, .int p2), (3, .int p3), (4, .int v4_26), (5, .int v5_27), (7, .int v7_31)] []
                  refine ga_iconst hR (pc := 89) (v := nI 0) (by decide) dL_goes_89 ?_
                  exact ga_lv hR [0, 1, 2, 3, 4, 5, 6] rfl h
                · intro h
                  have hJ := h (G 0 0 [(a 0, .inl (V.2 0, n_a, .inl x)), (b 0, .inl (V.2 0, n_b, .inl y))] 69 [(0, .ref (a 0)), (1, .ref (b 0)), (2, .int p2), (3, .int p3), (4, .int v4_26), (5, .int v5_27), (6, .int v6_29), (7, .int v7_31)] [])
                  refine ga_bind hJ ?_ ?_
                  · intro h
                    show G 0 0 [(a 0, .inl (V.2 0, n_a, .inl x)), (b 0, .inl (V.2 0, n_b, .inl y))] 69 [(0, .ref (a 0)), (1, .ref (b 0)), (2, .int p2), (3, .int p3), (4, .int v4_26), (5, .int v5_27), (6, .int v6_29), (7, .int v7_31)] []
                    refine ga_aload_n hR (pc := 69) 0 rfl rfl dL_goes_69 ?_
                    refine ga_bipush hR (pc := 70) (v := nI 6) (by decide) dL_goes_70 ?_
                    refine ga_iload hR (pc := 72) 6 rfl dL_goes_72 ?_
                    refine ga_iadd hR (pc := 74) dL_goes_74 ?_
                    refine ga_iald hR (pc := 75) 0 rfl h.1 dL_goes_75 ?_
                    replace h := h.2
                    refine ga_iload hR (pc := 76) 5 rfl dL_goes_76 ?_
                    refine ga_ishr hR (pc := 78) dL_goes_78 ?_
                    refine ga_iconst hR (pc := 79) (v := nI 1) (by decide) dL_goes_79 ?_
                    refine ga_iand hR (pc := 80) dL_goes_80 ?_
                    refine ga_iconst hR (pc := 81) (v := nI 1) (by decide) dL_goes_81 ?_
                    refine ga_icmp_ne hR (pc := 82) 89 (by decide) dL_goes_82 (fun c82 => ?_) (fun c82 => ?_)
                    · replace h := h.1 c82
                      exact ga_lv hR [0, 1, 2, 3, 4, 5, 7] rfl h
                    · replace h := h.2 c82
                      refine ga_iconst hR (pc := 85) (v := nI 1) (by decide) dL_goes_85 ?_
                      refine ga_goto hR (pc := 86) 90 (by decide) dL_goes_86 ?_
                      exact ga_lv hR [0, 1, 2, 3, 4, 5, 7] rfl h
                  · intro h
                    refine ga_icmp_eq hR (pc := 60) 69 (by decide) dL_goes_60 (fun c60 => ?_) (fun c60 => ?_)
                    · replace h := h.1 c60
                      exact ga_lv hR [1, 2, 3, 4, 5, 6, 7, 0] rfl h
                    · replace h := h.2 c60
                      refine ga_iload hR (pc := 63) 0 rfl dL_goes_63 ?_
                      refine ga_iconst hR (pc := 65) (v := nI 3) (by decide) dL_goes_65 ?_
                      refine ga_icmp_ne hR (pc := 66) 89 (by decide) dL_goes_66 (fun c66 => ?_) (fun c66 => ?_)
                      · replace h := h.1 c66
                        exact ga_lv hR [1, 2, 3, 4, 5, 6, 0] rfl h
                      · replace h := h.2 c66
                        exact ga_lv hR [1, 2, 3, 4, 5, 6, 7, 0] rfl h
            · intro h
              obtain ⟨n, h⟩ := h
              have L27 : ∀ (n : Nat) (v6_48 : Int32), lp_L_goes_27 n_a x v5_27 (fun (v6_29 : Int32) => G 0 0 [(a 0, .inl (V.2 0, n_a, .inl x)), (b 0, .inl (V.2 0, n_b, .inl y))] 48 [(0, .ref (a 0)), (1, .ref (b 0)), (2, .int p2), (3, .int p3), (4, .int v4_26), (5, .int v5_27), (6, .int v6_29)] []) n v6_48 → G 0 0 [(a 0, .inl (V.2 0, n_a, .inl x)), (b 0, .inl (V.2 0, n_b, .inl y))] 27 [(0, .ref (a 0)), (1, .ref (b 0)), (2, .int p2), (3, .int p3), (4, .int v4_26), (5, .int v5_27), (6, .int v6_48)] [] := by
                intro n
                induction n with
                | zero => exact fun _ h => False.elim h
                | succ n ih =>
                  intro v6_48 h
                  rw [lp_L_goes_27] at h
                  refine ga_aload_n hR (pc := 27) 0 rfl rfl dL_goes_27 ?_
                  refine ga_bipush hR (pc := 28) (v := nI 10) (by decide) dL_goes_28 ?_
                  refine ga_iload hR (pc := 30) 6 rfl dL_goes_30 ?_
                  refine ga_iadd hR (pc := 32) dL_goes_32 ?_
                  refine ga_iald hR (pc := 33) 0 rfl h.1 dL_goes_33 ?_
                  replace h := h.2
                  refine ga_iload hR (pc := 34) 5 rfl dL_goes_34 ?_
                  refine ga_ishr hR (pc := 36) dL_goes_36 ?_
                  refine ga_iconst hR (pc := 37) (v := nI 1) (by decide) dL_goes_37 ?_
                  refine ga_iand hR (pc := 38) dL_goes_38 ?_
                  refine ga_if_ne hR (pc := 39) 48 (by decide) dL_goes_39 (fun c39 => ?_) (fun c39 => ?_)
                  · replace h := h.1 c39
                    exact ga_lv hR [0, 1, 2, 3, 4, 5, 6] rfl h
                  · replace h := h.2 c39
                    obtain ⟨v6_49, ev6_49⟩ : ∃ v : Int32, v = v6_48 + (nI 1) := ⟨_, rfl⟩
                    replace h := h v6_49 ev6_49
                    refine ga_iinc hR (pc := 42) (lv' := [(6, .int v6_49), (0, .ref (a 0)), (1, .ref (b 0)), (2, .int p2), (3, .int p3), (4, .int v4_26), (5, .int v5_27)]) 6 (by decide) rfl ev6_49 (by decide) rfl dL_goes_42 ?_
                    refine ga_goto hR (pc := 45) 27 (by decide) dL_goes_45 ?_
                    exact ga_lv hR [1, 2, 3, 4, 5, 6, 0] rfl (ih _ h)
              exact ga_lv hR [1, 2, 3, 4, 5, 6, 0] rfl (L27 n _ h)
    exact ga_lv hR [2, 3, 4, 5, 1, 0] rfl (L6 n _ _ h)

def rm_L_begun : Room := { frames := 1, cells := 0, slots := 0, locals := 24 }
theorem hd_L_begunS : yL_begun.cls ≠ "java/lang/invoke/MethodHandle" ∧ yL_begun.cls ≠ "java/lang/invoke/VarHandle" ∧ (parseMethodDescriptor yL_begun.desc).map (fun d => d.parameters.length) = some 3 := by decide +kernel
set_option maxHeartbeats 4000000 in
set_option maxRecDepth 100000 in
theorem c_L_begun (V : ga_V) (a : Nat → Nat) (n_a : Nat) (x : Nat → Int32) (p1 : Int32) (p2 : Int32) (K : Int32 → Prop) (h : wp_L_begun n_a x p1 p2 K) : ga_C V yL_begun wsL_begun rm_L_begun [.ref (a 0), .int p1, .int p2] [(a 0, .inl (V.2 0, n_a, .inl x))] 0 0 (ga_Fi (fun (u : Unit) => [(a 0, .inl (V.2 0, n_a, .inl x))]) (fun r u => K r)) := by
  refine ga_met (cc := cL_begun) (maxL := 5) (rt := (some .int)) (by decide) rfl [(0, .ref (a 0)), (1, .int p1), (2, .int p2)] rfl (Nat.le_of_ble_eq_true rfl) ?_
  intro G hR hE
  unfold wp_L_begun at h
  refine ga_iconst hR (pc := 0) (v := nI 0) (by decide) dL_begun_0 ?_
  refine ga_istore_n hR (pc := 1) (lv' := [(3, .int (nI 0)), (0, .ref (a 0)), (1, .int p1), (2, .int p2)]) rfl (by decide) rfl dL_begun_1 ?_
  refine ga_iconst hR (pc := 2) (v := nI 0) (by decide) dL_begun_2 ?_
  refine ga_istore hR (pc := 3) (lv' := [(4, .int (nI 0)), (3, .int (nI 0)), (0, .ref (a 0)), (1, .int p1), (2, .int p2)]) (by decide) rfl dL_begun_3 ?_
  have hJ := h (fun (v3_1 : Int32) => G 0 0 [(a 0, .inl (V.2 0, n_a, .inl x))] 42 [(0, .ref (a 0)), (1, .int p1), (3, .int v3_1)] [])
  refine ga_bind hJ ?_ ?_
  · intro v3_1 h
    show G 0 0 [(a 0, .inl (V.2 0, n_a, .inl x))] 42 [(0, .ref (a 0)), (1, .int p1), (3, .int v3_1)] []
    refine ga_aload_n hR (pc := 42) 0 rfl rfl dL_begun_42 ?_
    refine ga_iload_n hR (pc := 43) 2 rfl rfl dL_begun_43 ?_
    refine ga_iload_n hR (pc := 44) 1 rfl rfl dL_begun_44 ?_
    refine ga_callS hR (pc := 45) (As := [.ref (a 0), .int v3_1, .int p1]) (rest := []) (st0 := [.int p1, .int v3_1, .ref (a 0)]) 3 (c_L_taking V a n_a x v3_1 p1 _ h) (ga_same_i fun _ => rfl) gL_begun_L_taking rfl rfl rfl hd_L_takingS ⟨Nat.le_of_ble_eq_true rfl, Nat.le_of_ble_eq_true rfl⟩ rfl rfl (Nat.le_of_ble_eq_true rfl) ⟨Nat.le_of_ble_eq_true rfl, Nat.le_of_ble_eq_true rfl⟩ [0] rfl rfl dL_begun_45 ?_
    rintro _ _ ⟨r_3, ⟨⟩, rfl, rfl, h⟩
    refine ga_to [(a 0, .inl (V.2 0, n_a, .inl x))] [.int r_3] rfl rfl ?_
    try dsimp only at h
    exact ga_iret hE dL_begun_48 rfl (ga_ri () rfl h)
  · intro h
    obtain ⟨n, h⟩ := h
    have L5 : ∀ (n : Nat) (v3_8 : Int32) (v4_9 : Int32), lp_L_begun_5 n_a x p2 (fun (v3_1 : Int32) => G 0 0 [(a 0, .inl (V.2 0, n_a, .inl x))] 42 [(0, .ref (a 0)), (1, .int p1), (3, .int v3_1)] []) n v3_8 v4_9 → G 0 0 [(a 0, .inl (V.2 0, n_a, .inl x))] 5 [(0, .ref (a 0)), (1, .int p1), (2, .int p2), (3, .int v3_8), (4, .int v4_9)] [] := by
      intro n
      induction n with
      | zero => exact fun _ _ h => False.elim h
      | succ n ih =>
        intro v3_8 v4_9 h
        rw [lp_L_begun_5] at h
        refine ga_iload hR (pc := 5) 4 rfl dL_begun_5 ?_
        refine ga_aload_n hR (pc := 7) 0 rfl rfl dL_begun_7 ?_
        refine ga_iconst hR (pc := 8) (v := nI 0) (by decide) dL_begun_8 ?_
        refine ga_iald hR (pc := 9) 0 rfl h.1 dL_begun_9 ?_
        replace h := h.2
        refine ga_icmp_ge hR (pc := 10) 42 (by decide) dL_begun_10 (fun c10 => ?_) (fun c10 => ?_)
        · replace h := h.1 c10
          exact ga_lv hR [0, 1, 3] rfl h
        · replace h := h.2 c10
          refine ga_iload_n hR (pc := 13) 3 rfl rfl dL_begun_13 ?_
          refine ga_iload_n hR (pc := 14) 2 rfl rfl dL_begun_14 ?_
          refine ga_iload hR (pc := 15) 4 rfl dL_begun_15 ?_
          refine ga_ishr hR (pc := 17) dL_begun_17 ?_
          refine ga_iconst hR (pc := 18) (v := nI 1) (by decide) dL_begun_18 ?_
          refine ga_iand hR (pc := 19) dL_begun_19 ?_
          refine ga_iconst hR (pc := 20) (v := nI 1) (by decide) dL_begun_20 ?_
          refine ga_icmp_ne hR (pc := 21) 28 (by decide) dL_begun_21 (fun c21 => ?_) (fun c21 => ?_)
          · replace h := h.1 c21
            refine ga_aload_n hR (pc := 28) 0 rfl rfl dL_begun_28 ?_
            refine ga_iconst hR (pc := 29) (v := nI 2) (by decide) dL_begun_29 ?_
            refine ga_iload hR (pc := 30) 4 rfl dL_begun_30 ?_
            refine ga_iadd hR (pc := 32) dL_begun_32 ?_
            refine ga_iald hR (pc := 33) 0 rfl h.1 dL_begun_33 ?_
            replace h := h.2
            refine ga_ior hR (pc := 34) dL_begun_34 ?_
            refine ga_topi (fun v3_10 ev3_10 => ?_)
            replace h := h v3_10 ev3_10
            refine ga_istore_n hR (pc := 35) (lv' := [(3, .int v3_10), (0, .ref (a 0)), (1, .int p1), (2, .int p2), (4, .int v4_9)]) rfl (by decide) rfl dL_begun_35 ?_
            obtain ⟨v4_11, ev4_11⟩ : ∃ v : Int32, v = v4_9 + (nI 1) := ⟨_, rfl⟩
            replace h := h v4_11 ev4_11
            refine ga_iinc hR (pc := 36) (lv' := [(4, .int v4_11), (3, .int v3_10), (0, .ref (a 0)), (1, .int p1), (2, .int p2)]) 4 (by decide) rfl ev4_11 (by decide) rfl dL_begun_36 ?_
            refine ga_goto hR (pc := 39) 5 (by decide) dL_begun_39 ?_
            exact ga_lv hR [2, 3, 4, 1, 0] rfl (ih _ _ h)
          · replace h := h.2 c21
            refine ga_iconst hR (pc := 24) (v := nI 0) (by decide) dL_begun_24 ?_
            refine ga_goto hR (pc := 25) 34 (by decide) dL_begun_25 ?_
            refine ga_ior hR (pc := 34) dL_begun_34 ?_
            refine ga_topi (fun v3_12 ev3_12 => ?_)
            replace h := h v3_12 ev3_12
            refine ga_istore_n hR (pc := 35) (lv' := [(3, .int v3_12), (0, .ref (a 0)), (1, .int p1), (2, .int p2), (4, .int v4_9)]) rfl (by decide) rfl dL_begun_35 ?_
            obtain ⟨v4_13, ev4_13⟩ : ∃ v : Int32, v = v4_9 + (nI 1) := ⟨_, rfl⟩
            replace h := h v4_13 ev4_13
            refine ga_iinc hR (pc := 36) (lv' := [(4, .int v4_13), (3, .int v3_12), (0, .ref (a 0)), (1, .int p1), (2, .int p2)]) 4 (by decide) rfl ev4_13 (by decide) rfl dL_begun_36 ?_
            refine ga_goto hR (pc := 39) 5 (by decide) dL_begun_39 ?_
            exact ga_lv hR [2, 3, 4, 1, 0] rfl (ih _ _ h)
    exact ga_lv hR [2, 3, 4, 1, 0] rfl (L5 n _ _ h)

def rm_L_walk : Room := { frames := 2, cells := 0, slots := 0, locals := 52 }
theorem hd_L_walkS : yL_walk.cls ≠ "java/lang/invoke/MethodHandle" ∧ yL_walk.cls ≠ "java/lang/invoke/VarHandle" ∧ (parseMethodDescriptor yL_walk.desc).map (fun d => d.parameters.length) = some 4 := by decide +kernel
set_option maxHeartbeats 4000000 in
set_option maxRecDepth 100000 in
theorem c_L_walk (V : ga_V) (a : Nat → Nat) (b : Nat → Nat) (c : Nat → Nat) (n_a : Nat) (n_b : Nat) (n_c : Nat) (x : Nat → Int32) (y : Nat → Int32) (z : Nat → Int32) (p2 : Int32) (K : Int32 → (Nat → Int32) → Prop) (h : wp_L_walk n_a n_b n_c x y z p2 K) : ga_C V yL_walk wsL_walk rm_L_walk [.ref (a 0), .ref (b 0), .int p2, .ref (c 0)] [(a 0, .inl (V.2 0, n_a, .inl x)), (b 0, .inl (V.2 0, n_b, .inl y)), (c 0, .inl (V.2 0, n_c, .inl z))] 0 0 (ga_Fi (fun (u : (Nat → Int32)) => [(a 0, .inl (V.2 0, n_a, .inl x)), (b 0, .inl (V.2 0, n_b, .inl y)), (c 0, .inl (V.2 0, n_c, .inl u))]) (fun r u => K r u)) := by
  refine ga_met (cc := cL_walk) (maxL := 9) (rt := (some .int)) (by decide) rfl [(0, .ref (a 0)), (1, .ref (b 0)), (2, .int p2), (3, .ref (c 0))] rfl (Nat.le_of_ble_eq_true rfl) ?_
  intro G hR hE
  unfold wp_L_walk at h
  refine ga_iconst hR (pc := 0) (v := nI 0) (by decide) dL_walk_0 ?_
  refine ga_istore hR (pc := 1) (lv' := [(4, .int (nI 0)), (0, .ref (a 0)), (1, .ref (b 0)), (2, .int p2), (3, .ref (c 0))]) (by decide) rfl dL_walk_1 ?_
  refine ga_iconst hR (pc := 3) (v := nI 0) (by decide) dL_walk_3 ?_
  refine ga_istore hR (pc := 4) (lv' := [(5, .int (nI 0)), (4, .int (nI 0)), (0, .ref (a 0)), (1, .ref (b 0)), (2, .int p2), (3, .ref (c 0))]) (by decide) rfl dL_walk_4 ?_
  refine ga_iconst hR (pc := 6) (v := nI 0) (by decide) dL_walk_6 ?_
  refine ga_istore hR (pc := 7) (lv' := [(6, .int (nI 0)), (5, .int (nI 0)), (4, .int (nI 0)), (0, .ref (a 0)), (1, .ref (b 0)), (2, .int p2), (3, .ref (c 0))]) (by decide) rfl dL_walk_7 ?_
  have hJ := h (fun (v5_1 : Int32) (z_2 : Nat → Int32) => G 0 0 [(a 0, .inl (V.2 0, n_a, .inl x)), (b 0, .inl (V.2 0, n_b, .inl y)), (c 0, .inl (V.2 0, n_c, .inl z_2))] 114 [(1, .ref (b 0)), (3, .ref (c 0)), (5, .int v5_1)] [])
  refine ga_bind hJ ?_ ?_
  · intro v5_1 z_2 h
    show G 0 0 [(a 0, .inl (V.2 0, n_a, .inl x)), (b 0, .inl (V.2 0, n_b, .inl y)), (c 0, .inl (V.2 0, n_c, .inl z_2))] 114 [(1, .ref (b 0)), (3, .ref (c 0)), (5, .int v5_1)] []
    refine ga_aload_n hR (pc := 114) 1 rfl rfl dL_walk_114 ?_
    refine ga_bipush hR (pc := 115) (v := nI 32) (by decide) dL_walk_115 ?_
    refine ga_aload_n hR (pc := 117) 0 rfl rfl dL_walk_117 ?_
    refine ga_bipush hR (pc := 118) (v := nI 30) (by decide) dL_walk_118 ?_
    refine ga_iald hR (pc := 120) 1 rfl h.1 dL_walk_120 ?_
    replace h := h.2
    refine ga_iadd hR (pc := 121) dL_walk_121 ?_
    refine ga_iconst hR (pc := 122) (v := nI 1) (by decide) dL_walk_122 ?_
    refine ga_iast hR (pc := 123) (ws' := [(a 0, .inl (V.2 0, n_a, .inl x)), (b 0, .inl (V.2 0, n_b, .inl y)), (c 0, .inl (V.2 0, n_c, .inl ((upd z_2 ((nI 32) + (y (nI 30).toNatClampNeg)).toNatClampNeg (nI 1)))))]) 2 rfl h.1 rfl dL_walk_123 ?_
    replace h := h.2
    obtain ⟨z_4, ez_4⟩ : ∃ f : Nat → Int32, f = upd z_2 ((nI 32) + (y (nI 30).toNatClampNeg)).toNatClampNeg (nI 1) := ⟨_, rfl⟩
    refine ga_cast (ws' := [(a 0, .inl (V.2 0, n_a, .inl x)), (b 0, .inl (V.2 0, n_b, .inl y)), (c 0, .inl (V.2 0, n_c, .inl z_4))]) (by rw [ez_4]) rfl ?_
    replace h := h z_4 ez_4
    refine ga_iload hR (pc := 124) 2 rfl dL_walk_124 ?_
    exact ga_iret hE dL_walk_126 rfl (ga_ri z_4 rfl h)
  · intro h
    obtain ⟨n, h⟩ := h
    have L9 : ∀ (n : Nat) (v4_20 : Int32) (v5_21 : Int32) (v6_22 : Int32) (z_23 : Nat → Int32), lp_L_walk_9 n_a n_b n_c x y p2 (fun (v5_1 : Int32) (z_2 : Nat → Int32) => G 0 0 [(a 0, .inl (V.2 0, n_a, .inl x)), (b 0, .inl (V.2 0, n_b, .inl y)), (c 0, .inl (V.2 0, n_c, .inl z_2))] 114 [(1, .ref (b 0)), (3, .ref (c 0)), (5, .int v5_1)] []) n v4_20 v5_21 v6_22 z_23 → G 0 0 [(a 0, .inl (V.2 0, n_a, .inl x)), (b 0, .inl (V.2 0, n_b, .inl y)), (c 0, .inl (V.2 0, n_c, .inl z_23))] 9 [(0, .ref (a 0)), (1, .ref (b 0)), (2, .int p2), (3, .ref (c 0)), (4, .int v4_20), (5, .int v5_21), (6, .int v6_22)] [] := by
      intro n
      induction n with
      | zero => exact fun _ _ _ _ h => False.elim h
      | succ n ih =>
        intro v4_20 v5_21 v6_22 z_23 h
        rw [lp_L_walk_9] at h
        refine ga_iload hR (pc := 9) 6 rfl dL_walk_9 ?_
        refine ga_aload_n hR (pc := 11) 1 rfl rfl dL_walk_11 ?_
        refine ga_bipush hR (pc := 12) (v := nI 30) (by decide) dL_walk_12 ?_
        refine ga_iald hR (pc := 14) 1 rfl h.1 dL_walk_14 ?_
        replace h := h.2
        refine ga_icmp_ge hR (pc := 15) 114 (by decide) dL_walk_15 (fun c15 => ?_) (fun c15 => ?_)
        · replace h := h.1 c15
          exact ga_lv hR [1, 3, 5] rfl h
        · replace h := h.2 c15
          refine ga_aload_n hR (pc := 18) 1 rfl rfl dL_walk_18 ?_
          refine ga_aload_n hR (pc := 19) 1 rfl rfl dL_walk_19 ?_
          refine ga_bipush hR (pc := 20) (v := nI 31) (by decide) dL_walk_20 ?_
          refine ga_iload hR (pc := 22) 6 rfl dL_walk_22 ?_
          refine ga_iadd hR (pc := 24) dL_walk_24 ?_
          refine ga_iald hR (pc := 25) 1 rfl h.1 dL_walk_25 ?_
          replace h := h.2
          refine ga_iald hR (pc := 26) 1 rfl h.1 dL_walk_26 ?_
          replace h := h.2
          refine ga_topi (fun v7_24 ev7_24 => ?_)
          replace h := h v7_24 ev7_24
          refine ga_istore hR (pc := 27) (lv' := [(7, .int v7_24), (0, .ref (a 0)), (1, .ref (b 0)), (2, .int p2), (3, .ref (c 0)), (4, .int v4_20), (5, .int v5_21), (6, .int v6_22)]) (by decide) rfl dL_walk_27 ?_
          refine ga_iload hR (pc := 29) 7 rfl dL_walk_29 ?_
          have hJ := h (fun (s0_25 : Int32) => G 0 0 [(a 0, .inl (V.2 0, n_a, .inl x)), (b 0, .inl (V.2 0, n_b, .inl y)), (c 0, .inl (V.2 0, n_c, .inl z_23))] 47 [(0, .ref (a 0)), (1, .ref (b 0)), (2, .int p2), (3, .ref (c 0)), (5, .int v5_21), (6, .int v6_22), (7, .int v7_24)] [.int s0_25])
          refine ga_bind hJ ?_ ?_
          · intro s0_25 h
            show G 0 0 [(a 0, .inl (V.2 0, n_a, .inl x)), (b 0, .inl (V.2 0, n_b, .inl y)), (c 0, .inl (V.2 0, n_c, .inl z_23))] 47 [(0, .ref (a 0)), (1, .ref (b 0)), (2, .int p2), (3, .ref (c 0)), (5, .int v5_21), (6, .int v6_22), (7, .int v7_24)] [.int s0_25]
            refine ga_istore hR (pc := 47) (lv' := [(8, .int s0_25), (0, .ref (a 0)), (1, .ref (b 0)), (2, .int p2), (3, .ref (c 0)), (5, .int v5_21), (6, .int v6_22), (7, .int v7_24)]) (by decide) rfl dL_walk_47 ?_
            refine ga_aload_n hR (pc := 49) 4 rfl rfl dL_walk_49 ?_
            refine ga_bipush hR (pc := 50) (v := nI 32) (by decide) dL_walk_50 ?_
            refine ga_iload hR (pc := 52) 6 rfl dL_walk_52 ?_
            refine ga_iadd hR (pc := 54) dL_walk_54 ?_
            refine ga_iload hR (pc := 55) 0 rfl dL_walk_55 ?_
            have hJ := h (fun (s2_27 : Int32) => G 0 0 [(a 0, .inl (V.2 0, n_a, .inl x)), (b 0, .inl (V.2 0, n_b, .inl y)), (c 0, .inl (V.2 0, n_c, .inl z_23))] 65 [(0, .ref (a 0)), (1, .ref (b 0)), (2, .int p2), (3, .ref (c 0)), (5, .int v5_21), (6, .int v6_22), (7, .int v7_24), (8, .int s0_25)] [.int s2_27, .int ((nI 32) + v6_22), .ref (c 0)])
            refine ga_bind hJ ?_ ?_
            · intro s2_27 h
              show G 0 0 [(a 0, .inl (V.2 0, n_a, .inl x)), (b 0, .inl (V.2 0, n_b, .inl y)), (c 0, .inl (V.2 0, n_c, .inl z_23))] 65 [(0, .ref (a 0)), (1, .ref (b 0)), (2, .int p2), (3, .ref (c 0)), (5, .int v5_21), (6, .int v6_22), (7, .int v7_24), (8, .int s0_25)] [.int s2_27, .int ((nI 32) + v6_22), .ref (c 0)]
              refine ga_iast hR (pc := 65) (ws' := [(a 0, .inl (V.2 0, n_a, .inl x)), (b 0, .inl (V.2 0, n_b, .inl y)), (c 0, .inl (V.2 0, n_c, .inl ((upd z_23 ((nI 32) + v6_22).toNatClampNeg s2_27))))]) 2 rfl h.1 rfl dL_walk_65 ?_
              replace h := h.2
              obtain ⟨z_29, ez_29⟩ : ∃ f : Nat → Int32, f = upd z_23 ((nI 32) + v6_22).toNatClampNeg s2_27 := ⟨_, rfl⟩
              refine ga_cast (ws' := [(a 0, .inl (V.2 0, n_a, .inl x)), (b 0, .inl (V.2 0, n_b, .inl y)), (c 0, .inl (V.2 0, n_c, .inl z_29))]) (by rw [ez_29]) rfl ?_
              replace h := h z_29 ez_29
              refine ga_iload hR (pc := 66) 4 rfl dL_walk_66 ?_
              refine ga_iload hR (pc := 68) 7 rfl dL_walk_68 ?_
              have hJ := h (fun (s1_30 : Int32) => G 0 0 [(a 0, .inl (V.2 0, n_a, .inl x)), (b 0, .inl (V.2 0, n_b, .inl y)), (c 0, .inl (V.2 0, n_c, .inl z_29))] 78 [(0, .ref (a 0)), (1, .ref (b 0)), (2, .int p2), (3, .ref (c 0)), (6, .int v6_22), (7, .int v7_24), (8, .int s0_25)] [.int s1_30, .int v5_21])
              refine ga_bind hJ ?_ ?_
              · intro s1_30 h
                show G 0 0 [(a 0, .inl (V.2 0, n_a, .inl x)), (b 0, .inl (V.2 0, n_b, .inl y)), (c 0, .inl (V.2 0, n_c, .inl z_29))] 78 [(0, .ref (a 0)), (1, .ref (b 0)), (2, .int p2), (3, .ref (c 0)), (6, .int v6_22), (7, .int v7_24), (8, .int s0_25)] [.int s1_30, .int v5_21]
                refine ga_iadd hR (pc := 78) dL_walk_78 ?_
                refine ga_topi (fun v5_32 ev5_32 => ?_)
                replace h := h v5_32 ev5_32
                refine ga_istore hR (pc := 79) (lv' := [(5, .int v5_32), (0, .ref (a 0)), (1, .ref (b 0)), (2, .int p2), (3, .ref (c 0)), (6, .int v6_22), (7, .int v7_24), (8, .int s0_25)]) (by decide) rfl dL_walk_79 ?_
                refine ga_iload hR (pc := 81) 7 rfl dL_walk_81 ?_
                refine ga_if_ne hR (pc := 83) 96 (by decide) dL_walk_83 (fun c83 => ?_) (fun c83 => ?_)
                · replace h := h.1 c83
                  refine ga_iload hR (pc := 96) 7 rfl dL_walk_96 ?_
                  refine ga_istore hR (pc := 98) (lv' := [(4, .int s0_25), (5, .int v5_32), (0, .ref (a 0)), (1, .ref (b 0)), (2, .int p2), (3, .ref (c 0)), (6, .int v6_22), (7, .int v7_24), (8, .int s0_25)]) (by decide) rfl dL_walk_98 ?_
                  refine ga_aload_n hR (pc := 100) 5 rfl rfl dL_walk_100 ?_
                  refine ga_iconst hR (pc := 101) (v := nI 1) (by decide) dL_walk_101 ?_
                  refine ga_iload hR (pc := 102) 6 rfl dL_walk_102 ?_
                  refine ga_iadd hR (pc := 104) dL_walk_104 ?_
                  refine ga_iload hR (pc := 105) 0 rfl dL_walk_105 ?_
                  refine ga_iast hR (pc := 107) (ws' := [(a 0, .inl (V.2 0, n_a, .inl x)), (b 0, .inl (V.2 0, n_b, .inl y)), (c 0, .inl (V.2 0, n_c, .inl ((upd z_29 ((nI 1) + v6_22).toNatClampNeg s0_25))))]) 2 rfl h.1 rfl dL_walk_107 ?_
                  replace h := h.2
                  obtain ⟨z_33, ez_33⟩ : ∃ f : Nat → Int32, f = upd z_29 ((nI 1) + v6_22).toNatClampNeg s0_25 := ⟨_, rfl⟩
                  refine ga_cast (ws' := [(a 0, .inl (V.2 0, n_a, .inl x)), (b 0, .inl (V.2 0, n_b, .inl y)), (c 0, .inl (V.2 0, n_c, .inl z_33))]) (by rw [ez_33]) rfl ?_
                  replace h := h z_33 ez_33
                  obtain ⟨v6_34, ev6_34⟩ : ∃ v : Int32, v = v6_22 + (nI 1) := ⟨_, rfl⟩
                  replace h := h v6_34 ev6_34
                  refine ga_iinc hR (pc := 108) (lv' := [(6, .int v6_34), (4, .int s0_25), (5, .int v5_32), (0, .ref (a 0)), (1, .ref (b 0)), (2, .int p2), (3, .ref (c 0)), (7, .int v7_24), (8, .int s0_25)]) 6 (by decide) rfl ev6_34 (by decide) rfl dL_walk_108 ?_
                  refine ga_goto hR (pc := 111) 9 (by decide) dL_walk_111 ?_
                  exact ga_lv hR [3, 4, 5, 6, 1, 2, 0] rfl (ih _ _ _ _ h)
                · replace h := h.2 c83
                  refine ga_aload_n hR (pc := 86) 1 rfl rfl dL_walk_86 ?_
                  refine ga_iload hR (pc := 87) 6 rfl dL_walk_87 ?_
                  refine ga_iload_n hR (pc := 89) 3 rfl rfl dL_walk_89 ?_
                  refine ga_callS hR (pc := 90) (As := [.ref (a 0), .int v7_24, .int p2]) (rest := []) (st0 := [.int p2, .int v7_24, .ref (a 0)]) 3 (c_L_begun V a n_a x v7_24 p2 _ h) (ga_same_i fun _ => rfl) gL_walk_L_begun rfl rfl rfl hd_L_begunS ⟨Nat.le_of_ble_eq_true rfl, Nat.le_of_ble_eq_true rfl⟩ rfl rfl (Nat.le_of_ble_eq_true rfl) ⟨Nat.le_of_ble_eq_true rfl, Nat.le_of_ble_eq_true rfl⟩ [0] rfl rfl dL_walk_90 ?_
                  rintro _ _ ⟨r_35, ⟨⟩, rfl, rfl, h⟩
                  refine ga_to [(a 0, .inl (V.2 0, n_a, .inl x)), (b 0, .inl (V.2 0, n_b, .inl y)), (c 0, .inl (V.2 0, n_c, .inl z_29))] [.int r_35] rfl rfl ?_
                  try dsimp only at h
                  refine ga_goto hR (pc := 93) 98 (by decide) dL_walk_93 ?_
                  refine ga_istore hR (pc := 98) (lv' := [(4, .int r_35), (5, .int v5_32), (0, .ref (a 0)), (1, .ref (b 0)), (2, .int p2), (3, .ref (c 0)), (6, .int v6_22), (7, .int v7_24), (8, .int s0_25)]) (by decide) rfl dL_walk_98 ?_
                  refine ga_aload_n hR (pc := 100) 5 rfl rfl dL_walk_100 ?_
                  refine ga_iconst hR (pc := 101) (v := nI 1) (by decide) dL_walk_101 ?_
                  refine ga_iload hR (pc := 102) 6 rfl dL_walk_102 ?_
                  refine ga_iadd hR (pc := 104) dL_walk_104 ?_
                  refine ga_iload hR (pc := 105) 0 rfl dL_walk_105 ?_
                  refine ga_iast hR (pc := 107) (ws' := [(a 0, .inl (V.2 0, n_a, .inl x)), (b 0, .inl (V.2 0, n_b, .inl y)), (c 0, .inl (V.2 0, n_c, .inl ((upd z_29 ((nI 1) + v6_22).toNatClampNeg r_35))))]) 2 rfl h.1 rfl dL_walk_107 ?_
                  replace h := h.2
                  obtain ⟨z_36, ez_36⟩ : ∃ f : Nat → Int32, f = upd z_29 ((nI 1) + v6_22).toNatClampNeg r_35 := ⟨_, rfl⟩
                  refine ga_cast (ws' := [(a 0, .inl (V.2 0, n_a, .inl x)), (b 0, .inl (V.2 0, n_b, .inl y)), (c 0, .inl (V.2 0, n_c, .inl z_36))]) (by rw [ez_36]) rfl ?_
                  replace h := h z_36 ez_36
                  obtain ⟨v6_37, ev6_37⟩ : ∃ v : Int32, v = v6_22 + (nI 1) := ⟨_, rfl⟩
                  replace h := h v6_37 ev6_37
                  refine ga_iinc hR (pc := 108) (lv' := [(6, .int v6_37), (4, .int r_35), (5, .int v5_32), (0, .ref (a 0)), (1, .ref (b 0)), (2, .int p2), (3, .ref (c 0)), (7, .int v7_24), (8, .int s0_25)]) 6 (by decide) rfl ev6_37 (by decide) rfl dL_walk_108 ?_
                  refine ga_goto hR (pc := 111) 9 (by decide) dL_walk_111 ?_
                  exact ga_lv hR [3, 4, 5, 6, 1, 2, 0] rfl (ih _ _ _ _ h)
              · intro h
                refine ga_if_ne hR (pc := 70) 77 (by decide) dL_walk_70 (fun c70 => ?_) (fun c70 => ?_)
                · replace h := h.1 c70
                  refine ga_iconst hR (pc := 77) (v := nI 0) (by decide) dL_walk_77 ?_
                  exact ga_lv hR [0, 1, 2, 3, 5, 6, 7] rfl h
                · replace h := h.2 c70
                  refine ga_iconst hR (pc := 73) (v := nI 1) (by decide) dL_walk_73 ?_
                  refine ga_goto hR (pc := 74) 78 (by decide) dL_walk_74 ?_
                  exact ga_lv hR [0, 1, 2, 3, 5, 6, 7] rfl h
            · intro h
              refine ga_if_ne hR (pc := 57) 64 (by decide) dL_walk_57 (fun c57 => ?_) (fun c57 => ?_)
              · replace h := h.1 c57
                refine ga_iconst hR (pc := 64) (v := nI 0) (by decide) dL_walk_64 ?_
                exact ga_lv hR [1, 2, 3, 4, 5, 6, 7, 0] rfl h
              · replace h := h.2 c57
                refine ga_iconst hR (pc := 60) (v := nI 1) (by decide) dL_walk_60 ?_
                refine ga_goto hR (pc := 61) 65 (by decide) dL_walk_61 ?_
                exact ga_lv hR [1, 2, 3, 4, 5, 6, 7, 0] rfl h
          · intro h
            refine ga_if_le hR (pc := 31) 46 (by decide) dL_walk_31 (fun c31 => ?_) (fun c31 => ?_)
            · replace h := h.1 c31
              refine ga_iconst hR (pc := 46) (v := nI 0) (by decide) dL_walk_46 ?_
              exact ga_lv hR [1, 2, 3, 4, 6, 7, 0] rfl h
            · replace h := h.2 c31
              refine ga_aload_n hR (pc := 34) 1 rfl rfl dL_walk_34 ?_
              refine ga_aload_n hR (pc := 35) 2 rfl rfl dL_walk_35 ?_
              refine ga_iload hR (pc := 36) 5 rfl dL_walk_36 ?_
              refine ga_iload hR (pc := 38) 0 rfl dL_walk_38 ?_
              refine ga_callS hR (pc := 40) (As := [.ref (a 0), .ref (b 0), .int v4_20, .int v7_24]) (rest := []) (st0 := [.int v7_24, .int v4_20, .ref (b 0), .ref (a 0)]) 4 (c_L_goes V a b n_a n_b x y v4_20 v7_24 _ h) (ga_same_i fun _ => rfl) gL_walk_L_goes rfl rfl rfl hd_L_goesS ⟨Nat.le_of_ble_eq_true rfl, Nat.le_of_ble_eq_true rfl⟩ rfl rfl (Nat.le_of_ble_eq_true rfl) ⟨Nat.le_of_ble_eq_true rfl, Nat.le_of_ble_eq_true rfl⟩ [0, 1] rfl rfl dL_walk_40 ?_
              rintro _ _ ⟨r_38, ⟨⟩, rfl, rfl, h⟩
              refine ga_to [(a 0, .inl (V.2 0, n_a, .inl x)), (b 0, .inl (V.2 0, n_b, .inl y)), (c 0, .inl (V.2 0, n_c, .inl z_23))] [.int r_38] rfl rfl ?_
              try dsimp only at h
              refine ga_goto hR (pc := 43) 47 (by decide) dL_walk_43 ?_
              exact ga_lv hR [1, 2, 3, 4, 6, 7, 0] rfl h
    exact ga_lv hR [3, 4, 5, 6, 2, 1, 0] rfl (L9 n _ _ _ _ h)

def rm_L_same : Room := { frames := 3, cells := 1, slots := 64, locals := 80 }
theorem hd_L_sameS : yL_same.cls ≠ "java/lang/invoke/MethodHandle" ∧ yL_same.cls ≠ "java/lang/invoke/VarHandle" ∧ (parseMethodDescriptor yL_same.desc).map (fun d => d.parameters.length) = some 3 := by decide +kernel
set_option maxHeartbeats 4000000 in
set_option maxRecDepth 100000 in
theorem c_L_same (V : ga_V) (a : Nat → Nat) (b : Nat → Nat) (c : Nat → Nat) (n_b : Nat) (n_c : Nat) (x_text_rulesSeen : Int32) (x_text_placesSeen : Int32) (x_keptNumber : Int32) (x_text_length : Int32) (x_rules_number : Int32) (x_rules_placeNumber : Int32) (x_rules_places : Nat → Int32) (x_rules_firsts : Nat → Int32) (x_rules_wholes : Nat → Int32) (x_now_length : Int32) (x_now_classes : Nat → Int32) (x_now_kinds : Nat → Int32) (x_now_line : Nat → Int32) (x_acts_number : Int32) (x_pieces_length : Int32) (x_pieces_bounds : Int32) (x_pieces_stands : Nat → Int32) (y : Nat → Int32) (z : Nat → Int32) (K : Int32 → Prop) (h : wp_L_same n_b n_c x_keptNumber x_text_length x_rules_number x_rules_placeNumber x_rules_places x_rules_firsts x_rules_wholes x_now_length x_now_classes x_now_kinds x_now_line x_acts_number x_pieces_length x_pieces_bounds x_pieces_stands y z K) : ga_C V yL_same wsL_same rm_L_same [.ref (a 0), .ref (b 0), .ref (c 0)] [(a 0, .inr (9, [.ref (a 1), .ref (a 3), .ref (a 13), .ref (a 17), .ref (a 21), .ref (a 25), .ref (a 29), .ref (a 32), .ref (a 34), .ref (a 46), .ref (a 50), .int x_keptNumber])), (a 1, .inr (7, [.ref (a 2), .int x_text_length, .int x_text_rulesSeen, .int x_text_placesSeen])), (a 3, .inr (4, [.ref (a 4), .ref (a 5), .ref (a 6), .ref (a 7), .ref (a 8), .ref (a 9), .int x_rules_number, .int x_rules_placeNumber])), (a 4, .inl (V.2 0, 4, .inl x_rules_places)), (a 5, .inl (V.2 0, 4, .inl x_rules_firsts)), (a 6, .inl (V.2 0, 4, .inl x_rules_wholes)), (a 13, .inr (6, [.ref (a 14), .ref (a 15), .ref (a 16), .int x_now_length])), (a 14, .inl (V.2 0, 26, .inl x_now_classes)), (a 15, .inl (V.2 0, 4, .inl x_now_kinds)), (a 16, .inl (V.2 0, 30, .inl x_now_line)), (a 25, .inr (0, [.ref (a 26), .ref (a 27), .ref (a 28), .int x_acts_number])), (a 32, .inr (3, [.ref (a 33), .int x_pieces_length, .int x_pieces_bounds])), (a 33, .inl (V.2 0, 31, .inl x_pieces_stands)), (b 0, .inl (V.2 0, n_b, .inl y)), (c 0, .inl (V.2 0, n_c, .inl z))] 1 64 (ga_Fi (fun (u : Unit) => [(a 0, .inr (9, [.ref (a 1), .ref (a 3), .ref (a 13), .ref (a 17), .ref (a 21), .ref (a 25), .ref (a 29), .ref (a 32), .ref (a 34), .ref (a 46), .ref (a 50), .int x_keptNumber])), (a 1, .inr (7, [.ref (a 2), .int x_text_length, .int x_text_rulesSeen, .int x_text_placesSeen])), (a 3, .inr (4, [.ref (a 4), .ref (a 5), .ref (a 6), .ref (a 7), .ref (a 8), .ref (a 9), .int x_rules_number, .int x_rules_placeNumber])), (a 4, .inl (V.2 0, 4, .inl x_rules_places)), (a 5, .inl (V.2 0, 4, .inl x_rules_firsts)), (a 6, .inl (V.2 0, 4, .inl x_rules_wholes)), (a 13, .inr (6, [.ref (a 14), .ref (a 15), .ref (a 16), .int x_now_length])), (a 14, .inl (V.2 0, 26, .inl x_now_classes)), (a 15, .inl (V.2 0, 4, .inl x_now_kinds)), (a 16, .inl (V.2 0, 30, .inl x_now_line)), (a 25, .inr (0, [.ref (a 26), .ref (a 27), .ref (a 28), .int x_acts_number])), (a 32, .inr (3, [.ref (a 33), .int x_pieces_length, .int x_pieces_bounds])), (a 33, .inl (V.2 0, 31, .inl x_pieces_stands)), (b 0, .inl (V.2 0, n_b, .inl y)), (c 0, .inl (V.2 0, n_c, .inl z))]) (fun r u => K r)) := by
  refine ga_met (cc := cL_same) (maxL := 6) (rt := (some .boolean)) (by decide) rfl [(0, .ref (a 0)), (1, .ref (b 0)), (2, .ref (c 0))] rfl (Nat.le_of_ble_eq_true rfl) ?_
  intro G hR hE
  unfold wp_L_same at h
  refine ga_bipush hR (pc := 0) (v := nI 64) (by decide) dL_same_0 ?_
  refine ga_newa hR (pc := 2) (t := 0) (ty := .int) (N := 64) (z := nI 64) rfl rfl rfl (fun C h => by cases h) (by decide +kernel) (by decide) (by decide) (Nat.le_of_ble_eq_true rfl) (Nat.le_of_ble_eq_true rfl) (Nat.le_of_ble_eq_true rfl) dL_same_2 (fun q_1 => ?_)
  refine ga_to [(a 0, .inr (9, [.ref (a 1), .ref (a 3), .ref (a 13), .ref (a 17), .ref (a 21), .ref (a 25), .ref (a 29), .ref (a 32), .ref (a 34), .ref (a 46), .ref (a 50), .int x_keptNumber])), (a 1, .inr (7, [.ref (a 2), .int x_text_length, .int x_text_rulesSeen, .int x_text_placesSeen])), (a 3, .inr (4, [.ref (a 4), .ref (a 5), .ref (a 6), .ref (a 7), .ref (a 8), .ref (a 9), .int x_rules_number, .int x_rules_placeNumber])), (a 4, .inl (V.2 0, 4, .inl x_rules_places)), (a 5, .inl (V.2 0, 4, .inl x_rules_firsts)), (a 6, .inl (V.2 0, 4, .inl x_rules_wholes)), (a 13, .inr (6, [.ref (a 14), .ref (a 15), .ref (a 16), .int x_now_length])), (a 14, .inl (V.2 0, 26, .inl x_now_classes)), (a 15, .inl (V.2 0, 4, .inl x_now_kinds)), (a 16, .inl (V.2 0, 30, .inl x_now_line)), (a 25, .inr (0, [.ref (a 26), .ref (a 27), .ref (a 28), .int x_acts_number])), (a 32, .inr (3, [.ref (a 33), .int x_pieces_length, .int x_pieces_bounds])), (a 33, .inl (V.2 0, 31, .inl x_pieces_stands)), (b 0, .inl (V.2 0, n_b, .inl y)), (c 0, .inl (V.2 0, n_c, .inl z)), (q_1, .inl (V.2 0, 64, .inl ((fun _ => 0))))] [.ref (q_1)] rfl rfl ?_
  refine ga_astore_n hR (pc := 4) (lv' := [(3, .ref (q_1)), (0, .ref (a 0)), (1, .ref (b 0)), (2, .ref (c 0))]) rfl (by decide) rfl dL_same_4 ?_
  refine ga_aload_n hR (pc := 5) 2 rfl rfl dL_same_5 ?_
  refine ga_aload_n hR (pc := 6) 3 rfl rfl dL_same_6 ?_
  refine ga_iconst hR (pc := 7) (v := nI 0) (by decide) dL_same_7 ?_
  refine ga_aload_n hR (pc := 8) 0 rfl rfl dL_same_8 ?_
  refine ga_callS hR (pc := 9) (As := [.ref (b 0), .ref (c 0), .int (nI 0), .ref (q_1)]) (rest := []) (st0 := [.ref (q_1), .int (nI 0), .ref (c 0), .ref (b 0)]) 4 (c_L_walk V b c (fun k => [q_1].getD k 0) n_b n_c 64 y z ((fun _ => 0)) (nI 0) _ h) (ga_same_i fun _ => rfl) gL_same_L_walk rfl rfl rfl hd_L_walkS ⟨Nat.le_of_ble_eq_true rfl, Nat.le_of_ble_eq_true rfl⟩ rfl rfl (Nat.le_of_ble_eq_true rfl) ⟨Nat.le_of_ble_eq_true rfl, Nat.le_of_ble_eq_true rfl⟩ [13, 14, 15] rfl rfl dL_same_9 ?_
  rintro _ _ ⟨r_3, w_2, rfl, rfl, h⟩
  refine ga_to [(a 0, .inr (9, [.ref (a 1), .ref (a 3), .ref (a 13), .ref (a 17), .ref (a 21), .ref (a 25), .ref (a 29), .ref (a 32), .ref (a 34), .ref (a 46), .ref (a 50), .int x_keptNumber])), (a 1, .inr (7, [.ref (a 2), .int x_text_length, .int x_text_rulesSeen, .int x_text_placesSeen])), (a 3, .inr (4, [.ref (a 4), .ref (a 5), .ref (a 6), .ref (a 7), .ref (a 8), .ref (a 9), .int x_rules_number, .int x_rules_placeNumber])), (a 4, .inl (V.2 0, 4, .inl x_rules_places)), (a 5, .inl (V.2 0, 4, .inl x_rules_firsts)), (a 6, .inl (V.2 0, 4, .inl x_rules_wholes)), (a 13, .inr (6, [.ref (a 14), .ref (a 15), .ref (a 16), .int x_now_length])), (a 14, .inl (V.2 0, 26, .inl x_now_classes)), (a 15, .inl (V.2 0, 4, .inl x_now_kinds)), (a 16, .inl (V.2 0, 30, .inl x_now_line)), (a 25, .inr (0, [.ref (a 26), .ref (a 27), .ref (a 28), .int x_acts_number])), (a 32, .inr (3, [.ref (a 33), .int x_pieces_length, .int x_pieces_bounds])), (a 33, .inl (V.2 0, 31, .inl x_pieces_stands)), (b 0, .inl (V.2 0, n_b, .inl y)), (c 0, .inl (V.2 0, n_c, .inl z)), (q_1, .inl (V.2 0, 64, .inl w_2))] [.int r_3] rfl rfl ?_
  try dsimp only at h
  refine ga_istore hR (pc := 12) (lv' := [(4, .int r_3), (3, .ref (q_1)), (0, .ref (a 0)), (1, .ref (b 0)), (2, .ref (c 0))]) (by decide) rfl dL_same_12 ?_
  refine ga_iconst hR (pc := 14) (v := nI 0) (by decide) dL_same_14 ?_
  refine ga_istore hR (pc := 15) (lv' := [(5, .int (nI 0)), (4, .int r_3), (3, .ref (q_1)), (0, .ref (a 0)), (1, .ref (b 0)), (2, .ref (c 0))]) (by decide) rfl dL_same_15 ?_
  have hJ := h (G 1 64 [(a 0, .inr (9, [.ref (a 1), .ref (a 3), .ref (a 13), .ref (a 17), .ref (a 21), .ref (a 25), .ref (a 29), .ref (a 32), .ref (a 34), .ref (a 46), .ref (a 50), .int x_keptNumber])), (a 1, .inr (7, [.ref (a 2), .int x_text_length, .int x_text_rulesSeen, .int x_text_placesSeen])), (a 3, .inr (4, [.ref (a 4), .ref (a 5), .ref (a 6), .ref (a 7), .ref (a 8), .ref (a 9), .int x_rules_number, .int x_rules_placeNumber])), (a 4, .inl (V.2 0, 4, .inl x_rules_places)), (a 5, .inl (V.2 0, 4, .inl x_rules_firsts)), (a 6, .inl (V.2 0, 4, .inl x_rules_wholes)), (a 13, .inr (6, [.ref (a 14), .ref (a 15), .ref (a 16), .int x_now_length])), (a 14, .inl (V.2 0, 26, .inl x_now_classes)), (a 15, .inl (V.2 0, 4, .inl x_now_kinds)), (a 16, .inl (V.2 0, 30, .inl x_now_line)), (a 25, .inr (0, [.ref (a 26), .ref (a 27), .ref (a 28), .int x_acts_number])), (a 32, .inr (3, [.ref (a 33), .int x_pieces_length, .int x_pieces_bounds])), (a 33, .inl (V.2 0, 31, .inl x_pieces_stands)), (b 0, .inl (V.2 0, n_b, .inl y)), (c 0, .inl (V.2 0, n_c, .inl z)), (q_1, .inl (V.2 0, 64, .inl w_2))] 37 [] [])
  refine ga_bind hJ ?_ ?_
  · intro h
    show G 1 64 [(a 0, .inr (9, [.ref (a 1), .ref (a 3), .ref (a 13), .ref (a 17), .ref (a 21), .ref (a 25), .ref (a 29), .ref (a 32), .ref (a 34), .ref (a 46), .ref (a 50), .int x_keptNumber])), (a 1, .inr (7, [.ref (a 2), .int x_text_length, .int x_text_rulesSeen, .int x_text_placesSeen])), (a 3, .inr (4, [.ref (a 4), .ref (a 5), .ref (a 6), .ref (a 7), .ref (a 8), .ref (a 9), .int x_rules_number, .int x_rules_placeNumber])), (a 4, .inl (V.2 0, 4, .inl x_rules_places)), (a 5, .inl (V.2 0, 4, .inl x_rules_firsts)), (a 6, .inl (V.2 0, 4, .inl x_rules_wholes)), (a 13, .inr (6, [.ref (a 14), .ref (a 15), .ref (a 16), .int x_now_length])), (a 14, .inl (V.2 0, 26, .inl x_now_classes)), (a 15, .inl (V.2 0, 4, .inl x_now_kinds)), (a 16, .inl (V.2 0, 30, .inl x_now_line)), (a 25, .inr (0, [.ref (a 26), .ref (a 27), .ref (a 28), .int x_acts_number])), (a 32, .inr (3, [.ref (a 33), .int x_pieces_length, .int x_pieces_bounds])), (a 33, .inl (V.2 0, 31, .inl x_pieces_stands)), (b 0, .inl (V.2 0, n_b, .inl y)), (c 0, .inl (V.2 0, n_c, .inl z)), (q_1, .inl (V.2 0, 64, .inl w_2))] 37 [] []
    refine ga_iconst hR (pc := 37) (v := nI 0) (by decide) dL_same_37 ?_
    refine ga_drop hR [0, 1, 2, 3, 4, 5, 6, 7, 8, 9, 10, 11, 12, 13, 14] (wc := [(a 0, .inr (9, [.ref (a 1), .ref (a 3), .ref (a 13), .ref (a 17), .ref (a 21), .ref (a 25), .ref (a 29), .ref (a 32), .ref (a 34), .ref (a 46), .ref (a 50), .int x_keptNumber])), (a 1, .inr (7, [.ref (a 2), .int x_text_length, .int x_text_rulesSeen, .int x_text_placesSeen])), (a 3, .inr (4, [.ref (a 4), .ref (a 5), .ref (a 6), .ref (a 7), .ref (a 8), .ref (a 9), .int x_rules_number, .int x_rules_placeNumber])), (a 4, .inl (V.2 0, 4, .inl x_rules_places)), (a 5, .inl (V.2 0, 4, .inl x_rules_firsts)), (a 6, .inl (V.2 0, 4, .inl x_rules_wholes)), (a 13, .inr (6, [.ref (a 14), .ref (a 15), .ref (a 16), .int x_now_length])), (a 14, .inl (V.2 0, 26, .inl x_now_classes)), (a 15, .inl (V.2 0, 4, .inl x_now_kinds)), (a 16, .inl (V.2 0, 30, .inl x_now_line)), (a 25, .inr (0, [.ref (a 26), .ref (a 27), .ref (a 28), .int x_acts_number])), (a 32, .inr (3, [.ref (a 33), .int x_pieces_length, .int x_pieces_bounds])), (a 33, .inl (V.2 0, 31, .inl x_pieces_stands)), (b 0, .inl (V.2 0, n_b, .inl y)), (c 0, .inl (V.2 0, n_c, .inl z))]) rfl rfl ?_
    exact ga_iret hE dL_same_38 (by decide) (ga_ri () rfl h)
  · intro h
    have hJ := h (G 1 64 [(a 0, .inr (9, [.ref (a 1), .ref (a 3), .ref (a 13), .ref (a 17), .ref (a 21), .ref (a 25), .ref (a 29), .ref (a 32), .ref (a 34), .ref (a 46), .ref (a 50), .int x_keptNumber])), (a 1, .inr (7, [.ref (a 2), .int x_text_length, .int x_text_rulesSeen, .int x_text_placesSeen])), (a 3, .inr (4, [.ref (a 4), .ref (a 5), .ref (a 6), .ref (a 7), .ref (a 8), .ref (a 9), .int x_rules_number, .int x_rules_placeNumber])), (a 4, .inl (V.2 0, 4, .inl x_rules_places)), (a 5, .inl (V.2 0, 4, .inl x_rules_firsts)), (a 6, .inl (V.2 0, 4, .inl x_rules_wholes)), (a 13, .inr (6, [.ref (a 14), .ref (a 15), .ref (a 16), .int x_now_length])), (a 14, .inl (V.2 0, 26, .inl x_now_classes)), (a 15, .inl (V.2 0, 4, .inl x_now_kinds)), (a 16, .inl (V.2 0, 30, .inl x_now_line)), (a 25, .inr (0, [.ref (a 26), .ref (a 27), .ref (a 28), .int x_acts_number])), (a 32, .inr (3, [.ref (a 33), .int x_pieces_length, .int x_pieces_bounds])), (a 33, .inl (V.2 0, 31, .inl x_pieces_stands)), (b 0, .inl (V.2 0, n_b, .inl y)), (c 0, .inl (V.2 0, n_c, .inl z)), (q_1, .inl (V.2 0, 64, .inl w_2))] 45 [(0, .ref (a 0)), (1, .ref (b 0)), (2, .ref (c 0)), (3, .ref (q_1)), (4, .int r_3)] [])
    refine ga_bind hJ ?_ ?_
    · intro h
      show G 1 64 [(a 0, .inr (9, [.ref (a 1), .ref (a 3), .ref (a 13), .ref (a 17), .ref (a 21), .ref (a 25), .ref (a 29), .ref (a 32), .ref (a 34), .ref (a 46), .ref (a 50), .int x_keptNumber])), (a 1, .inr (7, [.ref (a 2), .int x_text_length, .int x_text_rulesSeen, .int x_text_placesSeen])), (a 3, .inr (4, [.ref (a 4), .ref (a 5), .ref (a 6), .ref (a 7), .ref (a 8), .ref (a 9), .int x_rules_number, .int x_rules_placeNumber])), (a 4, .inl (V.2 0, 4, .inl x_rules_places)), (a 5, .inl (V.2 0, 4, .inl x_rules_firsts)), (a 6, .inl (V.2 0, 4, .inl x_rules_wholes)), (a 13, .inr (6, [.ref (a 14), .ref (a 15), .ref (a 16), .int x_now_length])), (a 14, .inl (V.2 0, 26, .inl x_now_classes)), (a 15, .inl (V.2 0, 4, .inl x_now_kinds)), (a 16, .inl (V.2 0, 30, .inl x_now_line)), (a 25, .inr (0, [.ref (a 26), .ref (a 27), .ref (a 28), .int x_acts_number])), (a 32, .inr (3, [.ref (a 33), .int x_pieces_length, .int x_pieces_bounds])), (a 33, .inl (V.2 0, 31, .inl x_pieces_stands)), (b 0, .inl (V.2 0, n_b, .inl y)), (c 0, .inl (V.2 0, n_c, .inl z)), (q_1, .inl (V.2 0, 64, .inl w_2))] 45 [(0, .ref (a 0)), (1, .ref (b 0)), (2, .ref (c 0)), (3, .ref (q_1)), (4, .int r_3)] []
      refine ga_iconst hR (pc := 45) (v := nI 0) (by decide) dL_same_45 ?_
      refine ga_istore hR (pc := 46) (lv' := [(5, .int (nI 0)), (0, .ref (a 0)), (1, .ref (b 0)), (2, .ref (c 0)), (3, .ref (q_1)), (4, .int r_3)]) (by decide) rfl dL_same_46 ?_
      have hJ := h (G 1 64 [(a 0, .inr (9, [.ref (a 1), .ref (a 3), .ref (a 13), .ref (a 17), .ref (a 21), .ref (a 25), .ref (a 29), .ref (a 32), .ref (a 34), .ref (a 46), .ref (a 50), .int x_keptNumber])), (a 1, .inr (7, [.ref (a 2), .int x_text_length, .int x_text_rulesSeen, .int x_text_placesSeen])), (a 3, .inr (4, [.ref (a 4), .ref (a 5), .ref (a 6), .ref (a 7), .ref (a 8), .ref (a 9), .int x_rules_number, .int x_rules_placeNumber])), (a 4, .inl (V.2 0, 4, .inl x_rules_places)), (a 5, .inl (V.2 0, 4, .inl x_rules_firsts)), (a 6, .inl (V.2 0, 4, .inl x_rules_wholes)), (a 13, .inr (6, [.ref (a 14), .ref (a 15), .ref (a 16), .int x_now_length])), (a 14, .inl (V.2 0, 26, .inl x_now_classes)), (a 15, .inl (V.2 0, 4, .inl x_now_kinds)), (a 16, .inl (V.2 0, 30, .inl x_now_line)), (a 25, .inr (0, [.ref (a 26), .ref (a 27), .ref (a 28), .int x_acts_number])), (a 32, .inr (3, [.ref (a 33), .int x_pieces_length, .int x_pieces_bounds])), (a 33, .inl (V.2 0, 31, .inl x_pieces_stands)), (b 0, .inl (V.2 0, n_b, .inl y)), (c 0, .inl (V.2 0, n_c, .inl z)), (q_1, .inl (V.2 0, 64, .inl w_2))] 123 [] [])
      refine ga_bind hJ ?_ ?_
      · intro h
        show G 1 64 [(a 0, .inr (9, [.ref (a 1), .ref (a 3), .ref (a 13), .ref (a 17), .ref (a 21), .ref (a 25), .ref (a 29), .ref (a 32), .ref (a 34), .ref (a 46), .ref (a 50), .int x_keptNumber])), (a 1, .inr (7, [.ref (a 2), .int x_text_length, .int x_text_rulesSeen, .int x_text_placesSeen])), (a 3, .inr (4, [.ref (a 4), .ref (a 5), .ref (a 6), .ref (a 7), .ref (a 8), .ref (a 9), .int x_rules_number, .int x_rules_placeNumber])), (a 4, .inl (V.2 0, 4, .inl x_rules_places)), (a 5, .inl (V.2 0, 4, .inl x_rules_firsts)), (a 6, .inl (V.2 0, 4, .inl x_rules_wholes)), (a 13, .inr (6, [.ref (a 14), .ref (a 15), .ref (a 16), .int x_now_length])), (a 14, .inl (V.2 0, 26, .inl x_now_classes)), (a 15, .inl (V.2 0, 4, .inl x_now_kinds)), (a 16, .inl (V.2 0, 30, .inl x_now_line)), (a 25, .inr (0, [.ref (a 26), .ref (a 27), .ref (a 28), .int x_acts_number])), (a 32, .inr (3, [.ref (a 33), .int x_pieces_length, .int x_pieces_bounds])), (a 33, .inl (V.2 0, 31, .inl x_pieces_stands)), (b 0, .inl (V.2 0, n_b, .inl y)), (c 0, .inl (V.2 0, n_c, .inl z)), (q_1, .inl (V.2 0, 64, .inl w_2))] 123 [] []
        refine ga_iconst hR (pc := 123) (v := nI 0) (by decide) dL_same_123 ?_
        refine ga_drop hR [0, 1, 2, 3, 4, 5, 6, 7, 8, 9, 10, 11, 12, 13, 14] (wc := [(a 0, .inr (9, [.ref (a 1), .ref (a 3), .ref (a 13), .ref (a 17), .ref (a 21), .ref (a 25), .ref (a 29), .ref (a 32), .ref (a 34), .ref (a 46), .ref (a 50), .int x_keptNumber])), (a 1, .inr (7, [.ref (a 2), .int x_text_length, .int x_text_rulesSeen, .int x_text_placesSeen])), (a 3, .inr (4, [.ref (a 4), .ref (a 5), .ref (a 6), .ref (a 7), .ref (a 8), .ref (a 9), .int x_rules_number, .int x_rules_placeNumber])), (a 4, .inl (V.2 0, 4, .inl x_rules_places)), (a 5, .inl (V.2 0, 4, .inl x_rules_firsts)), (a 6, .inl (V.2 0, 4, .inl x_rules_wholes)), (a 13, .inr (6, [.ref (a 14), .ref (a 15), .ref (a 16), .int x_now_length])), (a 14, .inl (V.2 0, 26, .inl x_now_classes)), (a 15, .inl (V.2 0, 4, .inl x_now_kinds)), (a 16, .inl (V.2 0, 30, .inl x_now_line)), (a 25, .inr (0, [.ref (a 26), .ref (a 27), .ref (a 28), .int x_acts_number])), (a 32, .inr (3, [.ref (a 33), .int x_pieces_length, .int x_pieces_bounds])), (a 33, .inl (V.2 0, 31, .inl x_pieces_stands)), (b 0, .inl (V.2 0, n_b, .inl y)), (c 0, .inl (V.2 0, n_c, .inl z))]) rfl rfl ?_
        exact ga_iret hE dL_same_124 (by decide) (ga_ri () rfl h)
      · intro h
        have hJ := h (G 1 64 [(a 0, .inr (9, [.ref (a 1), .ref (a 3), .ref (a 13), .ref (a 17), .ref (a 21), .ref (a 25), .ref (a 29), .ref (a 32), .ref (a 34), .ref (a 46), .ref (a 50), .int x_keptNumber])), (a 1, .inr (7, [.ref (a 2), .int x_text_length, .int x_text_rulesSeen, .int x_text_placesSeen])), (a 3, .inr (4, [.ref (a 4), .ref (a 5), .ref (a 6), .ref (a 7), .ref (a 8), .ref (a 9), .int x_rules_number, .int x_rules_placeNumber])), (a 4, .inl (V.2 0, 4, .inl x_rules_places)), (a 5, .inl (V.2 0, 4, .inl x_rules_firsts)), (a 6, .inl (V.2 0, 4, .inl x_rules_wholes)), (a 13, .inr (6, [.ref (a 14), .ref (a 15), .ref (a 16), .int x_now_length])), (a 14, .inl (V.2 0, 26, .inl x_now_classes)), (a 15, .inl (V.2 0, 4, .inl x_now_kinds)), (a 16, .inl (V.2 0, 30, .inl x_now_line)), (a 25, .inr (0, [.ref (a 26), .ref (a 27), .ref (a 28), .int x_acts_number])), (a 32, .inr (3, [.ref (a 33), .int x_pieces_length, .int x_pieces_bounds])), (a 33, .inl (V.2 0, 31, .inl x_pieces_stands)), (b 0, .inl (V.2 0, n_b, .inl y)), (c 0, .inl (V.2 0, n_c, .inl z)), (q_1, .inl (V.2 0, 64, .inl w_2))] 131 [(0, .ref (a 0)), (1, .ref (b 0)), (2, .ref (c 0)), (3, .ref (q_1)), (4, .int r_3)] [])
        refine ga_bind hJ ?_ ?_
        · intro h
          show G 1 64 [(a 0, .inr (9, [.ref (a 1), .ref (a 3), .ref (a 13), .ref (a 17), .ref (a 21), .ref (a 25), .ref (a 29), .ref (a 32), .ref (a 34), .ref (a 46), .ref (a 50), .int x_keptNumber])), (a 1, .inr (7, [.ref (a 2), .int x_text_length, .int x_text_rulesSeen, .int x_text_placesSeen])), (a 3, .inr (4, [.ref (a 4), .ref (a 5), .ref (a 6), .ref (a 7), .ref (a 8), .ref (a 9), .int x_rules_number, .int x_rules_placeNumber])), (a 4, .inl (V.2 0, 4, .inl x_rules_places)), (a 5, .inl (V.2 0, 4, .inl x_rules_firsts)), (a 6, .inl (V.2 0, 4, .inl x_rules_wholes)), (a 13, .inr (6, [.ref (a 14), .ref (a 15), .ref (a 16), .int x_now_length])), (a 14, .inl (V.2 0, 26, .inl x_now_classes)), (a 15, .inl (V.2 0, 4, .inl x_now_kinds)), (a 16, .inl (V.2 0, 30, .inl x_now_line)), (a 25, .inr (0, [.ref (a 26), .ref (a 27), .ref (a 28), .int x_acts_number])), (a 32, .inr (3, [.ref (a 33), .int x_pieces_length, .int x_pieces_bounds])), (a 33, .inl (V.2 0, 31, .inl x_pieces_stands)), (b 0, .inl (V.2 0, n_b, .inl y)), (c 0, .inl (V.2 0, n_c, .inl z)), (q_1, .inl (V.2 0, 64, .inl w_2))] 131 [(0, .ref (a 0)), (1, .ref (b 0)), (2, .ref (c 0)), (3, .ref (q_1)), (4, .int r_3)] []
          refine ga_iconst hR (pc := 131) (v := nI 0) (by decide) dL_same_131 ?_
          refine ga_istore hR (pc := 132) (lv' := [(5, .int (nI 0)), (0, .ref (a 0)), (1, .ref (b 0)), (2, .ref (c 0)), (3, .ref (q_1)), (4, .int r_3)]) (by decide) rfl dL_same_132 ?_
          have hJ := h (G 1 64 [(a 0, .inr (9, [.ref (a 1), .ref (a 3), .ref (a 13), .ref (a 17), .ref (a 21), .ref (a 25), .ref (a 29), .ref (a 32), .ref (a 34), .ref (a 46), .ref (a 50), .int x_keptNumber])), (a 1, .inr (7, [.ref (a 2), .int x_text_length, .int x_text_rulesSeen, .int x_text_placesSeen])), (a 3, .inr (4, [.ref (a 4), .ref (a 5), .ref (a 6), .ref (a 7), .ref (a 8), .ref (a 9), .int x_rules_number, .int x_rules_placeNumber])), (a 4, .inl (V.2 0, 4, .inl x_rules_places)), (a 5, .inl (V.2 0, 4, .inl x_rules_firsts)), (a 6, .inl (V.2 0, 4, .inl x_rules_wholes)), (a 13, .inr (6, [.ref (a 14), .ref (a 15), .ref (a 16), .int x_now_length])), (a 14, .inl (V.2 0, 26, .inl x_now_classes)), (a 15, .inl (V.2 0, 4, .inl x_now_kinds)), (a 16, .inl (V.2 0, 30, .inl x_now_line)), (a 25, .inr (0, [.ref (a 26), .ref (a 27), .ref (a 28), .int x_acts_number])), (a 32, .inr (3, [.ref (a 33), .int x_pieces_length, .int x_pieces_bounds])), (a 33, .inl (V.2 0, 31, .inl x_pieces_stands)), (b 0, .inl (V.2 0, n_b, .inl y)), (c 0, .inl (V.2 0, n_c, .inl z)), (q_1, .inl (V.2 0, 64, .inl w_2))] 212 [] [])
          refine ga_bind hJ ?_ ?_
          · intro h
            show G 1 64 [(a 0, .inr (9, [.ref (a 1), .ref (a 3), .ref (a 13), .ref (a 17), .ref (a 21), .ref (a 25), .ref (a 29), .ref (a 32), .ref (a 34), .ref (a 46), .ref (a 50), .int x_keptNumber])), (a 1, .inr (7, [.ref (a 2), .int x_text_length, .int x_text_rulesSeen, .int x_text_placesSeen])), (a 3, .inr (4, [.ref (a 4), .ref (a 5), .ref (a 6), .ref (a 7), .ref (a 8), .ref (a 9), .int x_rules_number, .int x_rules_placeNumber])), (a 4, .inl (V.2 0, 4, .inl x_rules_places)), (a 5, .inl (V.2 0, 4, .inl x_rules_firsts)), (a 6, .inl (V.2 0, 4, .inl x_rules_wholes)), (a 13, .inr (6, [.ref (a 14), .ref (a 15), .ref (a 16), .int x_now_length])), (a 14, .inl (V.2 0, 26, .inl x_now_classes)), (a 15, .inl (V.2 0, 4, .inl x_now_kinds)), (a 16, .inl (V.2 0, 30, .inl x_now_line)), (a 25, .inr (0, [.ref (a 26), .ref (a 27), .ref (a 28), .int x_acts_number])), (a 32, .inr (3, [.ref (a 33), .int x_pieces_length, .int x_pieces_bounds])), (a 33, .inl (V.2 0, 31, .inl x_pieces_stands)), (b 0, .inl (V.2 0, n_b, .inl y)), (c 0, .inl (V.2 0, n_c, .inl z)), (q_1, .inl (V.2 0, 64, .inl w_2))] 212 [] []
            refine ga_iconst hR (pc := 212) (v := nI 0) (by decide) dL_same_212 ?_
            refine ga_drop hR [0, 1, 2, 3, 4, 5, 6, 7, 8, 9, 10, 11, 12, 13, 14] (wc := [(a 0, .inr (9, [.ref (a 1), .ref (a 3), .ref (a 13), .ref (a 17), .ref (a 21), .ref (a 25), .ref (a 29), .ref (a 32), .ref (a 34), .ref (a 46), .ref (a 50), .int x_keptNumber])), (a 1, .inr (7, [.ref (a 2), .int x_text_length, .int x_text_rulesSeen, .int x_text_placesSeen])), (a 3, .inr (4, [.ref (a 4), .ref (a 5), .ref (a 6), .ref (a 7), .ref (a 8), .ref (a 9), .int x_rules_number, .int x_rules_placeNumber])), (a 4, .inl (V.2 0, 4, .inl x_rules_places)), (a 5, .inl (V.2 0, 4, .inl x_rules_firsts)), (a 6, .inl (V.2 0, 4, .inl x_rules_wholes)), (a 13, .inr (6, [.ref (a 14), .ref (a 15), .ref (a 16), .int x_now_length])), (a 14, .inl (V.2 0, 26, .inl x_now_classes)), (a 15, .inl (V.2 0, 4, .inl x_now_kinds)), (a 16, .inl (V.2 0, 30, .inl x_now_line)), (a 25, .inr (0, [.ref (a 26), .ref (a 27), .ref (a 28), .int x_acts_number])), (a 32, .inr (3, [.ref (a 33), .int x_pieces_length, .int x_pieces_bounds])), (a 33, .inl (V.2 0, 31, .inl x_pieces_stands)), (b 0, .inl (V.2 0, n_b, .inl y)), (c 0, .inl (V.2 0, n_c, .inl z))]) rfl rfl ?_
            exact ga_iret hE dL_same_213 (by decide) (ga_ri () rfl h)
          · intro h
            have hJ := h (G 1 64 [(a 0, .inr (9, [.ref (a 1), .ref (a 3), .ref (a 13), .ref (a 17), .ref (a 21), .ref (a 25), .ref (a 29), .ref (a 32), .ref (a 34), .ref (a 46), .ref (a 50), .int x_keptNumber])), (a 1, .inr (7, [.ref (a 2), .int x_text_length, .int x_text_rulesSeen, .int x_text_placesSeen])), (a 3, .inr (4, [.ref (a 4), .ref (a 5), .ref (a 6), .ref (a 7), .ref (a 8), .ref (a 9), .int x_rules_number, .int x_rules_placeNumber])), (a 4, .inl (V.2 0, 4, .inl x_rules_places)), (a 5, .inl (V.2 0, 4, .inl x_rules_firsts)), (a 6, .inl (V.2 0, 4, .inl x_rules_wholes)), (a 13, .inr (6, [.ref (a 14), .ref (a 15), .ref (a 16), .int x_now_length])), (a 14, .inl (V.2 0, 26, .inl x_now_classes)), (a 15, .inl (V.2 0, 4, .inl x_now_kinds)), (a 16, .inl (V.2 0, 30, .inl x_now_line)), (a 25, .inr (0, [.ref (a 26), .ref (a 27), .ref (a 28), .int x_acts_number])), (a 32, .inr (3, [.ref (a 33), .int x_pieces_length, .int x_pieces_bounds])), (a 33, .inl (V.2 0, 31, .inl x_pieces_stands)), (b 0, .inl (V.2 0, n_b, .inl y)), (c 0, .inl (V.2 0, n_c, .inl z)), (q_1, .inl (V.2 0, 64, .inl w_2))] 220 [(0, .ref (a 0)), (1, .ref (b 0)), (2, .ref (c 0)), (4, .int r_3)] [])
            refine ga_bind hJ ?_ ?_
            · intro h
              show G 1 64 [(a 0, .inr (9, [.ref (a 1), .ref (a 3), .ref (a 13), .ref (a 17), .ref (a 21), .ref (a 25), .ref (a 29), .ref (a 32), .ref (a 34), .ref (a 46), .ref (a 50), .int x_keptNumber])), (a 1, .inr (7, [.ref (a 2), .int x_text_length, .int x_text_rulesSeen, .int x_text_placesSeen])), (a 3, .inr (4, [.ref (a 4), .ref (a 5), .ref (a 6), .ref (a 7), .ref (a 8), .ref (a 9), .int x_rules_number, .int x_rules_placeNumber])), (a 4, .inl (V.2 0, 4, .inl x_rules_places)), (a 5, .inl (V.2 0, 4, .inl x_rules_firsts)), (a 6, .inl (V.2 0, 4, .inl x_rules_wholes)), (a 13, .inr (6, [.ref (a 14), .ref (a 15), .ref (a 16), .int x_now_length])), (a 14, .inl (V.2 0, 26, .inl x_now_classes)), (a 15, .inl (V.2 0, 4, .inl x_now_kinds)), (a 16, .inl (V.2 0, 30, .inl x_now_line)), (a 25, .inr (0, [.ref (a 26), .ref (a 27), .ref (a 28), .int x_acts_number])), (a 32, .inr (3, [.ref (a 33), .int x_pieces_length, .int x_pieces_bounds])), (a 33, .inl (V.2 0, 31, .inl x_pieces_stands)), (b 0, .inl (V.2 0, n_b, .inl y)), (c 0, .inl (V.2 0, n_c, .inl z)), (q_1, .inl (V.2 0, 64, .inl w_2))] 220 [(0, .ref (a 0)), (1, .ref (b 0)), (2, .ref (c 0)), (4, .int r_3)] []
              refine ga_aload_n hR (pc := 220) 0 rfl rfl dL_same_220 ?_
              refine ga_aload_n hR (pc := 221) 2 rfl rfl dL_same_221 ?_
              refine ga_bipush hR (pc := 222) (v := nI 30) (by decide) dL_same_222 ?_
              refine ga_iald hR (pc := 224) 14 rfl h.1 dL_same_224 ?_
              replace h := h.2
              refine ga_iconst hR (pc := 225) (v := nI 1) (by decide) dL_same_225 ?_
              refine ga_iadd hR (pc := 226) dL_same_226 ?_
              refine ga_callV hR (pc := 227) (As := [.int ((z (nI 30).toNatClampNeg) + (nI 1))]) (rest := []) (st0 := [.int ((z (nI 30).toNatClampNeg) + (nI 1)), .ref (a 0)]) (b := (a 0)) 1 (c_X9_letter V a x_keptNumber x_now_length x_now_line ((z (nI 30).toNatClampNeg) + (nI 1)) _ h) (ga_same_i fun _ => rfl) gL_same_X9_letter rfl rfl rfl hd_X9_letter ⟨Nat.le_of_ble_eq_true rfl, Nat.le_of_ble_eq_true rfl⟩ rfl rfl (Nat.le_of_ble_eq_true rfl) ⟨Nat.le_of_ble_eq_true rfl, Nat.le_of_ble_eq_true rfl⟩ [0, 6, 9] rfl rfl 0 rfl rfl dL_same_227 ?_
              rintro _ _ ⟨r_10, ⟨⟩, rfl, rfl, h⟩
              refine ga_to [(a 0, .inr (9, [.ref (a 1), .ref (a 3), .ref (a 13), .ref (a 17), .ref (a 21), .ref (a 25), .ref (a 29), .ref (a 32), .ref (a 34), .ref (a 46), .ref (a 50), .int x_keptNumber])), (a 1, .inr (7, [.ref (a 2), .int x_text_length, .int x_text_rulesSeen, .int x_text_placesSeen])), (a 3, .inr (4, [.ref (a 4), .ref (a 5), .ref (a 6), .ref (a 7), .ref (a 8), .ref (a 9), .int x_rules_number, .int x_rules_placeNumber])), (a 4, .inl (V.2 0, 4, .inl x_rules_places)), (a 5, .inl (V.2 0, 4, .inl x_rules_firsts)), (a 6, .inl (V.2 0, 4, .inl x_rules_wholes)), (a 13, .inr (6, [.ref (a 14), .ref (a 15), .ref (a 16), .int x_now_length])), (a 14, .inl (V.2 0, 26, .inl x_now_classes)), (a 15, .inl (V.2 0, 4, .inl x_now_kinds)), (a 16, .inl (V.2 0, 30, .inl x_now_line)), (a 25, .inr (0, [.ref (a 26), .ref (a 27), .ref (a 28), .int x_acts_number])), (a 32, .inr (3, [.ref (a 33), .int x_pieces_length, .int x_pieces_bounds])), (a 33, .inl (V.2 0, 31, .inl x_pieces_stands)), (b 0, .inl (V.2 0, n_b, .inl y)), (c 0, .inl (V.2 0, n_c, .inl z)), (q_1, .inl (V.2 0, 64, .inl w_2))] [.int r_10] rfl rfl ?_
              try dsimp only at h
              refine ga_iconst hR (pc := 230) (v := -1) (by decide) dL_same_230 ?_
              refine ga_icmp_ne hR (pc := 231) 282 (by decide) dL_same_231 (fun c231 => ?_) (fun c231 => ?_)
              · replace h := h.1 c231
                refine ga_iconst hR (pc := 282) (v := nI 0) (by decide) dL_same_282 ?_
                refine ga_drop hR [0, 1, 2, 3, 4, 5, 6, 7, 8, 9, 10, 11, 12, 13, 14] (wc := [(a 0, .inr (9, [.ref (a 1), .ref (a 3), .ref (a 13), .ref (a 17), .ref (a 21), .ref (a 25), .ref (a 29), .ref (a 32), .ref (a 34), .ref (a 46), .ref (a 50), .int x_keptNumber])), (a 1, .inr (7, [.ref (a 2), .int x_text_length, .int x_text_rulesSeen, .int x_text_placesSeen])), (a 3, .inr (4, [.ref (a 4), .ref (a 5), .ref (a 6), .ref (a 7), .ref (a 8), .ref (a 9), .int x_rules_number, .int x_rules_placeNumber])), (a 4, .inl (V.2 0, 4, .inl x_rules_places)), (a 5, .inl (V.2 0, 4, .inl x_rules_firsts)), (a 6, .inl (V.2 0, 4, .inl x_rules_wholes)), (a 13, .inr (6, [.ref (a 14), .ref (a 15), .ref (a 16), .int x_now_length])), (a 14, .inl (V.2 0, 26, .inl x_now_classes)), (a 15, .inl (V.2 0, 4, .inl x_now_kinds)), (a 16, .inl (V.2 0, 30, .inl x_now_line)), (a 25, .inr (0, [.ref (a 26), .ref (a 27), .ref (a 28), .int x_acts_number])), (a 32, .inr (3, [.ref (a 33), .int x_pieces_length, .int x_pieces_bounds])), (a 33, .inl (V.2 0, 31, .inl x_pieces_stands)), (b 0, .inl (V.2 0, n_b, .inl y)), (c 0, .inl (V.2 0, n_c, .inl z))]) rfl rfl ?_
                exact ga_iret hE dL_same_283 (by decide) (ga_ri () rfl h)
              · replace h := h.2 c231
                refine ga_aload_n hR (pc := 234) 0 rfl rfl dL_same_234 ?_
                refine ga_iconst hR (pc := 235) (v := nI 0) (by decide) dL_same_235 ?_
                refine ga_callV hR (pc := 236) (As := [.int (nI 0)]) (rest := []) (st0 := [.int (nI 0), .ref (a 0)]) (b := (a 0)) 1 (c_X9_count V a x_text_rulesSeen x_text_placesSeen x_pieces_length x_keptNumber x_text_length x_rules_number x_rules_placeNumber x_now_length x_acts_number x_pieces_bounds (nI 0) _ h) (ga_same_i fun _ => rfl) gL_same_X9_count rfl rfl rfl hd_X9_count ⟨Nat.le_of_ble_eq_true rfl, Nat.le_of_ble_eq_true rfl⟩ rfl rfl (Nat.le_of_ble_eq_true rfl) ⟨Nat.le_of_ble_eq_true rfl, Nat.le_of_ble_eq_true rfl⟩ [0, 1, 2, 6, 10, 11] rfl rfl 0 rfl rfl dL_same_236 ?_
                rintro _ _ ⟨r_11, ⟨⟩, rfl, rfl, h⟩
                refine ga_to [(a 0, .inr (9, [.ref (a 1), .ref (a 3), .ref (a 13), .ref (a 17), .ref (a 21), .ref (a 25), .ref (a 29), .ref (a 32), .ref (a 34), .ref (a 46), .ref (a 50), .int x_keptNumber])), (a 1, .inr (7, [.ref (a 2), .int x_text_length, .int x_text_rulesSeen, .int x_text_placesSeen])), (a 3, .inr (4, [.ref (a 4), .ref (a 5), .ref (a 6), .ref (a 7), .ref (a 8), .ref (a 9), .int x_rules_number, .int x_rules_placeNumber])), (a 4, .inl (V.2 0, 4, .inl x_rules_places)), (a 5, .inl (V.2 0, 4, .inl x_rules_firsts)), (a 6, .inl (V.2 0, 4, .inl x_rules_wholes)), (a 13, .inr (6, [.ref (a 14), .ref (a 15), .ref (a 16), .int x_now_length])), (a 14, .inl (V.2 0, 26, .inl x_now_classes)), (a 15, .inl (V.2 0, 4, .inl x_now_kinds)), (a 16, .inl (V.2 0, 30, .inl x_now_line)), (a 25, .inr (0, [.ref (a 26), .ref (a 27), .ref (a 28), .int x_acts_number])), (a 32, .inr (3, [.ref (a 33), .int x_pieces_length, .int x_pieces_bounds])), (a 33, .inl (V.2 0, 31, .inl x_pieces_stands)), (b 0, .inl (V.2 0, n_b, .inl y)), (c 0, .inl (V.2 0, n_c, .inl z)), (q_1, .inl (V.2 0, 64, .inl w_2))] [.int r_11] rfl rfl ?_
                try dsimp only at h
                refine ga_aload_n hR (pc := 239) 1 rfl rfl dL_same_239 ?_
                refine ga_iconst hR (pc := 240) (v := nI 0) (by decide) dL_same_240 ?_
                refine ga_iald hR (pc := 241) 13 rfl h.1 dL_same_241 ?_
                replace h := h.2
                refine ga_icmp_ne hR (pc := 242) 282 (by decide) dL_same_242 (fun c242 => ?_) (fun c242 => ?_)
                · replace h := h.1 c242
                  refine ga_iconst hR (pc := 282) (v := nI 0) (by decide) dL_same_282 ?_
                  refine ga_drop hR [0, 1, 2, 3, 4, 5, 6, 7, 8, 9, 10, 11, 12, 13, 14] (wc := [(a 0, .inr (9, [.ref (a 1), .ref (a 3), .ref (a 13), .ref (a 17), .ref (a 21), .ref (a 25), .ref (a 29), .ref (a 32), .ref (a 34), .ref (a 46), .ref (a 50), .int x_keptNumber])), (a 1, .inr (7, [.ref (a 2), .int x_text_length, .int x_text_rulesSeen, .int x_text_placesSeen])), (a 3, .inr (4, [.ref (a 4), .ref (a 5), .ref (a 6), .ref (a 7), .ref (a 8), .ref (a 9), .int x_rules_number, .int x_rules_placeNumber])), (a 4, .inl (V.2 0, 4, .inl x_rules_places)), (a 5, .inl (V.2 0, 4, .inl x_rules_firsts)), (a 6, .inl (V.2 0, 4, .inl x_rules_wholes)), (a 13, .inr (6, [.ref (a 14), .ref (a 15), .ref (a 16), .int x_now_length])), (a 14, .inl (V.2 0, 26, .inl x_now_classes)), (a 15, .inl (V.2 0, 4, .inl x_now_kinds)), (a 16, .inl (V.2 0, 30, .inl x_now_line)), (a 25, .inr (0, [.ref (a 26), .ref (a 27), .ref (a 28), .int x_acts_number])), (a 32, .inr (3, [.ref (a 33), .int x_pieces_length, .int x_pieces_bounds])), (a 33, .inl (V.2 0, 31, .inl x_pieces_stands)), (b 0, .inl (V.2 0, n_b, .inl y)), (c 0, .inl (V.2 0, n_c, .inl z))]) rfl rfl ?_
                  exact ga_iret hE dL_same_283 (by decide) (ga_ri () rfl h)
                · replace h := h.2 c242
                  refine ga_aload_n hR (pc := 245) 0 rfl rfl dL_same_245 ?_
                  refine ga_iconst hR (pc := 246) (v := nI 1) (by decide) dL_same_246 ?_
                  refine ga_callV hR (pc := 247) (As := [.int (nI 1)]) (rest := []) (st0 := [.int (nI 1), .ref (a 0)]) (b := (a 0)) 1 (c_X9_count V a x_text_rulesSeen x_text_placesSeen x_pieces_length x_keptNumber x_text_length x_rules_number x_rules_placeNumber x_now_length x_acts_number x_pieces_bounds (nI 1) _ h) (ga_same_i fun _ => rfl) gL_same_X9_count rfl rfl rfl hd_X9_count ⟨Nat.le_of_ble_eq_true rfl, Nat.le_of_ble_eq_true rfl⟩ rfl rfl (Nat.le_of_ble_eq_true rfl) ⟨Nat.le_of_ble_eq_true rfl, Nat.le_of_ble_eq_true rfl⟩ [0, 1, 2, 6, 10, 11] rfl rfl 0 rfl rfl dL_same_247 ?_
                  rintro _ _ ⟨r_12, ⟨⟩, rfl, rfl, h⟩
                  refine ga_to [(a 0, .inr (9, [.ref (a 1), .ref (a 3), .ref (a 13), .ref (a 17), .ref (a 21), .ref (a 25), .ref (a 29), .ref (a 32), .ref (a 34), .ref (a 46), .ref (a 50), .int x_keptNumber])), (a 1, .inr (7, [.ref (a 2), .int x_text_length, .int x_text_rulesSeen, .int x_text_placesSeen])), (a 3, .inr (4, [.ref (a 4), .ref (a 5), .ref (a 6), .ref (a 7), .ref (a 8), .ref (a 9), .int x_rules_number, .int x_rules_placeNumber])), (a 4, .inl (V.2 0, 4, .inl x_rules_places)), (a 5, .inl (V.2 0, 4, .inl x_rules_firsts)), (a 6, .inl (V.2 0, 4, .inl x_rules_wholes)), (a 13, .inr (6, [.ref (a 14), .ref (a 15), .ref (a 16), .int x_now_length])), (a 14, .inl (V.2 0, 26, .inl x_now_classes)), (a 15, .inl (V.2 0, 4, .inl x_now_kinds)), (a 16, .inl (V.2 0, 30, .inl x_now_line)), (a 25, .inr (0, [.ref (a 26), .ref (a 27), .ref (a 28), .int x_acts_number])), (a 32, .inr (3, [.ref (a 33), .int x_pieces_length, .int x_pieces_bounds])), (a 33, .inl (V.2 0, 31, .inl x_pieces_stands)), (b 0, .inl (V.2 0, n_b, .inl y)), (c 0, .inl (V.2 0, n_c, .inl z)), (q_1, .inl (V.2 0, 64, .inl w_2))] [.int r_12] rfl rfl ?_
                  try dsimp only at h
                  refine ga_aload_n hR (pc := 250) 1 rfl rfl dL_same_250 ?_
                  refine ga_iconst hR (pc := 251) (v := nI 1) (by decide) dL_same_251 ?_
                  refine ga_iald hR (pc := 252) 13 rfl h.1 dL_same_252 ?_
                  replace h := h.2
                  refine ga_icmp_ne hR (pc := 253) 282 (by decide) dL_same_253 (fun c253 => ?_) (fun c253 => ?_)
                  · replace h := h.1 c253
                    refine ga_iconst hR (pc := 282) (v := nI 0) (by decide) dL_same_282 ?_
                    refine ga_drop hR [0, 1, 2, 3, 4, 5, 6, 7, 8, 9, 10, 11, 12, 13, 14] (wc := [(a 0, .inr (9, [.ref (a 1), .ref (a 3), .ref (a 13), .ref (a 17), .ref (a 21), .ref (a 25), .ref (a 29), .ref (a 32), .ref (a 34), .ref (a 46), .ref (a 50), .int x_keptNumber])), (a 1, .inr (7, [.ref (a 2), .int x_text_length, .int x_text_rulesSeen, .int x_text_placesSeen])), (a 3, .inr (4, [.ref (a 4), .ref (a 5), .ref (a 6), .ref (a 7), .ref (a 8), .ref (a 9), .int x_rules_number, .int x_rules_placeNumber])), (a 4, .inl (V.2 0, 4, .inl x_rules_places)), (a 5, .inl (V.2 0, 4, .inl x_rules_firsts)), (a 6, .inl (V.2 0, 4, .inl x_rules_wholes)), (a 13, .inr (6, [.ref (a 14), .ref (a 15), .ref (a 16), .int x_now_length])), (a 14, .inl (V.2 0, 26, .inl x_now_classes)), (a 15, .inl (V.2 0, 4, .inl x_now_kinds)), (a 16, .inl (V.2 0, 30, .inl x_now_line)), (a 25, .inr (0, [.ref (a 26), .ref (a 27), .ref (a 28), .int x_acts_number])), (a 32, .inr (3, [.ref (a 33), .int x_pieces_length, .int x_pieces_bounds])), (a 33, .inl (V.2 0, 31, .inl x_pieces_stands)), (b 0, .inl (V.2 0, n_b, .inl y)), (c 0, .inl (V.2 0, n_c, .inl z))]) rfl rfl ?_
                    exact ga_iret hE dL_same_283 (by decide) (ga_ri () rfl h)
                  · replace h := h.2 c253
                    refine ga_aload_n hR (pc := 256) 0 rfl rfl dL_same_256 ?_
                    refine ga_iconst hR (pc := 257) (v := nI 2) (by decide) dL_same_257 ?_
                    refine ga_callV hR (pc := 258) (As := [.int (nI 2)]) (rest := []) (st0 := [.int (nI 2), .ref (a 0)]) (b := (a 0)) 1 (c_X9_count V a x_text_rulesSeen x_text_placesSeen x_pieces_length x_keptNumber x_text_length x_rules_number x_rules_placeNumber x_now_length x_acts_number x_pieces_bounds (nI 2) _ h) (ga_same_i fun _ => rfl) gL_same_X9_count rfl rfl rfl hd_X9_count ⟨Nat.le_of_ble_eq_true rfl, Nat.le_of_ble_eq_true rfl⟩ rfl rfl (Nat.le_of_ble_eq_true rfl) ⟨Nat.le_of_ble_eq_true rfl, Nat.le_of_ble_eq_true rfl⟩ [0, 1, 2, 6, 10, 11] rfl rfl 0 rfl rfl dL_same_258 ?_
                    rintro _ _ ⟨r_13, ⟨⟩, rfl, rfl, h⟩
                    refine ga_to [(a 0, .inr (9, [.ref (a 1), .ref (a 3), .ref (a 13), .ref (a 17), .ref (a 21), .ref (a 25), .ref (a 29), .ref (a 32), .ref (a 34), .ref (a 46), .ref (a 50), .int x_keptNumber])), (a 1, .inr (7, [.ref (a 2), .int x_text_length, .int x_text_rulesSeen, .int x_text_placesSeen])), (a 3, .inr (4, [.ref (a 4), .ref (a 5), .ref (a 6), .ref (a 7), .ref (a 8), .ref (a 9), .int x_rules_number, .int x_rules_placeNumber])), (a 4, .inl (V.2 0, 4, .inl x_rules_places)), (a 5, .inl (V.2 0, 4, .inl x_rules_firsts)), (a 6, .inl (V.2 0, 4, .inl x_rules_wholes)), (a 13, .inr (6, [.ref (a 14), .ref (a 15), .ref (a 16), .int x_now_length])), (a 14, .inl (V.2 0, 26, .inl x_now_classes)), (a 15, .inl (V.2 0, 4, .inl x_now_kinds)), (a 16, .inl (V.2 0, 30, .inl x_now_line)), (a 25, .inr (0, [.ref (a 26), .ref (a 27), .ref (a 28), .int x_acts_number])), (a 32, .inr (3, [.ref (a 33), .int x_pieces_length, .int x_pieces_bounds])), (a 33, .inl (V.2 0, 31, .inl x_pieces_stands)), (b 0, .inl (V.2 0, n_b, .inl y)), (c 0, .inl (V.2 0, n_c, .inl z)), (q_1, .inl (V.2 0, 64, .inl w_2))] [.int r_13] rfl rfl ?_
                    try dsimp only at h
                    refine ga_aload_n hR (pc := 261) 2 rfl rfl dL_same_261 ?_
                    refine ga_bipush hR (pc := 262) (v := nI 30) (by decide) dL_same_262 ?_
                    refine ga_iald hR (pc := 264) 14 rfl h.1 dL_same_264 ?_
                    replace h := h.2
                    refine ga_icmp_ne hR (pc := 265) 282 (by decide) dL_same_265 (fun c265 => ?_) (fun c265 => ?_)
                    · replace h := h.1 c265
                      refine ga_iconst hR (pc := 282) (v := nI 0) (by decide) dL_same_282 ?_
                      refine ga_drop hR [0, 1, 2, 3, 4, 5, 6, 7, 8, 9, 10, 11, 12, 13, 14] (wc := [(a 0, .inr (9, [.ref (a 1), .ref (a 3), .ref (a 13), .ref (a 17), .ref (a 21), .ref (a 25), .ref (a 29), .ref (a 32), .ref (a 34), .ref (a 46), .ref (a 50), .int x_keptNumber])), (a 1, .inr (7, [.ref (a 2), .int x_text_length, .int x_text_rulesSeen, .int x_text_placesSeen])), (a 3, .inr (4, [.ref (a 4), .ref (a 5), .ref (a 6), .ref (a 7), .ref (a 8), .ref (a 9), .int x_rules_number, .int x_rules_placeNumber])), (a 4, .inl (V.2 0, 4, .inl x_rules_places)), (a 5, .inl (V.2 0, 4, .inl x_rules_firsts)), (a 6, .inl (V.2 0, 4, .inl x_rules_wholes)), (a 13, .inr (6, [.ref (a 14), .ref (a 15), .ref (a 16), .int x_now_length])), (a 14, .inl (V.2 0, 26, .inl x_now_classes)), (a 15, .inl (V.2 0, 4, .inl x_now_kinds)), (a 16, .inl (V.2 0, 30, .inl x_now_line)), (a 25, .inr (0, [.ref (a 26), .ref (a 27), .ref (a 28), .int x_acts_number])), (a 32, .inr (3, [.ref (a 33), .int x_pieces_length, .int x_pieces_bounds])), (a 33, .inl (V.2 0, 31, .inl x_pieces_stands)), (b 0, .inl (V.2 0, n_b, .inl y)), (c 0, .inl (V.2 0, n_c, .inl z))]) rfl rfl ?_
                      exact ga_iret hE dL_same_283 (by decide) (ga_ri () rfl h)
                    · replace h := h.2 c265
                      refine ga_aload_n hR (pc := 268) 0 rfl rfl dL_same_268 ?_
                      refine ga_iconst hR (pc := 269) (v := nI 3) (by decide) dL_same_269 ?_
                      refine ga_callV hR (pc := 270) (As := [.int (nI 3)]) (rest := []) (st0 := [.int (nI 3), .ref (a 0)]) (b := (a 0)) 1 (c_X9_count V a x_text_rulesSeen x_text_placesSeen x_pieces_length x_keptNumber x_text_length x_rules_number x_rules_placeNumber x_now_length x_acts_number x_pieces_bounds (nI 3) _ h) (ga_same_i fun _ => rfl) gL_same_X9_count rfl rfl rfl hd_X9_count ⟨Nat.le_of_ble_eq_true rfl, Nat.le_of_ble_eq_true rfl⟩ rfl rfl (Nat.le_of_ble_eq_true rfl) ⟨Nat.le_of_ble_eq_true rfl, Nat.le_of_ble_eq_true rfl⟩ [0, 1, 2, 6, 10, 11] rfl rfl 0 rfl rfl dL_same_270 ?_
                      rintro _ _ ⟨r_14, ⟨⟩, rfl, rfl, h⟩
                      refine ga_to [(a 0, .inr (9, [.ref (a 1), .ref (a 3), .ref (a 13), .ref (a 17), .ref (a 21), .ref (a 25), .ref (a 29), .ref (a 32), .ref (a 34), .ref (a 46), .ref (a 50), .int x_keptNumber])), (a 1, .inr (7, [.ref (a 2), .int x_text_length, .int x_text_rulesSeen, .int x_text_placesSeen])), (a 3, .inr (4, [.ref (a 4), .ref (a 5), .ref (a 6), .ref (a 7), .ref (a 8), .ref (a 9), .int x_rules_number, .int x_rules_placeNumber])), (a 4, .inl (V.2 0, 4, .inl x_rules_places)), (a 5, .inl (V.2 0, 4, .inl x_rules_firsts)), (a 6, .inl (V.2 0, 4, .inl x_rules_wholes)), (a 13, .inr (6, [.ref (a 14), .ref (a 15), .ref (a 16), .int x_now_length])), (a 14, .inl (V.2 0, 26, .inl x_now_classes)), (a 15, .inl (V.2 0, 4, .inl x_now_kinds)), (a 16, .inl (V.2 0, 30, .inl x_now_line)), (a 25, .inr (0, [.ref (a 26), .ref (a 27), .ref (a 28), .int x_acts_number])), (a 32, .inr (3, [.ref (a 33), .int x_pieces_length, .int x_pieces_bounds])), (a 33, .inl (V.2 0, 31, .inl x_pieces_stands)), (b 0, .inl (V.2 0, n_b, .inl y)), (c 0, .inl (V.2 0, n_c, .inl z)), (q_1, .inl (V.2 0, 64, .inl w_2))] [.int r_14] rfl rfl ?_
                      try dsimp only at h
                      refine ga_iload hR (pc := 273) 3 rfl dL_same_273 ?_
                      refine ga_icmp_ne hR (pc := 275) 282 (by decide) dL_same_275 (fun c275 => ?_) (fun c275 => ?_)
                      · replace h := h.1 c275
                        refine ga_iconst hR (pc := 282) (v := nI 0) (by decide) dL_same_282 ?_
                        refine ga_drop hR [0, 1, 2, 3, 4, 5, 6, 7, 8, 9, 10, 11, 12, 13, 14] (wc := [(a 0, .inr (9, [.ref (a 1), .ref (a 3), .ref (a 13), .ref (a 17), .ref (a 21), .ref (a 25), .ref (a 29), .ref (a 32), .ref (a 34), .ref (a 46), .ref (a 50), .int x_keptNumber])), (a 1, .inr (7, [.ref (a 2), .int x_text_length, .int x_text_rulesSeen, .int x_text_placesSeen])), (a 3, .inr (4, [.ref (a 4), .ref (a 5), .ref (a 6), .ref (a 7), .ref (a 8), .ref (a 9), .int x_rules_number, .int x_rules_placeNumber])), (a 4, .inl (V.2 0, 4, .inl x_rules_places)), (a 5, .inl (V.2 0, 4, .inl x_rules_firsts)), (a 6, .inl (V.2 0, 4, .inl x_rules_wholes)), (a 13, .inr (6, [.ref (a 14), .ref (a 15), .ref (a 16), .int x_now_length])), (a 14, .inl (V.2 0, 26, .inl x_now_classes)), (a 15, .inl (V.2 0, 4, .inl x_now_kinds)), (a 16, .inl (V.2 0, 30, .inl x_now_line)), (a 25, .inr (0, [.ref (a 26), .ref (a 27), .ref (a 28), .int x_acts_number])), (a 32, .inr (3, [.ref (a 33), .int x_pieces_length, .int x_pieces_bounds])), (a 33, .inl (V.2 0, 31, .inl x_pieces_stands)), (b 0, .inl (V.2 0, n_b, .inl y)), (c 0, .inl (V.2 0, n_c, .inl z))]) rfl rfl ?_
                        exact ga_iret hE dL_same_283 (by decide) (ga_ri () rfl h)
                      · replace h := h.2 c275
                        refine ga_iconst hR (pc := 278) (v := nI 1) (by decide) dL_same_278 ?_
                        refine ga_goto hR (pc := 279) 283 (by decide) dL_same_279 ?_
                        refine ga_drop hR [0, 1, 2, 3, 4, 5, 6, 7, 8, 9, 10, 11, 12, 13, 14] (wc := [(a 0, .inr (9, [.ref (a 1), .ref (a 3), .ref (a 13), .ref (a 17), .ref (a 21), .ref (a 25), .ref (a 29), .ref (a 32), .ref (a 34), .ref (a 46), .ref (a 50), .int x_keptNumber])), (a 1, .inr (7, [.ref (a 2), .int x_text_length, .int x_text_rulesSeen, .int x_text_placesSeen])), (a 3, .inr (4, [.ref (a 4), .ref (a 5), .ref (a 6), .ref (a 7), .ref (a 8), .ref (a 9), .int x_rules_number, .int x_rules_placeNumber])), (a 4, .inl (V.2 0, 4, .inl x_rules_places)), (a 5, .inl (V.2 0, 4, .inl x_rules_firsts)), (a 6, .inl (V.2 0, 4, .inl x_rules_wholes)), (a 13, .inr (6, [.ref (a 14), .ref (a 15), .ref (a 16), .int x_now_length])), (a 14, .inl (V.2 0, 26, .inl x_now_classes)), (a 15, .inl (V.2 0, 4, .inl x_now_kinds)), (a 16, .inl (V.2 0, 30, .inl x_now_line)), (a 25, .inr (0, [.ref (a 26), .ref (a 27), .ref (a 28), .int x_acts_number])), (a 32, .inr (3, [.ref (a 33), .int x_pieces_length, .int x_pieces_bounds])), (a 33, .inl (V.2 0, 31, .inl x_pieces_stands)), (b 0, .inl (V.2 0, n_b, .inl y)), (c 0, .inl (V.2 0, n_c, .inl z))]) rfl rfl ?_
                        exact ga_iret hE dL_same_283 (by decide) (ga_ri () rfl h)
            · intro h
              obtain ⟨n, h⟩ := h
              have L134 : ∀ (n : Nat) (v5_23 : Int32), lp_L_same_134 n_c x_now_length x_now_line x_pieces_length x_pieces_bounds x_pieces_stands z w_2 (G 1 64 [(a 0, .inr (9, [.ref (a 1), .ref (a 3), .ref (a 13), .ref (a 17), .ref (a 21), .ref (a 25), .ref (a 29), .ref (a 32), .ref (a 34), .ref (a 46), .ref (a 50), .int x_keptNumber])), (a 1, .inr (7, [.ref (a 2), .int x_text_length, .int x_text_rulesSeen, .int x_text_placesSeen])), (a 3, .inr (4, [.ref (a 4), .ref (a 5), .ref (a 6), .ref (a 7), .ref (a 8), .ref (a 9), .int x_rules_number, .int x_rules_placeNumber])), (a 4, .inl (V.2 0, 4, .inl x_rules_places)), (a 5, .inl (V.2 0, 4, .inl x_rules_firsts)), (a 6, .inl (V.2 0, 4, .inl x_rules_wholes)), (a 13, .inr (6, [.ref (a 14), .ref (a 15), .ref (a 16), .int x_now_length])), (a 14, .inl (V.2 0, 26, .inl x_now_classes)), (a 15, .inl (V.2 0, 4, .inl x_now_kinds)), (a 16, .inl (V.2 0, 30, .inl x_now_line)), (a 25, .inr (0, [.ref (a 26), .ref (a 27), .ref (a 28), .int x_acts_number])), (a 32, .inr (3, [.ref (a 33), .int x_pieces_length, .int x_pieces_bounds])), (a 33, .inl (V.2 0, 31, .inl x_pieces_stands)), (b 0, .inl (V.2 0, n_b, .inl y)), (c 0, .inl (V.2 0, n_c, .inl z)), (q_1, .inl (V.2 0, 64, .inl w_2))] 212 [] []) (G 1 64 [(a 0, .inr (9, [.ref (a 1), .ref (a 3), .ref (a 13), .ref (a 17), .ref (a 21), .ref (a 25), .ref (a 29), .ref (a 32), .ref (a 34), .ref (a 46), .ref (a 50), .int x_keptNumber])), (a 1, .inr (7, [.ref (a 2), .int x_text_length, .int x_text_rulesSeen, .int x_text_placesSeen])), (a 3, .inr (4, [.ref (a 4), .ref (a 5), .ref (a 6), .ref (a 7), .ref (a 8), .ref (a 9), .int x_rules_number, .int x_rules_placeNumber])), (a 4, .inl (V.2 0, 4, .inl x_rules_places)), (a 5, .inl (V.2 0, 4, .inl x_rules_firsts)), (a 6, .inl (V.2 0, 4, .inl x_rules_wholes)), (a 13, .inr (6, [.ref (a 14), .ref (a 15), .ref (a 16), .int x_now_length])), (a 14, .inl (V.2 0, 26, .inl x_now_classes)), (a 15, .inl (V.2 0, 4, .inl x_now_kinds)), (a 16, .inl (V.2 0, 30, .inl x_now_line)), (a 25, .inr (0, [.ref (a 26), .ref (a 27), .ref (a 28), .int x_acts_number])), (a 32, .inr (3, [.ref (a 33), .int x_pieces_length, .int x_pieces_bounds])), (a 33, .inl (V.2 0, 31, .inl x_pieces_stands)), (b 0, .inl (V.2 0, n_b, .inl y)), (c 0, .inl (V.2 0, n_c, .inl z)), (q_1, .inl (V.2 0, 64, .inl w_2))] 220 [(0, .ref (a 0)), (1, .ref (b 0)), (2, .ref (c 0)), (4, .int r_3)] []) n v5_23 → G 1 64 [(a 0, .inr (9, [.ref (a 1), .ref (a 3), .ref (a 13), .ref (a 17), .ref (a 21), .ref (a 25), .ref (a 29), .ref (a 32), .ref (a 34), .ref (a 46), .ref (a 50), .int x_keptNumber])), (a 1, .inr (7, [.ref (a 2), .int x_text_length, .int x_text_rulesSeen, .int x_text_placesSeen])), (a 3, .inr (4, [.ref (a 4), .ref (a 5), .ref (a 6), .ref (a 7), .ref (a 8), .ref (a 9), .int x_rules_number, .int x_rules_placeNumber])), (a 4, .inl (V.2 0, 4, .inl x_rules_places)), (a 5, .inl (V.2 0, 4, .inl x_rules_firsts)), (a 6, .inl (V.2 0, 4, .inl x_rules_wholes)), (a 13, .inr (6, [.ref (a 14), .ref (a 15), .ref (a 16), .int x_now_length])), (a 14, .inl (V.2 0, 26, .inl x_now_classes)), (a 15, .inl (V.2 0, 4, .inl x_now_kinds)), (a 16, .inl (V.2 0, 30, .inl x_now_line)), (a 25, .inr (0, [.ref (a 26), .ref (a 27), .ref (a 28), .int x_acts_number])), (a 32, .inr (3, [.ref (a 33), .int x_pieces_length, .int x_pieces_bounds])), (a 33, .inl (V.2 0, 31, .inl x_pieces_stands)), (b 0, .inl (V.2 0, n_b, .inl y)), (c 0, .inl (V.2 0, n_c, .inl z)), (q_1, .inl (V.2 0, 64, .inl w_2))] 134 [(0, .ref (a 0)), (1, .ref (b 0)), (2, .ref (c 0)), (3, .ref (q_1)), (4, .int r_3), (5, .int v5_23)] [] := by
                intro n
                induction n with
                | zero => exact fun _ h => False.elim h
                | succ n ih =>
                  intro v5_23 h
                  rw [lp_L_same_134] at h
                  refine ga_iload hR (pc := 134) 5 rfl dL_same_134 ?_
                  refine ga_aload_n hR (pc := 136) 2 rfl rfl dL_same_136 ?_
                  refine ga_bipush hR (pc := 137) (v := nI 30) (by decide) dL_same_137 ?_
                  refine ga_iald hR (pc := 139) 14 rfl h.1 dL_same_139 ?_
                  replace h := h.2
                  refine ga_icmp_gt hR (pc := 140) 220 (by decide) dL_same_140 (fun c140 => ?_) (fun c140 => ?_)
                  · replace h := h.1 c140
                    exact ga_lv hR [0, 1, 2, 4] rfl h
                  · replace h := h.2 c140
                    refine ga_aload_n hR (pc := 143) 0 rfl rfl dL_same_143 ?_
                    refine ga_iload hR (pc := 144) 5 rfl dL_same_144 ?_
                    refine ga_callV hR (pc := 146) (As := [.int v5_23]) (rest := []) (st0 := [.int v5_23, .ref (a 0)]) (b := (a 0)) 1 (c_X9_letter V a x_keptNumber x_now_length x_now_line v5_23 _ h) (ga_same_i fun _ => rfl) gL_same_X9_letter rfl rfl rfl hd_X9_letter ⟨Nat.le_of_ble_eq_true rfl, Nat.le_of_ble_eq_true rfl⟩ rfl rfl (Nat.le_of_ble_eq_true rfl) ⟨Nat.le_of_ble_eq_true rfl, Nat.le_of_ble_eq_true rfl⟩ [0, 6, 9] rfl rfl 0 rfl rfl dL_same_146 ?_
                    rintro _ _ ⟨r_24, ⟨⟩, rfl, rfl, h⟩
                    refine ga_to [(a 0, .inr (9, [.ref (a 1), .ref (a 3), .ref (a 13), .ref (a 17), .ref (a 21), .ref (a 25), .ref (a 29), .ref (a 32), .ref (a 34), .ref (a 46), .ref (a 50), .int x_keptNumber])), (a 1, .inr (7, [.ref (a 2), .int x_text_length, .int x_text_rulesSeen, .int x_text_placesSeen])), (a 3, .inr (4, [.ref (a 4), .ref (a 5), .ref (a 6), .ref (a 7), .ref (a 8), .ref (a 9), .int x_rules_number, .int x_rules_placeNumber])), (a 4, .inl (V.2 0, 4, .inl x_rules_places)), (a 5, .inl (V.2 0, 4, .inl x_rules_firsts)), (a 6, .inl (V.2 0, 4, .inl x_rules_wholes)), (a 13, .inr (6, [.ref (a 14), .ref (a 15), .ref (a 16), .int x_now_length])), (a 14, .inl (V.2 0, 26, .inl x_now_classes)), (a 15, .inl (V.2 0, 4, .inl x_now_kinds)), (a 16, .inl (V.2 0, 30, .inl x_now_line)), (a 25, .inr (0, [.ref (a 26), .ref (a 27), .ref (a 28), .int x_acts_number])), (a 32, .inr (3, [.ref (a 33), .int x_pieces_length, .int x_pieces_bounds])), (a 33, .inl (V.2 0, 31, .inl x_pieces_stands)), (b 0, .inl (V.2 0, n_b, .inl y)), (c 0, .inl (V.2 0, n_c, .inl z)), (q_1, .inl (V.2 0, 64, .inl w_2))] [.int r_24] rfl rfl ?_
                    try dsimp only at h
                    refine ga_iload hR (pc := 149) 5 rfl dL_same_149 ?_
                    refine ga_aload_n hR (pc := 151) 2 rfl rfl dL_same_151 ?_
                    refine ga_bipush hR (pc := 152) (v := nI 30) (by decide) dL_same_152 ?_
                    refine ga_iald hR (pc := 154) 14 rfl h.1 dL_same_154 ?_
                    replace h := h.2
                    have hJ := h (fun (s1_25 : Int32) => G 1 64 [(a 0, .inr (9, [.ref (a 1), .ref (a 3), .ref (a 13), .ref (a 17), .ref (a 21), .ref (a 25), .ref (a 29), .ref (a 32), .ref (a 34), .ref (a 46), .ref (a 50), .int x_keptNumber])), (a 1, .inr (7, [.ref (a 2), .int x_text_length, .int x_text_rulesSeen, .int x_text_placesSeen])), (a 3, .inr (4, [.ref (a 4), .ref (a 5), .ref (a 6), .ref (a 7), .ref (a 8), .ref (a 9), .int x_rules_number, .int x_rules_placeNumber])), (a 4, .inl (V.2 0, 4, .inl x_rules_places)), (a 5, .inl (V.2 0, 4, .inl x_rules_firsts)), (a 6, .inl (V.2 0, 4, .inl x_rules_wholes)), (a 13, .inr (6, [.ref (a 14), .ref (a 15), .ref (a 16), .int x_now_length])), (a 14, .inl (V.2 0, 26, .inl x_now_classes)), (a 15, .inl (V.2 0, 4, .inl x_now_kinds)), (a 16, .inl (V.2 0, 30, .inl x_now_line)), (a 25, .inr (0, [.ref (a 26), .ref (a 27), .ref (a 28), .int x_acts_number])), (a 32, .inr (3, [.ref (a 33), .int x_pieces_length, .int x_pieces_bounds])), (a 33, .inl (V.2 0, 31, .inl x_pieces_stands)), (b 0, .inl (V.2 0, n_b, .inl y)), (c 0, .inl (V.2 0, n_c, .inl z)), (q_1, .inl (V.2 0, 64, .inl w_2))] 170 [(0, .ref (a 0)), (1, .ref (b 0)), (2, .ref (c 0)), (3, .ref (q_1)), (4, .int r_3), (5, .int v5_23)] [.int s1_25, .int r_24])
                    refine ga_bind hJ ?_ ?_
                    · intro s1_25 h
                      show G 1 64 [(a 0, .inr (9, [.ref (a 1), .ref (a 3), .ref (a 13), .ref (a 17), .ref (a 21), .ref (a 25), .ref (a 29), .ref (a 32), .ref (a 34), .ref (a 46), .ref (a 50), .int x_keptNumber])), (a 1, .inr (7, [.ref (a 2), .int x_text_length, .int x_text_rulesSeen, .int x_text_placesSeen])), (a 3, .inr (4, [.ref (a 4), .ref (a 5), .ref (a 6), .ref (a 7), .ref (a 8), .ref (a 9), .int x_rules_number, .int x_rules_placeNumber])), (a 4, .inl (V.2 0, 4, .inl x_rules_places)), (a 5, .inl (V.2 0, 4, .inl x_rules_firsts)), (a 6, .inl (V.2 0, 4, .inl x_rules_wholes)), (a 13, .inr (6, [.ref (a 14), .ref (a 15), .ref (a 16), .int x_now_length])), (a 14, .inl (V.2 0, 26, .inl x_now_classes)), (a 15, .inl (V.2 0, 4, .inl x_now_kinds)), (a 16, .inl (V.2 0, 30, .inl x_now_line)), (a 25, .inr (0, [.ref (a 26), .ref (a 27), .ref (a 28), .int x_acts_number])), (a 32, .inr (3, [.ref (a 33), .int x_pieces_length, .int x_pieces_bounds])), (a 33, .inl (V.2 0, 31, .inl x_pieces_stands)), (b 0, .inl (V.2 0, n_b, .inl y)), (c 0, .inl (V.2 0, n_c, .inl z)), (q_1, .inl (V.2 0, 64, .inl w_2))] 170 [(0, .ref (a 0)), (1, .ref (b 0)), (2, .ref (c 0)), (3, .ref (q_1)), (4, .int r_3), (5, .int v5_23)] [.int s1_25, .int r_24]
                      refine ga_icmp_ne hR (pc := 170) 212 (by decide) dL_same_170 (fun c170 => ?_) (fun c170 => ?_)
                      · replace h := h.1 c170
                        exact ga_lv hR [] rfl h
                      · replace h := h.2 c170
                        refine ga_aload_n hR (pc := 173) 0 rfl rfl dL_same_173 ?_
                        refine ga_iload hR (pc := 174) 5 rfl dL_same_174 ?_
                        refine ga_callV hR (pc := 176) (As := [.int v5_23]) (rest := []) (st0 := [.int v5_23, .ref (a 0)]) (b := (a 0)) 1 (c_X9_isBoundary V a x_keptNumber x_pieces_length x_now_length x_pieces_bounds v5_23 _ h) (ga_same_i fun _ => rfl) gL_same_X9_isBoundary rfl rfl rfl hd_X9_isBoundary ⟨Nat.le_of_ble_eq_true rfl, Nat.le_of_ble_eq_true rfl⟩ rfl rfl (Nat.le_of_ble_eq_true rfl) ⟨Nat.le_of_ble_eq_true rfl, Nat.le_of_ble_eq_true rfl⟩ [0, 6, 11] rfl rfl 0 rfl rfl dL_same_176 ?_
                        rintro _ _ ⟨r_27, ⟨⟩, rfl, rfl, h⟩
                        refine ga_to [(a 0, .inr (9, [.ref (a 1), .ref (a 3), .ref (a 13), .ref (a 17), .ref (a 21), .ref (a 25), .ref (a 29), .ref (a 32), .ref (a 34), .ref (a 46), .ref (a 50), .int x_keptNumber])), (a 1, .inr (7, [.ref (a 2), .int x_text_length, .int x_text_rulesSeen, .int x_text_placesSeen])), (a 3, .inr (4, [.ref (a 4), .ref (a 5), .ref (a 6), .ref (a 7), .ref (a 8), .ref (a 9), .int x_rules_number, .int x_rules_placeNumber])), (a 4, .inl (V.2 0, 4, .inl x_rules_places)), (a 5, .inl (V.2 0, 4, .inl x_rules_firsts)), (a 6, .inl (V.2 0, 4, .inl x_rules_wholes)), (a 13, .inr (6, [.ref (a 14), .ref (a 15), .ref (a 16), .int x_now_length])), (a 14, .inl (V.2 0, 26, .inl x_now_classes)), (a 15, .inl (V.2 0, 4, .inl x_now_kinds)), (a 16, .inl (V.2 0, 30, .inl x_now_line)), (a 25, .inr (0, [.ref (a 26), .ref (a 27), .ref (a 28), .int x_acts_number])), (a 32, .inr (3, [.ref (a 33), .int x_pieces_length, .int x_pieces_bounds])), (a 33, .inl (V.2 0, 31, .inl x_pieces_stands)), (b 0, .inl (V.2 0, n_b, .inl y)), (c 0, .inl (V.2 0, n_c, .inl z)), (q_1, .inl (V.2 0, 64, .inl w_2))] [.int r_27] rfl rfl ?_
                        try dsimp only at h
                        refine ga_aload_n hR (pc := 179) 3 rfl rfl dL_same_179 ?_
                        refine ga_bipush hR (pc := 180) (v := nI 32) (by decide) dL_same_180 ?_
                        refine ga_iload hR (pc := 182) 5 rfl dL_same_182 ?_
                        refine ga_iadd hR (pc := 184) dL_same_184 ?_
                        refine ga_iald hR (pc := 185) 15 rfl h.1 dL_same_185 ?_
                        replace h := h.2
                        refine ga_icmp_ne hR (pc := 186) 212 (by decide) dL_same_186 (fun c186 => ?_) (fun c186 => ?_)
                        · replace h := h.1 c186
                          exact ga_lv hR [] rfl h
                        · replace h := h.2 c186
                          refine ga_aload_n hR (pc := 189) 0 rfl rfl dL_same_189 ?_
                          refine ga_iload hR (pc := 190) 5 rfl dL_same_190 ?_
                          refine ga_callV hR (pc := 192) (As := [.int v5_23]) (rest := []) (st0 := [.int v5_23, .ref (a 0)]) (b := (a 0)) 1 (c_X9_stand V a x_keptNumber x_pieces_bounds x_now_length x_pieces_length x_pieces_stands v5_23 _ h) (ga_same_i fun _ => rfl) gL_same_X9_stand rfl rfl rfl hd_X9_stand ⟨Nat.le_of_ble_eq_true rfl, Nat.le_of_ble_eq_true rfl⟩ rfl rfl (Nat.le_of_ble_eq_true rfl) ⟨Nat.le_of_ble_eq_true rfl, Nat.le_of_ble_eq_true rfl⟩ [0, 6, 11, 12] rfl rfl 0 rfl rfl dL_same_192 ?_
                          rintro _ _ ⟨r_28, ⟨⟩, rfl, rfl, h⟩
                          refine ga_to [(a 0, .inr (9, [.ref (a 1), .ref (a 3), .ref (a 13), .ref (a 17), .ref (a 21), .ref (a 25), .ref (a 29), .ref (a 32), .ref (a 34), .ref (a 46), .ref (a 50), .int x_keptNumber])), (a 1, .inr (7, [.ref (a 2), .int x_text_length, .int x_text_rulesSeen, .int x_text_placesSeen])), (a 3, .inr (4, [.ref (a 4), .ref (a 5), .ref (a 6), .ref (a 7), .ref (a 8), .ref (a 9), .int x_rules_number, .int x_rules_placeNumber])), (a 4, .inl (V.2 0, 4, .inl x_rules_places)), (a 5, .inl (V.2 0, 4, .inl x_rules_firsts)), (a 6, .inl (V.2 0, 4, .inl x_rules_wholes)), (a 13, .inr (6, [.ref (a 14), .ref (a 15), .ref (a 16), .int x_now_length])), (a 14, .inl (V.2 0, 26, .inl x_now_classes)), (a 15, .inl (V.2 0, 4, .inl x_now_kinds)), (a 16, .inl (V.2 0, 30, .inl x_now_line)), (a 25, .inr (0, [.ref (a 26), .ref (a 27), .ref (a 28), .int x_acts_number])), (a 32, .inr (3, [.ref (a 33), .int x_pieces_length, .int x_pieces_bounds])), (a 33, .inl (V.2 0, 31, .inl x_pieces_stands)), (b 0, .inl (V.2 0, n_b, .inl y)), (c 0, .inl (V.2 0, n_c, .inl z)), (q_1, .inl (V.2 0, 64, .inl w_2))] [.int r_28] rfl rfl ?_
                          try dsimp only at h
                          refine ga_iload hR (pc := 195) 5 rfl dL_same_195 ?_
                          have hJ := h (fun (s1_29 : Int32) => G 1 64 [(a 0, .inr (9, [.ref (a 1), .ref (a 3), .ref (a 13), .ref (a 17), .ref (a 21), .ref (a 25), .ref (a 29), .ref (a 32), .ref (a 34), .ref (a 46), .ref (a 50), .int x_keptNumber])), (a 1, .inr (7, [.ref (a 2), .int x_text_length, .int x_text_rulesSeen, .int x_text_placesSeen])), (a 3, .inr (4, [.ref (a 4), .ref (a 5), .ref (a 6), .ref (a 7), .ref (a 8), .ref (a 9), .int x_rules_number, .int x_rules_placeNumber])), (a 4, .inl (V.2 0, 4, .inl x_rules_places)), (a 5, .inl (V.2 0, 4, .inl x_rules_firsts)), (a 6, .inl (V.2 0, 4, .inl x_rules_wholes)), (a 13, .inr (6, [.ref (a 14), .ref (a 15), .ref (a 16), .int x_now_length])), (a 14, .inl (V.2 0, 26, .inl x_now_classes)), (a 15, .inl (V.2 0, 4, .inl x_now_kinds)), (a 16, .inl (V.2 0, 30, .inl x_now_line)), (a 25, .inr (0, [.ref (a 26), .ref (a 27), .ref (a 28), .int x_acts_number])), (a 32, .inr (3, [.ref (a 33), .int x_pieces_length, .int x_pieces_bounds])), (a 33, .inl (V.2 0, 31, .inl x_pieces_stands)), (b 0, .inl (V.2 0, n_b, .inl y)), (c 0, .inl (V.2 0, n_c, .inl z)), (q_1, .inl (V.2 0, 64, .inl w_2))] 209 [(0, .ref (a 0)), (1, .ref (b 0)), (2, .ref (c 0)), (3, .ref (q_1)), (4, .int r_3), (5, .int v5_23)] [.int s1_29, .int r_28])
                          refine ga_bind hJ ?_ ?_
                          · intro s1_29 h
                            show G 1 64 [(a 0, .inr (9, [.ref (a 1), .ref (a 3), .ref (a 13), .ref (a 17), .ref (a 21), .ref (a 25), .ref (a 29), .ref (a 32), .ref (a 34), .ref (a 46), .ref (a 50), .int x_keptNumber])), (a 1, .inr (7, [.ref (a 2), .int x_text_length, .int x_text_rulesSeen, .int x_text_placesSeen])), (a 3, .inr (4, [.ref (a 4), .ref (a 5), .ref (a 6), .ref (a 7), .ref (a 8), .ref (a 9), .int x_rules_number, .int x_rules_placeNumber])), (a 4, .inl (V.2 0, 4, .inl x_rules_places)), (a 5, .inl (V.2 0, 4, .inl x_rules_firsts)), (a 6, .inl (V.2 0, 4, .inl x_rules_wholes)), (a 13, .inr (6, [.ref (a 14), .ref (a 15), .ref (a 16), .int x_now_length])), (a 14, .inl (V.2 0, 26, .inl x_now_classes)), (a 15, .inl (V.2 0, 4, .inl x_now_kinds)), (a 16, .inl (V.2 0, 30, .inl x_now_line)), (a 25, .inr (0, [.ref (a 26), .ref (a 27), .ref (a 28), .int x_acts_number])), (a 32, .inr (3, [.ref (a 33), .int x_pieces_length, .int x_pieces_bounds])), (a 33, .inl (V.2 0, 31, .inl x_pieces_stands)), (b 0, .inl (V.2 0, n_b, .inl y)), (c 0, .inl (V.2 0, n_c, .inl z)), (q_1, .inl (V.2 0, 64, .inl w_2))] 209 [(0, .ref (a 0)), (1, .ref (b 0)), (2, .ref (c 0)), (3, .ref (q_1)), (4, .int r_3), (5, .int v5_23)] [.int s1_29, .int r_28]
                            refine ga_icmp_eq hR (pc := 209) 214 (by decide) dL_same_209 (fun c209 => ?_) (fun c209 => ?_)
                            · replace h := h.1 c209
                              obtain ⟨v5_31, ev5_31⟩ : ∃ v : Int32, v = v5_23 + (nI 1) := ⟨_, rfl⟩
                              replace h := h v5_31 ev5_31
                              refine ga_iinc hR (pc := 214) (lv' := [(5, .int v5_31), (0, .ref (a 0)), (1, .ref (b 0)), (2, .ref (c 0)), (3, .ref (q_1)), (4, .int r_3)]) 5 (by decide) rfl ev5_31 (by decide) rfl dL_same_214 ?_
                              refine ga_goto hR (pc := 217) 134 (by decide) dL_same_217 ?_
                              exact ga_lv hR [1, 2, 3, 4, 5, 0] rfl (ih _ h)
                            · replace h := h.2 c209
                              exact ga_lv hR [] rfl h
                          · intro h
                            refine ga_if_ne hR (pc := 197) 205 (by decide) dL_same_197 (fun c197 => ?_) (fun c197 => ?_)
                            · replace h := h.1 c197
                              refine ga_aload_n hR (pc := 205) 3 rfl rfl dL_same_205 ?_
                              refine ga_iload hR (pc := 206) 5 rfl dL_same_206 ?_
                              refine ga_iald hR (pc := 208) 15 rfl h.1 dL_same_208 ?_
                              replace h := h.2
                              exact ga_lv hR [0, 1, 2, 3, 4, 5] rfl h
                            · replace h := h.2 c197
                              refine ga_bipush hR (pc := 200) (v := -4) (by decide) dL_same_200 ?_
                              refine ga_goto hR (pc := 202) 209 (by decide) dL_same_202 ?_
                              exact ga_lv hR [0, 1, 2, 3, 4, 5] rfl h
                    · intro h
                      refine ga_icmp_ge hR (pc := 155) 168 (by decide) dL_same_155 (fun c155 => ?_) (fun c155 => ?_)
                      · replace h := h.1 c155
                        refine ga_bipush hR (pc := 168) (v := -4) (by decide) dL_same_168 ?_
                        exact ga_lv hR [0, 1, 2, 3, 4, 5] rfl h
                      · replace h := h.2 c155
                        refine ga_aload_n hR (pc := 158) 2 rfl rfl dL_same_158 ?_
                        refine ga_bipush hR (pc := 159) (v := nI 31) (by decide) dL_same_159 ?_
                        refine ga_iload hR (pc := 161) 5 rfl dL_same_161 ?_
                        refine ga_iadd hR (pc := 163) dL_same_163 ?_
                        refine ga_iald hR (pc := 164) 14 rfl h.1 dL_same_164 ?_
                        replace h := h.2
                        refine ga_goto hR (pc := 165) 170 (by decide) dL_same_165 ?_
                        exact ga_lv hR [0, 1, 2, 3, 4, 5] rfl h
              exact ga_lv hR [1, 2, 3, 4, 5, 0] rfl (L134 n _ h)
        · intro h
          obtain ⟨n, h⟩ := h
          have L48 : ∀ (n : Nat) (v5_37 : Int32), lp_L_same_48 n_b n_c x_rules_number x_rules_places x_rules_firsts x_rules_wholes x_now_kinds y z (G 1 64 [(a 0, .inr (9, [.ref (a 1), .ref (a 3), .ref (a 13), .ref (a 17), .ref (a 21), .ref (a 25), .ref (a 29), .ref (a 32), .ref (a 34), .ref (a 46), .ref (a 50), .int x_keptNumber])), (a 1, .inr (7, [.ref (a 2), .int x_text_length, .int x_text_rulesSeen, .int x_text_placesSeen])), (a 3, .inr (4, [.ref (a 4), .ref (a 5), .ref (a 6), .ref (a 7), .ref (a 8), .ref (a 9), .int x_rules_number, .int x_rules_placeNumber])), (a 4, .inl (V.2 0, 4, .inl x_rules_places)), (a 5, .inl (V.2 0, 4, .inl x_rules_firsts)), (a 6, .inl (V.2 0, 4, .inl x_rules_wholes)), (a 13, .inr (6, [.ref (a 14), .ref (a 15), .ref (a 16), .int x_now_length])), (a 14, .inl (V.2 0, 26, .inl x_now_classes)), (a 15, .inl (V.2 0, 4, .inl x_now_kinds)), (a 16, .inl (V.2 0, 30, .inl x_now_line)), (a 25, .inr (0, [.ref (a 26), .ref (a 27), .ref (a 28), .int x_acts_number])), (a 32, .inr (3, [.ref (a 33), .int x_pieces_length, .int x_pieces_bounds])), (a 33, .inl (V.2 0, 31, .inl x_pieces_stands)), (b 0, .inl (V.2 0, n_b, .inl y)), (c 0, .inl (V.2 0, n_c, .inl z)), (q_1, .inl (V.2 0, 64, .inl w_2))] 123 [] []) (G 1 64 [(a 0, .inr (9, [.ref (a 1), .ref (a 3), .ref (a 13), .ref (a 17), .ref (a 21), .ref (a 25), .ref (a 29), .ref (a 32), .ref (a 34), .ref (a 46), .ref (a 50), .int x_keptNumber])), (a 1, .inr (7, [.ref (a 2), .int x_text_length, .int x_text_rulesSeen, .int x_text_placesSeen])), (a 3, .inr (4, [.ref (a 4), .ref (a 5), .ref (a 6), .ref (a 7), .ref (a 8), .ref (a 9), .int x_rules_number, .int x_rules_placeNumber])), (a 4, .inl (V.2 0, 4, .inl x_rules_places)), (a 5, .inl (V.2 0, 4, .inl x_rules_firsts)), (a 6, .inl (V.2 0, 4, .inl x_rules_wholes)), (a 13, .inr (6, [.ref (a 14), .ref (a 15), .ref (a 16), .int x_now_length])), (a 14, .inl (V.2 0, 26, .inl x_now_classes)), (a 15, .inl (V.2 0, 4, .inl x_now_kinds)), (a 16, .inl (V.2 0, 30, .inl x_now_line)), (a 25, .inr (0, [.ref (a 26), .ref (a 27), .ref (a 28), .int x_acts_number])), (a 32, .inr (3, [.ref (a 33), .int x_pieces_length, .int x_pieces_bounds])), (a 33, .inl (V.2 0, 31, .inl x_pieces_stands)), (b 0, .inl (V.2 0, n_b, .inl y)), (c 0, .inl (V.2 0, n_c, .inl z)), (q_1, .inl (V.2 0, 64, .inl w_2))] 131 [(0, .ref (a 0)), (1, .ref (b 0)), (2, .ref (c 0)), (3, .ref (q_1)), (4, .int r_3)] []) n v5_37 → G 1 64 [(a 0, .inr (9, [.ref (a 1), .ref (a 3), .ref (a 13), .ref (a 17), .ref (a 21), .ref (a 25), .ref (a 29), .ref (a 32), .ref (a 34), .ref (a 46), .ref (a 50), .int x_keptNumber])), (a 1, .inr (7, [.ref (a 2), .int x_text_length, .int x_text_rulesSeen, .int x_text_placesSeen])), (a 3, .inr (4, [.ref (a 4), .ref (a 5), .ref (a 6), .ref (a 7), .ref (a 8), .ref (a 9), .int x_rules_number, .int x_rules_placeNumber])), (a 4, .inl (V.2 0, 4, .inl x_rules_places)), (a 5, .inl (V.2 0, 4, .inl x_rules_firsts)), (a 6, .inl (V.2 0, 4, .inl x_rules_wholes)), (a 13, .inr (6, [.ref (a 14), .ref (a 15), .ref (a 16), .int x_now_length])), (a 14, .inl (V.2 0, 26, .inl x_now_classes)), (a 15, .inl (V.2 0, 4, .inl x_now_kinds)), (a 16, .inl (V.2 0, 30, .inl x_now_line)), (a 25, .inr (0, [.ref (a 26), .ref (a 27), .ref (a 28), .int x_acts_number])), (a 32, .inr (3, [.ref (a 33), .int x_pieces_length, .int x_pieces_bounds])), (a 33, .inl (V.2 0, 31, .inl x_pieces_stands)), (b 0, .inl (V.2 0, n_b, .inl y)), (c 0, .inl (V.2 0, n_c, .inl z)), (q_1, .inl (V.2 0, 64, .inl w_2))] 48 [(0, .ref (a 0)), (1, .ref (b 0)), (2, .ref (c 0)), (3, .ref (q_1)), (4, .int r_3), (5, .int v5_37)] [] := by
            intro n
            induction n with
            | zero => exact fun _ h => False.elim h
            | succ n ih =>
              intro v5_37 h
              rw [lp_L_same_48] at h
              refine ga_iload hR (pc := 48) 5 rfl dL_same_48 ?_
              refine ga_aload_n hR (pc := 50) 1 rfl rfl dL_same_50 ?_
              refine ga_iconst hR (pc := 51) (v := nI 0) (by decide) dL_same_51 ?_
              refine ga_iald hR (pc := 52) 13 rfl h.1 dL_same_52 ?_
              replace h := h.2
              refine ga_icmp_ge hR (pc := 53) 131 (by decide) dL_same_53 (fun c53 => ?_) (fun c53 => ?_)
              · replace h := h.1 c53
                exact ga_lv hR [0, 1, 2, 3, 4] rfl h
              · replace h := h.2 c53
                refine ga_aload_n hR (pc := 56) 0 rfl rfl dL_same_56 ?_
                refine ga_iload hR (pc := 57) 5 rfl dL_same_57 ?_
                refine ga_iconst hR (pc := 59) (v := nI 0) (by decide) dL_same_59 ?_
                refine ga_callV hR (pc := 60) (As := [.int v5_37, .int (nI 0)]) (rest := []) (st0 := [.int (nI 0), .int v5_37, .ref (a 0)]) (b := (a 0)) 2 (c_X9_rule V a x_keptNumber x_rules_placeNumber x_now_length x_rules_number x_rules_places x_rules_firsts x_rules_wholes x_now_kinds v5_37 (nI 0) _ h) (ga_same_i fun _ => rfl) gL_same_X9_rule rfl rfl rfl hd_X9_rule ⟨Nat.le_of_ble_eq_true rfl, Nat.le_of_ble_eq_true rfl⟩ rfl rfl (Nat.le_of_ble_eq_true rfl) ⟨Nat.le_of_ble_eq_true rfl, Nat.le_of_ble_eq_true rfl⟩ [0, 2, 3, 4, 5, 6, 8] rfl rfl 0 rfl rfl dL_same_60 ?_
                rintro _ _ ⟨r_38, ⟨⟩, rfl, rfl, h⟩
                refine ga_to [(a 0, .inr (9, [.ref (a 1), .ref (a 3), .ref (a 13), .ref (a 17), .ref (a 21), .ref (a 25), .ref (a 29), .ref (a 32), .ref (a 34), .ref (a 46), .ref (a 50), .int x_keptNumber])), (a 1, .inr (7, [.ref (a 2), .int x_text_length, .int x_text_rulesSeen, .int x_text_placesSeen])), (a 3, .inr (4, [.ref (a 4), .ref (a 5), .ref (a 6), .ref (a 7), .ref (a 8), .ref (a 9), .int x_rules_number, .int x_rules_placeNumber])), (a 4, .inl (V.2 0, 4, .inl x_rules_places)), (a 5, .inl (V.2 0, 4, .inl x_rules_firsts)), (a 6, .inl (V.2 0, 4, .inl x_rules_wholes)), (a 13, .inr (6, [.ref (a 14), .ref (a 15), .ref (a 16), .int x_now_length])), (a 14, .inl (V.2 0, 26, .inl x_now_classes)), (a 15, .inl (V.2 0, 4, .inl x_now_kinds)), (a 16, .inl (V.2 0, 30, .inl x_now_line)), (a 25, .inr (0, [.ref (a 26), .ref (a 27), .ref (a 28), .int x_acts_number])), (a 32, .inr (3, [.ref (a 33), .int x_pieces_length, .int x_pieces_bounds])), (a 33, .inl (V.2 0, 31, .inl x_pieces_stands)), (b 0, .inl (V.2 0, n_b, .inl y)), (c 0, .inl (V.2 0, n_c, .inl z)), (q_1, .inl (V.2 0, 64, .inl w_2))] [.int r_38] rfl rfl ?_
                try dsimp only at h
                refine ga_aload_n hR (pc := 63) 2 rfl rfl dL_same_63 ?_
                refine ga_bipush hR (pc := 64) (v := nI 26) (by decide) dL_same_64 ?_
                refine ga_iload hR (pc := 66) 5 rfl dL_same_66 ?_
                refine ga_iadd hR (pc := 68) dL_same_68 ?_
                refine ga_iald hR (pc := 69) 14 rfl h.1 dL_same_69 ?_
                replace h := h.2
                refine ga_icmp_ne hR (pc := 70) 123 (by decide) dL_same_70 (fun c70 => ?_) (fun c70 => ?_)
                · replace h := h.1 c70
                  exact ga_lv hR [] rfl h
                · replace h := h.2 c70
                  refine ga_aload_n hR (pc := 73) 0 rfl rfl dL_same_73 ?_
                  refine ga_iload hR (pc := 74) 5 rfl dL_same_74 ?_
                  refine ga_iconst hR (pc := 76) (v := nI 1) (by decide) dL_same_76 ?_
                  refine ga_callV hR (pc := 77) (As := [.int v5_37, .int (nI 1)]) (rest := []) (st0 := [.int (nI 1), .int v5_37, .ref (a 0)]) (b := (a 0)) 2 (c_X9_rule V a x_keptNumber x_rules_placeNumber x_now_length x_rules_number x_rules_places x_rules_firsts x_rules_wholes x_now_kinds v5_37 (nI 1) _ h) (ga_same_i fun _ => rfl) gL_same_X9_rule rfl rfl rfl hd_X9_rule ⟨Nat.le_of_ble_eq_true rfl, Nat.le_of_ble_eq_true rfl⟩ rfl rfl (Nat.le_of_ble_eq_true rfl) ⟨Nat.le_of_ble_eq_true rfl, Nat.le_of_ble_eq_true rfl⟩ [0, 2, 3, 4, 5, 6, 8] rfl rfl 0 rfl rfl dL_same_77 ?_
                  rintro _ _ ⟨r_39, ⟨⟩, rfl, rfl, h⟩
                  refine ga_to [(a 0, .inr (9, [.ref (a 1), .ref (a 3), .ref (a 13), .ref (a 17), .ref (a 21), .ref (a 25), .ref (a 29), .ref (a 32), .ref (a 34), .ref (a 46), .ref (a 50), .int x_keptNumber])), (a 1, .inr (7, [.ref (a 2), .int x_text_length, .int x_text_rulesSeen, .int x_text_placesSeen])), (a 3, .inr (4, [.ref (a 4), .ref (a 5), .ref (a 6), .ref (a 7), .ref (a 8), .ref (a 9), .int x_rules_number, .int x_rules_placeNumber])), (a 4, .inl (V.2 0, 4, .inl x_rules_places)), (a 5, .inl (V.2 0, 4, .inl x_rules_firsts)), (a 6, .inl (V.2 0, 4, .inl x_rules_wholes)), (a 13, .inr (6, [.ref (a 14), .ref (a 15), .ref (a 16), .int x_now_length])), (a 14, .inl (V.2 0, 26, .inl x_now_classes)), (a 15, .inl (V.2 0, 4, .inl x_now_kinds)), (a 16, .inl (V.2 0, 30, .inl x_now_line)), (a 25, .inr (0, [.ref (a 26), .ref (a 27), .ref (a 28), .int x_acts_number])), (a 32, .inr (3, [.ref (a 33), .int x_pieces_length, .int x_pieces_bounds])), (a 33, .inl (V.2 0, 31, .inl x_pieces_stands)), (b 0, .inl (V.2 0, n_b, .inl y)), (c 0, .inl (V.2 0, n_c, .inl z)), (q_1, .inl (V.2 0, 64, .inl w_2))] [.int r_39] rfl rfl ?_
                  try dsimp only at h
                  refine ga_aload_n hR (pc := 80) 1 rfl rfl dL_same_80 ?_
                  refine ga_bipush hR (pc := 81) (v := nI 10) (by decide) dL_same_81 ?_
                  refine ga_iload hR (pc := 83) 5 rfl dL_same_83 ?_
                  refine ga_iadd hR (pc := 85) dL_same_85 ?_
                  refine ga_iald hR (pc := 86) 13 rfl h.1 dL_same_86 ?_
                  replace h := h.2
                  refine ga_icmp_ne hR (pc := 87) 123 (by decide) dL_same_87 (fun c87 => ?_) (fun c87 => ?_)
                  · replace h := h.1 c87
                    exact ga_lv hR [] rfl h
                  · replace h := h.2 c87
                    refine ga_aload_n hR (pc := 90) 0 rfl rfl dL_same_90 ?_
                    refine ga_iload hR (pc := 91) 5 rfl dL_same_91 ?_
                    refine ga_iconst hR (pc := 93) (v := nI 2) (by decide) dL_same_93 ?_
                    refine ga_callV hR (pc := 94) (As := [.int v5_37, .int (nI 2)]) (rest := []) (st0 := [.int (nI 2), .int v5_37, .ref (a 0)]) (b := (a 0)) 2 (c_X9_rule V a x_keptNumber x_rules_placeNumber x_now_length x_rules_number x_rules_places x_rules_firsts x_rules_wholes x_now_kinds v5_37 (nI 2) _ h) (ga_same_i fun _ => rfl) gL_same_X9_rule rfl rfl rfl hd_X9_rule ⟨Nat.le_of_ble_eq_true rfl, Nat.le_of_ble_eq_true rfl⟩ rfl rfl (Nat.le_of_ble_eq_true rfl) ⟨Nat.le_of_ble_eq_true rfl, Nat.le_of_ble_eq_true rfl⟩ [0, 2, 3, 4, 5, 6, 8] rfl rfl 0 rfl rfl dL_same_94 ?_
                    rintro _ _ ⟨r_40, ⟨⟩, rfl, rfl, h⟩
                    refine ga_to [(a 0, .inr (9, [.ref (a 1), .ref (a 3), .ref (a 13), .ref (a 17), .ref (a 21), .ref (a 25), .ref (a 29), .ref (a 32), .ref (a 34), .ref (a 46), .ref (a 50), .int x_keptNumber])), (a 1, .inr (7, [.ref (a 2), .int x_text_length, .int x_text_rulesSeen, .int x_text_placesSeen])), (a 3, .inr (4, [.ref (a 4), .ref (a 5), .ref (a 6), .ref (a 7), .ref (a 8), .ref (a 9), .int x_rules_number, .int x_rules_placeNumber])), (a 4, .inl (V.2 0, 4, .inl x_rules_places)), (a 5, .inl (V.2 0, 4, .inl x_rules_firsts)), (a 6, .inl (V.2 0, 4, .inl x_rules_wholes)), (a 13, .inr (6, [.ref (a 14), .ref (a 15), .ref (a 16), .int x_now_length])), (a 14, .inl (V.2 0, 26, .inl x_now_classes)), (a 15, .inl (V.2 0, 4, .inl x_now_kinds)), (a 16, .inl (V.2 0, 30, .inl x_now_line)), (a 25, .inr (0, [.ref (a 26), .ref (a 27), .ref (a 28), .int x_acts_number])), (a 32, .inr (3, [.ref (a 33), .int x_pieces_length, .int x_pieces_bounds])), (a 33, .inl (V.2 0, 31, .inl x_pieces_stands)), (b 0, .inl (V.2 0, n_b, .inl y)), (c 0, .inl (V.2 0, n_c, .inl z)), (q_1, .inl (V.2 0, 64, .inl w_2))] [.int r_40] rfl rfl ?_
                    try dsimp only at h
                    refine ga_aload_n hR (pc := 97) 1 rfl rfl dL_same_97 ?_
                    refine ga_iconst hR (pc := 98) (v := nI 2) (by decide) dL_same_98 ?_
                    refine ga_iload hR (pc := 99) 5 rfl dL_same_99 ?_
                    refine ga_iadd hR (pc := 101) dL_same_101 ?_
                    refine ga_iald hR (pc := 102) 13 rfl h.1 dL_same_102 ?_
                    replace h := h.2
                    refine ga_icmp_ne hR (pc := 103) 123 (by decide) dL_same_103 (fun c103 => ?_) (fun c103 => ?_)
                    · replace h := h.1 c103
                      exact ga_lv hR [] rfl h
                    · replace h := h.2 c103
                      refine ga_aload_n hR (pc := 106) 0 rfl rfl dL_same_106 ?_
                      refine ga_iload hR (pc := 107) 5 rfl dL_same_107 ?_
                      refine ga_iconst hR (pc := 109) (v := nI 3) (by decide) dL_same_109 ?_
                      refine ga_callV hR (pc := 110) (As := [.int v5_37, .int (nI 3)]) (rest := []) (st0 := [.int (nI 3), .int v5_37, .ref (a 0)]) (b := (a 0)) 2 (c_X9_rule V a x_keptNumber x_rules_placeNumber x_now_length x_rules_number x_rules_places x_rules_firsts x_rules_wholes x_now_kinds v5_37 (nI 3) _ h) (ga_same_i fun _ => rfl) gL_same_X9_rule rfl rfl rfl hd_X9_rule ⟨Nat.le_of_ble_eq_true rfl, Nat.le_of_ble_eq_true rfl⟩ rfl rfl (Nat.le_of_ble_eq_true rfl) ⟨Nat.le_of_ble_eq_true rfl, Nat.le_of_ble_eq_true rfl⟩ [0, 2, 3, 4, 5, 6, 8] rfl rfl 0 rfl rfl dL_same_110 ?_
                      rintro _ _ ⟨r_41, ⟨⟩, rfl, rfl, h⟩
                      refine ga_to [(a 0, .inr (9, [.ref (a 1), .ref (a 3), .ref (a 13), .ref (a 17), .ref (a 21), .ref (a 25), .ref (a 29), .ref (a 32), .ref (a 34), .ref (a 46), .ref (a 50), .int x_keptNumber])), (a 1, .inr (7, [.ref (a 2), .int x_text_length, .int x_text_rulesSeen, .int x_text_placesSeen])), (a 3, .inr (4, [.ref (a 4), .ref (a 5), .ref (a 6), .ref (a 7), .ref (a 8), .ref (a 9), .int x_rules_number, .int x_rules_placeNumber])), (a 4, .inl (V.2 0, 4, .inl x_rules_places)), (a 5, .inl (V.2 0, 4, .inl x_rules_firsts)), (a 6, .inl (V.2 0, 4, .inl x_rules_wholes)), (a 13, .inr (6, [.ref (a 14), .ref (a 15), .ref (a 16), .int x_now_length])), (a 14, .inl (V.2 0, 26, .inl x_now_classes)), (a 15, .inl (V.2 0, 4, .inl x_now_kinds)), (a 16, .inl (V.2 0, 30, .inl x_now_line)), (a 25, .inr (0, [.ref (a 26), .ref (a 27), .ref (a 28), .int x_acts_number])), (a 32, .inr (3, [.ref (a 33), .int x_pieces_length, .int x_pieces_bounds])), (a 33, .inl (V.2 0, 31, .inl x_pieces_stands)), (b 0, .inl (V.2 0, n_b, .inl y)), (c 0, .inl (V.2 0, n_c, .inl z)), (q_1, .inl (V.2 0, 64, .inl w_2))] [.int r_41] rfl rfl ?_
                      try dsimp only at h
                      refine ga_aload_n hR (pc := 113) 1 rfl rfl dL_same_113 ?_
                      refine ga_bipush hR (pc := 114) (v := nI 6) (by decide) dL_same_114 ?_
                      refine ga_iload hR (pc := 116) 5 rfl dL_same_116 ?_
                      refine ga_iadd hR (pc := 118) dL_same_118 ?_
                      refine ga_iald hR (pc := 119) 13 rfl h.1 dL_same_119 ?_
                      replace h := h.2
                      refine ga_icmp_eq hR (pc := 120) 125 (by decide) dL_same_120 (fun c120 => ?_) (fun c120 => ?_)
                      · replace h := h.1 c120
                        obtain ⟨v5_42, ev5_42⟩ : ∃ v : Int32, v = v5_37 + (nI 1) := ⟨_, rfl⟩
                        replace h := h v5_42 ev5_42
                        refine ga_iinc hR (pc := 125) (lv' := [(5, .int v5_42), (0, .ref (a 0)), (1, .ref (b 0)), (2, .ref (c 0)), (3, .ref (q_1)), (4, .int r_3)]) 5 (by decide) rfl ev5_42 (by decide) rfl dL_same_125 ?_
                        refine ga_goto hR (pc := 128) 48 (by decide) dL_same_128 ?_
                        exact ga_lv hR [1, 2, 3, 4, 5, 0] rfl (ih _ h)
                      · replace h := h.2 c120
                        exact ga_lv hR [] rfl h
          exact ga_lv hR [1, 2, 3, 4, 5, 0] rfl (L48 n _ h)
    · intro h
      obtain ⟨n, h⟩ := h
      have L17 : ∀ (n : Nat) (v5_45 : Int32), lp_L_same_17 n_c x_now_classes z (G 1 64 [(a 0, .inr (9, [.ref (a 1), .ref (a 3), .ref (a 13), .ref (a 17), .ref (a 21), .ref (a 25), .ref (a 29), .ref (a 32), .ref (a 34), .ref (a 46), .ref (a 50), .int x_keptNumber])), (a 1, .inr (7, [.ref (a 2), .int x_text_length, .int x_text_rulesSeen, .int x_text_placesSeen])), (a 3, .inr (4, [.ref (a 4), .ref (a 5), .ref (a 6), .ref (a 7), .ref (a 8), .ref (a 9), .int x_rules_number, .int x_rules_placeNumber])), (a 4, .inl (V.2 0, 4, .inl x_rules_places)), (a 5, .inl (V.2 0, 4, .inl x_rules_firsts)), (a 6, .inl (V.2 0, 4, .inl x_rules_wholes)), (a 13, .inr (6, [.ref (a 14), .ref (a 15), .ref (a 16), .int x_now_length])), (a 14, .inl (V.2 0, 26, .inl x_now_classes)), (a 15, .inl (V.2 0, 4, .inl x_now_kinds)), (a 16, .inl (V.2 0, 30, .inl x_now_line)), (a 25, .inr (0, [.ref (a 26), .ref (a 27), .ref (a 28), .int x_acts_number])), (a 32, .inr (3, [.ref (a 33), .int x_pieces_length, .int x_pieces_bounds])), (a 33, .inl (V.2 0, 31, .inl x_pieces_stands)), (b 0, .inl (V.2 0, n_b, .inl y)), (c 0, .inl (V.2 0, n_c, .inl z)), (q_1, .inl (V.2 0, 64, .inl w_2))] 37 [] []) (G 1 64 [(a 0, .inr (9, [.ref (a 1), .ref (a 3), .ref (a 13), .ref (a 17), .ref (a 21), .ref (a 25), .ref (a 29), .ref (a 32), .ref (a 34), .ref (a 46), .ref (a 50), .int x_keptNumber])), (a 1, .inr (7, [.ref (a 2), .int x_text_length, .int x_text_rulesSeen, .int x_text_placesSeen])), (a 3, .inr (4, [.ref (a 4), .ref (a 5), .ref (a 6), .ref (a 7), .ref (a 8), .ref (a 9), .int x_rules_number, .int x_rules_placeNumber])), (a 4, .inl (V.2 0, 4, .inl x_rules_places)), (a 5, .inl (V.2 0, 4, .inl x_rules_firsts)), (a 6, .inl (V.2 0, 4, .inl x_rules_wholes)), (a 13, .inr (6, [.ref (a 14), .ref (a 15), .ref (a 16), .int x_now_length])), (a 14, .inl (V.2 0, 26, .inl x_now_classes)), (a 15, .inl (V.2 0, 4, .inl x_now_kinds)), (a 16, .inl (V.2 0, 30, .inl x_now_line)), (a 25, .inr (0, [.ref (a 26), .ref (a 27), .ref (a 28), .int x_acts_number])), (a 32, .inr (3, [.ref (a 33), .int x_pieces_length, .int x_pieces_bounds])), (a 33, .inl (V.2 0, 31, .inl x_pieces_stands)), (b 0, .inl (V.2 0, n_b, .inl y)), (c 0, .inl (V.2 0, n_c, .inl z)), (q_1, .inl (V.2 0, 64, .inl w_2))] 45 [(0, .ref (a 0)), (1, .ref (b 0)), (2, .ref (c 0)), (3, .ref (q_1)), (4, .int r_3)] []) n v5_45 → G 1 64 [(a 0, .inr (9, [.ref (a 1), .ref (a 3), .ref (a 13), .ref (a 17), .ref (a 21), .ref (a 25), .ref (a 29), .ref (a 32), .ref (a 34), .ref (a 46), .ref (a 50), .int x_keptNumber])), (a 1, .inr (7, [.ref (a 2), .int x_text_length, .int x_text_rulesSeen, .int x_text_placesSeen])), (a 3, .inr (4, [.ref (a 4), .ref (a 5), .ref (a 6), .ref (a 7), .ref (a 8), .ref (a 9), .int x_rules_number, .int x_rules_placeNumber])), (a 4, .inl (V.2 0, 4, .inl x_rules_places)), (a 5, .inl (V.2 0, 4, .inl x_rules_firsts)), (a 6, .inl (V.2 0, 4, .inl x_rules_wholes)), (a 13, .inr (6, [.ref (a 14), .ref (a 15), .ref (a 16), .int x_now_length])), (a 14, .inl (V.2 0, 26, .inl x_now_classes)), (a 15, .inl (V.2 0, 4, .inl x_now_kinds)), (a 16, .inl (V.2 0, 30, .inl x_now_line)), (a 25, .inr (0, [.ref (a 26), .ref (a 27), .ref (a 28), .int x_acts_number])), (a 32, .inr (3, [.ref (a 33), .int x_pieces_length, .int x_pieces_bounds])), (a 33, .inl (V.2 0, 31, .inl x_pieces_stands)), (b 0, .inl (V.2 0, n_b, .inl y)), (c 0, .inl (V.2 0, n_c, .inl z)), (q_1, .inl (V.2 0, 64, .inl w_2))] 17 [(0, .ref (a 0)), (1, .ref (b 0)), (2, .ref (c 0)), (3, .ref (q_1)), (4, .int r_3), (5, .int v5_45)] [] := by
        intro n
        induction n with
        | zero => exact fun _ h => False.elim h
        | succ n ih =>
          intro v5_45 h
          rw [lp_L_same_17] at h
          refine ga_iload hR (pc := 17) 5 rfl dL_same_17 ?_
          refine ga_bipush hR (pc := 19) (v := nI 26) (by decide) dL_same_19 ?_
          refine ga_icmp_ge hR (pc := 21) 45 (by decide) dL_same_21 (fun c21 => ?_) (fun c21 => ?_)
          · replace h := h.1 c21
            exact ga_lv hR [0, 1, 2, 3, 4] rfl h
          · replace h := h.2 c21
            refine ga_aload_n hR (pc := 24) 0 rfl rfl dL_same_24 ?_
            refine ga_iload hR (pc := 25) 5 rfl dL_same_25 ?_
            refine ga_callV hR (pc := 27) (As := [.int v5_45]) (rest := []) (st0 := [.int v5_45, .ref (a 0)]) (b := (a 0)) 1 (c_X9_kind V a x_keptNumber x_now_length x_now_classes v5_45 _ h) (ga_same_i fun _ => rfl) gL_same_X9_kind rfl rfl rfl hd_X9_kind ⟨Nat.le_of_ble_eq_true rfl, Nat.le_of_ble_eq_true rfl⟩ rfl rfl (Nat.le_of_ble_eq_true rfl) ⟨Nat.le_of_ble_eq_true rfl, Nat.le_of_ble_eq_true rfl⟩ [0, 6, 7] rfl rfl 0 rfl rfl dL_same_27 ?_
            rintro _ _ ⟨r_46, ⟨⟩, rfl, rfl, h⟩
            refine ga_to [(a 0, .inr (9, [.ref (a 1), .ref (a 3), .ref (a 13), .ref (a 17), .ref (a 21), .ref (a 25), .ref (a 29), .ref (a 32), .ref (a 34), .ref (a 46), .ref (a 50), .int x_keptNumber])), (a 1, .inr (7, [.ref (a 2), .int x_text_length, .int x_text_rulesSeen, .int x_text_placesSeen])), (a 3, .inr (4, [.ref (a 4), .ref (a 5), .ref (a 6), .ref (a 7), .ref (a 8), .ref (a 9), .int x_rules_number, .int x_rules_placeNumber])), (a 4, .inl (V.2 0, 4, .inl x_rules_places)), (a 5, .inl (V.2 0, 4, .inl x_rules_firsts)), (a 6, .inl (V.2 0, 4, .inl x_rules_wholes)), (a 13, .inr (6, [.ref (a 14), .ref (a 15), .ref (a 16), .int x_now_length])), (a 14, .inl (V.2 0, 26, .inl x_now_classes)), (a 15, .inl (V.2 0, 4, .inl x_now_kinds)), (a 16, .inl (V.2 0, 30, .inl x_now_line)), (a 25, .inr (0, [.ref (a 26), .ref (a 27), .ref (a 28), .int x_acts_number])), (a 32, .inr (3, [.ref (a 33), .int x_pieces_length, .int x_pieces_bounds])), (a 33, .inl (V.2 0, 31, .inl x_pieces_stands)), (b 0, .inl (V.2 0, n_b, .inl y)), (c 0, .inl (V.2 0, n_c, .inl z)), (q_1, .inl (V.2 0, 64, .inl w_2))] [.int r_46] rfl rfl ?_
            try dsimp only at h
            refine ga_aload_n hR (pc := 30) 2 rfl rfl dL_same_30 ?_
            refine ga_iload hR (pc := 31) 5 rfl dL_same_31 ?_
            refine ga_iald hR (pc := 33) 14 rfl h.1 dL_same_33 ?_
            replace h := h.2
            refine ga_icmp_eq hR (pc := 34) 39 (by decide) dL_same_34 (fun c34 => ?_) (fun c34 => ?_)
            · replace h := h.1 c34
              obtain ⟨v5_47, ev5_47⟩ : ∃ v : Int32, v = v5_45 + (nI 1) := ⟨_, rfl⟩
              replace h := h v5_47 ev5_47
              refine ga_iinc hR (pc := 39) (lv' := [(5, .int v5_47), (0, .ref (a 0)), (1, .ref (b 0)), (2, .ref (c 0)), (3, .ref (q_1)), (4, .int r_3)]) 5 (by decide) rfl ev5_47 (by decide) rfl dL_same_39 ?_
              refine ga_goto hR (pc := 42) 17 (by decide) dL_same_42 ?_
              exact ga_lv hR [1, 2, 3, 4, 5, 0] rfl (ih _ h)
            · replace h := h.2 c34
              exact ga_lv hR [] rfl h
      exact ga_lv hR [3, 4, 5, 2, 1, 0] rfl (L17 n _ h)
