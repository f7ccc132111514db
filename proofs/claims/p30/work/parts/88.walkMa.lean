def rm_L_cell : Room := { frames := 0, cells := 0, slots := 0, locals := 0 }
theorem hd_L_cellS : yL_cell.cls ≠ "java/lang/invoke/MethodHandle" ∧ yL_cell.cls ≠ "java/lang/invoke/VarHandle" ∧ (parseMethodDescriptor yL_cell.desc).map (fun d => d.parameters.length) = some 2 := by decide +kernel
set_option maxHeartbeats 4000000 in
set_option maxRecDepth 100000 in
theorem c_L_cell (V : ga_V) (b0 : Nat) (L : Nat) (xs : Nat → Int32) (p1 : Int32) (K : Int32 → Prop) (h : wp_L_cell L xs p1 K) : gs_C V b0 L xs yL_cell wsL_cell rm_L_cell [.ref b0, .int p1] [] 0 0 (ga_Fi (fun (u : Unit) => []) (fun r u => K r)) := by
  refine gs_met (cc := cL_cell) (maxL := 2) (rt := (some .int)) (by decide) rfl [(0, .ref b0), (1, .int p1)] rfl (Nat.le_of_ble_eq_true rfl) ?_
  intro G hSc hE
  have hR := hSc.r
  unfold wp_L_cell at h
  refine ga_iload_n hR (pc := 0) 1 rfl rfl dL_cell_0 ?_
  refine ga_aload_n hR (pc := 1) 0 rfl rfl dL_cell_1 ?_
  refine gs_slen hSc (pc := 2) dL_cell_2 ?_
  refine ga_icmp_ge hR (pc := 3) 12 (by decide) dL_cell_3 (fun c3 => ?_) (fun c3 => ?_)
  · replace h := h.1 c3
    refine ga_ldci hR (pc := 12) (v := nI 747796405) (by decide +kernel) dL_cell_12 ?_
    refine ga_iload_n hR (pc := 14) 1 rfl rfl dL_cell_14 ?_
    refine ga_iconst hR (pc := 15) (v := nI 3) (by decide) dL_cell_15 ?_
    refine ga_iadd hR (pc := 16) dL_cell_16 ?_
    refine ga_imul hR (pc := 17) dL_cell_17 ?_
    exact ga_iret hE dL_cell_18 rfl (ga_ri () rfl h)
  · replace h := h.2 c3
    refine ga_aload_n hR (pc := 6) 0 rfl rfl dL_cell_6 ?_
    refine ga_iload_n hR (pc := 7) 1 rfl rfl dL_cell_7 ?_
    refine gs_sld hSc (pc := 8) h.1 dL_cell_8 ?_
    replace h := h.2
    refine ga_goto hR (pc := 9) 18 (by decide) dL_cell_9 ?_
    exact ga_iret hE dL_cell_18 rfl (ga_ri () rfl h)

def rm_L_low : Room := { frames := 0, cells := 0, slots := 0, locals := 0 }
theorem hd_L_lowS : yL_low.cls ≠ "java/lang/invoke/MethodHandle" ∧ yL_low.cls ≠ "java/lang/invoke/VarHandle" ∧ (parseMethodDescriptor yL_low.desc).map (fun d => d.parameters.length) = some 2 := by decide +kernel
set_option maxHeartbeats 4000000 in
set_option maxRecDepth 100000 in
theorem c_L_low (V : ga_V) (p0 : Int32) (p1 : Int32) (K : Int32 → Prop) (h : wp_L_low p0 p1 K) : ga_C V yL_low wsL_low rm_L_low [.int p0, .int p1] [] 0 0 (ga_Fi (fun (u : Unit) => []) (fun r u => K r)) := by
  refine ga_met (cc := cL_low) (maxL := 2) (rt := (some .int)) (by decide) rfl [(0, .int p0), (1, .int p1)] rfl (Nat.le_of_ble_eq_true rfl) ?_
  intro G hR hE
  unfold wp_L_low at h
  refine ga_iload_n hR (pc := 0) 0 rfl rfl dL_low_0 ?_
  refine ga_ldci hR (pc := 1) (v := nI 2147483647) (by decide +kernel) dL_low_1 ?_
  refine ga_iand hR (pc := 3) dL_low_3 ?_
  refine ga_iload_n hR (pc := 4) 1 rfl rfl dL_low_4 ?_
  refine ga_irem hR (pc := 5) h.1 dL_low_5 ?_
  replace h := h.2
  exact ga_iret hE dL_low_6 rfl (ga_ri () rfl h)

def rm_L_unary : Room := { frames := 1, cells := 0, slots := 0, locals := 21 }
theorem hd_L_unaryS : yL_unary.cls ≠ "java/lang/invoke/MethodHandle" ∧ yL_unary.cls ≠ "java/lang/invoke/VarHandle" ∧ (parseMethodDescriptor yL_unary.desc).map (fun d => d.parameters.length) = some 1 := by decide +kernel
set_option maxHeartbeats 4000000 in
set_option maxRecDepth 100000 in
theorem c_L_unary (V : ga_V) (p0 : Int32) (K : Int32 → Prop) (h : wp_L_unary p0 K) : ga_C V yL_unary wsL_unary rm_L_unary [.int p0] [] 0 0 (ga_Fi (fun (u : Unit) => []) (fun r u => K r)) := by
  refine ga_met (cc := cL_unary) (maxL := 1) (rt := (some .int)) (by decide) rfl [(0, .int p0)] rfl (Nat.le_of_ble_eq_true rfl) ?_
  intro G hR hE
  unfold wp_L_unary at h
  refine ga_iload_n hR (pc := 0) 0 rfl rfl dL_unary_0 ?_
  refine ga_iconst hR (pc := 1) (v := nI 5) (by decide) dL_unary_1 ?_
  refine ga_callS hR (pc := 2) (As := [.int p0, .int (nI 5)]) (rest := []) (st0 := [.int (nI 5), .int p0]) 2 (c_L_low V p0 (nI 5) _ h) (ga_same_i fun _ => rfl) gL_unary_L_low rfl rfl rfl hd_L_lowS ⟨Nat.le_of_ble_eq_true rfl, Nat.le_of_ble_eq_true rfl⟩ rfl rfl (Nat.le_of_ble_eq_true rfl) ⟨Nat.le_of_ble_eq_true rfl, Nat.le_of_ble_eq_true rfl⟩ [] rfl rfl dL_unary_2 ?_
  rintro _ _ ⟨r_1, ⟨⟩, rfl, rfl, h⟩
  refine ga_to [] [.int r_1] rfl rfl ?_
  try dsimp only at h
  refine ga_if_ne hR (pc := 5) 13 (by decide) dL_unary_5 (fun c5 => ?_) (fun c5 => ?_)
  · replace h := h.1 c5
    refine ga_iload_n hR (pc := 13) 0 rfl rfl dL_unary_13 ?_
    refine ga_iconst hR (pc := 14) (v := nI 5) (by decide) dL_unary_14 ?_
    refine ga_callS hR (pc := 15) (As := [.int p0, .int (nI 5)]) (rest := []) (st0 := [.int (nI 5), .int p0]) 2 (c_L_low V p0 (nI 5) _ h) (ga_same_i fun _ => rfl) gL_unary_L_low rfl rfl rfl hd_L_lowS ⟨Nat.le_of_ble_eq_true rfl, Nat.le_of_ble_eq_true rfl⟩ rfl rfl (Nat.le_of_ble_eq_true rfl) ⟨Nat.le_of_ble_eq_true rfl, Nat.le_of_ble_eq_true rfl⟩ [] rfl rfl dL_unary_15 ?_
    rintro _ _ ⟨r_2, ⟨⟩, rfl, rfl, h⟩
    refine ga_to [] [.int r_2] rfl rfl ?_
    try dsimp only at h
    refine ga_iconst hR (pc := 18) (v := nI 1) (by decide) dL_unary_18 ?_
    refine ga_icmp_ne hR (pc := 19) 27 (by decide) dL_unary_19 (fun c19 => ?_) (fun c19 => ?_)
    · replace h := h.1 c19
      refine ga_iload_n hR (pc := 27) 0 rfl rfl dL_unary_27 ?_
      refine ga_iconst hR (pc := 28) (v := nI 5) (by decide) dL_unary_28 ?_
      refine ga_callS hR (pc := 29) (As := [.int p0, .int (nI 5)]) (rest := []) (st0 := [.int (nI 5), .int p0]) 2 (c_L_low V p0 (nI 5) _ h) (ga_same_i fun _ => rfl) gL_unary_L_low rfl rfl rfl hd_L_lowS ⟨Nat.le_of_ble_eq_true rfl, Nat.le_of_ble_eq_true rfl⟩ rfl rfl (Nat.le_of_ble_eq_true rfl) ⟨Nat.le_of_ble_eq_true rfl, Nat.le_of_ble_eq_true rfl⟩ [] rfl rfl dL_unary_29 ?_
      rintro _ _ ⟨r_3, ⟨⟩, rfl, rfl, h⟩
      refine ga_to [] [.int r_3] rfl rfl ?_
      try dsimp only at h
      refine ga_iconst hR (pc := 32) (v := nI 2) (by decide) dL_unary_32 ?_
      refine ga_icmp_ne hR (pc := 33) 41 (by decide) dL_unary_33 (fun c33 => ?_) (fun c33 => ?_)
      · replace h := h.1 c33
        refine ga_iconst hR (pc := 41) (v := nI 0) (by decide) dL_unary_41 ?_
        exact ga_iret hE dL_unary_42 rfl (ga_ri () rfl h)
      · replace h := h.2 c33
        refine ga_bipush hR (pc := 36) (v := nI 63) (by decide) dL_unary_36 ?_
        refine ga_goto hR (pc := 38) 42 (by decide) dL_unary_38 ?_
        exact ga_iret hE dL_unary_42 rfl (ga_ri () rfl h)
    · replace h := h.2 c19
      refine ga_bipush hR (pc := 22) (v := nI 43) (by decide) dL_unary_22 ?_
      refine ga_goto hR (pc := 24) 42 (by decide) dL_unary_24 ?_
      exact ga_iret hE dL_unary_42 rfl (ga_ri () rfl h)
  · replace h := h.2 c5
    refine ga_bipush hR (pc := 8) (v := nI 42) (by decide) dL_unary_8 ?_
    refine ga_goto hR (pc := 10) 42 (by decide) dL_unary_10 ?_
    exact ga_iret hE dL_unary_42 rfl (ga_ri () rfl h)

def rm_L_sign : Room := { frames := 0, cells := 0, slots := 0, locals := 0 }
theorem hd_L_signS : yL_sign.cls ≠ "java/lang/invoke/MethodHandle" ∧ yL_sign.cls ≠ "java/lang/invoke/VarHandle" ∧ (parseMethodDescriptor yL_sign.desc).map (fun d => d.parameters.length) = some 3 := by decide +kernel
set_option maxHeartbeats 4000000 in
set_option maxRecDepth 100000 in
theorem c_L_sign (V : ga_V) (a : Nat → Nat) (n_a : Nat) (x : Nat → Int32) (p1 : Int32) (p2 : Int32) (K : Int32 → (Nat → Int32) → Prop) (h : wp_L_sign n_a x p1 p2 K) : ga_C V yL_sign wsL_sign rm_L_sign [.ref (a 0), .int p1, .int p2] [(a 0, .inl (V.2 0, n_a, .inl x))] 0 0 (ga_Fi (fun (u : (Nat → Int32)) => [(a 0, .inl (V.2 0, n_a, .inl u))]) (fun r u => K r u)) := by
  refine ga_met (cc := cL_sign) (maxL := 3) (rt := (some .int)) (by decide) rfl [(0, .ref (a 0)), (1, .int p1), (2, .int p2)] rfl (Nat.le_of_ble_eq_true rfl) ?_
  intro G hR hE
  unfold wp_L_sign at h
  refine ga_aload_n hR (pc := 0) 0 rfl rfl dL_sign_0 ?_
  refine ga_iload_n hR (pc := 1) 1 rfl rfl dL_sign_1 ?_
  refine ga_iload_n hR (pc := 2) 2 rfl rfl dL_sign_2 ?_
  refine ga_iast hR (pc := 3) (ws' := [(a 0, .inl (V.2 0, n_a, .inl ((upd x p1.toNatClampNeg p2))))]) 0 rfl h.1 rfl dL_sign_3 ?_
  replace h := h.2
  obtain ⟨x_1, ex_1⟩ : ∃ f : Nat → Int32, f = upd x p1.toNatClampNeg p2 := ⟨_, rfl⟩
  refine ga_cast (ws' := [(a 0, .inl (V.2 0, n_a, .inl x_1))]) (by rw [ex_1]) rfl ?_
  replace h := h x_1 ex_1
  refine ga_iload_n hR (pc := 4) 1 rfl rfl dL_sign_4 ?_
  refine ga_iconst hR (pc := 5) (v := nI 1) (by decide) dL_sign_5 ?_
  refine ga_iadd hR (pc := 6) dL_sign_6 ?_
  exact ga_iret hE dL_sign_7 rfl (ga_ri x_1 rfl h)

def rm_L_reads : Room := { frames := 0, cells := 3, slots := 51, locals := 0 }
theorem hd_L_readsS : yL_reads.cls ≠ "java/lang/invoke/MethodHandle" ∧ yL_reads.cls ≠ "java/lang/invoke/VarHandle" ∧ (parseMethodDescriptor yL_reads.desc).map (fun d => d.parameters.length) = some 4 := by decide +kernel
set_option maxHeartbeats 4000000 in
set_option maxRecDepth 100000 in
theorem c_L_reads (V : ga_V) (a : Nat → Nat) (b : Nat → Nat) (n_a : Nat) (n_b : Nat) (x : Nat → Int32) (y : Nat → Int32) (p2 : Int32) (p3 : Int32) (K : (Nat → Int32) → Prop) (h : wp_L_reads n_a n_b x y p2 p3 K) : ga_C V yL_reads wsL_reads rm_L_reads [.ref (a 0), .ref (b 0), .int p2, .int p3] [(a 0, .inl (V.2 0, n_a, .inl x)), (b 0, .inl (V.2 0, n_b, .inl y))] 3 51 (ga_Fv (fun (u : (Nat → Int32)) => [(a 0, .inl (V.2 0, n_a, .inl u)), (b 0, .inl (V.2 0, n_b, .inl y))]) (fun u => K u)) := by
  refine ga_met (cc := cL_reads) (maxL := 14) (rt := none) (by decide) rfl [(0, .ref (a 0)), (1, .ref (b 0)), (2, .int p2), (3, .int p3)] rfl (Nat.le_of_ble_eq_true rfl) ?_
  intro G hR hE
  unfold wp_L_reads at h
  refine ga_bipush hR (pc := 0) (v := nI 17) (by decide) dL_reads_0 ?_
  refine ga_newa hR (pc := 2) (t := 0) (ty := .int) (N := 17) (z := nI 17) rfl rfl rfl (fun C h => by cases h) (by decide +kernel) (by decide) (by decide) (Nat.le_of_ble_eq_true rfl) (Nat.le_of_ble_eq_true rfl) (Nat.le_of_ble_eq_true rfl) dL_reads_2 (fun q_1 => ?_)
  refine ga_to [(a 0, .inl (V.2 0, n_a, .inl x)), (b 0, .inl (V.2 0, n_b, .inl y)), (q_1, .inl (V.2 0, 17, .inl ((fun _ => 0))))] [.ref (q_1)] rfl rfl ?_
  refine ga_astore hR (pc := 4) (lv' := [(4, .ref (q_1)), (0, .ref (a 0)), (1, .ref (b 0)), (2, .int p2), (3, .int p3)]) (by decide) rfl dL_reads_4 ?_
  refine ga_bipush hR (pc := 6) (v := nI 17) (by decide) dL_reads_6 ?_
  refine ga_newa hR (pc := 8) (t := 0) (ty := .int) (N := 17) (z := nI 17) rfl rfl rfl (fun C h => by cases h) (by decide +kernel) (by decide) (by decide) (Nat.le_of_ble_eq_true rfl) (Nat.le_of_ble_eq_true rfl) (Nat.le_of_ble_eq_true rfl) dL_reads_8 (fun q_2 => ?_)
  refine ga_to [(a 0, .inl (V.2 0, n_a, .inl x)), (b 0, .inl (V.2 0, n_b, .inl y)), (q_1, .inl (V.2 0, 17, .inl ((fun _ => 0)))), (q_2, .inl (V.2 0, 17, .inl ((fun _ => 0))))] [.ref (q_2)] rfl rfl ?_
  refine ga_astore hR (pc := 10) (lv' := [(5, .ref (q_2)), (4, .ref (q_1)), (0, .ref (a 0)), (1, .ref (b 0)), (2, .int p2), (3, .int p3)]) (by decide) rfl dL_reads_10 ?_
  refine ga_bipush hR (pc := 12) (v := nI 17) (by decide) dL_reads_12 ?_
  refine ga_newa hR (pc := 14) (t := 0) (ty := .int) (N := 17) (z := nI 17) rfl rfl rfl (fun C h => by cases h) (by decide +kernel) (by decide) (by decide) (Nat.le_of_ble_eq_true rfl) (Nat.le_of_ble_eq_true rfl) (Nat.le_of_ble_eq_true rfl) dL_reads_14 (fun q_3 => ?_)
  refine ga_to [(a 0, .inl (V.2 0, n_a, .inl x)), (b 0, .inl (V.2 0, n_b, .inl y)), (q_1, .inl (V.2 0, 17, .inl ((fun _ => 0)))), (q_2, .inl (V.2 0, 17, .inl ((fun _ => 0)))), (q_3, .inl (V.2 0, 17, .inl ((fun _ => 0))))] [.ref (q_3)] rfl rfl ?_
  refine ga_astore hR (pc := 16) (lv' := [(6, .ref (q_3)), (5, .ref (q_2)), (4, .ref (q_1)), (0, .ref (a 0)), (1, .ref (b 0)), (2, .int p2), (3, .int p3)]) (by decide) rfl dL_reads_16 ?_
  refine ga_iconst hR (pc := 18) (v := nI 0) (by decide) dL_reads_18 ?_
  refine ga_istore hR (pc := 19) (lv' := [(7, .int (nI 0)), (6, .ref (q_3)), (5, .ref (q_2)), (4, .ref (q_1)), (0, .ref (a 0)), (1, .ref (b 0)), (2, .int p2), (3, .int p3)]) (by decide) rfl dL_reads_19 ?_
  refine ga_aload_n hR (pc := 21) 4 rfl rfl dL_reads_21 ?_
  refine ga_iconst hR (pc := 22) (v := nI 1) (by decide) dL_reads_22 ?_
  refine ga_iald hR (pc := 23) 0 rfl h.1 dL_reads_23 ?_
  replace h := h.2
  refine ga_topi (fun v8_4 ev8_4 => ?_)
  replace h := h v8_4 ev8_4
  refine ga_istore hR (pc := 24) (lv' := [(8, .int v8_4), (7, .int (nI 0)), (6, .ref (q_3)), (5, .ref (q_2)), (4, .ref (q_1)), (0, .ref (a 0)), (1, .ref (b 0)), (2, .int p2), (3, .int p3)]) (by decide) rfl dL_reads_24 ?_
  refine ga_aload_n hR (pc := 26) 5 rfl rfl dL_reads_26 ?_
  refine ga_bipush hR (pc := 27) (v := nI 34) (by decide) dL_reads_27 ?_
  refine ga_iload_n hR (pc := 29) 7 rfl rfl dL_reads_29 ?_
  refine ga_iadd hR (pc := 30) dL_reads_30 ?_
  refine ga_iald hR (pc := 31) 0 rfl h.1 dL_reads_31 ?_
  replace h := h.2
  refine ga_iconst hR (pc := 32) (v := nI 1) (by decide) dL_reads_32 ?_
  refine ga_isub hR (pc := 33) dL_reads_33 ?_
  refine ga_topi (fun v9_5 ev9_5 => ?_)
  replace h := h v9_5 ev9_5
  refine ga_istore hR (pc := 34) (lv' := [(9, .int v9_5), (8, .int v8_4), (7, .int (nI 0)), (6, .ref (q_3)), (5, .ref (q_2)), (4, .ref (q_1)), (0, .ref (a 0)), (1, .ref (b 0)), (2, .int p2), (3, .int p3)]) (by decide) rfl dL_reads_34 ?_
  have hJ := h (fun (x_6 : Nat → Int32) (z_7 : Nat → Int32) (w_8 : Nat → Int32) (u_9 : Nat → Int32) => G 3 51 [(a 0, .inl (V.2 0, n_a, .inl x_6)), (b 0, .inl (V.2 0, n_b, .inl y)), (q_1, .inl (V.2 0, 17, .inl z_7)), (q_2, .inl (V.2 0, 17, .inl w_8)), (q_3, .inl (V.2 0, 17, .inl u_9))] 400 [(0, .ref (a 0)), (2, .int p2), (3, .int p3), (4, .ref (q_1)), (5, .ref (q_2))] [])
  refine ga_bind hJ ?_ ?_
  · intro x_6 z_7 w_8 u_9 h
    show G 3 51 [(a 0, .inl (V.2 0, n_a, .inl x_6)), (b 0, .inl (V.2 0, n_b, .inl y)), (q_1, .inl (V.2 0, 17, .inl z_7)), (q_2, .inl (V.2 0, 17, .inl w_8)), (q_3, .inl (V.2 0, 17, .inl u_9))] 400 [(0, .ref (a 0)), (2, .int p2), (3, .int p3), (4, .ref (q_1)), (5, .ref (q_2))] []
    refine ga_aload_n hR (pc := 400) 0 rfl rfl dL_reads_400 ?_
    refine ga_iconst hR (pc := 401) (v := nI 2) (by decide) dL_reads_401 ?_
    refine ga_iload_n hR (pc := 402) 1 rfl rfl dL_reads_402 ?_
    refine ga_iadd hR (pc := 403) dL_reads_403 ?_
    refine ga_aload hR (pc := 404) 3 rfl dL_reads_404 ?_
    refine ga_iconst hR (pc := 406) (v := nI 0) (by decide) dL_reads_406 ?_
    refine ga_iald hR (pc := 407) 2 rfl h.1 dL_reads_407 ?_
    replace h := h.2
    refine ga_topi (fun t_11 et_11 => ?_)
    replace h := h t_11 et_11
    refine ga_iast hR (pc := 408) (ws' := [(a 0, .inl (V.2 0, n_a, .inl ((upd x_6 ((nI 2) + p2).toNatClampNeg t_11)))), (b 0, .inl (V.2 0, n_b, .inl y)), (q_1, .inl (V.2 0, 17, .inl z_7)), (q_2, .inl (V.2 0, 17, .inl w_8)), (q_3, .inl (V.2 0, 17, .inl u_9))]) 0 rfl h.1 rfl dL_reads_408 ?_
    replace h := h.2
    obtain ⟨x_12, ex_12⟩ : ∃ f : Nat → Int32, f = upd x_6 ((nI 2) + p2).toNatClampNeg t_11 := ⟨_, rfl⟩
    refine ga_cast (ws' := [(a 0, .inl (V.2 0, n_a, .inl x_12)), (b 0, .inl (V.2 0, n_b, .inl y)), (q_1, .inl (V.2 0, 17, .inl z_7)), (q_2, .inl (V.2 0, 17, .inl w_8)), (q_3, .inl (V.2 0, 17, .inl u_9))]) (by rw [ex_12]) rfl ?_
    replace h := h x_12 ex_12
    refine ga_aload_n hR (pc := 409) 0 rfl rfl dL_reads_409 ?_
    refine ga_bipush hR (pc := 410) (v := nI 6) (by decide) dL_reads_410 ?_
    refine ga_iload_n hR (pc := 412) 1 rfl rfl dL_reads_412 ?_
    refine ga_iadd hR (pc := 413) dL_reads_413 ?_
    refine ga_aload hR (pc := 414) 4 rfl dL_reads_414 ?_
    refine ga_iconst hR (pc := 416) (v := nI 0) (by decide) dL_reads_416 ?_
    refine ga_iald hR (pc := 417) 3 rfl h.1 dL_reads_417 ?_
    replace h := h.2
    refine ga_topi (fun t_13 et_13 => ?_)
    replace h := h t_13 et_13
    refine ga_iast hR (pc := 418) (ws' := [(a 0, .inl (V.2 0, n_a, .inl ((upd x_12 ((nI 6) + p2).toNatClampNeg t_13)))), (b 0, .inl (V.2 0, n_b, .inl y)), (q_1, .inl (V.2 0, 17, .inl z_7)), (q_2, .inl (V.2 0, 17, .inl w_8)), (q_3, .inl (V.2 0, 17, .inl u_9))]) 0 rfl h.1 rfl dL_reads_418 ?_
    replace h := h.2
    obtain ⟨x_14, ex_14⟩ : ∃ f : Nat → Int32, f = upd x_12 ((nI 6) + p2).toNatClampNeg t_13 := ⟨_, rfl⟩
    refine ga_cast (ws' := [(a 0, .inl (V.2 0, n_a, .inl x_14)), (b 0, .inl (V.2 0, n_b, .inl y)), (q_1, .inl (V.2 0, 17, .inl z_7)), (q_2, .inl (V.2 0, 17, .inl w_8)), (q_3, .inl (V.2 0, 17, .inl u_9))]) (by rw [ex_14]) rfl ?_
    replace h := h x_14 ex_14
    refine ga_aload_n hR (pc := 419) 0 rfl rfl dL_reads_419 ?_
    refine ga_bipush hR (pc := 420) (v := nI 10) (by decide) dL_reads_420 ?_
    refine ga_iload_n hR (pc := 422) 1 rfl rfl dL_reads_422 ?_
    refine ga_iadd hR (pc := 423) dL_reads_423 ?_
    refine ga_iconst hR (pc := 424) (v := nI 1) (by decide) dL_reads_424 ?_
    refine ga_aload_n hR (pc := 425) 0 rfl rfl dL_reads_425 ?_
    refine ga_iconst hR (pc := 426) (v := nI 1) (by decide) dL_reads_426 ?_
    refine ga_iald hR (pc := 427) 0 rfl h.1 dL_reads_427 ?_
    replace h := h.2
    refine ga_ishl hR (pc := 428) dL_reads_428 ?_
    refine ga_iconst hR (pc := 429) (v := nI 1) (by decide) dL_reads_429 ?_
    refine ga_iload_n hR (pc := 430) 2 rfl rfl dL_reads_430 ?_
    refine ga_ishl hR (pc := 431) dL_reads_431 ?_
    refine ga_isub hR (pc := 432) dL_reads_432 ?_
    refine ga_topi (fun t_15 et_15 => ?_)
    replace h := h t_15 et_15
    refine ga_iast hR (pc := 433) (ws' := [(a 0, .inl (V.2 0, n_a, .inl ((upd x_14 ((nI 10) + p2).toNatClampNeg t_15)))), (b 0, .inl (V.2 0, n_b, .inl y)), (q_1, .inl (V.2 0, 17, .inl z_7)), (q_2, .inl (V.2 0, 17, .inl w_8)), (q_3, .inl (V.2 0, 17, .inl u_9))]) 0 rfl h.1 rfl dL_reads_433 ?_
    replace h := h.2
    obtain ⟨x_16, ex_16⟩ : ∃ f : Nat → Int32, f = upd x_14 ((nI 10) + p2).toNatClampNeg t_15 := ⟨_, rfl⟩
    refine ga_cast (ws' := [(a 0, .inl (V.2 0, n_a, .inl x_16)), (b 0, .inl (V.2 0, n_b, .inl y)), (q_1, .inl (V.2 0, 17, .inl z_7)), (q_2, .inl (V.2 0, 17, .inl w_8)), (q_3, .inl (V.2 0, 17, .inl u_9))]) (by rw [ex_16]) rfl ?_
    replace h := h x_16 ex_16
    refine ga_drop hR [0, 1] (wc := [(a 0, .inl (V.2 0, n_a, .inl x_16)), (b 0, .inl (V.2 0, n_b, .inl y))]) rfl rfl ?_
    exact ga_vret hE dL_reads_434 (ga_rv x_16 rfl h)
  · intro h
    obtain ⟨n, h⟩ := h
    have L36 : ∀ (n : Nat) (v7_88 : Int32) (v8_89 : Int32) (v9_90 : Int32) (x_91 : Nat → Int32) (z_92 : Nat → Int32) (w_93 : Nat → Int32) (u_94 : Nat → Int32), lp_L_reads_36 n_a n_b y p2 p3 (fun (x_6 : Nat → Int32) (z_7 : Nat → Int32) (w_8 : Nat → Int32) (u_9 : Nat → Int32) => G 3 51 [(a 0, .inl (V.2 0, n_a, .inl x_6)), (b 0, .inl (V.2 0, n_b, .inl y)), (q_1, .inl (V.2 0, 17, .inl z_7)), (q_2, .inl (V.2 0, 17, .inl w_8)), (q_3, .inl (V.2 0, 17, .inl u_9))] 400 [(0, .ref (a 0)), (2, .int p2), (3, .int p3), (4, .ref (q_1)), (5, .ref (q_2))] []) n v7_88 v8_89 v9_90 x_91 z_92 w_93 u_94 → G 3 51 [(a 0, .inl (V.2 0, n_a, .inl x_91)), (b 0, .inl (V.2 0, n_b, .inl y)), (q_1, .inl (V.2 0, 17, .inl z_92)), (q_2, .inl (V.2 0, 17, .inl w_93)), (q_3, .inl (V.2 0, 17, .inl u_94))] 36 [(0, .ref (a 0)), (1, .ref (b 0)), (2, .int p2), (3, .int p3), (4, .ref (q_1)), (5, .ref (q_2)), (6, .ref (q_3)), (7, .int v7_88), (8, .int v8_89), (9, .int v9_90)] [] := by
      intro n
      induction n with
      | zero => exact fun _ _ _ _ _ _ _ h => False.elim h
      | succ n ih =>
        intro v7_88 v8_89 v9_90 x_91 z_92 w_93 u_94 h
        rw [lp_L_reads_36] at h
        refine ga_iload hR (pc := 36) 9 rfl dL_reads_36 ?_
        refine ga_if_lt hR (pc := 38) 400 (by decide) dL_reads_38 (fun c38 => ?_) (fun c38 => ?_)
        · replace h := h.1 c38
          exact ga_lv hR [0, 2, 3, 4, 5] rfl h
        · replace h := h.2 c38
          refine ga_aload_n hR (pc := 41) 1 rfl rfl dL_reads_41 ?_
          refine ga_bipush hR (pc := 42) (v := nI 16) (by decide) dL_reads_42 ?_
          refine ga_iload_n hR (pc := 44) 2 rfl rfl dL_reads_44 ?_
          refine ga_imul hR (pc := 45) dL_reads_45 ?_
          refine ga_iload hR (pc := 46) 9 rfl dL_reads_46 ?_
          refine ga_iadd hR (pc := 48) dL_reads_48 ?_
          refine ga_iald hR (pc := 49) 1 rfl h.1 dL_reads_49 ?_
          replace h := h.2
          refine ga_topi (fun v10_95 ev10_95 => ?_)
          replace h := h v10_95 ev10_95
          refine ga_istore hR (pc := 50) (lv' := [(10, .int v10_95), (0, .ref (a 0)), (1, .ref (b 0)), (2, .int p2), (3, .int p3), (4, .ref (q_1)), (5, .ref (q_2)), (6, .ref (q_3)), (7, .int v7_88), (8, .int v8_89), (9, .int v9_90)]) (by decide) rfl dL_reads_50 ?_
          refine ga_iload hR (pc := 52) 0 rfl dL_reads_52 ?_
          refine ga_bipush hR (pc := 54) (v := nI 38) (by decide) dL_reads_54 ?_
          have hJ := h (G 3 51 [(a 0, .inl (V.2 0, n_a, .inl x_91)), (b 0, .inl (V.2 0, n_b, .inl y)), (q_1, .inl (V.2 0, 17, .inl z_92)), (q_2, .inl (V.2 0, 17, .inl w_93)), (q_3, .inl (V.2 0, 17, .inl u_94))] 66 [(0, .ref (a 0)), (1, .ref (b 0)), (2, .int p2), (3, .int p3), (4, .ref (q_1)), (5, .ref (q_2)), (6, .ref (q_3)), (7, .int v7_88), (8, .int v8_89), (9, .int v9_90), (10, .int v10_95)] [])
          refine ga_bind hJ ?_ ?_
          · intro h
            show G 3 51 [(a 0, .inl (V.2 0, n_a, .inl x_91)), (b 0, .inl (V.2 0, n_b, .inl y)), (q_1, .inl (V.2 0, 17, .inl z_92)), (q_2, .inl (V.2 0, 17, .inl w_93)), (q_3, .inl (V.2 0, 17, .inl u_94))] 66 [(0, .ref (a 0)), (1, .ref (b 0)), (2, .int p2), (3, .int p3), (4, .ref (q_1)), (5, .ref (q_2)), (6, .ref (q_3)), (7, .int v7_88), (8, .int v8_89), (9, .int v9_90), (10, .int v10_95)] []
            refine ga_iload hR (pc := 66) 7 rfl dL_reads_66 ?_
            refine ga_iconst hR (pc := 68) (v := nI 1) (by decide) dL_reads_68 ?_
            refine ga_isub hR (pc := 69) dL_reads_69 ?_
            refine ga_topi (fun v11_97 ev11_97 => ?_)
            replace h := h v11_97 ev11_97
            refine ga_istore hR (pc := 70) (lv' := [(11, .int v11_97), (0, .ref (a 0)), (1, .ref (b 0)), (2, .int p2), (3, .int p3), (4, .ref (q_1)), (5, .ref (q_2)), (6, .ref (q_3)), (7, .int v7_88), (8, .int v8_89), (9, .int v9_90), (10, .int v10_95)]) (by decide) rfl dL_reads_70 ?_
            refine ga_iload hR (pc := 72) 8 rfl dL_reads_72 ?_
            refine ga_iconst hR (pc := 74) (v := nI 2) (by decide) dL_reads_74 ?_
            refine ga_isub hR (pc := 75) dL_reads_75 ?_
            refine ga_topi (fun v12_98 ev12_98 => ?_)
            replace h := h v12_98 ev12_98
            refine ga_istore hR (pc := 76) (lv' := [(12, .int v12_98), (11, .int v11_97), (0, .ref (a 0)), (1, .ref (b 0)), (2, .int p2), (3, .int p3), (4, .ref (q_1)), (5, .ref (q_2)), (6, .ref (q_3)), (7, .int v7_88), (8, .int v8_89), (9, .int v9_90), (10, .int v10_95)]) (by decide) rfl dL_reads_76 ?_
            refine ga_iload hR (pc := 78) 12 rfl dL_reads_78 ?_
            refine ga_bipush hR (pc := 80) (v := nI 38) (by decide) dL_reads_80 ?_
            refine ga_icmp_ne hR (pc := 82) 212 (by decide) dL_reads_82 (fun c82 => ?_) (fun c82 => ?_)
            · replace h := h.1 c82
              refine ga_aload hR (pc := 212) 6 rfl dL_reads_212 ?_
              refine ga_iload hR (pc := 214) 0 rfl dL_reads_214 ?_
              refine ga_dup2 hR (pc := 216) rfl rfl dL_reads_216 ?_
              refine ga_iald hR (pc := 217) 2 rfl h.1 dL_reads_217 ?_
              replace h := h.2
              refine ga_aload hR (pc := 218) 6 rfl dL_reads_218 ?_
              refine ga_iload hR (pc := 220) 1 rfl dL_reads_220 ?_
              refine ga_iald hR (pc := 222) 2 rfl h.1 dL_reads_222 ?_
              replace h := h.2
              refine ga_ior hR (pc := 223) dL_reads_223 ?_
              refine ga_topi (fun t_99 et_99 => ?_)
              replace h := h t_99 et_99
              refine ga_iast hR (pc := 224) (ws' := [(a 0, .inl (V.2 0, n_a, .inl x_91)), (b 0, .inl (V.2 0, n_b, .inl y)), (q_1, .inl (V.2 0, 17, .inl ((upd z_92 v12_98.toNatClampNeg t_99)))), (q_2, .inl (V.2 0, 17, .inl w_93)), (q_3, .inl (V.2 0, 17, .inl u_94))]) 2 rfl h.1 rfl dL_reads_224 ?_
              replace h := h.2
              obtain ⟨z_100, ez_100⟩ : ∃ f : Nat → Int32, f = upd z_92 v12_98.toNatClampNeg t_99 := ⟨_, rfl⟩
              refine ga_cast (ws' := [(a 0, .inl (V.2 0, n_a, .inl x_91)), (b 0, .inl (V.2 0, n_b, .inl y)), (q_1, .inl (V.2 0, 17, .inl z_100)), (q_2, .inl (V.2 0, 17, .inl w_93)), (q_3, .inl (V.2 0, 17, .inl u_94))]) (by rw [ez_100]) rfl ?_
              replace h := h z_100 ez_100
              refine ga_aload hR (pc := 225) 7 rfl dL_reads_225 ?_
              refine ga_iload hR (pc := 227) 0 rfl dL_reads_227 ?_
              refine ga_dup2 hR (pc := 229) rfl rfl dL_reads_229 ?_
              refine ga_iald hR (pc := 230) 3 rfl h.1 dL_reads_230 ?_
              replace h := h.2
              refine ga_aload hR (pc := 231) 7 rfl dL_reads_231 ?_
              refine ga_iload hR (pc := 233) 1 rfl dL_reads_233 ?_
              refine ga_iald hR (pc := 235) 3 rfl h.1 dL_reads_235 ?_
              replace h := h.2
              refine ga_ior hR (pc := 236) dL_reads_236 ?_
              refine ga_topi (fun t_101 et_101 => ?_)
              replace h := h t_101 et_101
              refine ga_iast hR (pc := 237) (ws' := [(a 0, .inl (V.2 0, n_a, .inl x_91)), (b 0, .inl (V.2 0, n_b, .inl y)), (q_1, .inl (V.2 0, 17, .inl z_100)), (q_2, .inl (V.2 0, 17, .inl ((upd w_93 v12_98.toNatClampNeg t_101)))), (q_3, .inl (V.2 0, 17, .inl u_94))]) 3 rfl h.1 rfl dL_reads_237 ?_
              replace h := h.2
              obtain ⟨w_102, ew_102⟩ : ∃ f : Nat → Int32, f = upd w_93 v12_98.toNatClampNeg t_101 := ⟨_, rfl⟩
              refine ga_cast (ws' := [(a 0, .inl (V.2 0, n_a, .inl x_91)), (b 0, .inl (V.2 0, n_b, .inl y)), (q_1, .inl (V.2 0, 17, .inl z_100)), (q_2, .inl (V.2 0, 17, .inl w_102)), (q_3, .inl (V.2 0, 17, .inl u_94))]) (by rw [ew_102]) rfl ?_
              replace h := h w_102 ew_102
              refine ga_aload hR (pc := 238) 8 rfl dL_reads_238 ?_
              refine ga_iload hR (pc := 240) 0 rfl dL_reads_240 ?_
              refine ga_dup2 hR (pc := 242) rfl rfl dL_reads_242 ?_
              refine ga_iald hR (pc := 243) 4 rfl h.1 dL_reads_243 ?_
              replace h := h.2
              refine ga_aload hR (pc := 244) 8 rfl dL_reads_244 ?_
              refine ga_iload hR (pc := 246) 1 rfl dL_reads_246 ?_
              refine ga_iald hR (pc := 248) 4 rfl h.1 dL_reads_248 ?_
              replace h := h.2
              refine ga_ior hR (pc := 249) dL_reads_249 ?_
              refine ga_topi (fun t_103 et_103 => ?_)
              replace h := h t_103 et_103
              refine ga_iast hR (pc := 250) (ws' := [(a 0, .inl (V.2 0, n_a, .inl x_91)), (b 0, .inl (V.2 0, n_b, .inl y)), (q_1, .inl (V.2 0, 17, .inl z_100)), (q_2, .inl (V.2 0, 17, .inl w_102)), (q_3, .inl (V.2 0, 17, .inl ((upd u_94 v12_98.toNatClampNeg t_103))))]) 4 rfl h.1 rfl dL_reads_250 ?_
              replace h := h.2
              obtain ⟨u_104, eu_104⟩ : ∃ f : Nat → Int32, f = upd u_94 v12_98.toNatClampNeg t_103 := ⟨_, rfl⟩
              refine ga_cast (ws' := [(a 0, .inl (V.2 0, n_a, .inl x_91)), (b 0, .inl (V.2 0, n_b, .inl y)), (q_1, .inl (V.2 0, 17, .inl z_100)), (q_2, .inl (V.2 0, 17, .inl w_102)), (q_3, .inl (V.2 0, 17, .inl u_104))]) (by rw [eu_104]) rfl ?_
              replace h := h u_104 eu_104
              obtain ⟨v7_105, ev7_105⟩ : ∃ v : Int32, v = v7_88 + (-1) := ⟨_, rfl⟩
              replace h := h v7_105 ev7_105
              refine ga_iinc hR (pc := 251) (lv' := [(7, .int v7_105), (12, .int v12_98), (11, .int v11_97), (0, .ref (a 0)), (1, .ref (b 0)), (2, .int p2), (3, .int p3), (4, .ref (q_1)), (5, .ref (q_2)), (6, .ref (q_3)), (8, .int v8_89), (9, .int v9_90), (10, .int v10_95)]) 9 (by decide) rfl ev7_105 (by decide) rfl dL_reads_251 ?_
              refine ga_goto hR (pc := 254) 394 (by decide) dL_reads_254 ?_
              obtain ⟨v9_106, ev9_106⟩ : ∃ v : Int32, v = v9_90 + (-1) := ⟨_, rfl⟩
              replace h := h v9_106 ev9_106
              refine ga_iinc hR (pc := 394) (lv' := [(9, .int v9_106), (7, .int v7_105), (12, .int v12_98), (11, .int v11_97), (0, .ref (a 0)), (1, .ref (b 0)), (2, .int p2), (3, .int p3), (4, .ref (q_1)), (5, .ref (q_2)), (6, .ref (q_3)), (8, .int v8_89), (10, .int v10_95)]) 11 (by decide) rfl ev9_106 (by decide) rfl dL_reads_394 ?_
              refine ga_goto hR (pc := 397) 36 (by decide) dL_reads_397 ?_
              exact ga_lv hR [4, 5, 6, 7, 8, 9, 10, 1, 11, 0] rfl (ih _ _ _ _ _ _ _ h)
            · replace h := h.2 c82
              refine ga_iload_n hR (pc := 85) 5 rfl rfl dL_reads_85 ?_
              refine ga_istore hR (pc := 86) (lv' := [(13, .int p3), (12, .int v12_98), (11, .int v11_97), (0, .ref (a 0)), (1, .ref (b 0)), (2, .int p2), (3, .int p3), (4, .ref (q_1)), (5, .ref (q_2)), (6, .ref (q_3)), (7, .int v7_88), (8, .int v8_89), (9, .int v9_90), (10, .int v10_95)]) (by decide) rfl dL_reads_86 ?_
              have hJ := h (fun (x_107 : Nat → Int32) => G 3 51 [(a 0, .inl (V.2 0, n_a, .inl x_107)), (b 0, .inl (V.2 0, n_b, .inl y)), (q_1, .inl (V.2 0, 17, .inl z_92)), (q_2, .inl (V.2 0, 17, .inl w_93)), (q_3, .inl (V.2 0, 17, .inl u_94))] 135 [(0, .ref (a 0)), (1, .ref (b 0)), (2, .int p2), (3, .int p3), (4, .ref (q_1)), (5, .ref (q_2)), (6, .ref (q_3)), (7, .int v7_88), (8, .int v8_89), (9, .int v9_90), (11, .int v11_97), (12, .int v12_98)] [])
              refine ga_bind hJ ?_ ?_
              · intro x_107 h
                show G 3 51 [(a 0, .inl (V.2 0, n_a, .inl x_107)), (b 0, .inl (V.2 0, n_b, .inl y)), (q_1, .inl (V.2 0, 17, .inl z_92)), (q_2, .inl (V.2 0, 17, .inl w_93)), (q_3, .inl (V.2 0, 17, .inl u_94))] 135 [(0, .ref (a 0)), (1, .ref (b 0)), (2, .int p2), (3, .int p3), (4, .ref (q_1)), (5, .ref (q_2)), (6, .ref (q_3)), (7, .int v7_88), (8, .int v8_89), (9, .int v9_90), (11, .int v11_97), (12, .int v12_98)] []
                refine ga_aload hR (pc := 135) 4 rfl dL_reads_135 ?_
                refine ga_iload hR (pc := 137) 11 rfl dL_reads_137 ?_
                refine ga_aload hR (pc := 139) 4 rfl dL_reads_139 ?_
                refine ga_iload hR (pc := 141) 10 rfl dL_reads_141 ?_
                refine ga_iald hR (pc := 143) 2 rfl h.1 dL_reads_143 ?_
                replace h := h.2
                refine ga_aload hR (pc := 144) 6 rfl dL_reads_144 ?_
                refine ga_iload hR (pc := 146) 10 rfl dL_reads_146 ?_
                refine ga_iald hR (pc := 148) 4 rfl h.1 dL_reads_148 ?_
                replace h := h.2
                refine ga_iconst hR (pc := 149) (v := nI 1) (by decide) dL_reads_149 ?_
                have hJ := h (fun (s3_109 : Int32) => G 3 51 [(a 0, .inl (V.2 0, n_a, .inl x_107)), (b 0, .inl (V.2 0, n_b, .inl y)), (q_1, .inl (V.2 0, 17, .inl z_92)), (q_2, .inl (V.2 0, 17, .inl w_93)), (q_3, .inl (V.2 0, 17, .inl u_94))] 162 [(0, .ref (a 0)), (1, .ref (b 0)), (2, .int p2), (3, .int p3), (4, .ref (q_1)), (5, .ref (q_2)), (6, .ref (q_3)), (7, .int v7_88), (8, .int v8_89), (9, .int v9_90), (11, .int v11_97), (12, .int v12_98)] [.int s3_109, .int (z_92 v11_97.toNatClampNeg), .int v12_98, .ref (q_1)])
                refine ga_bind hJ ?_ ?_
                · intro s3_109 h
                  show G 3 51 [(a 0, .inl (V.2 0, n_a, .inl x_107)), (b 0, .inl (V.2 0, n_b, .inl y)), (q_1, .inl (V.2 0, 17, .inl z_92)), (q_2, .inl (V.2 0, 17, .inl w_93)), (q_3, .inl (V.2 0, 17, .inl u_94))] 162 [(0, .ref (a 0)), (1, .ref (b 0)), (2, .int p2), (3, .int p3), (4, .ref (q_1)), (5, .ref (q_2)), (6, .ref (q_3)), (7, .int v7_88), (8, .int v8_89), (9, .int v9_90), (11, .int v11_97), (12, .int v12_98)] [.int s3_109, .int (z_92 v11_97.toNatClampNeg), .int v12_98, .ref (q_1)]
                  refine ga_ior hR (pc := 162) dL_reads_162 ?_
                  refine ga_topi (fun t_111 et_111 => ?_)
                  replace h := h t_111 et_111
                  refine ga_iast hR (pc := 163) (ws' := [(a 0, .inl (V.2 0, n_a, .inl x_107)), (b 0, .inl (V.2 0, n_b, .inl y)), (q_1, .inl (V.2 0, 17, .inl ((upd z_92 v12_98.toNatClampNeg t_111)))), (q_2, .inl (V.2 0, 17, .inl w_93)), (q_3, .inl (V.2 0, 17, .inl u_94))]) 2 rfl h.1 rfl dL_reads_163 ?_
                  replace h := h.2
                  obtain ⟨z_112, ez_112⟩ : ∃ f : Nat → Int32, f = upd z_92 v12_98.toNatClampNeg t_111 := ⟨_, rfl⟩
                  refine ga_cast (ws' := [(a 0, .inl (V.2 0, n_a, .inl x_107)), (b 0, .inl (V.2 0, n_b, .inl y)), (q_1, .inl (V.2 0, 17, .inl z_112)), (q_2, .inl (V.2 0, 17, .inl w_93)), (q_3, .inl (V.2 0, 17, .inl u_94))]) (by rw [ez_112]) rfl ?_
                  replace h := h z_112 ez_112
                  refine ga_aload hR (pc := 164) 5 rfl dL_reads_164 ?_
                  refine ga_iload hR (pc := 166) 11 rfl dL_reads_166 ?_
                  refine ga_aload hR (pc := 168) 5 rfl dL_reads_168 ?_
                  refine ga_iload hR (pc := 170) 11 rfl dL_reads_170 ?_
                  refine ga_iald hR (pc := 172) 3 rfl h.1 dL_reads_172 ?_
                  replace h := h.2
                  refine ga_aload hR (pc := 173) 6 rfl dL_reads_173 ?_
                  refine ga_iload hR (pc := 175) 11 rfl dL_reads_175 ?_
                  refine ga_iald hR (pc := 177) 4 rfl h.1 dL_reads_177 ?_
                  replace h := h.2
                  refine ga_iconst hR (pc := 178) (v := nI 1) (by decide) dL_reads_178 ?_
                  have hJ := h (fun (s3_113 : Int32) => G 3 51 [(a 0, .inl (V.2 0, n_a, .inl x_107)), (b 0, .inl (V.2 0, n_b, .inl y)), (q_1, .inl (V.2 0, 17, .inl z_112)), (q_2, .inl (V.2 0, 17, .inl w_93)), (q_3, .inl (V.2 0, 17, .inl u_94))] 191 [(0, .ref (a 0)), (1, .ref (b 0)), (2, .int p2), (3, .int p3), (4, .ref (q_1)), (5, .ref (q_2)), (6, .ref (q_3)), (7, .int v7_88), (8, .int v8_89), (9, .int v9_90), (11, .int v11_97), (12, .int v12_98)] [.int s3_113, .int (w_93 v12_98.toNatClampNeg), .int v12_98, .ref (q_2)])
                  refine ga_bind hJ ?_ ?_
                  · intro s3_113 h
                    show G 3 51 [(a 0, .inl (V.2 0, n_a, .inl x_107)), (b 0, .inl (V.2 0, n_b, .inl y)), (q_1, .inl (V.2 0, 17, .inl z_112)), (q_2, .inl (V.2 0, 17, .inl w_93)), (q_3, .inl (V.2 0, 17, .inl u_94))] 191 [(0, .ref (a 0)), (1, .ref (b 0)), (2, .int p2), (3, .int p3), (4, .ref (q_1)), (5, .ref (q_2)), (6, .ref (q_3)), (7, .int v7_88), (8, .int v8_89), (9, .int v9_90), (11, .int v11_97), (12, .int v12_98)] [.int s3_113, .int (w_93 v12_98.toNatClampNeg), .int v12_98, .ref (q_2)]
                    refine ga_ior hR (pc := 191) dL_reads_191 ?_
                    refine ga_topi (fun t_115 et_115 => ?_)
                    replace h := h t_115 et_115
                    refine ga_iast hR (pc := 192) (ws' := [(a 0, .inl (V.2 0, n_a, .inl x_107)), (b 0, .inl (V.2 0, n_b, .inl y)), (q_1, .inl (V.2 0, 17, .inl z_112)), (q_2, .inl (V.2 0, 17, .inl ((upd w_93 v12_98.toNatClampNeg t_115)))), (q_3, .inl (V.2 0, 17, .inl u_94))]) 3 rfl h.1 rfl dL_reads_192 ?_
                    replace h := h.2
                    obtain ⟨w_116, ew_116⟩ : ∃ f : Nat → Int32, f = upd w_93 v12_98.toNatClampNeg t_115 := ⟨_, rfl⟩
                    refine ga_cast (ws' := [(a 0, .inl (V.2 0, n_a, .inl x_107)), (b 0, .inl (V.2 0, n_b, .inl y)), (q_1, .inl (V.2 0, 17, .inl z_112)), (q_2, .inl (V.2 0, 17, .inl w_116)), (q_3, .inl (V.2 0, 17, .inl u_94))]) (by rw [ew_116]) rfl ?_
                    replace h := h w_116 ew_116
                    refine ga_aload hR (pc := 193) 6 rfl dL_reads_193 ?_
                    refine ga_iload hR (pc := 195) 11 rfl dL_reads_195 ?_
                    refine ga_aload hR (pc := 197) 6 rfl dL_reads_197 ?_
                    refine ga_iload hR (pc := 199) 10 rfl dL_reads_199 ?_
                    refine ga_iald hR (pc := 201) 4 rfl h.1 dL_reads_201 ?_
                    replace h := h.2
                    refine ga_aload hR (pc := 202) 6 rfl dL_reads_202 ?_
                    refine ga_iload hR (pc := 204) 11 rfl dL_reads_204 ?_
                    refine ga_iald hR (pc := 206) 4 rfl h.1 dL_reads_206 ?_
                    replace h := h.2
                    refine ga_imul hR (pc := 207) dL_reads_207 ?_
                    refine ga_topi (fun t_117 et_117 => ?_)
                    replace h := h t_117 et_117
                    refine ga_iast hR (pc := 208) (ws' := [(a 0, .inl (V.2 0, n_a, .inl x_107)), (b 0, .inl (V.2 0, n_b, .inl y)), (q_1, .inl (V.2 0, 17, .inl z_112)), (q_2, .inl (V.2 0, 17, .inl w_116)), (q_3, .inl (V.2 0, 17, .inl ((upd u_94 v12_98.toNatClampNeg t_117))))]) 4 rfl h.1 rfl dL_reads_208 ?_
                    replace h := h.2
                    obtain ⟨u_118, eu_118⟩ : ∃ f : Nat → Int32, f = upd u_94 v12_98.toNatClampNeg t_117 := ⟨_, rfl⟩
                    refine ga_cast (ws' := [(a 0, .inl (V.2 0, n_a, .inl x_107)), (b 0, .inl (V.2 0, n_b, .inl y)), (q_1, .inl (V.2 0, 17, .inl z_112)), (q_2, .inl (V.2 0, 17, .inl w_116)), (q_3, .inl (V.2 0, 17, .inl u_118))]) (by rw [eu_118]) rfl ?_
                    replace h := h u_118 eu_118
                    refine ga_goto hR (pc := 209) 251 (by decide) dL_reads_209 ?_
                    obtain ⟨v7_119, ev7_119⟩ : ∃ v : Int32, v = v7_88 + (-1) := ⟨_, rfl⟩
                    replace h := h v7_119 ev7_119
                    refine ga_iinc hR (pc := 251) (lv' := [(7, .int v7_119), (0, .ref (a 0)), (1, .ref (b 0)), (2, .int p2), (3, .int p3), (4, .ref (q_1)), (5, .ref (q_2)), (6, .ref (q_3)), (8, .int v8_89), (9, .int v9_90), (11, .int v11_97), (12, .int v12_98)]) 7 (by decide) rfl ev7_119 (by decide) rfl dL_reads_251 ?_
                    refine ga_goto hR (pc := 254) 394 (by decide) dL_reads_254 ?_
                    obtain ⟨v9_120, ev9_120⟩ : ∃ v : Int32, v = v9_90 + (-1) := ⟨_, rfl⟩
                    replace h := h v9_120 ev9_120
                    refine ga_iinc hR (pc := 394) (lv' := [(9, .int v9_120), (7, .int v7_119), (0, .ref (a 0)), (1, .ref (b 0)), (2, .int p2), (3, .int p3), (4, .ref (q_1)), (5, .ref (q_2)), (6, .ref (q_3)), (8, .int v8_89), (11, .int v11_97), (12, .int v12_98)]) 9 (by decide) rfl ev9_120 (by decide) rfl dL_reads_394 ?_
                    refine ga_goto hR (pc := 397) 36 (by decide) dL_reads_397 ?_
                    exact ga_lv hR [2, 3, 4, 5, 6, 7, 8, 1, 9, 0] rfl (ih _ _ _ _ _ _ _ h)
                  · intro h
                    refine ga_icmp_ne hR (pc := 179) 190 (by decide) dL_reads_179 (fun c179 => ?_) (fun c179 => ?_)
                    · replace h := h.1 c179
                      refine ga_iconst hR (pc := 190) (v := nI 0) (by decide) dL_reads_190 ?_
                      exact ga_lv hR [0, 1, 2, 3, 4, 5, 6, 7, 8, 9, 10, 11] rfl h
                    · replace h := h.2 c179
                      refine ga_aload hR (pc := 182) 5 rfl dL_reads_182 ?_
                      refine ga_iload hR (pc := 184) 10 rfl dL_reads_184 ?_
                      refine ga_iald hR (pc := 186) 3 rfl h.1 dL_reads_186 ?_
                      replace h := h.2
                      refine ga_goto hR (pc := 187) 191 (by decide) dL_reads_187 ?_
                      exact ga_lv hR [0, 1, 2, 3, 4, 5, 6, 7, 8, 9, 10, 11] rfl h
                · intro h
                  refine ga_icmp_ne hR (pc := 150) 161 (by decide) dL_reads_150 (fun c150 => ?_) (fun c150 => ?_)
                  · replace h := h.1 c150
                    refine ga_iconst hR (pc := 161) (v := nI 0) (by decide) dL_reads_161 ?_
                    exact ga_lv hR [0, 1, 2, 3, 4, 5, 6, 7, 8, 9, 10, 11] rfl h
                  · replace h := h.2 c150
                    refine ga_aload hR (pc := 153) 4 rfl dL_reads_153 ?_
                    refine ga_iload hR (pc := 155) 11 rfl dL_reads_155 ?_
                    refine ga_iald hR (pc := 157) 2 rfl h.1 dL_reads_157 ?_
                    replace h := h.2
                    refine ga_goto hR (pc := 158) 162 (by decide) dL_reads_158 ?_
                    exact ga_lv hR [0, 1, 2, 3, 4, 5, 6, 7, 8, 9, 10, 11] rfl h
              · intro h
                obtain ⟨n, h⟩ := h
                have L88 : ∀ (n : Nat) (v13_121 : Int32) (x_122 : Nat → Int32), lp_L_reads_88 n_a z_92 w_93 v11_97 v12_98 (fun (x_107 : Nat → Int32) => G 3 51 [(a 0, .inl (V.2 0, n_a, .inl x_107)), (b 0, .inl (V.2 0, n_b, .inl y)), (q_1, .inl (V.2 0, 17, .inl z_92)), (q_2, .inl (V.2 0, 17, .inl w_93)), (q_3, .inl (V.2 0, 17, .inl u_94))] 135 [(0, .ref (a 0)), (1, .ref (b 0)), (2, .int p2), (3, .int p3), (4, .ref (q_1)), (5, .ref (q_2)), (6, .ref (q_3)), (7, .int v7_88), (8, .int v8_89), (9, .int v9_90), (11, .int v11_97), (12, .int v12_98)] []) n v13_121 x_122 → G 3 51 [(a 0, .inl (V.2 0, n_a, .inl x_122)), (b 0, .inl (V.2 0, n_b, .inl y)), (q_1, .inl (V.2 0, 17, .inl z_92)), (q_2, .inl (V.2 0, 17, .inl w_93)), (q_3, .inl (V.2 0, 17, .inl u_94))] 88 [(0, .ref (a 0)), (1, .ref (b 0)), (2, .int p2), (3, .int p3), (4, .ref (q_1)), (5, .ref (q_2)), (6, .ref (q_3)), (7, .int v7_88), (8, .int v8_89), (9, .int v9_90), (11, .int v11_97), (12, .int v12_98), (13, .int v13_121)] [] := by
                  intro n
                  induction n with
                  | zero => exact fun _ _ h => False.elim h
                  | succ n ih =>
                    intro v13_121 x_122 h
                    rw [lp_L_reads_88] at h
                    refine ga_iload hR (pc := 88) 12 rfl dL_reads_88 ?_
                    refine ga_aload_n hR (pc := 90) 0 rfl rfl dL_reads_90 ?_
                    refine ga_iconst hR (pc := 91) (v := nI 1) (by decide) dL_reads_91 ?_
                    refine ga_iald hR (pc := 92) 0 rfl h.1 dL_reads_92 ?_
                    replace h := h.2
                    refine ga_icmp_ge hR (pc := 93) 135 (by decide) dL_reads_93 (fun c93 => ?_) (fun c93 => ?_)
                    · replace h := h.1 c93
                      exact ga_lv hR [0, 1, 2, 3, 4, 5, 6, 7, 8, 9, 10, 11] rfl h
                    · replace h := h.2 c93
                      refine ga_aload_n hR (pc := 96) 0 rfl rfl dL_reads_96 ?_
                      refine ga_bipush hR (pc := 97) (v := nI 14) (by decide) dL_reads_97 ?_
                      refine ga_iload hR (pc := 99) 12 rfl dL_reads_99 ?_
                      refine ga_iadd hR (pc := 101) dL_reads_101 ?_
                      refine ga_dup2 hR (pc := 102) rfl rfl dL_reads_102 ?_
                      refine ga_iald hR (pc := 103) 0 rfl h.1 dL_reads_103 ?_
                      replace h := h.2
                      refine ga_aload hR (pc := 104) 5 rfl dL_reads_104 ?_
                      refine ga_iload hR (pc := 106) 10 rfl dL_reads_106 ?_
                      refine ga_iald hR (pc := 108) 3 rfl h.1 dL_reads_108 ?_
                      replace h := h.2
                      refine ga_iload hR (pc := 109) 12 rfl dL_reads_109 ?_
                      refine ga_ishr hR (pc := 111) dL_reads_111 ?_
                      refine ga_iconst hR (pc := 112) (v := nI 1) (by decide) dL_reads_112 ?_
                      refine ga_iand hR (pc := 113) dL_reads_113 ?_
                      refine ga_iconst hR (pc := 114) (v := nI 1) (by decide) dL_reads_114 ?_
                      refine ga_icmp_ne hR (pc := 115) 126 (by decide) dL_reads_115 (fun c115 => ?_) (fun c115 => ?_)
                      · replace h := h.1 c115
                        refine ga_iconst hR (pc := 126) (v := nI 0) (by decide) dL_reads_126 ?_
                        refine ga_ior hR (pc := 127) dL_reads_127 ?_
                        refine ga_topi (fun t_123 et_123 => ?_)
                        replace h := h t_123 et_123
                        refine ga_iast hR (pc := 128) (ws' := [(a 0, .inl (V.2 0, n_a, .inl ((upd x_122 ((nI 14) + v13_121).toNatClampNeg t_123)))), (b 0, .inl (V.2 0, n_b, .inl y)), (q_1, .inl (V.2 0, 17, .inl z_92)), (q_2, .inl (V.2 0, 17, .inl w_93)), (q_3, .inl (V.2 0, 17, .inl u_94))]) 0 rfl h.1 rfl dL_reads_128 ?_
                        replace h := h.2
                        obtain ⟨x_124, ex_124⟩ : ∃ f : Nat → Int32, f = upd x_122 ((nI 14) + v13_121).toNatClampNeg t_123 := ⟨_, rfl⟩
                        refine ga_cast (ws' := [(a 0, .inl (V.2 0, n_a, .inl x_124)), (b 0, .inl (V.2 0, n_b, .inl y)), (q_1, .inl (V.2 0, 17, .inl z_92)), (q_2, .inl (V.2 0, 17, .inl w_93)), (q_3, .inl (V.2 0, 17, .inl u_94))]) (by rw [ex_124]) rfl ?_
                        replace h := h x_124 ex_124
                        obtain ⟨v13_125, ev13_125⟩ : ∃ v : Int32, v = v13_121 + (nI 1) := ⟨_, rfl⟩
                        replace h := h v13_125 ev13_125
                        refine ga_iinc hR (pc := 129) (lv' := [(13, .int v13_125), (0, .ref (a 0)), (1, .ref (b 0)), (2, .int p2), (3, .int p3), (4, .ref (q_1)), (5, .ref (q_2)), (6, .ref (q_3)), (7, .int v7_88), (8, .int v8_89), (9, .int v9_90), (11, .int v11_97), (12, .int v12_98)]) 12 (by decide) rfl ev13_125 (by decide) rfl dL_reads_129 ?_
                        refine ga_goto hR (pc := 132) 88 (by decide) dL_reads_132 ?_
                        exact ga_lv hR [1, 2, 3, 4, 5, 6, 7, 8, 9, 10, 11, 12, 0] rfl (ih _ _ h)
                      · replace h := h.2 c115
                        refine ga_aload hR (pc := 118) 4 rfl dL_reads_118 ?_
                        refine ga_iload hR (pc := 120) 11 rfl dL_reads_120 ?_
                        refine ga_iald hR (pc := 122) 2 rfl h.1 dL_reads_122 ?_
                        replace h := h.2
                        refine ga_goto hR (pc := 123) 127 (by decide) dL_reads_123 ?_
                        refine ga_ior hR (pc := 127) dL_reads_127 ?_
                        refine ga_topi (fun t_126 et_126 => ?_)
                        replace h := h t_126 et_126
                        refine ga_iast hR (pc := 128) (ws' := [(a 0, .inl (V.2 0, n_a, .inl ((upd x_122 ((nI 14) + v13_121).toNatClampNeg t_126)))), (b 0, .inl (V.2 0, n_b, .inl y)), (q_1, .inl (V.2 0, 17, .inl z_92)), (q_2, .inl (V.2 0, 17, .inl w_93)), (q_3, .inl (V.2 0, 17, .inl u_94))]) 0 rfl h.1 rfl dL_reads_128 ?_
                        replace h := h.2
                        obtain ⟨x_127, ex_127⟩ : ∃ f : Nat → Int32, f = upd x_122 ((nI 14) + v13_121).toNatClampNeg t_126 := ⟨_, rfl⟩
                        refine ga_cast (ws' := [(a 0, .inl (V.2 0, n_a, .inl x_127)), (b 0, .inl (V.2 0, n_b, .inl y)), (q_1, .inl (V.2 0, 17, .inl z_92)), (q_2, .inl (V.2 0, 17, .inl w_93)), (q_3, .inl (V.2 0, 17, .inl u_94))]) (by rw [ex_127]) rfl ?_
                        replace h := h x_127 ex_127
                        obtain ⟨v13_128, ev13_128⟩ : ∃ v : Int32, v = v13_121 + (nI 1) := ⟨_, rfl⟩
                        replace h := h v13_128 ev13_128
                        refine ga_iinc hR (pc := 129) (lv' := [(13, .int v13_128), (0, .ref (a 0)), (1, .ref (b 0)), (2, .int p2), (3, .int p3), (4, .ref (q_1)), (5, .ref (q_2)), (6, .ref (q_3)), (7, .int v7_88), (8, .int v8_89), (9, .int v9_90), (11, .int v11_97), (12, .int v12_98)]) 12 (by decide) rfl ev13_128 (by decide) rfl dL_reads_129 ?_
                        refine ga_goto hR (pc := 132) 88 (by decide) dL_reads_132 ?_
                        exact ga_lv hR [1, 2, 3, 4, 5, 6, 7, 8, 9, 10, 11, 12, 0] rfl (ih _ _ h)
                exact ga_lv hR [3, 4, 5, 6, 7, 8, 9, 10, 11, 12, 2, 1, 0] rfl (L88 n _ _ h)
          · intro h
            refine ga_icmp_eq hR (pc := 56) 66 (by decide) dL_reads_56 (fun c56 => ?_) (fun c56 => ?_)
            · replace h := h.1 c56
              exact ga_lv hR [1, 2, 3, 4, 5, 6, 7, 8, 9, 10, 0] rfl h
            · replace h := h.2 c56
              refine ga_iload hR (pc := 59) 0 rfl dL_reads_59 ?_
              refine ga_bipush hR (pc := 61) (v := nI 124) (by decide) dL_reads_61 ?_
              refine ga_icmp_ne hR (pc := 63) 257 (by decide) dL_reads_63 (fun c63 => ?_) (fun c63 => ?_)
              · replace h := h.1 c63
                refine ga_iload hR (pc := 257) 0 rfl dL_reads_257 ?_
                refine ga_bipush hR (pc := 259) (v := nI 42) (by decide) dL_reads_259 ?_
                have hJ := h (G 3 51 [(a 0, .inl (V.2 0, n_a, .inl x_91)), (b 0, .inl (V.2 0, n_b, .inl y)), (q_1, .inl (V.2 0, 17, .inl z_92)), (q_2, .inl (V.2 0, 17, .inl w_93)), (q_3, .inl (V.2 0, 17, .inl u_94))] 278 [(0, .ref (a 0)), (1, .ref (b 0)), (2, .int p2), (3, .int p3), (4, .ref (q_1)), (5, .ref (q_2)), (6, .ref (q_3)), (7, .int v7_88), (8, .int v8_89), (9, .int v9_90), (10, .int v10_95)] [])
                refine ga_bind hJ ?_ ?_
                · intro h
                  show G 3 51 [(a 0, .inl (V.2 0, n_a, .inl x_91)), (b 0, .inl (V.2 0, n_b, .inl y)), (q_1, .inl (V.2 0, 17, .inl z_92)), (q_2, .inl (V.2 0, 17, .inl w_93)), (q_3, .inl (V.2 0, 17, .inl u_94))] 278 [(0, .ref (a 0)), (1, .ref (b 0)), (2, .int p2), (3, .int p3), (4, .ref (q_1)), (5, .ref (q_2)), (6, .ref (q_3)), (7, .int v7_88), (8, .int v8_89), (9, .int v9_90), (10, .int v10_95)] []
                  refine ga_iload_n hR (pc := 278) 3 rfl rfl dL_reads_278 ?_
                  refine ga_istore hR (pc := 279) (lv' := [(11, .int p3), (0, .ref (a 0)), (1, .ref (b 0)), (2, .int p2), (3, .int p3), (4, .ref (q_1)), (5, .ref (q_2)), (6, .ref (q_3)), (7, .int v7_88), (8, .int v8_89), (9, .int v9_90), (10, .int v10_95)]) (by decide) rfl dL_reads_279 ?_
                  have hJ := h (fun (x_130 : Nat → Int32) => G 3 51 [(a 0, .inl (V.2 0, n_a, .inl x_130)), (b 0, .inl (V.2 0, n_b, .inl y)), (q_1, .inl (V.2 0, 17, .inl z_92)), (q_2, .inl (V.2 0, 17, .inl w_93)), (q_3, .inl (V.2 0, 17, .inl u_94))] 339 [(0, .ref (a 0)), (1, .ref (b 0)), (2, .int p2), (3, .int p3), (4, .ref (q_1)), (5, .ref (q_2)), (6, .ref (q_3)), (7, .int v7_88), (8, .int v8_89), (9, .int v9_90), (10, .int v10_95)] [])
                  refine ga_bind hJ ?_ ?_
                  · intro x_130 h
                    show G 3 51 [(a 0, .inl (V.2 0, n_a, .inl x_130)), (b 0, .inl (V.2 0, n_b, .inl y)), (q_1, .inl (V.2 0, 17, .inl z_92)), (q_2, .inl (V.2 0, 17, .inl w_93)), (q_3, .inl (V.2 0, 17, .inl u_94))] 339 [(0, .ref (a 0)), (1, .ref (b 0)), (2, .int p2), (3, .int p3), (4, .ref (q_1)), (5, .ref (q_2)), (6, .ref (q_3)), (7, .int v7_88), (8, .int v8_89), (9, .int v9_90), (10, .int v10_95)] []
                    refine ga_aload hR (pc := 339) 6 rfl dL_reads_339 ?_
                    refine ga_iload hR (pc := 341) 7 rfl dL_reads_341 ?_
                    refine ga_iconst hR (pc := 343) (v := nI 1) (by decide) dL_reads_343 ?_
                    refine ga_isub hR (pc := 344) dL_reads_344 ?_
                    refine ga_dup2 hR (pc := 345) rfl rfl dL_reads_345 ?_
                    refine ga_iald hR (pc := 346) 4 rfl h.1 dL_reads_346 ?_
                    replace h := h.2
                    refine ga_iload hR (pc := 347) 10 rfl dL_reads_347 ?_
                    refine ga_bipush hR (pc := 349) (v := nI 43) (by decide) dL_reads_349 ?_
                    refine ga_icmp_ne hR (pc := 351) 358 (by decide) dL_reads_351 (fun c351 => ?_) (fun c351 => ?_)
                    · replace h := h.1 c351
                      refine ga_iconst hR (pc := 358) (v := nI 1) (by decide) dL_reads_358 ?_
                      refine ga_ior hR (pc := 359) dL_reads_359 ?_
                      refine ga_topi (fun t_132 et_132 => ?_)
                      replace h := h t_132 et_132
                      refine ga_iast hR (pc := 360) (ws' := [(a 0, .inl (V.2 0, n_a, .inl x_130)), (b 0, .inl (V.2 0, n_b, .inl y)), (q_1, .inl (V.2 0, 17, .inl z_92)), (q_2, .inl (V.2 0, 17, .inl w_93)), (q_3, .inl (V.2 0, 17, .inl ((upd u_94 (v7_88 - (nI 1)).toNatClampNeg t_132))))]) 4 rfl h.1 rfl dL_reads_360 ?_
                      replace h := h.2
                      obtain ⟨u_133, eu_133⟩ : ∃ f : Nat → Int32, f = upd u_94 (v7_88 - (nI 1)).toNatClampNeg t_132 := ⟨_, rfl⟩
                      refine ga_cast (ws' := [(a 0, .inl (V.2 0, n_a, .inl x_130)), (b 0, .inl (V.2 0, n_b, .inl y)), (q_1, .inl (V.2 0, 17, .inl z_92)), (q_2, .inl (V.2 0, 17, .inl w_93)), (q_3, .inl (V.2 0, 17, .inl u_133))]) (by rw [eu_133]) rfl ?_
                      replace h := h u_133 eu_133
                      refine ga_goto hR (pc := 361) 394 (by decide) dL_reads_361 ?_
                      obtain ⟨v9_134, ev9_134⟩ : ∃ v : Int32, v = v9_90 + (-1) := ⟨_, rfl⟩
                      replace h := h v9_134 ev9_134
                      refine ga_iinc hR (pc := 394) (lv' := [(9, .int v9_134), (0, .ref (a 0)), (1, .ref (b 0)), (2, .int p2), (3, .int p3), (4, .ref (q_1)), (5, .ref (q_2)), (6, .ref (q_3)), (7, .int v7_88), (8, .int v8_89), (10, .int v10_95)]) 9 (by decide) rfl ev9_134 (by decide) rfl dL_reads_394 ?_
                      refine ga_goto hR (pc := 397) 36 (by decide) dL_reads_397 ?_
                      exact ga_lv hR [1, 2, 3, 4, 5, 6, 7, 8, 9, 0] rfl (ih _ _ _ _ _ _ _ h)
                    · replace h := h.2 c351
                      refine ga_iconst hR (pc := 354) (v := nI 0) (by decide) dL_reads_354 ?_
                      refine ga_goto hR (pc := 355) 359 (by decide) dL_reads_355 ?_
                      refine ga_ior hR (pc := 359) dL_reads_359 ?_
                      refine ga_topi (fun t_135 et_135 => ?_)
                      replace h := h t_135 et_135
                      refine ga_iast hR (pc := 360) (ws' := [(a 0, .inl (V.2 0, n_a, .inl x_130)), (b 0, .inl (V.2 0, n_b, .inl y)), (q_1, .inl (V.2 0, 17, .inl z_92)), (q_2, .inl (V.2 0, 17, .inl w_93)), (q_3, .inl (V.2 0, 17, .inl ((upd u_94 (v7_88 - (nI 1)).toNatClampNeg t_135))))]) 4 rfl h.1 rfl dL_reads_360 ?_
                      replace h := h.2
                      obtain ⟨u_136, eu_136⟩ : ∃ f : Nat → Int32, f = upd u_94 (v7_88 - (nI 1)).toNatClampNeg t_135 := ⟨_, rfl⟩
                      refine ga_cast (ws' := [(a 0, .inl (V.2 0, n_a, .inl x_130)), (b 0, .inl (V.2 0, n_b, .inl y)), (q_1, .inl (V.2 0, 17, .inl z_92)), (q_2, .inl (V.2 0, 17, .inl w_93)), (q_3, .inl (V.2 0, 17, .inl u_136))]) (by rw [eu_136]) rfl ?_
                      replace h := h u_136 eu_136
                      refine ga_goto hR (pc := 361) 394 (by decide) dL_reads_361 ?_
                      obtain ⟨v9_137, ev9_137⟩ : ∃ v : Int32, v = v9_90 + (-1) := ⟨_, rfl⟩
                      replace h := h v9_137 ev9_137
                      refine ga_iinc hR (pc := 394) (lv' := [(9, .int v9_137), (0, .ref (a 0)), (1, .ref (b 0)), (2, .int p2), (3, .int p3), (4, .ref (q_1)), (5, .ref (q_2)), (6, .ref (q_3)), (7, .int v7_88), (8, .int v8_89), (10, .int v10_95)]) 9 (by decide) rfl ev9_137 (by decide) rfl dL_reads_394 ?_
                      refine ga_goto hR (pc := 397) 36 (by decide) dL_reads_397 ?_
                      exact ga_lv hR [1, 2, 3, 4, 5, 6, 7, 8, 9, 0] rfl (ih _ _ _ _ _ _ _ h)
                  · intro h
                    obtain ⟨n, h⟩ := h
                    have L281 : ∀ (n : Nat) (v11_138 : Int32) (x_139 : Nat → Int32), lp_L_reads_281 n_a z_92 w_93 v7_88 v10_95 (fun (x_130 : Nat → Int32) => G 3 51 [(a 0, .inl (V.2 0, n_a, .inl x_130)), (b 0, .inl (V.2 0, n_b, .inl y)), (q_1, .inl (V.2 0, 17, .inl z_92)), (q_2, .inl (V.2 0, 17, .inl w_93)), (q_3, .inl (V.2 0, 17, .inl u_94))] 339 [(0, .ref (a 0)), (1, .ref (b 0)), (2, .int p2), (3, .int p3), (4, .ref (q_1)), (5, .ref (q_2)), (6, .ref (q_3)), (7, .int v7_88), (8, .int v8_89), (9, .int v9_90), (10, .int v10_95)] []) n v11_138 x_139 → G 3 51 [(a 0, .inl (V.2 0, n_a, .inl x_139)), (b 0, .inl (V.2 0, n_b, .inl y)), (q_1, .inl (V.2 0, 17, .inl z_92)), (q_2, .inl (V.2 0, 17, .inl w_93)), (q_3, .inl (V.2 0, 17, .inl u_94))] 281 [(0, .ref (a 0)), (1, .ref (b 0)), (2, .int p2), (3, .int p3), (4, .ref (q_1)), (5, .ref (q_2)), (6, .ref (q_3)), (7, .int v7_88), (8, .int v8_89), (9, .int v9_90), (10, .int v10_95), (11, .int v11_138)] [] := by
                      intro n
                      induction n with
                      | zero => exact fun _ _ h => False.elim h
                      | succ n ih =>
                        intro v11_138 x_139 h
                        rw [lp_L_reads_281] at h
                        refine ga_iload hR (pc := 281) 11 rfl dL_reads_281 ?_
                        refine ga_aload_n hR (pc := 283) 0 rfl rfl dL_reads_283 ?_
                        refine ga_iconst hR (pc := 284) (v := nI 1) (by decide) dL_reads_284 ?_
                        refine ga_iald hR (pc := 285) 0 rfl h.1 dL_reads_285 ?_
                        replace h := h.2
                        refine ga_icmp_ge hR (pc := 286) 339 (by decide) dL_reads_286 (fun c286 => ?_) (fun c286 => ?_)
                        · replace h := h.1 c286
                          exact ga_lv hR [0, 1, 2, 3, 4, 5, 6, 7, 8, 9, 10] rfl h
                        · replace h := h.2 c286
                          refine ga_iload hR (pc := 289) 10 rfl dL_reads_289 ?_
                          refine ga_bipush hR (pc := 291) (v := nI 63) (by decide) dL_reads_291 ?_
                          refine ga_icmp_eq hR (pc := 293) 339 (by decide) dL_reads_293 (fun c293 => ?_) (fun c293 => ?_)
                          · replace h := h.1 c293
                            exact ga_lv hR [0, 1, 2, 3, 4, 5, 6, 7, 8, 9, 10] rfl h
                          · replace h := h.2 c293
                            refine ga_aload_n hR (pc := 296) 0 rfl rfl dL_reads_296 ?_
                            refine ga_bipush hR (pc := 297) (v := nI 14) (by decide) dL_reads_297 ?_
                            refine ga_iload hR (pc := 299) 11 rfl dL_reads_299 ?_
                            refine ga_iadd hR (pc := 301) dL_reads_301 ?_
                            refine ga_dup2 hR (pc := 302) rfl rfl dL_reads_302 ?_
                            refine ga_iald hR (pc := 303) 0 rfl h.1 dL_reads_303 ?_
                            replace h := h.2
                            refine ga_aload hR (pc := 304) 5 rfl dL_reads_304 ?_
                            refine ga_iload hR (pc := 306) 7 rfl dL_reads_306 ?_
                            refine ga_iconst hR (pc := 308) (v := nI 1) (by decide) dL_reads_308 ?_
                            refine ga_isub hR (pc := 309) dL_reads_309 ?_
                            refine ga_iald hR (pc := 310) 3 rfl h.1 dL_reads_310 ?_
                            replace h := h.2
                            refine ga_iload hR (pc := 311) 11 rfl dL_reads_311 ?_
                            refine ga_ishr hR (pc := 313) dL_reads_313 ?_
                            refine ga_iconst hR (pc := 314) (v := nI 1) (by decide) dL_reads_314 ?_
                            refine ga_iand hR (pc := 315) dL_reads_315 ?_
                            refine ga_iconst hR (pc := 316) (v := nI 1) (by decide) dL_reads_316 ?_
                            refine ga_icmp_ne hR (pc := 317) 330 (by decide) dL_reads_317 (fun c317 => ?_) (fun c317 => ?_)
                            · replace h := h.1 c317
                              refine ga_iconst hR (pc := 330) (v := nI 0) (by decide) dL_reads_330 ?_
                              refine ga_ior hR (pc := 331) dL_reads_331 ?_
                              refine ga_topi (fun t_140 et_140 => ?_)
                              replace h := h t_140 et_140
                              refine ga_iast hR (pc := 332) (ws' := [(a 0, .inl (V.2 0, n_a, .inl ((upd x_139 ((nI 14) + v11_138).toNatClampNeg t_140)))), (b 0, .inl (V.2 0, n_b, .inl y)), (q_1, .inl (V.2 0, 17, .inl z_92)), (q_2, .inl (V.2 0, 17, .inl w_93)), (q_3, .inl (V.2 0, 17, .inl u_94))]) 0 rfl h.1 rfl dL_reads_332 ?_
                              replace h := h.2
                              obtain ⟨x_141, ex_141⟩ : ∃ f : Nat → Int32, f = upd x_139 ((nI 14) + v11_138).toNatClampNeg t_140 := ⟨_, rfl⟩
                              refine ga_cast (ws' := [(a 0, .inl (V.2 0, n_a, .inl x_141)), (b 0, .inl (V.2 0, n_b, .inl y)), (q_1, .inl (V.2 0, 17, .inl z_92)), (q_2, .inl (V.2 0, 17, .inl w_93)), (q_3, .inl (V.2 0, 17, .inl u_94))]) (by rw [ex_141]) rfl ?_
                              replace h := h x_141 ex_141
                              obtain ⟨v11_142, ev11_142⟩ : ∃ v : Int32, v = v11_138 + (nI 1) := ⟨_, rfl⟩
                              replace h := h v11_142 ev11_142
                              refine ga_iinc hR (pc := 333) (lv' := [(11, .int v11_142), (0, .ref (a 0)), (1, .ref (b 0)), (2, .int p2), (3, .int p3), (4, .ref (q_1)), (5, .ref (q_2)), (6, .ref (q_3)), (7, .int v7_88), (8, .int v8_89), (9, .int v9_90), (10, .int v10_95)]) 11 (by decide) rfl ev11_142 (by decide) rfl dL_reads_333 ?_
                              refine ga_goto hR (pc := 336) 281 (by decide) dL_reads_336 ?_
                              exact ga_lv hR [1, 2, 3, 4, 5, 6, 7, 8, 9, 10, 11, 0] rfl (ih _ _ h)
                            · replace h := h.2 c317
                              refine ga_aload hR (pc := 320) 4 rfl dL_reads_320 ?_
                              refine ga_iload hR (pc := 322) 7 rfl dL_reads_322 ?_
                              refine ga_iconst hR (pc := 324) (v := nI 1) (by decide) dL_reads_324 ?_
                              refine ga_isub hR (pc := 325) dL_reads_325 ?_
                              refine ga_iald hR (pc := 326) 2 rfl h.1 dL_reads_326 ?_
                              replace h := h.2
                              refine ga_goto hR (pc := 327) 331 (by decide) dL_reads_327 ?_
                              refine ga_ior hR (pc := 331) dL_reads_331 ?_
                              refine ga_topi (fun t_143 et_143 => ?_)
                              replace h := h t_143 et_143
                              refine ga_iast hR (pc := 332) (ws' := [(a 0, .inl (V.2 0, n_a, .inl ((upd x_139 ((nI 14) + v11_138).toNatClampNeg t_143)))), (b 0, .inl (V.2 0, n_b, .inl y)), (q_1, .inl (V.2 0, 17, .inl z_92)), (q_2, .inl (V.2 0, 17, .inl w_93)), (q_3, .inl (V.2 0, 17, .inl u_94))]) 0 rfl h.1 rfl dL_reads_332 ?_
                              replace h := h.2
                              obtain ⟨x_144, ex_144⟩ : ∃ f : Nat → Int32, f = upd x_139 ((nI 14) + v11_138).toNatClampNeg t_143 := ⟨_, rfl⟩
                              refine ga_cast (ws' := [(a 0, .inl (V.2 0, n_a, .inl x_144)), (b 0, .inl (V.2 0, n_b, .inl y)), (q_1, .inl (V.2 0, 17, .inl z_92)), (q_2, .inl (V.2 0, 17, .inl w_93)), (q_3, .inl (V.2 0, 17, .inl u_94))]) (by rw [ex_144]) rfl ?_
                              replace h := h x_144 ex_144
                              obtain ⟨v11_145, ev11_145⟩ : ∃ v : Int32, v = v11_138 + (nI 1) := ⟨_, rfl⟩
                              replace h := h v11_145 ev11_145
                              refine ga_iinc hR (pc := 333) (lv' := [(11, .int v11_145), (0, .ref (a 0)), (1, .ref (b 0)), (2, .int p2), (3, .int p3), (4, .ref (q_1)), (5, .ref (q_2)), (6, .ref (q_3)), (7, .int v7_88), (8, .int v8_89), (9, .int v9_90), (10, .int v10_95)]) 11 (by decide) rfl ev11_145 (by decide) rfl dL_reads_333 ?_
                              refine ga_goto hR (pc := 336) 281 (by decide) dL_reads_336 ?_
                              exact ga_lv hR [1, 2, 3, 4, 5, 6, 7, 8, 9, 10, 11, 0] rfl (ih _ _ h)
                    exact ga_lv hR [1, 2, 3, 4, 5, 6, 7, 8, 9, 10, 11, 0] rfl (L281 n _ _ h)
                · intro h
                  refine ga_icmp_eq hR (pc := 261) 278 (by decide) dL_reads_261 (fun c261 => ?_) (fun c261 => ?_)
                  · replace h := h.1 c261
                    exact ga_lv hR [1, 2, 3, 4, 5, 6, 7, 8, 9, 10, 0] rfl h
                  · replace h := h.2 c261
                    refine ga_iload hR (pc := 264) 0 rfl dL_reads_264 ?_
                    refine ga_bipush hR (pc := 266) (v := nI 43) (by decide) dL_reads_266 ?_
                    refine ga_icmp_eq hR (pc := 268) 278 (by decide) dL_reads_268 (fun c268 => ?_) (fun c268 => ?_)
                    · replace h := h.1 c268
                      exact ga_lv hR [1, 2, 3, 4, 5, 6, 7, 8, 9, 10, 0] rfl h
                    · replace h := h.2 c268
                      refine ga_iload hR (pc := 271) 0 rfl dL_reads_271 ?_
                      refine ga_bipush hR (pc := 273) (v := nI 63) (by decide) dL_reads_273 ?_
                      refine ga_icmp_ne hR (pc := 275) 364 (by decide) dL_reads_275 (fun c275 => ?_) (fun c275 => ?_)
                      · replace h := h.1 c275
                        obtain ⟨v8_146, ev8_146⟩ : ∃ v : Int32, v = v8_89 + (-1) := ⟨_, rfl⟩
                        replace h := h v8_146 ev8_146
                        refine ga_iinc hR (pc := 364) (lv' := [(8, .int v8_146), (10, .int v10_95), (0, .ref (a 0)), (1, .ref (b 0)), (2, .int p2), (3, .int p3), (4, .ref (q_1)), (5, .ref (q_2)), (6, .ref (q_3)), (7, .int v7_88), (9, .int v9_90)]) 9 (by decide) rfl ev8_146 (by decide) rfl dL_reads_364 ?_
                        refine ga_aload hR (pc := 367) 6 rfl dL_reads_367 ?_
                        refine ga_iload hR (pc := 369) 9 rfl dL_reads_369 ?_
                        refine ga_iconst hR (pc := 371) (v := nI 1) (by decide) dL_reads_371 ?_
                        refine ga_iload hR (pc := 372) 0 rfl dL_reads_372 ?_
                        refine ga_ishl hR (pc := 374) dL_reads_374 ?_
                        refine ga_topi (fun t_147 et_147 => ?_)
                        replace h := h t_147 et_147
                        refine ga_iast hR (pc := 375) (ws' := [(a 0, .inl (V.2 0, n_a, .inl x_91)), (b 0, .inl (V.2 0, n_b, .inl y)), (q_1, .inl (V.2 0, 17, .inl ((upd z_92 v7_88.toNatClampNeg t_147)))), (q_2, .inl (V.2 0, 17, .inl w_93)), (q_3, .inl (V.2 0, 17, .inl u_94))]) 2 rfl h.1 rfl dL_reads_375 ?_
                        replace h := h.2
                        obtain ⟨z_148, ez_148⟩ : ∃ f : Nat → Int32, f = upd z_92 v7_88.toNatClampNeg t_147 := ⟨_, rfl⟩
                        refine ga_cast (ws' := [(a 0, .inl (V.2 0, n_a, .inl x_91)), (b 0, .inl (V.2 0, n_b, .inl y)), (q_1, .inl (V.2 0, 17, .inl z_148)), (q_2, .inl (V.2 0, 17, .inl w_93)), (q_3, .inl (V.2 0, 17, .inl u_94))]) (by rw [ez_148]) rfl ?_
                        replace h := h z_148 ez_148
                        refine ga_aload hR (pc := 376) 7 rfl dL_reads_376 ?_
                        refine ga_iload hR (pc := 378) 9 rfl dL_reads_378 ?_
                        refine ga_iconst hR (pc := 380) (v := nI 1) (by decide) dL_reads_380 ?_
                        refine ga_iload hR (pc := 381) 0 rfl dL_reads_381 ?_
                        refine ga_ishl hR (pc := 383) dL_reads_383 ?_
                        refine ga_topi (fun t_149 et_149 => ?_)
                        replace h := h t_149 et_149
                        refine ga_iast hR (pc := 384) (ws' := [(a 0, .inl (V.2 0, n_a, .inl x_91)), (b 0, .inl (V.2 0, n_b, .inl y)), (q_1, .inl (V.2 0, 17, .inl z_148)), (q_2, .inl (V.2 0, 17, .inl ((upd w_93 v7_88.toNatClampNeg t_149)))), (q_3, .inl (V.2 0, 17, .inl u_94))]) 3 rfl h.1 rfl dL_reads_384 ?_
                        replace h := h.2
                        obtain ⟨w_150, ew_150⟩ : ∃ f : Nat → Int32, f = upd w_93 v7_88.toNatClampNeg t_149 := ⟨_, rfl⟩
                        refine ga_cast (ws' := [(a 0, .inl (V.2 0, n_a, .inl x_91)), (b 0, .inl (V.2 0, n_b, .inl y)), (q_1, .inl (V.2 0, 17, .inl z_148)), (q_2, .inl (V.2 0, 17, .inl w_150)), (q_3, .inl (V.2 0, 17, .inl u_94))]) (by rw [ew_150]) rfl ?_
                        replace h := h w_150 ew_150
                        refine ga_aload hR (pc := 385) 8 rfl dL_reads_385 ?_
                        refine ga_iload hR (pc := 387) 9 rfl dL_reads_387 ?_
                        refine ga_iconst hR (pc := 389) (v := nI 0) (by decide) dL_reads_389 ?_
                        refine ga_iast hR (pc := 390) (ws' := [(a 0, .inl (V.2 0, n_a, .inl x_91)), (b 0, .inl (V.2 0, n_b, .inl y)), (q_1, .inl (V.2 0, 17, .inl z_148)), (q_2, .inl (V.2 0, 17, .inl w_150)), (q_3, .inl (V.2 0, 17, .inl ((upd u_94 v7_88.toNatClampNeg (nI 0)))))]) 4 rfl h.1 rfl dL_reads_390 ?_
                        replace h := h.2
                        obtain ⟨u_151, eu_151⟩ : ∃ f : Nat → Int32, f = upd u_94 v7_88.toNatClampNeg (nI 0) := ⟨_, rfl⟩
                        refine ga_cast (ws' := [(a 0, .inl (V.2 0, n_a, .inl x_91)), (b 0, .inl (V.2 0, n_b, .inl y)), (q_1, .inl (V.2 0, 17, .inl z_148)), (q_2, .inl (V.2 0, 17, .inl w_150)), (q_3, .inl (V.2 0, 17, .inl u_151))]) (by rw [eu_151]) rfl ?_
                        replace h := h u_151 eu_151
                        obtain ⟨v7_152, ev7_152⟩ : ∃ v : Int32, v = v7_88 + (nI 1) := ⟨_, rfl⟩
                        replace h := h v7_152 ev7_152
                        refine ga_iinc hR (pc := 391) (lv' := [(7, .int v7_152), (8, .int v8_146), (10, .int v10_95), (0, .ref (a 0)), (1, .ref (b 0)), (2, .int p2), (3, .int p3), (4, .ref (q_1)), (5, .ref (q_2)), (6, .ref (q_3)), (9, .int v9_90)]) 9 (by decide) rfl ev7_152 (by decide) rfl dL_reads_391 ?_
                        obtain ⟨v9_153, ev9_153⟩ : ∃ v : Int32, v = v9_90 + (-1) := ⟨_, rfl⟩
                        replace h := h v9_153 ev9_153
                        refine ga_iinc hR (pc := 394) (lv' := [(9, .int v9_153), (7, .int v7_152), (8, .int v8_146), (10, .int v10_95), (0, .ref (a 0)), (1, .ref (b 0)), (2, .int p2), (3, .int p3), (4, .ref (q_1)), (5, .ref (q_2)), (6, .ref (q_3))]) 10 (by decide) rfl ev9_153 (by decide) rfl dL_reads_394 ?_
                        refine ga_goto hR (pc := 397) 36 (by decide) dL_reads_397 ?_
                        exact ga_lv hR [4, 5, 6, 7, 8, 9, 10, 1, 2, 0] rfl (ih _ _ _ _ _ _ _ h)
                      · replace h := h.2 c275
                        exact ga_lv hR [1, 2, 3, 4, 5, 6, 7, 8, 9, 10, 0] rfl h
              · replace h := h.2 c63
                exact ga_lv hR [1, 2, 3, 4, 5, 6, 7, 8, 9, 10, 0] rfl h
    exact ga_lv hR [6, 7, 8, 9, 5, 4, 3, 2, 1, 0] rfl (L36 n _ _ _ _ _ _ _ h)

def rm_L_draws : Room := { frames := 2, cells := 16, slots := 220, locals := 41 }
theorem hd_L_drawsS : yL_draws.cls ≠ "java/lang/invoke/MethodHandle" ∧ yL_draws.cls ≠ "java/lang/invoke/VarHandle" ∧ (parseMethodDescriptor yL_draws.desc).map (fun d => d.parameters.length) = some 4 := by decide +kernel
set_option maxHeartbeats 4000000 in
set_option maxRecDepth 100000 in
theorem c_L_draws (V : ga_V) (b0 : Nat) (L : Nat) (xs : Nat → Int32) (a : Nat → Nat) (b : Nat → Nat) (c : Nat → Nat) (n_a : Nat) (n_b : Nat) (n_c : Nat) (x : Nat → Int32) (y : Nat → Int32) (z : Nat → Int32) (K : (Nat → Int32) → (Nat → Int32) → (Nat → Int32) → Prop) (h : wp_L_draws L xs n_a n_b n_c x y z K) : gs_C V b0 L xs yL_draws wsL_draws rm_L_draws [.ref b0, .ref (a 0), .ref (b 0), .ref (c 0)] [(a 0, .inl (V.2 0, n_a, .inl x)), (b 0, .inl (V.2 0, n_b, .inl y)), (c 0, .inl (V.2 0, n_c, .inl z))] 16 220 (ga_Fv (fun (u : (Nat → Int32) × (Nat → Int32) × (Nat → Int32)) => [(a 0, .inl (V.2 0, n_a, .inl u.1)), (b 0, .inl (V.2 0, n_b, .inl u.2.1)), (c 0, .inl (V.2 0, n_c, .inl u.2.2))]) (fun u => K u.1 u.2.1 u.2.2)) := by
  refine gs_met (cc := cL_draws) (maxL := 16) (rt := none) (by decide) rfl [(0, .ref b0), (1, .ref (a 0)), (2, .ref (b 0)), (3, .ref (c 0))] rfl (Nat.le_of_ble_eq_true rfl) ?_
  intro G hSc hE
  have hR := hSc.r
  unfold wp_L_draws at h
  refine ga_aload_n hR (pc := 0) 0 rfl rfl dL_draws_0 ?_
  refine ga_iconst hR (pc := 1) (v := nI 0) (by decide) dL_draws_1 ?_
  refine gs_callS hSc (pc := 2) (As := [.ref b0, .int (nI 0)]) (rest := []) (st0 := [.int (nI 0), .ref b0]) 2 (c_L_cell V b0 L xs (nI 0) _ h) (ga_same_i fun _ => rfl) gL_draws_L_cell rfl rfl rfl hd_L_cellS ⟨Nat.le_of_ble_eq_true rfl, Nat.le_of_ble_eq_true rfl⟩ rfl rfl (Nat.le_of_ble_eq_true rfl) ⟨Nat.le_of_ble_eq_true rfl, Nat.le_of_ble_eq_true rfl⟩ [] rfl rfl dL_draws_2 ?_
  rintro _ _ ⟨r_1, ⟨⟩, rfl, rfl, h⟩
  refine ga_to [(a 0, .inl (V.2 0, n_a, .inl x)), (b 0, .inl (V.2 0, n_b, .inl y)), (c 0, .inl (V.2 0, n_c, .inl z))] [.int r_1] rfl rfl ?_
  try dsimp only at h
  refine ga_istore hR (pc := 5) (lv' := [(4, .int r_1), (0, .ref b0), (1, .ref (a 0)), (2, .ref (b 0)), (3, .ref (c 0))]) (by decide) rfl dL_draws_5 ?_
  refine ga_iconst hR (pc := 7) (v := nI 0) (by decide) dL_draws_7 ?_
  refine ga_istore hR (pc := 8) (lv' := [(5, .int (nI 0)), (4, .int r_1), (0, .ref b0), (1, .ref (a 0)), (2, .ref (b 0)), (3, .ref (c 0))]) (by decide) rfl dL_draws_8 ?_
  have hJ := h (fun (x_2 : Nat → Int32) => G 0 0 [(a 0, .inl (V.2 0, n_a, .inl x_2)), (b 0, .inl (V.2 0, n_b, .inl y)), (c 0, .inl (V.2 0, n_c, .inl z))] 28 [(0, .ref b0), (1, .ref (a 0)), (2, .ref (b 0)), (3, .ref (c 0)), (4, .int r_1)] [])
  refine ga_bind hJ ?_ ?_
  · intro x_2 h
    show G 0 0 [(a 0, .inl (V.2 0, n_a, .inl x_2)), (b 0, .inl (V.2 0, n_b, .inl y)), (c 0, .inl (V.2 0, n_c, .inl z))] 28 [(0, .ref b0), (1, .ref (a 0)), (2, .ref (b 0)), (3, .ref (c 0)), (4, .int r_1)] []
    refine ga_iconst hR (pc := 28) (v := nI 0) (by decide) dL_draws_28 ?_
    refine ga_istore hR (pc := 29) (lv' := [(5, .int (nI 0)), (0, .ref b0), (1, .ref (a 0)), (2, .ref (b 0)), (3, .ref (c 0)), (4, .int r_1)]) (by decide) rfl dL_draws_29 ?_
    have hJ := h (fun (z_4 : Nat → Int32) => G 0 0 [(a 0, .inl (V.2 0, n_a, .inl x_2)), (b 0, .inl (V.2 0, n_b, .inl y)), (c 0, .inl (V.2 0, n_c, .inl z_4))] 49 [(0, .ref b0), (1, .ref (a 0)), (2, .ref (b 0)), (3, .ref (c 0)), (4, .int r_1)] [])
    refine ga_bind hJ ?_ ?_
    · intro z_4 h
      show G 0 0 [(a 0, .inl (V.2 0, n_a, .inl x_2)), (b 0, .inl (V.2 0, n_b, .inl y)), (c 0, .inl (V.2 0, n_c, .inl z_4))] 49 [(0, .ref b0), (1, .ref (a 0)), (2, .ref (b 0)), (3, .ref (c 0)), (4, .int r_1)] []
      refine ga_aload_n hR (pc := 49) 1 rfl rfl dL_draws_49 ?_
      refine ga_iconst hR (pc := 50) (v := nI 0) (by decide) dL_draws_50 ?_
      refine ga_iconst hR (pc := 51) (v := nI 1) (by decide) dL_draws_51 ?_
      refine ga_iload hR (pc := 52) 4 rfl dL_draws_52 ?_
      refine ga_iconst hR (pc := 54) (v := nI 3) (by decide) dL_draws_54 ?_
      refine ga_callS hR (pc := 55) (As := [.int r_1, .int (nI 3)]) (rest := [.int (nI 1), .int (nI 0), .ref (a 0)]) (st0 := [.int (nI 3), .int r_1, .int (nI 1), .int (nI 0), .ref (a 0)]) 2 (c_L_low V r_1 (nI 3) _ h) (ga_same_i fun _ => rfl) gL_draws_L_low rfl rfl rfl hd_L_lowS ⟨Nat.le_of_ble_eq_true rfl, Nat.le_of_ble_eq_true rfl⟩ rfl rfl (Nat.le_of_ble_eq_true rfl) ⟨Nat.le_of_ble_eq_true rfl, Nat.le_of_ble_eq_true rfl⟩ [] rfl rfl dL_draws_55 ?_
      rintro _ _ ⟨r_6, ⟨⟩, rfl, rfl, h⟩
      refine ga_to [(a 0, .inl (V.2 0, n_a, .inl x_2)), (b 0, .inl (V.2 0, n_b, .inl y)), (c 0, .inl (V.2 0, n_c, .inl z_4))] [.int r_6, .int (nI 1), .int (nI 0), .ref (a 0)] rfl rfl ?_
      try dsimp only at h
      refine ga_iadd hR (pc := 58) dL_draws_58 ?_
      refine ga_topi (fun t_7 et_7 => ?_)
      replace h := h t_7 et_7
      refine ga_iast hR (pc := 59) (ws' := [(a 0, .inl (V.2 0, n_a, .inl ((upd x_2 (nI 0).toNatClampNeg t_7)))), (b 0, .inl (V.2 0, n_b, .inl y)), (c 0, .inl (V.2 0, n_c, .inl z_4))]) 0 rfl h.1 rfl dL_draws_59 ?_
      replace h := h.2
      obtain ⟨x_8, ex_8⟩ : ∃ f : Nat → Int32, f = upd x_2 (nI 0).toNatClampNeg t_7 := ⟨_, rfl⟩
      refine ga_cast (ws' := [(a 0, .inl (V.2 0, n_a, .inl x_8)), (b 0, .inl (V.2 0, n_b, .inl y)), (c 0, .inl (V.2 0, n_c, .inl z_4))]) (by rw [ex_8]) rfl ?_
      replace h := h x_8 ex_8
      refine ga_iconst hR (pc := 60) (v := nI 0) (by decide) dL_draws_60 ?_
      refine ga_istore hR (pc := 61) (lv' := [(5, .int (nI 0)), (0, .ref b0), (1, .ref (a 0)), (2, .ref (b 0)), (3, .ref (c 0)), (4, .int r_1)]) (by decide) rfl dL_draws_61 ?_
      have hJ := h (fun (x_9 : Nat → Int32) (y_10 : Nat → Int32) (z_11 : Nat → Int32) => G 16 220 [(a 0, .inl (V.2 0, n_a, .inl x_9)), (b 0, .inl (V.2 0, n_b, .inl y_10)), (c 0, .inl (V.2 0, n_c, .inl z_11))] 493 [(0, .ref b0), (3, .ref (c 0)), (4, .int r_1)] [])
      refine ga_bind hJ ?_ ?_
      · intro x_9 y_10 z_11 h
        show G 16 220 [(a 0, .inl (V.2 0, n_a, .inl x_9)), (b 0, .inl (V.2 0, n_b, .inl y_10)), (c 0, .inl (V.2 0, n_c, .inl z_11))] 493 [(0, .ref b0), (3, .ref (c 0)), (4, .int r_1)] []
        refine ga_iconst hR (pc := 493) (v := nI 0) (by decide) dL_draws_493 ?_
        refine ga_istore hR (pc := 494) (lv' := [(5, .int (nI 0)), (0, .ref b0), (3, .ref (c 0)), (4, .int r_1)]) (by decide) rfl dL_draws_494 ?_
        have hJ := h (fun (z_13 : Nat → Int32) => G 16 220 [(a 0, .inl (V.2 0, n_a, .inl x_9)), (b 0, .inl (V.2 0, n_b, .inl y_10)), (c 0, .inl (V.2 0, n_c, .inl z_13))] 558 [(0, .ref b0), (3, .ref (c 0)), (4, .int r_1)] [])
        refine ga_bind hJ ?_ ?_
        · intro z_13 h
          show G 16 220 [(a 0, .inl (V.2 0, n_a, .inl x_9)), (b 0, .inl (V.2 0, n_b, .inl y_10)), (c 0, .inl (V.2 0, n_c, .inl z_13))] 558 [(0, .ref b0), (3, .ref (c 0)), (4, .int r_1)] []
          refine ga_aload_n hR (pc := 558) 1 rfl rfl dL_draws_558 ?_
          refine ga_bipush hR (pc := 559) (v := nI 30) (by decide) dL_draws_559 ?_
          refine ga_iload hR (pc := 561) 2 rfl dL_draws_561 ?_
          refine ga_bipush hR (pc := 563) (v := nI 9) (by decide) dL_draws_563 ?_
          refine ga_ishr hR (pc := 565) dL_draws_565 ?_
          refine ga_iload hR (pc := 566) 2 rfl dL_draws_566 ?_
          refine ga_bipush hR (pc := 568) (v := nI 14) (by decide) dL_draws_568 ?_
          refine ga_ishr hR (pc := 570) dL_draws_570 ?_
          refine ga_iconst hR (pc := 571) (v := nI 5) (by decide) dL_draws_571 ?_
          refine ga_callS hR (pc := 572) (As := [.int (r_1 >>> ((nI 14) &&& 31)), .int (nI 5)]) (rest := [.int (r_1 >>> ((nI 9) &&& 31)), .int (nI 30), .ref (c 0)]) (st0 := [.int (nI 5), .int (r_1 >>> ((nI 14) &&& 31)), .int (r_1 >>> ((nI 9) &&& 31)), .int (nI 30), .ref (c 0)]) 2 (c_L_low V (r_1 >>> ((nI 14) &&& 31)) (nI 5) _ h) (ga_same_i fun _ => rfl) gL_draws_L_low rfl rfl rfl hd_L_lowS ⟨Nat.le_of_ble_eq_true rfl, Nat.le_of_ble_eq_true rfl⟩ rfl rfl (Nat.le_of_ble_eq_true rfl) ⟨Nat.le_of_ble_eq_true rfl, Nat.le_of_ble_eq_true rfl⟩ [] rfl rfl dL_draws_572 ?_
          rintro _ _ ⟨r_15, ⟨⟩, rfl, rfl, h⟩
          refine ga_to [(a 0, .inl (V.2 0, n_a, .inl x_9)), (b 0, .inl (V.2 0, n_b, .inl y_10)), (c 0, .inl (V.2 0, n_c, .inl z_13))] [.int r_15, .int (r_1 >>> ((nI 9) &&& 31)), .int (nI 30), .ref (c 0)] rfl rfl ?_
          try dsimp only at h
          have hJ := h (fun (s3_16 : Int32) => G 16 220 [(a 0, .inl (V.2 0, n_a, .inl x_9)), (b 0, .inl (V.2 0, n_b, .inl y_10)), (c 0, .inl (V.2 0, n_c, .inl z_13))] 585 [(0, .ref b0), (3, .ref (c 0))] [.int s3_16, .int (r_1 >>> ((nI 9) &&& 31)), .int (nI 30), .ref (c 0)])
          refine ga_bind hJ ?_ ?_
          · intro s3_16 h
            show G 16 220 [(a 0, .inl (V.2 0, n_a, .inl x_9)), (b 0, .inl (V.2 0, n_b, .inl y_10)), (c 0, .inl (V.2 0, n_c, .inl z_13))] 585 [(0, .ref b0), (3, .ref (c 0))] [.int s3_16, .int (r_1 >>> ((nI 9) &&& 31)), .int (nI 30), .ref (c 0)]
            refine ga_callS hR (pc := 585) (As := [.int (r_1 >>> ((nI 9) &&& 31)), .int s3_16]) (rest := [.int (nI 30), .ref (c 0)]) (st0 := [.int s3_16, .int (r_1 >>> ((nI 9) &&& 31)), .int (nI 30), .ref (c 0)]) 2 (c_L_low V (r_1 >>> ((nI 9) &&& 31)) s3_16 _ h) (ga_same_i fun _ => rfl) gL_draws_L_low rfl rfl rfl hd_L_lowS ⟨Nat.le_of_ble_eq_true rfl, Nat.le_of_ble_eq_true rfl⟩ rfl rfl (Nat.le_of_ble_eq_true rfl) ⟨Nat.le_of_ble_eq_true rfl, Nat.le_of_ble_eq_true rfl⟩ [] rfl rfl dL_draws_585 ?_
            rintro _ _ ⟨r_18, ⟨⟩, rfl, rfl, h⟩
            refine ga_to [(a 0, .inl (V.2 0, n_a, .inl x_9)), (b 0, .inl (V.2 0, n_b, .inl y_10)), (c 0, .inl (V.2 0, n_c, .inl z_13))] [.int r_18, .int (nI 30), .ref (c 0)] rfl rfl ?_
            try dsimp only at h
            refine ga_iast hR (pc := 588) (ws' := [(a 0, .inl (V.2 0, n_a, .inl x_9)), (b 0, .inl (V.2 0, n_b, .inl y_10)), (c 0, .inl (V.2 0, n_c, .inl ((upd z_13 (nI 30).toNatClampNeg r_18))))]) 2 rfl h.1 rfl dL_draws_588 ?_
            replace h := h.2
            obtain ⟨z_19, ez_19⟩ : ∃ f : Nat → Int32, f = upd z_13 (nI 30).toNatClampNeg r_18 := ⟨_, rfl⟩
            refine ga_cast (ws' := [(a 0, .inl (V.2 0, n_a, .inl x_9)), (b 0, .inl (V.2 0, n_b, .inl y_10)), (c 0, .inl (V.2 0, n_c, .inl z_19))]) (by rw [ez_19]) rfl ?_
            replace h := h z_19 ez_19
            refine ga_iconst hR (pc := 589) (v := nI 0) (by decide) dL_draws_589 ?_
            refine ga_istore hR (pc := 590) (lv' := [(5, .int (nI 0)), (0, .ref b0), (3, .ref (c 0))]) (by decide) rfl dL_draws_590 ?_
            have hJ := h (fun (z_20 : Nat → Int32) => G 16 220 [(a 0, .inl (V.2 0, n_a, .inl x_9)), (b 0, .inl (V.2 0, n_b, .inl y_10)), (c 0, .inl (V.2 0, n_c, .inl z_20))] 639 [] [])
            refine ga_bind hJ ?_ ?_
            · intro z_20 h
              show G 16 220 [(a 0, .inl (V.2 0, n_a, .inl x_9)), (b 0, .inl (V.2 0, n_b, .inl y_10)), (c 0, .inl (V.2 0, n_c, .inl z_20))] 639 [] []
              exact ga_vret hE dL_draws_639 (ga_rv (x_9, y_10, z_20) rfl h)
            · intro h
              obtain ⟨n, h⟩ := h
              have L592 : ∀ (n : Nat) (v5_26 : Int32) (z_27 : Nat → Int32), lp_L_draws_592 L xs n_c (fun (z_20 : Nat → Int32) => G 16 220 [(a 0, .inl (V.2 0, n_a, .inl x_9)), (b 0, .inl (V.2 0, n_b, .inl y_10)), (c 0, .inl (V.2 0, n_c, .inl z_20))] 639 [] []) n v5_26 z_27 → G 16 220 [(a 0, .inl (V.2 0, n_a, .inl x_9)), (b 0, .inl (V.2 0, n_b, .inl y_10)), (c 0, .inl (V.2 0, n_c, .inl z_27))] 592 [(0, .ref b0), (3, .ref (c 0)), (5, .int v5_26)] [] := by
                intro n
                induction n with
                | zero => exact fun _ _ h => False.elim h
                | succ n ih =>
                  intro v5_26 z_27 h
                  rw [lp_L_draws_592] at h
                  refine ga_iload hR (pc := 592) 2 rfl dL_draws_592 ?_
                  refine ga_aload_n hR (pc := 594) 1 rfl rfl dL_draws_594 ?_
                  refine ga_bipush hR (pc := 595) (v := nI 30) (by decide) dL_draws_595 ?_
                  refine ga_iald hR (pc := 597) 2 rfl h.1 dL_draws_597 ?_
                  replace h := h.2
                  refine ga_icmp_ge hR (pc := 598) 639 (by decide) dL_draws_598 (fun c598 => ?_) (fun c598 => ?_)
                  · replace h := h.1 c598
                    exact ga_lv hR [] rfl h
                  · replace h := h.2 c598
                    refine ga_aload_n hR (pc := 601) 1 rfl rfl dL_draws_601 ?_
                    refine ga_bipush hR (pc := 602) (v := nI 31) (by decide) dL_draws_602 ?_
                    refine ga_iload hR (pc := 604) 2 rfl dL_draws_604 ?_
                    refine ga_iadd hR (pc := 606) dL_draws_606 ?_
                    refine ga_aload_n hR (pc := 607) 0 rfl rfl dL_draws_607 ?_
                    refine ga_bipush hR (pc := 608) (v := nI 8) (by decide) dL_draws_608 ?_
                    refine ga_iload hR (pc := 610) 2 rfl dL_draws_610 ?_
                    refine ga_bipush hR (pc := 612) (v := nI 6) (by decide) dL_draws_612 ?_
                    refine ga_idiv hR (pc := 614) (by decide) dL_draws_614 ?_
                    refine ga_iadd hR (pc := 615) dL_draws_615 ?_
                    refine gs_callS hSc (pc := 616) (As := [.ref b0, .int ((nI 8) + (v5_26 / (nI 6)))]) (rest := [.int ((nI 31) + v5_26), .ref (c 0)]) (st0 := [.int ((nI 8) + (v5_26 / (nI 6))), .ref b0, .int ((nI 31) + v5_26), .ref (c 0)]) 2 (c_L_cell V b0 L xs ((nI 8) + (v5_26 / (nI 6))) _ h) (ga_same_i fun _ => rfl) gL_draws_L_cell rfl rfl rfl hd_L_cellS ⟨Nat.le_of_ble_eq_true rfl, Nat.le_of_ble_eq_true rfl⟩ rfl rfl (Nat.le_of_ble_eq_true rfl) ⟨Nat.le_of_ble_eq_true rfl, Nat.le_of_ble_eq_true rfl⟩ [] rfl rfl dL_draws_616 ?_
                    rintro _ _ ⟨r_28, ⟨⟩, rfl, rfl, h⟩
                    refine ga_to [(a 0, .inl (V.2 0, n_a, .inl x_9)), (b 0, .inl (V.2 0, n_b, .inl y_10)), (c 0, .inl (V.2 0, n_c, .inl z_27))] [.int r_28, .int ((nI 31) + v5_26), .ref (c 0)] rfl rfl ?_
                    try dsimp only at h
                    refine ga_iconst hR (pc := 619) (v := nI 5) (by decide) dL_draws_619 ?_
                    refine ga_iload hR (pc := 620) 2 rfl dL_draws_620 ?_
                    refine ga_bipush hR (pc := 622) (v := nI 6) (by decide) dL_draws_622 ?_
                    refine ga_irem hR (pc := 624) (by decide) dL_draws_624 ?_
                    refine ga_imul hR (pc := 625) dL_draws_625 ?_
                    refine ga_ishr hR (pc := 626) dL_draws_626 ?_
                    refine ga_bipush hR (pc := 627) (v := nI 26) (by decide) dL_draws_627 ?_
                    refine ga_callS hR (pc := 629) (As := [.int (r_28 >>> (((nI 5) * (v5_26 - v5_26 / (nI 6) * (nI 6))) &&& 31)), .int (nI 26)]) (rest := [.int ((nI 31) + v5_26), .ref (c 0)]) (st0 := [.int (nI 26), .int (r_28 >>> (((nI 5) * (v5_26 - v5_26 / (nI 6) * (nI 6))) &&& 31)), .int ((nI 31) + v5_26), .ref (c 0)]) 2 (c_L_low V (r_28 >>> (((nI 5) * (v5_26 - v5_26 / (nI 6) * (nI 6))) &&& 31)) (nI 26) _ h) (ga_same_i fun _ => rfl) gL_draws_L_low rfl rfl rfl hd_L_lowS ⟨Nat.le_of_ble_eq_true rfl, Nat.le_of_ble_eq_true rfl⟩ rfl rfl (Nat.le_of_ble_eq_true rfl) ⟨Nat.le_of_ble_eq_true rfl, Nat.le_of_ble_eq_true rfl⟩ [] rfl rfl dL_draws_629 ?_
                    rintro _ _ ⟨r_29, ⟨⟩, rfl, rfl, h⟩
                    refine ga_to [(a 0, .inl (V.2 0, n_a, .inl x_9)), (b 0, .inl (V.2 0, n_b, .inl y_10)), (c 0, .inl (V.2 0, n_c, .inl z_27))] [.int r_29, .int ((nI 31) + v5_26), .ref (c 0)] rfl rfl ?_
                    try dsimp only at h
                    refine ga_iast hR (pc := 632) (ws' := [(a 0, .inl (V.2 0, n_a, .inl x_9)), (b 0, .inl (V.2 0, n_b, .inl y_10)), (c 0, .inl (V.2 0, n_c, .inl ((upd z_27 ((nI 31) + v5_26).toNatClampNeg r_29))))]) 2 rfl h.1 rfl dL_draws_632 ?_
                    replace h := h.2
                    obtain ⟨z_30, ez_30⟩ : ∃ f : Nat → Int32, f = upd z_27 ((nI 31) + v5_26).toNatClampNeg r_29 := ⟨_, rfl⟩
                    refine ga_cast (ws' := [(a 0, .inl (V.2 0, n_a, .inl x_9)), (b 0, .inl (V.2 0, n_b, .inl y_10)), (c 0, .inl (V.2 0, n_c, .inl z_30))]) (by rw [ez_30]) rfl ?_
                    replace h := h z_30 ez_30
                    obtain ⟨v5_31, ev5_31⟩ : ∃ v : Int32, v = v5_26 + (nI 1) := ⟨_, rfl⟩
                    replace h := h v5_31 ev5_31
                    refine ga_iinc hR (pc := 633) (lv' := [(5, .int v5_31), (0, .ref b0), (3, .ref (c 0))]) 2 (by decide) rfl ev5_31 (by decide) rfl dL_draws_633 ?_
                    refine ga_goto hR (pc := 636) 592 (by decide) dL_draws_636 ?_
                    exact ga_lv hR [1, 2, 0] rfl (ih _ _ h)
              exact ga_lv hR [1, 2, 0] rfl (L592 n _ _ h)
          · intro h
            refine ga_if_ne hR (pc := 575) 583 (by decide) dL_draws_575 (fun c575 => ?_) (fun c575 => ?_)
            · replace h := h.1 c575
              refine ga_bipush hR (pc := 583) (v := nI 13) (by decide) dL_draws_583 ?_
              exact ga_lv hR [0, 1] rfl h
            · replace h := h.2 c575
              refine ga_bipush hR (pc := 578) (v := nI 31) (by decide) dL_draws_578 ?_
              refine ga_goto hR (pc := 580) 585 (by decide) dL_draws_580 ?_
              exact ga_lv hR [0, 1] rfl h
        · intro h
          obtain ⟨n, h⟩ := h
          have L496 : ∀ (n : Nat) (v5_42 : Int32) (z_43 : Nat → Int32), lp_L_draws_496 L xs n_c (fun (z_13 : Nat → Int32) => G 16 220 [(a 0, .inl (V.2 0, n_a, .inl x_9)), (b 0, .inl (V.2 0, n_b, .inl y_10)), (c 0, .inl (V.2 0, n_c, .inl z_13))] 558 [(0, .ref b0), (3, .ref (c 0)), (4, .int r_1)] []) n v5_42 z_43 → G 16 220 [(a 0, .inl (V.2 0, n_a, .inl x_9)), (b 0, .inl (V.2 0, n_b, .inl y_10)), (c 0, .inl (V.2 0, n_c, .inl z_43))] 496 [(0, .ref b0), (3, .ref (c 0)), (4, .int r_1), (5, .int v5_42)] [] := by
            intro n
            induction n with
            | zero => exact fun _ _ h => False.elim h
            | succ n ih =>
              intro v5_42 z_43 h
              rw [lp_L_draws_496] at h
              refine ga_iload hR (pc := 496) 3 rfl dL_draws_496 ?_
              refine ga_bipush hR (pc := 498) (v := nI 26) (by decide) dL_draws_498 ?_
              refine ga_icmp_ge hR (pc := 500) 558 (by decide) dL_draws_500 (fun c500 => ?_) (fun c500 => ?_)
              · replace h := h.1 c500
                exact ga_lv hR [0, 1, 2] rfl h
              · replace h := h.2 c500
                refine ga_aload_n hR (pc := 503) 0 rfl rfl dL_draws_503 ?_
                refine ga_bipush hR (pc := 504) (v := nI 7) (by decide) dL_draws_504 ?_
                refine gs_callS hSc (pc := 506) (As := [.ref b0, .int (nI 7)]) (rest := []) (st0 := [.int (nI 7), .ref b0]) 2 (c_L_cell V b0 L xs (nI 7) _ h) (ga_same_i fun _ => rfl) gL_draws_L_cell rfl rfl rfl hd_L_cellS ⟨Nat.le_of_ble_eq_true rfl, Nat.le_of_ble_eq_true rfl⟩ rfl rfl (Nat.le_of_ble_eq_true rfl) ⟨Nat.le_of_ble_eq_true rfl, Nat.le_of_ble_eq_true rfl⟩ [] rfl rfl dL_draws_506 ?_
                rintro _ _ ⟨r_44, ⟨⟩, rfl, rfl, h⟩
                refine ga_to [(a 0, .inl (V.2 0, n_a, .inl x_9)), (b 0, .inl (V.2 0, n_b, .inl y_10)), (c 0, .inl (V.2 0, n_c, .inl z_43))] [.int r_44] rfl rfl ?_
                try dsimp only at h
                refine ga_iconst hR (pc := 509) (v := nI 3) (by decide) dL_draws_509 ?_
                refine ga_iload hR (pc := 510) 3 rfl dL_draws_510 ?_
                refine ga_imul hR (pc := 512) dL_draws_512 ?_
                refine ga_bipush hR (pc := 513) (v := nI 29) (by decide) dL_draws_513 ?_
                refine ga_callS hR (pc := 515) (As := [.int ((nI 3) * v5_42), .int (nI 29)]) (rest := [.int r_44]) (st0 := [.int (nI 29), .int ((nI 3) * v5_42), .int r_44]) 2 (c_L_low V ((nI 3) * v5_42) (nI 29) _ h) (ga_same_i fun _ => rfl) gL_draws_L_low rfl rfl rfl hd_L_lowS ⟨Nat.le_of_ble_eq_true rfl, Nat.le_of_ble_eq_true rfl⟩ rfl rfl (Nat.le_of_ble_eq_true rfl) ⟨Nat.le_of_ble_eq_true rfl, Nat.le_of_ble_eq_true rfl⟩ [] rfl rfl dL_draws_515 ?_
                rintro _ _ ⟨r_45, ⟨⟩, rfl, rfl, h⟩
                refine ga_to [(a 0, .inl (V.2 0, n_a, .inl x_9)), (b 0, .inl (V.2 0, n_b, .inl y_10)), (c 0, .inl (V.2 0, n_c, .inl z_43))] [.int r_45, .int r_44] rfl rfl ?_
                try dsimp only at h
                refine ga_ishr hR (pc := 518) dL_draws_518 ?_
                refine ga_topi (fun v6_46 ev6_46 => ?_)
                replace h := h v6_46 ev6_46
                refine ga_istore hR (pc := 519) (lv' := [(6, .int v6_46), (0, .ref b0), (3, .ref (c 0)), (4, .int r_1), (5, .int v5_42)]) (by decide) rfl dL_draws_519 ?_
                refine ga_aload_n hR (pc := 521) 2 rfl rfl dL_draws_521 ?_
                refine ga_iload hR (pc := 522) 4 rfl dL_draws_522 ?_
                refine ga_iload hR (pc := 524) 0 rfl dL_draws_524 ?_
                refine ga_bipush hR (pc := 526) (v := nI 6) (by decide) dL_draws_526 ?_
                refine ga_callS hR (pc := 528) (As := [.int v6_46, .int (nI 6)]) (rest := [.int v5_42, .ref (c 0)]) (st0 := [.int (nI 6), .int v6_46, .int v5_42, .ref (c 0)]) 2 (c_L_low V v6_46 (nI 6) _ h) (ga_same_i fun _ => rfl) gL_draws_L_low rfl rfl rfl hd_L_lowS ⟨Nat.le_of_ble_eq_true rfl, Nat.le_of_ble_eq_true rfl⟩ rfl rfl (Nat.le_of_ble_eq_true rfl) ⟨Nat.le_of_ble_eq_true rfl, Nat.le_of_ble_eq_true rfl⟩ [] rfl rfl dL_draws_528 ?_
                rintro _ _ ⟨r_47, ⟨⟩, rfl, rfl, h⟩
                refine ga_to [(a 0, .inl (V.2 0, n_a, .inl x_9)), (b 0, .inl (V.2 0, n_b, .inl y_10)), (c 0, .inl (V.2 0, n_c, .inl z_43))] [.int r_47, .int v5_42, .ref (c 0)] rfl rfl ?_
                try dsimp only at h
                refine ga_iconst hR (pc := 531) (v := nI 4) (by decide) dL_draws_531 ?_
                refine ga_icmp_ge hR (pc := 532) 544 (by decide) dL_draws_532 (fun c532 => ?_) (fun c532 => ?_)
                · replace h := h.1 c532
                  refine ga_iload hR (pc := 544) 0 rfl dL_draws_544 ?_
                  refine ga_bipush hR (pc := 546) (v := nI 6) (by decide) dL_draws_546 ?_
                  refine ga_callS hR (pc := 548) (As := [.int v6_46, .int (nI 6)]) (rest := [.int v5_42, .ref (c 0)]) (st0 := [.int (nI 6), .int v6_46, .int v5_42, .ref (c 0)]) 2 (c_L_low V v6_46 (nI 6) _ h) (ga_same_i fun _ => rfl) gL_draws_L_low rfl rfl rfl hd_L_lowS ⟨Nat.le_of_ble_eq_true rfl, Nat.le_of_ble_eq_true rfl⟩ rfl rfl (Nat.le_of_ble_eq_true rfl) ⟨Nat.le_of_ble_eq_true rfl, Nat.le_of_ble_eq_true rfl⟩ [] rfl rfl dL_draws_548 ?_
                  rintro _ _ ⟨r_48, ⟨⟩, rfl, rfl, h⟩
                  refine ga_to [(a 0, .inl (V.2 0, n_a, .inl x_9)), (b 0, .inl (V.2 0, n_b, .inl y_10)), (c 0, .inl (V.2 0, n_c, .inl z_43))] [.int r_48, .int v5_42, .ref (c 0)] rfl rfl ?_
                  try dsimp only at h
                  refine ga_iast hR (pc := 551) (ws' := [(a 0, .inl (V.2 0, n_a, .inl x_9)), (b 0, .inl (V.2 0, n_b, .inl y_10)), (c 0, .inl (V.2 0, n_c, .inl ((upd z_43 v5_42.toNatClampNeg r_48))))]) 2 rfl h.1 rfl dL_draws_551 ?_
                  replace h := h.2
                  obtain ⟨z_49, ez_49⟩ : ∃ f : Nat → Int32, f = upd z_43 v5_42.toNatClampNeg r_48 := ⟨_, rfl⟩
                  refine ga_cast (ws' := [(a 0, .inl (V.2 0, n_a, .inl x_9)), (b 0, .inl (V.2 0, n_b, .inl y_10)), (c 0, .inl (V.2 0, n_c, .inl z_49))]) (by rw [ez_49]) rfl ?_
                  replace h := h z_49 ez_49
                  obtain ⟨v5_50, ev5_50⟩ : ∃ v : Int32, v = v5_42 + (nI 1) := ⟨_, rfl⟩
                  replace h := h v5_50 ev5_50
                  refine ga_iinc hR (pc := 552) (lv' := [(5, .int v5_50), (6, .int v6_46), (0, .ref b0), (3, .ref (c 0)), (4, .int r_1)]) 4 (by decide) rfl ev5_50 (by decide) rfl dL_draws_552 ?_
                  refine ga_goto hR (pc := 555) 496 (by decide) dL_draws_555 ?_
                  exact ga_lv hR [2, 3, 4, 0] rfl (ih _ _ h)
                · replace h := h.2 c532
                  refine ga_iload hR (pc := 535) 0 rfl dL_draws_535 ?_
                  refine ga_iconst hR (pc := 537) (v := nI 3) (by decide) dL_draws_537 ?_
                  refine ga_callS hR (pc := 538) (As := [.int v6_46, .int (nI 3)]) (rest := [.int v5_42, .ref (c 0)]) (st0 := [.int (nI 3), .int v6_46, .int v5_42, .ref (c 0)]) 2 (c_L_low V v6_46 (nI 3) _ h) (ga_same_i fun _ => rfl) gL_draws_L_low rfl rfl rfl hd_L_lowS ⟨Nat.le_of_ble_eq_true rfl, Nat.le_of_ble_eq_true rfl⟩ rfl rfl (Nat.le_of_ble_eq_true rfl) ⟨Nat.le_of_ble_eq_true rfl, Nat.le_of_ble_eq_true rfl⟩ [] rfl rfl dL_draws_538 ?_
                  rintro _ _ ⟨r_51, ⟨⟩, rfl, rfl, h⟩
                  refine ga_to [(a 0, .inl (V.2 0, n_a, .inl x_9)), (b 0, .inl (V.2 0, n_b, .inl y_10)), (c 0, .inl (V.2 0, n_c, .inl z_43))] [.int r_51, .int v5_42, .ref (c 0)] rfl rfl ?_
                  try dsimp only at h
                  refine ga_goto hR (pc := 541) 551 (by decide) dL_draws_541 ?_
                  refine ga_iast hR (pc := 551) (ws' := [(a 0, .inl (V.2 0, n_a, .inl x_9)), (b 0, .inl (V.2 0, n_b, .inl y_10)), (c 0, .inl (V.2 0, n_c, .inl ((upd z_43 v5_42.toNatClampNeg r_51))))]) 2 rfl h.1 rfl dL_draws_551 ?_
                  replace h := h.2
                  obtain ⟨z_52, ez_52⟩ : ∃ f : Nat → Int32, f = upd z_43 v5_42.toNatClampNeg r_51 := ⟨_, rfl⟩
                  refine ga_cast (ws' := [(a 0, .inl (V.2 0, n_a, .inl x_9)), (b 0, .inl (V.2 0, n_b, .inl y_10)), (c 0, .inl (V.2 0, n_c, .inl z_52))]) (by rw [ez_52]) rfl ?_
                  replace h := h z_52 ez_52
                  obtain ⟨v5_53, ev5_53⟩ : ∃ v : Int32, v = v5_42 + (nI 1) := ⟨_, rfl⟩
                  replace h := h v5_53 ev5_53
                  refine ga_iinc hR (pc := 552) (lv' := [(5, .int v5_53), (6, .int v6_46), (0, .ref b0), (3, .ref (c 0)), (4, .int r_1)]) 4 (by decide) rfl ev5_53 (by decide) rfl dL_draws_552 ?_
                  refine ga_goto hR (pc := 555) 496 (by decide) dL_draws_555 ?_
                  exact ga_lv hR [2, 3, 4, 0] rfl (ih _ _ h)
          exact ga_lv hR [1, 2, 3, 0] rfl (L496 n _ _ h)
      · intro h
        obtain ⟨n, hn, h⟩ := h
        have L63 : ∀ (n : Nat) (k_173 s_174 : Nat) (_ : k_173 + 4 * n ≤ 16) (_ : s_174 + 55 * n ≤ 220) (v5_169 : Int32) (x_170 : Nat → Int32) (y_171 : Nat → Int32) (z_172 : Nat → Int32), lp_L_draws_63 L xs n_a n_b n_c r_1 (fun (x_9 : Nat → Int32) (y_10 : Nat → Int32) (z_11 : Nat → Int32) => G 16 220 [(a 0, .inl (V.2 0, n_a, .inl x_9)), (b 0, .inl (V.2 0, n_b, .inl y_10)), (c 0, .inl (V.2 0, n_c, .inl z_11))] 493 [(0, .ref b0), (3, .ref (c 0)), (4, .int r_1)] []) n v5_169 x_170 y_171 z_172 → G k_173 s_174 [(a 0, .inl (V.2 0, n_a, .inl x_170)), (b 0, .inl (V.2 0, n_b, .inl y_171)), (c 0, .inl (V.2 0, n_c, .inl z_172))] 63 [(0, .ref b0), (1, .ref (a 0)), (2, .ref (b 0)), (3, .ref (c 0)), (4, .int r_1), (5, .int v5_169)] [] := by
          intro n
          induction n with
          | zero => exact fun _ _ _ _ _ _ _ _ h => False.elim h
          | succ n ih =>
            intro k_173 s_174 hk_k_173 hs_k_173 v5_169 x_170 y_171 z_172 h
            rw [lp_L_draws_63] at h
            refine ga_iload hR (pc := 63) 5 rfl dL_draws_63 ?_
            refine ga_aload_n hR (pc := 65) 1 rfl rfl dL_draws_65 ?_
            refine ga_iconst hR (pc := 66) (v := nI 0) (by decide) dL_draws_66 ?_
            refine ga_iald hR (pc := 67) 0 rfl h.1 dL_draws_67 ?_
            replace h := h.2
            refine ga_icmp_ge hR (pc := 68) 493 (by decide) dL_draws_68 (fun c68 => ?_) (fun c68 => ?_)
            · replace h := h.1 c68
              refine ga_widen hR (k1 := 16) (n1 := 220) (by omega) (by omega) ?_
              exact ga_lv hR [0, 3, 4] rfl h
            · replace h := h.2 c68
              refine ga_aload_n hR (pc := 71) 0 rfl rfl dL_draws_71 ?_
              refine ga_iconst hR (pc := 72) (v := nI 1) (by decide) dL_draws_72 ?_
              refine ga_iconst hR (pc := 73) (v := nI 2) (by decide) dL_draws_73 ?_
              refine ga_iload hR (pc := 74) 5 rfl dL_draws_74 ?_
              refine ga_imul hR (pc := 76) dL_draws_76 ?_
              refine ga_iadd hR (pc := 77) dL_draws_77 ?_
              refine gs_callS hSc (pc := 78) (As := [.ref b0, .int ((nI 1) + ((nI 2) * v5_169))]) (rest := []) (st0 := [.int ((nI 1) + ((nI 2) * v5_169)), .ref b0]) 2 (c_L_cell V b0 L xs ((nI 1) + ((nI 2) * v5_169)) _ h) (ga_same_i fun _ => rfl) gL_draws_L_cell rfl rfl rfl hd_L_cellS ⟨Nat.le_of_ble_eq_true rfl, Nat.le_of_ble_eq_true rfl⟩ rfl rfl (Nat.le_of_ble_eq_true rfl) ⟨show k_173 + 0 ≤ 16 by omega, show s_174 + 0 ≤ 220 by omega⟩ [] rfl rfl dL_draws_78 ?_
              rintro _ _ ⟨r_175, ⟨⟩, rfl, rfl, h⟩
              refine ga_to [(a 0, .inl (V.2 0, n_a, .inl x_170)), (b 0, .inl (V.2 0, n_b, .inl y_171)), (c 0, .inl (V.2 0, n_c, .inl z_172))] [.int r_175] rfl rfl ?_
              try dsimp only at h
              refine ga_istore hR (pc := 81) (lv' := [(6, .int r_175), (0, .ref b0), (1, .ref (a 0)), (2, .ref (b 0)), (3, .ref (c 0)), (4, .int r_1), (5, .int v5_169)]) (by decide) rfl dL_draws_81 ?_
              refine ga_aload_n hR (pc := 83) 1 rfl rfl dL_draws_83 ?_
              refine ga_iconst hR (pc := 84) (v := nI 2) (by decide) dL_draws_84 ?_
              refine ga_iconst hR (pc := 85) (v := nI 2) (by decide) dL_draws_85 ?_
              refine ga_iload hR (pc := 86) 6 rfl dL_draws_86 ?_
              refine ga_imul hR (pc := 88) dL_draws_88 ?_
              refine ga_iadd hR (pc := 89) dL_draws_89 ?_
              refine gs_callS hSc (pc := 90) (As := [.ref b0, .int ((nI 2) + ((nI 2) * v5_169))]) (rest := []) (st0 := [.int ((nI 2) + ((nI 2) * v5_169)), .ref b0]) 2 (c_L_cell V b0 L xs ((nI 2) + ((nI 2) * v5_169)) _ h) (ga_same_i fun _ => rfl) gL_draws_L_cell rfl rfl rfl hd_L_cellS ⟨Nat.le_of_ble_eq_true rfl, Nat.le_of_ble_eq_true rfl⟩ rfl rfl (Nat.le_of_ble_eq_true rfl) ⟨show k_173 + 0 ≤ 16 by omega, show s_174 + 0 ≤ 220 by omega⟩ [] rfl rfl dL_draws_90 ?_
              rintro _ _ ⟨r_176, ⟨⟩, rfl, rfl, h⟩
              refine ga_to [(a 0, .inl (V.2 0, n_a, .inl x_170)), (b 0, .inl (V.2 0, n_b, .inl y_171)), (c 0, .inl (V.2 0, n_c, .inl z_172))] [.int r_176] rfl rfl ?_
              try dsimp only at h
              refine ga_istore hR (pc := 93) (lv' := [(7, .int r_176), (6, .int r_175), (0, .ref b0), (1, .ref (a 0)), (2, .ref (b 0)), (3, .ref (c 0)), (4, .int r_1), (5, .int v5_169)]) (by decide) rfl dL_draws_93 ?_
              refine ga_iconst hR (pc := 95) (v := nI 1) (by decide) dL_draws_95 ?_
              refine ga_iload hR (pc := 96) 1 rfl dL_draws_96 ?_
              refine ga_iload hR (pc := 98) 7 rfl dL_draws_98 ?_
              refine ga_iconst hR (pc := 100) (v := nI 2) (by decide) dL_draws_100 ?_
              have hJ := h (fun (s2_177 : Int32) => G k_173 s_174 [(a 0, .inl (V.2 0, n_a, .inl x_170)), (b 0, .inl (V.2 0, n_b, .inl y_171)), (c 0, .inl (V.2 0, n_c, .inl z_172))] 119 [(0, .ref b0), (1, .ref (a 0)), (2, .ref (b 0)), (3, .ref (c 0)), (4, .int r_1), (5, .int v5_169), (6, .int r_175), (7, .int r_176)] [.int s2_177, .int r_175, .int (nI 1)])
              refine ga_bind hJ ?_ ?_
              · intro s2_177 h
                show G k_173 s_174 [(a 0, .inl (V.2 0, n_a, .inl x_170)), (b 0, .inl (V.2 0, n_b, .inl y_171)), (c 0, .inl (V.2 0, n_c, .inl z_172))] 119 [(0, .ref b0), (1, .ref (a 0)), (2, .ref (b 0)), (3, .ref (c 0)), (4, .int r_1), (5, .int v5_169), (6, .int r_175), (7, .int r_176)] [.int s2_177, .int r_175, .int (nI 1)]
                refine ga_callS hR (pc := 119) (As := [.int r_175, .int s2_177]) (rest := [.int (nI 1)]) (st0 := [.int s2_177, .int r_175, .int (nI 1)]) 2 (c_L_low V r_175 s2_177 _ h) (ga_same_i fun _ => rfl) gL_draws_L_low rfl rfl rfl hd_L_lowS ⟨Nat.le_of_ble_eq_true rfl, Nat.le_of_ble_eq_true rfl⟩ rfl rfl (Nat.le_of_ble_eq_true rfl) ⟨show k_173 + 0 ≤ 16 by omega, show s_174 + 0 ≤ 220 by omega⟩ [] rfl rfl dL_draws_119 ?_
                rintro _ _ ⟨r_179, ⟨⟩, rfl, rfl, h⟩
                refine ga_to [(a 0, .inl (V.2 0, n_a, .inl x_170)), (b 0, .inl (V.2 0, n_b, .inl y_171)), (c 0, .inl (V.2 0, n_c, .inl z_172))] [.int r_179, .int (nI 1)] rfl rfl ?_
                try dsimp only at h
                refine ga_iadd hR (pc := 122) dL_draws_122 ?_
                refine ga_topi (fun v8_180 ev8_180 => ?_)
                replace h := h v8_180 ev8_180
                refine ga_istore hR (pc := 123) (lv' := [(8, .int v8_180), (0, .ref b0), (1, .ref (a 0)), (2, .ref (b 0)), (3, .ref (c 0)), (4, .int r_1), (5, .int v5_169), (6, .int r_175), (7, .int r_176)]) (by decide) rfl dL_draws_123 ?_
                refine ga_aload_n hR (pc := 125) 2 rfl rfl dL_draws_125 ?_
                refine ga_iconst hR (pc := 126) (v := nI 1) (by decide) dL_draws_126 ?_
                refine ga_iald hR (pc := 127) 0 rfl h.1 dL_draws_127 ?_
                replace h := h.2
                refine ga_topi (fun v9_181 ev9_181 => ?_)
                replace h := h v9_181 ev9_181
                refine ga_istore hR (pc := 128) (lv' := [(9, .int v9_181), (8, .int v8_180), (0, .ref b0), (1, .ref (a 0)), (2, .ref (b 0)), (3, .ref (c 0)), (4, .int r_1), (5, .int v5_169), (6, .int r_175), (7, .int r_176)]) (by decide) rfl dL_draws_128 ?_
                refine ga_iconst hR (pc := 130) (v := nI 0) (by decide) dL_draws_130 ?_
                refine ga_istore hR (pc := 131) (lv' := [(10, .int (nI 0)), (9, .int v9_181), (8, .int v8_180), (0, .ref b0), (1, .ref (a 0)), (2, .ref (b 0)), (3, .ref (c 0)), (4, .int r_1), (5, .int v5_169), (6, .int r_175), (7, .int r_176)]) (by decide) rfl dL_draws_131 ?_
                refine ga_iconst hR (pc := 133) (v := nI 4) (by decide) dL_draws_133 ?_
                refine ga_newa hR (pc := 134) (t := 0) (ty := .int) (N := 4) (z := nI 4) rfl rfl rfl (fun C h => by cases h) (by decide +kernel) (by decide) (by decide) (Nat.le_of_ble_eq_true rfl) (show k_173 + 1 ≤ 16 by omega) (show s_174 + 4 ≤ 220 by omega) dL_draws_134 (fun q_182 => ?_)
                refine ga_to [(a 0, .inl (V.2 0, n_a, .inl x_170)), (b 0, .inl (V.2 0, n_b, .inl y_171)), (c 0, .inl (V.2 0, n_c, .inl z_172)), (q_182, .inl (V.2 0, 4, .inl ((fun _ => 0))))] [.ref (q_182)] rfl rfl ?_
                refine ga_astore hR (pc := 136) (lv' := [(11, .ref (q_182)), (10, .int (nI 0)), (9, .int v9_181), (8, .int v8_180), (0, .ref b0), (1, .ref (a 0)), (2, .ref (b 0)), (3, .ref (c 0)), (4, .int r_1), (5, .int v5_169), (6, .int r_175), (7, .int r_176)]) (by decide) rfl dL_draws_136 ?_
                refine ga_iconst hR (pc := 138) (v := nI 0) (by decide) dL_draws_138 ?_
                refine ga_istore hR (pc := 139) (lv' := [(12, .int (nI 0)), (11, .ref (q_182)), (10, .int (nI 0)), (9, .int v9_181), (8, .int v8_180), (0, .ref b0), (1, .ref (a 0)), (2, .ref (b 0)), (3, .ref (c 0)), (4, .int r_1), (5, .int v5_169), (6, .int r_175), (7, .int r_176)]) (by decide) rfl dL_draws_139 ?_
                have hJ := h (fun (v10_183 : Int32) (x_184 : Nat → Int32) (y_185 : Nat → Int32) (w_186 : Nat → Int32) => G (k_173 + 1) (s_174 + 4) [(a 0, .inl (V.2 0, n_a, .inl x_184)), (b 0, .inl (V.2 0, n_b, .inl y_185)), (c 0, .inl (V.2 0, n_c, .inl z_172)), (q_182, .inl (V.2 0, 4, .inl w_186))] 449 [(0, .ref b0), (1, .ref (a 0)), (2, .ref (b 0)), (3, .ref (c 0)), (4, .int r_1), (5, .int v5_169), (9, .int v9_181), (10, .int v10_183)] [])
                refine ga_bind hJ ?_ ?_
                · intro v10_183 x_184 y_185 w_186 h
                  show G (k_173 + 1) (s_174 + 4) [(a 0, .inl (V.2 0, n_a, .inl x_184)), (b 0, .inl (V.2 0, n_b, .inl y_185)), (c 0, .inl (V.2 0, n_c, .inl z_172)), (q_182, .inl (V.2 0, 4, .inl w_186))] 449 [(0, .ref b0), (1, .ref (a 0)), (2, .ref (b 0)), (3, .ref (c 0)), (4, .int r_1), (5, .int v5_169), (9, .int v9_181), (10, .int v10_183)] []
                  refine ga_aload_n hR (pc := 449) 1 rfl rfl dL_draws_449 ?_
                  refine ga_bipush hR (pc := 450) (v := nI 34) (by decide) dL_draws_450 ?_
                  refine ga_iload hR (pc := 452) 5 rfl dL_draws_452 ?_
                  refine ga_iadd hR (pc := 454) dL_draws_454 ?_
                  refine ga_iload hR (pc := 455) 7 rfl dL_draws_455 ?_
                  refine ga_iast hR (pc := 457) (ws' := [(a 0, .inl (V.2 0, n_a, .inl ((upd x_184 ((nI 34) + v5_169).toNatClampNeg v10_183)))), (b 0, .inl (V.2 0, n_b, .inl y_185)), (c 0, .inl (V.2 0, n_c, .inl z_172)), (q_182, .inl (V.2 0, 4, .inl w_186))]) 0 rfl h.1 rfl dL_draws_457 ?_
                  replace h := h.2
                  obtain ⟨x_188, ex_188⟩ : ∃ f : Nat → Int32, f = upd x_184 ((nI 34) + v5_169).toNatClampNeg v10_183 := ⟨_, rfl⟩
                  refine ga_cast (ws' := [(a 0, .inl (V.2 0, n_a, .inl x_188)), (b 0, .inl (V.2 0, n_b, .inl y_185)), (c 0, .inl (V.2 0, n_c, .inl z_172)), (q_182, .inl (V.2 0, 4, .inl w_186))]) (by rw [ex_188]) rfl ?_
                  replace h := h x_188 ex_188
                  refine ga_aload_n hR (pc := 458) 1 rfl rfl dL_draws_458 ?_
                  refine ga_aload_n hR (pc := 459) 2 rfl rfl dL_draws_459 ?_
                  refine ga_iload hR (pc := 460) 5 rfl dL_draws_460 ?_
                  refine ga_iload hR (pc := 462) 6 rfl dL_draws_462 ?_
                  refine ga_callS hR (pc := 464) (As := [.ref (a 0), .ref (b 0), .int v5_169, .int v9_181]) (rest := []) (st0 := [.int v9_181, .int v5_169, .ref (b 0), .ref (a 0)]) 4 (c_L_reads V a b n_a n_b x_188 y_185 v5_169 v9_181 _ h) (ga_same_v fun _ => rfl) gL_draws_L_reads rfl rfl rfl hd_L_readsS ⟨Nat.le_of_ble_eq_true rfl, Nat.le_of_ble_eq_true rfl⟩ rfl rfl (Nat.le_of_ble_eq_true rfl) ⟨show (k_173 + 1) + 3 ≤ 16 by omega, show (s_174 + 4) + 51 ≤ 220 by omega⟩ [0, 1] rfl rfl dL_draws_464 ?_
                  rintro _ _ ⟨x_189, rfl, rfl, h⟩
                  refine ga_to [(a 0, .inl (V.2 0, n_a, .inl x_189)), (b 0, .inl (V.2 0, n_b, .inl y_185)), (c 0, .inl (V.2 0, n_c, .inl z_172)), (q_182, .inl (V.2 0, 4, .inl w_186))] [] rfl rfl ?_
                  try dsimp only at h
                  refine ga_aload_n hR (pc := 467) 3 rfl rfl dL_draws_467 ?_
                  refine ga_bipush hR (pc := 468) (v := nI 26) (by decide) dL_draws_468 ?_
                  refine ga_iload hR (pc := 470) 5 rfl dL_draws_470 ?_
                  refine ga_iadd hR (pc := 472) dL_draws_472 ?_
                  refine ga_iload hR (pc := 473) 4 rfl dL_draws_473 ?_
                  refine ga_iconst hR (pc := 475) (v := nI 3) (by decide) dL_draws_475 ?_
                  refine ga_iconst hR (pc := 476) (v := nI 2) (by decide) dL_draws_476 ?_
                  refine ga_iload hR (pc := 477) 5 rfl dL_draws_477 ?_
                  refine ga_imul hR (pc := 479) dL_draws_479 ?_
                  refine ga_iadd hR (pc := 480) dL_draws_480 ?_
                  refine ga_ishr hR (pc := 481) dL_draws_481 ?_
                  refine ga_iconst hR (pc := 482) (v := nI 4) (by decide) dL_draws_482 ?_
                  refine ga_callS hR (pc := 483) (As := [.int (r_1 >>> (((nI 3) + ((nI 2) * v5_169)) &&& 31)), .int (nI 4)]) (rest := [.int ((nI 26) + v5_169), .ref (c 0)]) (st0 := [.int (nI 4), .int (r_1 >>> (((nI 3) + ((nI 2) * v5_169)) &&& 31)), .int ((nI 26) + v5_169), .ref (c 0)]) 2 (c_L_low V (r_1 >>> (((nI 3) + ((nI 2) * v5_169)) &&& 31)) (nI 4) _ h) (ga_same_i fun _ => rfl) gL_draws_L_low rfl rfl rfl hd_L_lowS ⟨Nat.le_of_ble_eq_true rfl, Nat.le_of_ble_eq_true rfl⟩ rfl rfl (Nat.le_of_ble_eq_true rfl) ⟨show (k_173 + 1 + 3) + 0 ≤ 16 by omega, show (s_174 + 4 + 51) + 0 ≤ 220 by omega⟩ [] rfl rfl dL_draws_483 ?_
                  rintro _ _ ⟨r_190, ⟨⟩, rfl, rfl, h⟩
                  refine ga_to [(a 0, .inl (V.2 0, n_a, .inl x_189)), (b 0, .inl (V.2 0, n_b, .inl y_185)), (c 0, .inl (V.2 0, n_c, .inl z_172)), (q_182, .inl (V.2 0, 4, .inl w_186))] [.int r_190, .int ((nI 26) + v5_169), .ref (c 0)] rfl rfl ?_
                  try dsimp only at h
                  refine ga_iast hR (pc := 486) (ws' := [(a 0, .inl (V.2 0, n_a, .inl x_189)), (b 0, .inl (V.2 0, n_b, .inl y_185)), (c 0, .inl (V.2 0, n_c, .inl ((upd z_172 ((nI 26) + v5_169).toNatClampNeg r_190)))), (q_182, .inl (V.2 0, 4, .inl w_186))]) 2 rfl h.1 rfl dL_draws_486 ?_
                  replace h := h.2
                  obtain ⟨z_191, ez_191⟩ : ∃ f : Nat → Int32, f = upd z_172 ((nI 26) + v5_169).toNatClampNeg r_190 := ⟨_, rfl⟩
                  refine ga_cast (ws' := [(a 0, .inl (V.2 0, n_a, .inl x_189)), (b 0, .inl (V.2 0, n_b, .inl y_185)), (c 0, .inl (V.2 0, n_c, .inl z_191)), (q_182, .inl (V.2 0, 4, .inl w_186))]) (by rw [ez_191]) rfl ?_
                  replace h := h z_191 ez_191
                  obtain ⟨v5_192, ev5_192⟩ : ∃ v : Int32, v = v5_169 + (nI 1) := ⟨_, rfl⟩
                  replace h := h v5_192 ev5_192
                  refine ga_iinc hR (pc := 487) (lv' := [(5, .int v5_192), (0, .ref b0), (1, .ref (a 0)), (2, .ref (b 0)), (3, .ref (c 0)), (4, .int r_1), (9, .int v9_181), (10, .int v10_183)]) 5 (by decide) rfl ev5_192 (by decide) rfl dL_draws_487 ?_
                  refine ga_goto hR (pc := 490) 63 (by decide) dL_draws_490 ?_
                  refine ga_drop hR [0, 1, 2] (wc := [(a 0, .inl (V.2 0, n_a, .inl x_189)), (b 0, .inl (V.2 0, n_b, .inl y_185)), (c 0, .inl (V.2 0, n_c, .inl z_191))]) rfl rfl ?_
                  exact ga_lv hR [1, 2, 3, 4, 5, 0] rfl (ih _ _ (by omega) (by omega) _ _ _ _ h)
                · intro h
                  obtain ⟨n, h⟩ := h
                  have L141 : ∀ (n : Nat) (v10_193 : Int32) (v12_194 : Int32) (x_195 : Nat → Int32) (y_196 : Nat → Int32) (w_197 : Nat → Int32), lp_L_draws_141 n_a n_b v5_169 r_175 r_176 v8_180 (fun (v10_183 : Int32) (x_184 : Nat → Int32) (y_185 : Nat → Int32) (w_186 : Nat → Int32) => G (k_173 + 1) (s_174 + 4) [(a 0, .inl (V.2 0, n_a, .inl x_184)), (b 0, .inl (V.2 0, n_b, .inl y_185)), (c 0, .inl (V.2 0, n_c, .inl z_172)), (q_182, .inl (V.2 0, 4, .inl w_186))] 449 [(0, .ref b0), (1, .ref (a 0)), (2, .ref (b 0)), (3, .ref (c 0)), (4, .int r_1), (5, .int v5_169), (9, .int v9_181), (10, .int v10_183)] []) n v10_193 v12_194 x_195 y_196 w_197 → G (k_173 + 1) (s_174 + 4) [(a 0, .inl (V.2 0, n_a, .inl x_195)), (b 0, .inl (V.2 0, n_b, .inl y_196)), (c 0, .inl (V.2 0, n_c, .inl z_172)), (q_182, .inl (V.2 0, 4, .inl w_197))] 141 [(0, .ref b0), (1, .ref (a 0)), (2, .ref (b 0)), (3, .ref (c 0)), (4, .int r_1), (5, .int v5_169), (6, .int r_175), (7, .int r_176), (8, .int v8_180), (9, .int v9_181), (10, .int v10_193), (11, .ref (q_182)), (12, .int v12_194)] [] := by
                    intro n
                    induction n with
                    | zero => exact fun _ _ _ _ _ h => False.elim h
                    | succ n ih =>
                      intro v10_193 v12_194 x_195 y_196 w_197 h
                      rw [lp_L_draws_141] at h
                      refine ga_iload hR (pc := 141) 12 rfl dL_draws_141 ?_
                      refine ga_iload hR (pc := 143) 8 rfl dL_draws_143 ?_
                      refine ga_icmp_ge hR (pc := 145) 449 (by decide) dL_draws_145 (fun c145 => ?_) (fun c145 => ?_)
                      · replace h := h.1 c145
                        exact ga_lv hR [0, 1, 2, 3, 4, 5, 9, 10] rfl h
                      · replace h := h.2 c145
                        refine ga_iload hR (pc := 148) 7 rfl dL_draws_148 ?_
                        refine ga_bipush hR (pc := 150) (v := nI 9) (by decide) dL_draws_150 ?_
                        refine ga_iload hR (pc := 152) 12 rfl dL_draws_152 ?_
                        refine ga_imul hR (pc := 154) dL_draws_154 ?_
                        refine ga_ishr hR (pc := 155) dL_draws_155 ?_
                        refine ga_topi (fun v13_198 ev13_198 => ?_)
                        replace h := h v13_198 ev13_198
                        refine ga_istore hR (pc := 156) (lv' := [(13, .int v13_198), (0, .ref b0), (1, .ref (a 0)), (2, .ref (b 0)), (3, .ref (c 0)), (4, .int r_1), (5, .int v5_169), (6, .int r_175), (7, .int r_176), (8, .int v8_180), (9, .int v9_181), (10, .int v10_193), (11, .ref (q_182)), (12, .int v12_194)]) (by decide) rfl dL_draws_156 ?_
                        refine ga_iload hR (pc := 158) 13 rfl dL_draws_158 ?_
                        refine ga_iload hR (pc := 160) 9 rfl dL_draws_160 ?_
                        refine ga_iconst hR (pc := 162) (v := nI 1) (by decide) dL_draws_162 ?_
                        refine ga_isub hR (pc := 163) dL_draws_163 ?_
                        have hJ := h (fun (v10_199 : Int32) (y_200 : Nat → Int32) (w_201 : Nat → Int32) => G (k_173 + 1) (s_174 + 4) [(a 0, .inl (V.2 0, n_a, .inl x_195)), (b 0, .inl (V.2 0, n_b, .inl y_200)), (c 0, .inl (V.2 0, n_c, .inl z_172)), (q_182, .inl (V.2 0, 4, .inl w_201))] 280 [(0, .ref b0), (1, .ref (a 0)), (2, .ref (b 0)), (3, .ref (c 0)), (4, .int r_1), (5, .int v5_169), (6, .int r_175), (7, .int r_176), (8, .int v8_180), (9, .int v9_181), (10, .int v10_199), (11, .ref (q_182)), (12, .int v12_194), (13, .int v13_198)] [])
                        refine ga_bind hJ ?_ ?_
                        · intro v10_199 y_200 w_201 h
                          show G (k_173 + 1) (s_174 + 4) [(a 0, .inl (V.2 0, n_a, .inl x_195)), (b 0, .inl (V.2 0, n_b, .inl y_200)), (c 0, .inl (V.2 0, n_c, .inl z_172)), (q_182, .inl (V.2 0, 4, .inl w_201))] 280 [(0, .ref b0), (1, .ref (a 0)), (2, .ref (b 0)), (3, .ref (c 0)), (4, .int r_1), (5, .int v5_169), (6, .int r_175), (7, .int r_176), (8, .int v8_180), (9, .int v9_181), (10, .int v10_199), (11, .ref (q_182)), (12, .int v12_194), (13, .int v13_198)] []
                          refine ga_iload hR (pc := 280) 13 rfl dL_draws_280 ?_
                          refine ga_callS hR (pc := 282) (As := [.int v13_198]) (rest := []) (st0 := [.int v13_198]) 1 (c_L_unary V v13_198 _ h) (ga_same_i fun _ => rfl) gL_draws_L_unary rfl rfl rfl hd_L_unaryS ⟨Nat.le_of_ble_eq_true rfl, Nat.le_of_ble_eq_true rfl⟩ rfl rfl (Nat.le_of_ble_eq_true rfl) ⟨show (k_173 + 1) + 0 ≤ 16 by omega, show (s_174 + 4) + 0 ≤ 220 by omega⟩ [] rfl rfl dL_draws_282 ?_
                          rintro _ _ ⟨r_203, ⟨⟩, rfl, rfl, h⟩
                          refine ga_to [(a 0, .inl (V.2 0, n_a, .inl x_195)), (b 0, .inl (V.2 0, n_b, .inl y_200)), (c 0, .inl (V.2 0, n_c, .inl z_172)), (q_182, .inl (V.2 0, 4, .inl w_201))] [.int r_203] rfl rfl ?_
                          try dsimp only at h
                          refine ga_istore hR (pc := 285) (lv' := [(14, .int r_203), (0, .ref b0), (1, .ref (a 0)), (2, .ref (b 0)), (3, .ref (c 0)), (4, .int r_1), (5, .int v5_169), (6, .int r_175), (7, .int r_176), (8, .int v8_180), (9, .int v9_181), (10, .int v10_199), (11, .ref (q_182)), (12, .int v12_194), (13, .int v13_198)]) (by decide) rfl dL_draws_285 ?_
                          refine ga_iload hR (pc := 287) 0 rfl dL_draws_287 ?_
                          have hJ := h (fun (s0_204 : Int32) (y_205 : Nat → Int32) => G (k_173 + 1) (s_174 + 4) [(a 0, .inl (V.2 0, n_a, .inl x_195)), (b 0, .inl (V.2 0, n_b, .inl y_205)), (c 0, .inl (V.2 0, n_c, .inl z_172)), (q_182, .inl (V.2 0, 4, .inl w_201))] 317 [(0, .ref b0), (1, .ref (a 0)), (2, .ref (b 0)), (3, .ref (c 0)), (4, .int r_1), (5, .int v5_169), (6, .int r_175), (7, .int r_176), (8, .int v8_180), (9, .int v9_181), (11, .ref (q_182)), (12, .int v12_194), (13, .int v13_198)] [.int s0_204])
                          refine ga_bind hJ ?_ ?_
                          · intro s0_204 y_205 h
                            show G (k_173 + 1) (s_174 + 4) [(a 0, .inl (V.2 0, n_a, .inl x_195)), (b 0, .inl (V.2 0, n_b, .inl y_205)), (c 0, .inl (V.2 0, n_c, .inl z_172)), (q_182, .inl (V.2 0, 4, .inl w_201))] 317 [(0, .ref b0), (1, .ref (a 0)), (2, .ref (b 0)), (3, .ref (c 0)), (4, .int r_1), (5, .int v5_169), (6, .int r_175), (7, .int r_176), (8, .int v8_180), (9, .int v9_181), (11, .ref (q_182)), (12, .int v12_194), (13, .int v13_198)] [.int s0_204]
                            refine ga_istore hR (pc := 317) (lv' := [(10, .int s0_204), (0, .ref b0), (1, .ref (a 0)), (2, .ref (b 0)), (3, .ref (c 0)), (4, .int r_1), (5, .int v5_169), (6, .int r_175), (7, .int r_176), (8, .int v8_180), (9, .int v9_181), (11, .ref (q_182)), (12, .int v12_194), (13, .int v13_198)]) (by decide) rfl dL_draws_317 ?_
                            refine ga_iload hR (pc := 319) 13 rfl dL_draws_319 ?_
                            refine ga_iconst hR (pc := 321) (v := nI 3) (by decide) dL_draws_321 ?_
                            refine ga_ishr hR (pc := 322) dL_draws_322 ?_
                            refine ga_bipush hR (pc := 323) (v := nI 9) (by decide) dL_draws_323 ?_
                            refine ga_callS hR (pc := 325) (As := [.int (v13_198 >>> ((nI 3) &&& 31)), .int (nI 9)]) (rest := []) (st0 := [.int (nI 9), .int (v13_198 >>> ((nI 3) &&& 31))]) 2 (c_L_low V (v13_198 >>> ((nI 3) &&& 31)) (nI 9) _ h) (ga_same_i fun _ => rfl) gL_draws_L_low rfl rfl rfl hd_L_lowS ⟨Nat.le_of_ble_eq_true rfl, Nat.le_of_ble_eq_true rfl⟩ rfl rfl (Nat.le_of_ble_eq_true rfl) ⟨show (k_173 + 1) + 0 ≤ 16 by omega, show (s_174 + 4) + 0 ≤ 220 by omega⟩ [] rfl rfl dL_draws_325 ?_
                            rintro _ _ ⟨r_207, ⟨⟩, rfl, rfl, h⟩
                            refine ga_to [(a 0, .inl (V.2 0, n_a, .inl x_195)), (b 0, .inl (V.2 0, n_b, .inl y_205)), (c 0, .inl (V.2 0, n_c, .inl z_172)), (q_182, .inl (V.2 0, 4, .inl w_201))] [.int r_207] rfl rfl ?_
                            try dsimp only at h
                            have hJ := h (fun (s0_208 : Int32) => G (k_173 + 1) (s_174 + 4) [(a 0, .inl (V.2 0, n_a, .inl x_195)), (b 0, .inl (V.2 0, n_b, .inl y_205)), (c 0, .inl (V.2 0, n_c, .inl z_172)), (q_182, .inl (V.2 0, 4, .inl w_201))] 361 [(0, .ref b0), (1, .ref (a 0)), (2, .ref (b 0)), (3, .ref (c 0)), (4, .int r_1), (5, .int v5_169), (6, .int r_175), (7, .int r_176), (8, .int v8_180), (9, .int v9_181), (10, .int s0_204), (11, .ref (q_182)), (12, .int v12_194)] [.int s0_208])
                            refine ga_bind hJ ?_ ?_
                            · intro s0_208 h
                              show G (k_173 + 1) (s_174 + 4) [(a 0, .inl (V.2 0, n_a, .inl x_195)), (b 0, .inl (V.2 0, n_b, .inl y_205)), (c 0, .inl (V.2 0, n_c, .inl z_172)), (q_182, .inl (V.2 0, 4, .inl w_201))] 361 [(0, .ref b0), (1, .ref (a 0)), (2, .ref (b 0)), (3, .ref (c 0)), (4, .int r_1), (5, .int v5_169), (6, .int r_175), (7, .int r_176), (8, .int v8_180), (9, .int v9_181), (10, .int s0_204), (11, .ref (q_182)), (12, .int v12_194)] [.int s0_208]
                              refine ga_istore hR (pc := 361) (lv' := [(15, .int s0_208), (0, .ref b0), (1, .ref (a 0)), (2, .ref (b 0)), (3, .ref (c 0)), (4, .int r_1), (5, .int v5_169), (6, .int r_175), (7, .int r_176), (8, .int v8_180), (9, .int v9_181), (10, .int s0_204), (11, .ref (q_182)), (12, .int v12_194)]) (by decide) rfl dL_draws_361 ?_
                              refine ga_iload hR (pc := 363) 7 rfl dL_draws_363 ?_
                              refine ga_bipush hR (pc := 365) (v := nI 16) (by decide) dL_draws_365 ?_
                              refine ga_iconst hR (pc := 367) (v := nI 2) (by decide) dL_draws_367 ?_
                              refine ga_iload hR (pc := 368) 13 rfl dL_draws_368 ?_
                              refine ga_imul hR (pc := 370) dL_draws_370 ?_
                              refine ga_iadd hR (pc := 371) dL_draws_371 ?_
                              refine ga_ishr hR (pc := 372) dL_draws_372 ?_
                              refine ga_bipush hR (pc := 373) (v := nI 7) (by decide) dL_draws_373 ?_
                              refine ga_callS hR (pc := 375) (As := [.int (r_175 >>> (((nI 16) + ((nI 2) * v12_194)) &&& 31)), .int (nI 7)]) (rest := []) (st0 := [.int (nI 7), .int (r_175 >>> (((nI 16) + ((nI 2) * v12_194)) &&& 31))]) 2 (c_L_low V (r_175 >>> (((nI 16) + ((nI 2) * v12_194)) &&& 31)) (nI 7) _ h) (ga_same_i fun _ => rfl) gL_draws_L_low rfl rfl rfl hd_L_lowS ⟨Nat.le_of_ble_eq_true rfl, Nat.le_of_ble_eq_true rfl⟩ rfl rfl (Nat.le_of_ble_eq_true rfl) ⟨show (k_173 + 1) + 0 ≤ 16 by omega, show (s_174 + 4) + 0 ≤ 220 by omega⟩ [] rfl rfl dL_draws_375 ?_
                              rintro _ _ ⟨r_210, ⟨⟩, rfl, rfl, h⟩
                              refine ga_to [(a 0, .inl (V.2 0, n_a, .inl x_195)), (b 0, .inl (V.2 0, n_b, .inl y_205)), (c 0, .inl (V.2 0, n_c, .inl z_172)), (q_182, .inl (V.2 0, 4, .inl w_201))] [.int r_210] rfl rfl ?_
                              try dsimp only at h
                              have hJ := h (fun (s0_211 : Int32) => G (k_173 + 1) (s_174 + 4) [(a 0, .inl (V.2 0, n_a, .inl x_195)), (b 0, .inl (V.2 0, n_b, .inl y_205)), (c 0, .inl (V.2 0, n_c, .inl z_172)), (q_182, .inl (V.2 0, 4, .inl w_201))] 387 [(0, .ref b0), (1, .ref (a 0)), (2, .ref (b 0)), (3, .ref (c 0)), (4, .int r_1), (5, .int v5_169), (6, .int r_175), (7, .int r_176), (8, .int v8_180), (9, .int v9_181), (10, .int s0_204), (11, .ref (q_182)), (12, .int v12_194)] [.int s0_211])
                              refine ga_bind hJ ?_ ?_
                              · intro s0_211 h
                                show G (k_173 + 1) (s_174 + 4) [(a 0, .inl (V.2 0, n_a, .inl x_195)), (b 0, .inl (V.2 0, n_b, .inl y_205)), (c 0, .inl (V.2 0, n_c, .inl z_172)), (q_182, .inl (V.2 0, 4, .inl w_201))] 387 [(0, .ref b0), (1, .ref (a 0)), (2, .ref (b 0)), (3, .ref (c 0)), (4, .int r_1), (5, .int v5_169), (6, .int r_175), (7, .int r_176), (8, .int v8_180), (9, .int v9_181), (10, .int s0_204), (11, .ref (q_182)), (12, .int v12_194)] [.int s0_211]
                                refine ga_istore hR (pc := 387) (lv' := [(15, .int s0_211), (0, .ref b0), (1, .ref (a 0)), (2, .ref (b 0)), (3, .ref (c 0)), (4, .int r_1), (5, .int v5_169), (6, .int r_175), (7, .int r_176), (8, .int v8_180), (9, .int v9_181), (10, .int s0_204), (11, .ref (q_182)), (12, .int v12_194)]) (by decide) rfl dL_draws_387 ?_
                                refine ga_aload_n hR (pc := 389) 2 rfl rfl dL_draws_389 ?_
                                refine ga_bipush hR (pc := 390) (v := nI 24) (by decide) dL_draws_390 ?_
                                refine ga_aload_n hR (pc := 392) 2 rfl rfl dL_draws_392 ?_
                                refine ga_iconst hR (pc := 393) (v := nI 1) (by decide) dL_draws_393 ?_
                                refine ga_iald hR (pc := 394) 0 rfl h.1 dL_draws_394 ?_
                                replace h := h.2
                                refine ga_iadd hR (pc := 395) dL_draws_395 ?_
                                refine ga_iload hR (pc := 396) 0 rfl dL_draws_396 ?_
                                refine ga_iast hR (pc := 398) (ws' := [(a 0, .inl (V.2 0, n_a, .inl ((upd x_195 ((nI 24) + (x_195 (nI 1).toNatClampNeg)).toNatClampNeg s0_211)))), (b 0, .inl (V.2 0, n_b, .inl y_205)), (c 0, .inl (V.2 0, n_c, .inl z_172)), (q_182, .inl (V.2 0, 4, .inl w_201))]) 0 rfl h.1 rfl dL_draws_398 ?_
                                replace h := h.2
                                obtain ⟨x_213, ex_213⟩ : ∃ f : Nat → Int32, f = upd x_195 ((nI 24) + (x_195 (nI 1).toNatClampNeg)).toNatClampNeg s0_211 := ⟨_, rfl⟩
                                refine ga_cast (ws' := [(a 0, .inl (V.2 0, n_a, .inl x_213)), (b 0, .inl (V.2 0, n_b, .inl y_205)), (c 0, .inl (V.2 0, n_c, .inl z_172)), (q_182, .inl (V.2 0, 4, .inl w_201))]) (by rw [ex_213]) rfl ?_
                                replace h := h x_213 ex_213
                                refine ga_aload_n hR (pc := 399) 2 rfl rfl dL_draws_399 ?_
                                refine ga_iconst hR (pc := 400) (v := nI 1) (by decide) dL_draws_400 ?_
                                refine ga_dup2 hR (pc := 401) rfl rfl dL_draws_401 ?_
                                refine ga_iald hR (pc := 402) 0 rfl h.1 dL_draws_402 ?_
                                replace h := h.2
                                refine ga_iconst hR (pc := 403) (v := nI 1) (by decide) dL_draws_403 ?_
                                refine ga_iadd hR (pc := 404) dL_draws_404 ?_
                                refine ga_topi (fun t_214 et_214 => ?_)
                                replace h := h t_214 et_214
                                refine ga_iast hR (pc := 405) (ws' := [(a 0, .inl (V.2 0, n_a, .inl ((upd x_213 (nI 1).toNatClampNeg t_214)))), (b 0, .inl (V.2 0, n_b, .inl y_205)), (c 0, .inl (V.2 0, n_c, .inl z_172)), (q_182, .inl (V.2 0, 4, .inl w_201))]) 0 rfl h.1 rfl dL_draws_405 ?_
                                replace h := h.2
                                obtain ⟨x_215, ex_215⟩ : ∃ f : Nat → Int32, f = upd x_213 (nI 1).toNatClampNeg t_214 := ⟨_, rfl⟩
                                refine ga_cast (ws' := [(a 0, .inl (V.2 0, n_a, .inl x_215)), (b 0, .inl (V.2 0, n_b, .inl y_205)), (c 0, .inl (V.2 0, n_c, .inl z_172)), (q_182, .inl (V.2 0, 4, .inl w_201))]) (by rw [ex_215]) rfl ?_
                                replace h := h x_215 ex_215
                                refine ga_aload_n hR (pc := 406) 3 rfl rfl dL_draws_406 ?_
                                refine ga_bipush hR (pc := 407) (v := nI 16) (by decide) dL_draws_407 ?_
                                refine ga_iload hR (pc := 409) 6 rfl dL_draws_409 ?_
                                refine ga_imul hR (pc := 411) dL_draws_411 ?_
                                refine ga_iload hR (pc := 412) 11 rfl dL_draws_412 ?_
                                refine ga_iadd hR (pc := 414) dL_draws_414 ?_
                                refine ga_iload hR (pc := 415) 0 rfl dL_draws_415 ?_
                                refine ga_bipush hR (pc := 417) (v := nI 6) (by decide) dL_draws_417 ?_
                                have hJ := h (fun (s2_216 : Int32) => G (k_173 + 1) (s_174 + 4) [(a 0, .inl (V.2 0, n_a, .inl x_215)), (b 0, .inl (V.2 0, n_b, .inl y_205)), (c 0, .inl (V.2 0, n_c, .inl z_172)), (q_182, .inl (V.2 0, 4, .inl w_201))] 432 [(0, .ref b0), (1, .ref (a 0)), (2, .ref (b 0)), (3, .ref (c 0)), (4, .int r_1), (5, .int v5_169), (6, .int r_175), (7, .int r_176), (8, .int v8_180), (9, .int v9_181), (11, .ref (q_182)), (12, .int v12_194)] [.int s2_216, .int (((nI 16) * v5_169) + s0_204), .ref (b 0)])
                                refine ga_bind hJ ?_ ?_
                                · intro s2_216 h
                                  show G (k_173 + 1) (s_174 + 4) [(a 0, .inl (V.2 0, n_a, .inl x_215)), (b 0, .inl (V.2 0, n_b, .inl y_205)), (c 0, .inl (V.2 0, n_c, .inl z_172)), (q_182, .inl (V.2 0, 4, .inl w_201))] 432 [(0, .ref b0), (1, .ref (a 0)), (2, .ref (b 0)), (3, .ref (c 0)), (4, .int r_1), (5, .int v5_169), (6, .int r_175), (7, .int r_176), (8, .int v8_180), (9, .int v9_181), (11, .ref (q_182)), (12, .int v12_194)] [.int s2_216, .int (((nI 16) * v5_169) + s0_204), .ref (b 0)]
                                  refine ga_callS hR (pc := 432) (As := [.ref (b 0), .int (((nI 16) * v5_169) + s0_204), .int s2_216]) (rest := []) (st0 := [.int s2_216, .int (((nI 16) * v5_169) + s0_204), .ref (b 0)]) 3 (c_L_sign V b n_b y_205 (((nI 16) * v5_169) + s0_204) s2_216 _ h) (ga_same_i fun _ => rfl) gL_draws_L_sign rfl rfl rfl hd_L_signS ⟨Nat.le_of_ble_eq_true rfl, Nat.le_of_ble_eq_true rfl⟩ rfl rfl (Nat.le_of_ble_eq_true rfl) ⟨show (k_173 + 1) + 0 ≤ 16 by omega, show (s_174 + 4) + 0 ≤ 220 by omega⟩ [1] rfl rfl dL_draws_432 ?_
                                  rintro _ _ ⟨r_219, y_218, rfl, rfl, h⟩
                                  refine ga_to [(a 0, .inl (V.2 0, n_a, .inl x_215)), (b 0, .inl (V.2 0, n_b, .inl y_218)), (c 0, .inl (V.2 0, n_c, .inl z_172)), (q_182, .inl (V.2 0, 4, .inl w_201))] [.int r_219] rfl rfl ?_
                                  try dsimp only at h
                                  refine ga_bipush hR (pc := 435) (v := nI 16) (by decide) dL_draws_435 ?_
                                  refine ga_iload hR (pc := 437) 5 rfl dL_draws_437 ?_
                                  refine ga_imul hR (pc := 439) dL_draws_439 ?_
                                  refine ga_isub hR (pc := 440) dL_draws_440 ?_
                                  refine ga_topi (fun v10_220 ev10_220 => ?_)
                                  replace h := h v10_220 ev10_220
                                  refine ga_istore hR (pc := 441) (lv' := [(10, .int v10_220), (0, .ref b0), (1, .ref (a 0)), (2, .ref (b 0)), (3, .ref (c 0)), (4, .int r_1), (5, .int v5_169), (6, .int r_175), (7, .int r_176), (8, .int v8_180), (9, .int v9_181), (11, .ref (q_182)), (12, .int v12_194)]) (by decide) rfl dL_draws_441 ?_
                                  obtain ⟨v12_221, ev12_221⟩ : ∃ v : Int32, v = v12_194 + (nI 1) := ⟨_, rfl⟩
                                  replace h := h v12_221 ev12_221
                                  refine ga_iinc hR (pc := 443) (lv' := [(12, .int v12_221), (10, .int v10_220), (0, .ref b0), (1, .ref (a 0)), (2, .ref (b 0)), (3, .ref (c 0)), (4, .int r_1), (5, .int v5_169), (6, .int r_175), (7, .int r_176), (8, .int v8_180), (9, .int v9_181), (11, .ref (q_182))]) 12 (by decide) rfl ev12_221 (by decide) rfl dL_draws_443 ?_
                                  refine ga_goto hR (pc := 446) 141 (by decide) dL_draws_446 ?_
                                  exact ga_lv hR [2, 3, 4, 5, 6, 7, 8, 9, 10, 11, 1, 12, 0] rfl (ih _ _ _ _ _ h)
                                · intro h
                                  refine ga_icmp_ne hR (pc := 419) 427 (by decide) dL_draws_419 (fun c419 => ?_) (fun c419 => ?_)
                                  · replace h := h.1 c419
                                    refine ga_bipush hR (pc := 427) (v := nI 48) (by decide) dL_draws_427 ?_
                                    refine ga_iload hR (pc := 429) 0 rfl dL_draws_429 ?_
                                    refine ga_iadd hR (pc := 431) dL_draws_431 ?_
                                    exact ga_lv hR [1, 2, 3, 4, 5, 6, 7, 8, 9, 10, 12, 13] rfl h
                                  · replace h := h.2 c419
                                    refine ga_bipush hR (pc := 422) (v := nI 46) (by decide) dL_draws_422 ?_
                                    refine ga_goto hR (pc := 424) 432 (by decide) dL_draws_424 ?_
                                    exact ga_lv hR [1, 2, 3, 4, 5, 6, 7, 8, 9, 10, 12, 13] rfl h
                              · intro h
                                refine ga_if_ne hR (pc := 378) 385 (by decide) dL_draws_378 (fun c378 => ?_) (fun c378 => ?_)
                                · replace h := h.1 c378
                                  refine ga_iload hR (pc := 385) 0 rfl dL_draws_385 ?_
                                  exact ga_lv hR [1, 2, 3, 4, 5, 6, 7, 8, 9, 10, 11, 12, 13] rfl h
                                · replace h := h.2 c378
                                  refine ga_iconst hR (pc := 381) (v := nI 5) (by decide) dL_draws_381 ?_
                                  refine ga_goto hR (pc := 382) 387 (by decide) dL_draws_382 ?_
                                  exact ga_lv hR [1, 2, 3, 4, 5, 6, 7, 8, 9, 10, 11, 12, 13] rfl h
                            · intro h
                              refine ga_if_ne hR (pc := 328) 336 (by decide) dL_draws_328 (fun c328 => ?_) (fun c328 => ?_)
                              · replace h := h.1 c328
                                refine ga_iload hR (pc := 336) 13 rfl dL_draws_336 ?_
                                refine ga_iconst hR (pc := 338) (v := nI 3) (by decide) dL_draws_338 ?_
                                refine ga_ishr hR (pc := 339) dL_draws_339 ?_
                                refine ga_iload hR (pc := 340) 13 rfl dL_draws_340 ?_
                                refine ga_bipush hR (pc := 342) (v := nI 7) (by decide) dL_draws_342 ?_
                                refine ga_ishr hR (pc := 344) dL_draws_344 ?_
                                refine ga_iconst hR (pc := 345) (v := nI 4) (by decide) dL_draws_345 ?_
                                refine ga_callS hR (pc := 346) (As := [.int (v13_198 >>> ((nI 7) &&& 31)), .int (nI 4)]) (rest := [.int (v13_198 >>> ((nI 3) &&& 31))]) (st0 := [.int (nI 4), .int (v13_198 >>> ((nI 7) &&& 31)), .int (v13_198 >>> ((nI 3) &&& 31))]) 2 (c_L_low V (v13_198 >>> ((nI 7) &&& 31)) (nI 4) _ h) (ga_same_i fun _ => rfl) gL_draws_L_low rfl rfl rfl hd_L_lowS ⟨Nat.le_of_ble_eq_true rfl, Nat.le_of_ble_eq_true rfl⟩ rfl rfl (Nat.le_of_ble_eq_true rfl) ⟨show (k_173 + 1) + 0 ≤ 16 by omega, show (s_174 + 4) + 0 ≤ 220 by omega⟩ [] rfl rfl dL_draws_346 ?_
                                rintro _ _ ⟨r_222, ⟨⟩, rfl, rfl, h⟩
                                refine ga_to [(a 0, .inl (V.2 0, n_a, .inl x_195)), (b 0, .inl (V.2 0, n_b, .inl y_205)), (c 0, .inl (V.2 0, n_c, .inl z_172)), (q_182, .inl (V.2 0, 4, .inl w_201))] [.int r_222, .int (v13_198 >>> ((nI 3) &&& 31))] rfl rfl ?_
                                try dsimp only at h
                                have hJ := h (fun (s1_223 : Int32) => G (k_173 + 1) (s_174 + 4) [(a 0, .inl (V.2 0, n_a, .inl x_195)), (b 0, .inl (V.2 0, n_b, .inl y_205)), (c 0, .inl (V.2 0, n_c, .inl z_172)), (q_182, .inl (V.2 0, 4, .inl w_201))] 358 [(0, .ref b0), (1, .ref (a 0)), (2, .ref (b 0)), (3, .ref (c 0)), (4, .int r_1), (5, .int v5_169), (6, .int r_175), (7, .int r_176), (8, .int v8_180), (9, .int v9_181), (10, .int s0_204), (11, .ref (q_182)), (12, .int v12_194)] [.int s1_223, .int (v13_198 >>> ((nI 3) &&& 31))])
                                refine ga_bind hJ ?_ ?_
                                · intro s1_223 h
                                  show G (k_173 + 1) (s_174 + 4) [(a 0, .inl (V.2 0, n_a, .inl x_195)), (b 0, .inl (V.2 0, n_b, .inl y_205)), (c 0, .inl (V.2 0, n_c, .inl z_172)), (q_182, .inl (V.2 0, 4, .inl w_201))] 358 [(0, .ref b0), (1, .ref (a 0)), (2, .ref (b 0)), (3, .ref (c 0)), (4, .int r_1), (5, .int v5_169), (6, .int r_175), (7, .int r_176), (8, .int v8_180), (9, .int v9_181), (10, .int s0_204), (11, .ref (q_182)), (12, .int v12_194)] [.int s1_223, .int (v13_198 >>> ((nI 3) &&& 31))]
                                  refine ga_callS hR (pc := 358) (As := [.int (v13_198 >>> ((nI 3) &&& 31)), .int s1_223]) (rest := []) (st0 := [.int s1_223, .int (v13_198 >>> ((nI 3) &&& 31))]) 2 (c_L_low V (v13_198 >>> ((nI 3) &&& 31)) s1_223 _ h) (ga_same_i fun _ => rfl) gL_draws_L_low rfl rfl rfl hd_L_lowS ⟨Nat.le_of_ble_eq_true rfl, Nat.le_of_ble_eq_true rfl⟩ rfl rfl (Nat.le_of_ble_eq_true rfl) ⟨show (k_173 + 1) + 0 ≤ 16 by omega, show (s_174 + 4) + 0 ≤ 220 by omega⟩ [] rfl rfl dL_draws_358 ?_
                                  rintro _ _ ⟨r_225, ⟨⟩, rfl, rfl, h⟩
                                  refine ga_to [(a 0, .inl (V.2 0, n_a, .inl x_195)), (b 0, .inl (V.2 0, n_b, .inl y_205)), (c 0, .inl (V.2 0, n_c, .inl z_172)), (q_182, .inl (V.2 0, 4, .inl w_201))] [.int r_225] rfl rfl ?_
                                  try dsimp only at h
                                  exact ga_lv hR [0, 1, 2, 3, 4, 5, 6, 7, 8, 9, 10, 11, 12] rfl h
                                · intro h
                                  refine ga_if_ne hR (pc := 349) 357 (by decide) dL_draws_349 (fun c349 => ?_) (fun c349 => ?_)
                                  · replace h := h.1 c349
                                    refine ga_iconst hR (pc := 357) (v := nI 3) (by decide) dL_draws_357 ?_
                                    exact ga_lv hR [1, 2, 3, 4, 5, 6, 7, 8, 9, 10, 0, 11, 12] rfl h
                                  · replace h := h.2 c349
                                    refine ga_bipush hR (pc := 352) (v := nI 6) (by decide) dL_draws_352 ?_
                                    refine ga_goto hR (pc := 354) 358 (by decide) dL_draws_354 ?_
                                    exact ga_lv hR [1, 2, 3, 4, 5, 6, 7, 8, 9, 10, 0, 11, 12] rfl h
                              · replace h := h.2 c328
                                refine ga_bipush hR (pc := 331) (v := nI 6) (by decide) dL_draws_331 ?_
                                refine ga_goto hR (pc := 333) 361 (by decide) dL_draws_333 ?_
                                exact ga_lv hR [1, 2, 3, 4, 5, 6, 7, 8, 9, 10, 0, 11, 12] rfl h
                          · intro h
                            refine ga_if_ne hR (pc := 289) 297 (by decide) dL_draws_289 (fun c289 => ?_) (fun c289 => ?_)
                            · replace h := h.1 c289
                              refine ga_aload_n hR (pc := 297) 3 rfl rfl dL_draws_297 ?_
                              refine ga_bipush hR (pc := 298) (v := nI 16) (by decide) dL_draws_298 ?_
                              refine ga_iload hR (pc := 300) 6 rfl dL_draws_300 ?_
                              refine ga_imul hR (pc := 302) dL_draws_302 ?_
                              refine ga_iload hR (pc := 303) 11 rfl dL_draws_303 ?_
                              refine ga_iadd hR (pc := 305) dL_draws_305 ?_
                              refine ga_iload hR (pc := 306) 0 rfl dL_draws_306 ?_
                              refine ga_callS hR (pc := 308) (As := [.ref (b 0), .int (((nI 16) * v5_169) + v10_199), .int r_203]) (rest := []) (st0 := [.int r_203, .int (((nI 16) * v5_169) + v10_199), .ref (b 0)]) 3 (c_L_sign V b n_b y_200 (((nI 16) * v5_169) + v10_199) r_203 _ h) (ga_same_i fun _ => rfl) gL_draws_L_sign rfl rfl rfl hd_L_signS ⟨Nat.le_of_ble_eq_true rfl, Nat.le_of_ble_eq_true rfl⟩ rfl rfl (Nat.le_of_ble_eq_true rfl) ⟨show (k_173 + 1) + 0 ≤ 16 by omega, show (s_174 + 4) + 0 ≤ 220 by omega⟩ [1] rfl rfl dL_draws_308 ?_
                              rintro _ _ ⟨r_227, y_226, rfl, rfl, h⟩
                              refine ga_to [(a 0, .inl (V.2 0, n_a, .inl x_195)), (b 0, .inl (V.2 0, n_b, .inl y_226)), (c 0, .inl (V.2 0, n_c, .inl z_172)), (q_182, .inl (V.2 0, 4, .inl w_201))] [.int r_227] rfl rfl ?_
                              try dsimp only at h
                              refine ga_bipush hR (pc := 311) (v := nI 16) (by decide) dL_draws_311 ?_
                              refine ga_iload hR (pc := 313) 6 rfl dL_draws_313 ?_
                              refine ga_imul hR (pc := 315) dL_draws_315 ?_
                              refine ga_isub hR (pc := 316) dL_draws_316 ?_
                              exact ga_lv hR [1, 2, 3, 4, 5, 6, 7, 8, 9, 10, 12, 13, 14] rfl h
                            · replace h := h.2 c289
                              refine ga_iload hR (pc := 292) 11 rfl dL_draws_292 ?_
                              refine ga_goto hR (pc := 294) 317 (by decide) dL_draws_294 ?_
                              exact ga_lv hR [1, 2, 3, 4, 5, 6, 7, 8, 9, 10, 12, 13, 14] rfl h
                        · intro h
                          refine ga_icmp_ge hR (pc := 164) 280 (by decide) dL_draws_164 (fun c164 => ?_) (fun c164 => ?_)
                          · replace h := h.1 c164
                            exact ga_lv hR [1, 2, 3, 4, 5, 6, 7, 8, 9, 10, 11, 12, 13, 0] rfl h
                          · replace h := h.2 c164
                            refine ga_aload hR (pc := 167) 12 rfl dL_draws_167 ?_
                            refine ga_iload hR (pc := 169) 13 rfl dL_draws_169 ?_
                            refine ga_iload hR (pc := 171) 7 rfl dL_draws_171 ?_
                            refine ga_bipush hR (pc := 173) (v := nI 9) (by decide) dL_draws_173 ?_
                            refine ga_iconst hR (pc := 175) (v := nI 2) (by decide) dL_draws_175 ?_
                            refine ga_iload hR (pc := 176) 13 rfl dL_draws_176 ?_
                            refine ga_imul hR (pc := 178) dL_draws_178 ?_
                            refine ga_iadd hR (pc := 179) dL_draws_179 ?_
                            refine ga_ishr hR (pc := 180) dL_draws_180 ?_
                            refine ga_iconst hR (pc := 181) (v := nI 3) (by decide) dL_draws_181 ?_
                            refine ga_callS hR (pc := 182) (As := [.int (r_175 >>> (((nI 9) + ((nI 2) * v12_194)) &&& 31)), .int (nI 3)]) (rest := [.int v12_194, .ref (q_182)]) (st0 := [.int (nI 3), .int (r_175 >>> (((nI 9) + ((nI 2) * v12_194)) &&& 31)), .int v12_194, .ref (q_182)]) 2 (c_L_low V (r_175 >>> (((nI 9) + ((nI 2) * v12_194)) &&& 31)) (nI 3) _ h) (ga_same_i fun _ => rfl) gL_draws_L_low rfl rfl rfl hd_L_lowS ⟨Nat.le_of_ble_eq_true rfl, Nat.le_of_ble_eq_true rfl⟩ rfl rfl (Nat.le_of_ble_eq_true rfl) ⟨show (k_173 + 1) + 0 ≤ 16 by omega, show (s_174 + 4) + 0 ≤ 220 by omega⟩ [] rfl rfl dL_draws_182 ?_
                            rintro _ _ ⟨r_228, ⟨⟩, rfl, rfl, h⟩
                            refine ga_to [(a 0, .inl (V.2 0, n_a, .inl x_195)), (b 0, .inl (V.2 0, n_b, .inl y_196)), (c 0, .inl (V.2 0, n_c, .inl z_172)), (q_182, .inl (V.2 0, 4, .inl w_197))] [.int r_228, .int v12_194, .ref (q_182)] rfl rfl ?_
                            try dsimp only at h
                            have hJ := h (fun (s2_229 : Int32) => G (k_173 + 1) (s_174 + 4) [(a 0, .inl (V.2 0, n_a, .inl x_195)), (b 0, .inl (V.2 0, n_b, .inl y_196)), (c 0, .inl (V.2 0, n_c, .inl z_172)), (q_182, .inl (V.2 0, 4, .inl w_197))] 195 [(0, .ref b0), (1, .ref (a 0)), (2, .ref (b 0)), (3, .ref (c 0)), (4, .int r_1), (5, .int v5_169), (6, .int r_175), (7, .int r_176), (8, .int v8_180), (9, .int v9_181), (10, .int v10_193), (11, .ref (q_182)), (12, .int v12_194), (13, .int v13_198)] [.int s2_229, .int v12_194, .ref (q_182)])
                            refine ga_bind hJ ?_ ?_
                            · intro s2_229 h
                              show G (k_173 + 1) (s_174 + 4) [(a 0, .inl (V.2 0, n_a, .inl x_195)), (b 0, .inl (V.2 0, n_b, .inl y_196)), (c 0, .inl (V.2 0, n_c, .inl z_172)), (q_182, .inl (V.2 0, 4, .inl w_197))] 195 [(0, .ref b0), (1, .ref (a 0)), (2, .ref (b 0)), (3, .ref (c 0)), (4, .int r_1), (5, .int v5_169), (6, .int r_175), (7, .int r_176), (8, .int v8_180), (9, .int v9_181), (10, .int v10_193), (11, .ref (q_182)), (12, .int v12_194), (13, .int v13_198)] [.int s2_229, .int v12_194, .ref (q_182)]
                              refine ga_iast hR (pc := 195) (ws' := [(a 0, .inl (V.2 0, n_a, .inl x_195)), (b 0, .inl (V.2 0, n_b, .inl y_196)), (c 0, .inl (V.2 0, n_c, .inl z_172)), (q_182, .inl (V.2 0, 4, .inl ((upd w_197 v12_194.toNatClampNeg s2_229))))]) 3 rfl h.1 rfl dL_draws_195 ?_
                              replace h := h.2
                              obtain ⟨w_231, ew_231⟩ : ∃ f : Nat → Int32, f = upd w_197 v12_194.toNatClampNeg s2_229 := ⟨_, rfl⟩
                              refine ga_cast (ws' := [(a 0, .inl (V.2 0, n_a, .inl x_195)), (b 0, .inl (V.2 0, n_b, .inl y_196)), (c 0, .inl (V.2 0, n_c, .inl z_172)), (q_182, .inl (V.2 0, 4, .inl w_231))]) (by rw [ew_231]) rfl ?_
                              replace h := h w_231 ew_231
                              refine ga_iload hR (pc := 196) 6 rfl dL_draws_196 ?_
                              refine ga_iconst hR (pc := 198) (v := nI 5) (by decide) dL_draws_198 ?_
                              refine ga_iload hR (pc := 199) 12 rfl dL_draws_199 ?_
                              refine ga_iadd hR (pc := 201) dL_draws_201 ?_
                              refine ga_ishr hR (pc := 202) dL_draws_202 ?_
                              refine ga_iconst hR (pc := 203) (v := nI 4) (by decide) dL_draws_203 ?_
                              refine ga_callS hR (pc := 204) (As := [.int (r_175 >>> (((nI 5) + v12_194) &&& 31)), .int (nI 4)]) (rest := []) (st0 := [.int (nI 4), .int (r_175 >>> (((nI 5) + v12_194) &&& 31))]) 2 (c_L_low V (r_175 >>> (((nI 5) + v12_194) &&& 31)) (nI 4) _ h) (ga_same_i fun _ => rfl) gL_draws_L_low rfl rfl rfl hd_L_lowS ⟨Nat.le_of_ble_eq_true rfl, Nat.le_of_ble_eq_true rfl⟩ rfl rfl (Nat.le_of_ble_eq_true rfl) ⟨show (k_173 + 1) + 0 ≤ 16 by omega, show (s_174 + 4) + 0 ≤ 220 by omega⟩ [] rfl rfl dL_draws_204 ?_
                              rintro _ _ ⟨r_232, ⟨⟩, rfl, rfl, h⟩
                              refine ga_to [(a 0, .inl (V.2 0, n_a, .inl x_195)), (b 0, .inl (V.2 0, n_b, .inl y_196)), (c 0, .inl (V.2 0, n_c, .inl z_172)), (q_182, .inl (V.2 0, 4, .inl w_231))] [.int r_232] rfl rfl ?_
                              try dsimp only at h
                              have hJ := h (fun (s0_233 : Int32) => G (k_173 + 1) (s_174 + 4) [(a 0, .inl (V.2 0, n_a, .inl x_195)), (b 0, .inl (V.2 0, n_b, .inl y_196)), (c 0, .inl (V.2 0, n_c, .inl z_172)), (q_182, .inl (V.2 0, 4, .inl w_231))] 221 [(0, .ref b0), (1, .ref (a 0)), (2, .ref (b 0)), (3, .ref (c 0)), (4, .int r_1), (5, .int v5_169), (6, .int r_175), (7, .int r_176), (8, .int v8_180), (9, .int v9_181), (10, .int v10_193), (11, .ref (q_182)), (12, .int v12_194), (13, .int v13_198)] [.int s0_233])
                              refine ga_bind hJ ?_ ?_
                              · intro s0_233 h
                                show G (k_173 + 1) (s_174 + 4) [(a 0, .inl (V.2 0, n_a, .inl x_195)), (b 0, .inl (V.2 0, n_b, .inl y_196)), (c 0, .inl (V.2 0, n_c, .inl z_172)), (q_182, .inl (V.2 0, 4, .inl w_231))] 221 [(0, .ref b0), (1, .ref (a 0)), (2, .ref (b 0)), (3, .ref (c 0)), (4, .int r_1), (5, .int v5_169), (6, .int r_175), (7, .int r_176), (8, .int v8_180), (9, .int v9_181), (10, .int v10_193), (11, .ref (q_182)), (12, .int v12_194), (13, .int v13_198)] [.int s0_233]
                                refine ga_istore hR (pc := 221) (lv' := [(14, .int s0_233), (0, .ref b0), (1, .ref (a 0)), (2, .ref (b 0)), (3, .ref (c 0)), (4, .int r_1), (5, .int v5_169), (6, .int r_175), (7, .int r_176), (8, .int v8_180), (9, .int v9_181), (10, .int v10_193), (11, .ref (q_182)), (12, .int v12_194), (13, .int v13_198)]) (by decide) rfl dL_draws_221 ?_
                                refine ga_iload hR (pc := 223) 0 rfl dL_draws_223 ?_
                                have hJ := h (fun (s0_235 : Int32) (y_236 : Nat → Int32) => G (k_173 + 1) (s_174 + 4) [(a 0, .inl (V.2 0, n_a, .inl x_195)), (b 0, .inl (V.2 0, n_b, .inl y_236)), (c 0, .inl (V.2 0, n_c, .inl z_172)), (q_182, .inl (V.2 0, 4, .inl w_231))] 253 [(0, .ref b0), (1, .ref (a 0)), (2, .ref (b 0)), (3, .ref (c 0)), (4, .int r_1), (5, .int v5_169), (6, .int r_175), (7, .int r_176), (8, .int v8_180), (9, .int v9_181), (11, .ref (q_182)), (12, .int v12_194), (13, .int v13_198)] [.int s0_235])
                                refine ga_bind hJ ?_ ?_
                                · intro s0_235 y_236 h
                                  show G (k_173 + 1) (s_174 + 4) [(a 0, .inl (V.2 0, n_a, .inl x_195)), (b 0, .inl (V.2 0, n_b, .inl y_236)), (c 0, .inl (V.2 0, n_c, .inl z_172)), (q_182, .inl (V.2 0, 4, .inl w_231))] 253 [(0, .ref b0), (1, .ref (a 0)), (2, .ref (b 0)), (3, .ref (c 0)), (4, .int r_1), (5, .int v5_169), (6, .int r_175), (7, .int r_176), (8, .int v8_180), (9, .int v9_181), (11, .ref (q_182)), (12, .int v12_194), (13, .int v13_198)] [.int s0_235]
                                  refine ga_istore hR (pc := 253) (lv' := [(10, .int s0_235), (0, .ref b0), (1, .ref (a 0)), (2, .ref (b 0)), (3, .ref (c 0)), (4, .int r_1), (5, .int v5_169), (6, .int r_175), (7, .int r_176), (8, .int v8_180), (9, .int v9_181), (11, .ref (q_182)), (12, .int v12_194), (13, .int v13_198)]) (by decide) rfl dL_draws_253 ?_
                                  refine ga_aload_n hR (pc := 255) 3 rfl rfl dL_draws_255 ?_
                                  refine ga_bipush hR (pc := 256) (v := nI 16) (by decide) dL_draws_256 ?_
                                  refine ga_iload hR (pc := 258) 6 rfl dL_draws_258 ?_
                                  refine ga_imul hR (pc := 260) dL_draws_260 ?_
                                  refine ga_iload hR (pc := 261) 0 rfl dL_draws_261 ?_
                                  refine ga_iadd hR (pc := 263) dL_draws_263 ?_
                                  refine ga_aload hR (pc := 264) 11 rfl dL_draws_264 ?_
                                  refine ga_iload hR (pc := 266) 12 rfl dL_draws_266 ?_
                                  refine ga_iald hR (pc := 268) 3 rfl h.1 dL_draws_268 ?_
                                  replace h := h.2
                                  refine ga_callS hR (pc := 269) (As := [.ref (b 0), .int (((nI 16) * v5_169) + s0_235), .int (w_231 v12_194.toNatClampNeg)]) (rest := []) (st0 := [.int (w_231 v12_194.toNatClampNeg), .int (((nI 16) * v5_169) + s0_235), .ref (b 0)]) 3 (c_L_sign V b n_b y_236 (((nI 16) * v5_169) + s0_235) (w_231 v12_194.toNatClampNeg) _ h) (ga_same_i fun _ => rfl) gL_draws_L_sign rfl rfl rfl hd_L_signS ⟨Nat.le_of_ble_eq_true rfl, Nat.le_of_ble_eq_true rfl⟩ rfl rfl (Nat.le_of_ble_eq_true rfl) ⟨show (k_173 + 1) + 0 ≤ 16 by omega, show (s_174 + 4) + 0 ≤ 220 by omega⟩ [1] rfl rfl dL_draws_269 ?_
                                  rintro _ _ ⟨r_239, y_238, rfl, rfl, h⟩
                                  refine ga_to [(a 0, .inl (V.2 0, n_a, .inl x_195)), (b 0, .inl (V.2 0, n_b, .inl y_238)), (c 0, .inl (V.2 0, n_c, .inl z_172)), (q_182, .inl (V.2 0, 4, .inl w_231))] [.int r_239] rfl rfl ?_
                                  try dsimp only at h
                                  refine ga_bipush hR (pc := 272) (v := nI 16) (by decide) dL_draws_272 ?_
                                  refine ga_iload hR (pc := 274) 6 rfl dL_draws_274 ?_
                                  refine ga_imul hR (pc := 276) dL_draws_276 ?_
                                  refine ga_isub hR (pc := 277) dL_draws_277 ?_
                                  refine ga_topi (fun v10_240 ev10_240 => ?_)
                                  replace h := h v10_240 ev10_240
                                  refine ga_istore hR (pc := 278) (lv' := [(10, .int v10_240), (0, .ref b0), (1, .ref (a 0)), (2, .ref (b 0)), (3, .ref (c 0)), (4, .int r_1), (5, .int v5_169), (6, .int r_175), (7, .int r_176), (8, .int v8_180), (9, .int v9_181), (11, .ref (q_182)), (12, .int v12_194), (13, .int v13_198)]) (by decide) rfl dL_draws_278 ?_
                                  exact ga_lv hR [1, 2, 3, 4, 5, 6, 7, 8, 9, 10, 0, 11, 12, 13] rfl h
                                · intro h
                                  refine ga_if_ne hR (pc := 225) 233 (by decide) dL_draws_225 (fun c225 => ?_) (fun c225 => ?_)
                                  · replace h := h.1 c225
                                    refine ga_aload_n hR (pc := 233) 3 rfl rfl dL_draws_233 ?_
                                    refine ga_bipush hR (pc := 234) (v := nI 16) (by decide) dL_draws_234 ?_
                                    refine ga_iload hR (pc := 236) 6 rfl dL_draws_236 ?_
                                    refine ga_imul hR (pc := 238) dL_draws_238 ?_
                                    refine ga_iload hR (pc := 239) 11 rfl dL_draws_239 ?_
                                    refine ga_iadd hR (pc := 241) dL_draws_241 ?_
                                    refine ga_iload hR (pc := 242) 0 rfl dL_draws_242 ?_
                                    refine ga_callS hR (pc := 244) (As := [.ref (b 0), .int (((nI 16) * v5_169) + v10_193), .int s0_233]) (rest := []) (st0 := [.int s0_233, .int (((nI 16) * v5_169) + v10_193), .ref (b 0)]) 3 (c_L_sign V b n_b y_196 (((nI 16) * v5_169) + v10_193) s0_233 _ h) (ga_same_i fun _ => rfl) gL_draws_L_sign rfl rfl rfl hd_L_signS ⟨Nat.le_of_ble_eq_true rfl, Nat.le_of_ble_eq_true rfl⟩ rfl rfl (Nat.le_of_ble_eq_true rfl) ⟨show (k_173 + 1) + 0 ≤ 16 by omega, show (s_174 + 4) + 0 ≤ 220 by omega⟩ [1] rfl rfl dL_draws_244 ?_
                                    rintro _ _ ⟨r_242, y_241, rfl, rfl, h⟩
                                    refine ga_to [(a 0, .inl (V.2 0, n_a, .inl x_195)), (b 0, .inl (V.2 0, n_b, .inl y_241)), (c 0, .inl (V.2 0, n_c, .inl z_172)), (q_182, .inl (V.2 0, 4, .inl w_231))] [.int r_242] rfl rfl ?_
                                    try dsimp only at h
                                    refine ga_bipush hR (pc := 247) (v := nI 16) (by decide) dL_draws_247 ?_
                                    refine ga_iload hR (pc := 249) 6 rfl dL_draws_249 ?_
                                    refine ga_imul hR (pc := 251) dL_draws_251 ?_
                                    refine ga_isub hR (pc := 252) dL_draws_252 ?_
                                    exact ga_lv hR [1, 2, 3, 4, 5, 6, 7, 8, 9, 10, 12, 13, 14] rfl h
                                  · replace h := h.2 c225
                                    refine ga_iload hR (pc := 228) 11 rfl dL_draws_228 ?_
                                    refine ga_goto hR (pc := 230) 253 (by decide) dL_draws_230 ?_
                                    exact ga_lv hR [1, 2, 3, 4, 5, 6, 7, 8, 9, 10, 12, 13, 14] rfl h
                              · intro h
                                refine ga_if_ne hR (pc := 207) 220 (by decide) dL_draws_207 (fun c207 => ?_) (fun c207 => ?_)
                                · replace h := h.1 c207
                                  refine ga_iconst hR (pc := 220) (v := nI 0) (by decide) dL_draws_220 ?_
                                  exact ga_lv hR [0, 1, 2, 3, 4, 5, 6, 7, 8, 9, 10, 11, 12, 13] rfl h
                                · replace h := h.2 c207
                                  refine ga_iload hR (pc := 210) 13 rfl dL_draws_210 ?_
                                  refine ga_iconst hR (pc := 212) (v := nI 5) (by decide) dL_draws_212 ?_
                                  refine ga_ishr hR (pc := 213) dL_draws_213 ?_
                                  refine ga_callS hR (pc := 214) (As := [.int (v13_198 >>> ((nI 5) &&& 31))]) (rest := []) (st0 := [.int (v13_198 >>> ((nI 5) &&& 31))]) 1 (c_L_unary V (v13_198 >>> ((nI 5) &&& 31)) _ h) (ga_same_i fun _ => rfl) gL_draws_L_unary rfl rfl rfl hd_L_unaryS ⟨Nat.le_of_ble_eq_true rfl, Nat.le_of_ble_eq_true rfl⟩ rfl rfl (Nat.le_of_ble_eq_true rfl) ⟨show (k_173 + 1) + 0 ≤ 16 by omega, show (s_174 + 4) + 0 ≤ 220 by omega⟩ [] rfl rfl dL_draws_214 ?_
                                  rintro _ _ ⟨r_243, ⟨⟩, rfl, rfl, h⟩
                                  refine ga_to [(a 0, .inl (V.2 0, n_a, .inl x_195)), (b 0, .inl (V.2 0, n_b, .inl y_196)), (c 0, .inl (V.2 0, n_c, .inl z_172)), (q_182, .inl (V.2 0, 4, .inl w_231))] [.int r_243] rfl rfl ?_
                                  try dsimp only at h
                                  refine ga_goto hR (pc := 217) 221 (by decide) dL_draws_217 ?_
                                  exact ga_lv hR [0, 1, 2, 3, 4, 5, 6, 7, 8, 9, 10, 11, 12, 13] rfl h
                            · intro h
                              refine ga_if_ne hR (pc := 185) 193 (by decide) dL_draws_185 (fun c185 => ?_) (fun c185 => ?_)
                              · replace h := h.1 c185
                                refine ga_bipush hR (pc := 193) (v := nI 38) (by decide) dL_draws_193 ?_
                                exact ga_lv hR [1, 2, 3, 4, 5, 6, 7, 8, 9, 10, 11, 12, 13, 0] rfl h
                              · replace h := h.2 c185
                                refine ga_bipush hR (pc := 188) (v := nI 124) (by decide) dL_draws_188 ?_
                                refine ga_goto hR (pc := 190) 195 (by decide) dL_draws_190 ?_
                                exact ga_lv hR [1, 2, 3, 4, 5, 6, 7, 8, 9, 10, 11, 12, 13, 0] rfl h
                  exact ga_lv hR [5, 6, 7, 8, 9, 10, 11, 12, 4, 3, 2, 1, 0] rfl (L141 n _ _ _ _ _ h)
              · intro h
                refine ga_icmp_ne hR (pc := 101) 108 (by decide) dL_draws_101 (fun c101 => ?_) (fun c101 => ?_)
                · replace h := h.1 c101
                  refine ga_iload hR (pc := 108) 7 rfl dL_draws_108 ?_
                  refine ga_iconst hR (pc := 110) (v := nI 1) (by decide) dL_draws_110 ?_
                  refine ga_icmp_ne hR (pc := 111) 118 (by decide) dL_draws_111 (fun c111 => ?_) (fun c111 => ?_)
                  · replace h := h.1 c111
                    refine ga_iconst hR (pc := 118) (v := nI 3) (by decide) dL_draws_118 ?_
                    exact ga_lv hR [2, 3, 4, 5, 6, 7, 1, 0] rfl h
                  · replace h := h.2 c111
                    refine ga_iconst hR (pc := 114) (v := nI 2) (by decide) dL_draws_114 ?_
                    refine ga_goto hR (pc := 115) 119 (by decide) dL_draws_115 ?_
                    exact ga_lv hR [2, 3, 4, 5, 6, 7, 1, 0] rfl h
                · replace h := h.2 c101
                  refine ga_iconst hR (pc := 104) (v := nI 1) (by decide) dL_draws_104 ?_
                  refine ga_goto hR (pc := 105) 119 (by decide) dL_draws_105 ?_
                  exact ga_lv hR [2, 3, 4, 5, 6, 7, 1, 0] rfl h
        exact ga_lv hR [1, 2, 3, 4, 5, 0] rfl (L63 n 0 0 (by omega) (by omega) _ _ _ _ h)
    · intro h
      obtain ⟨n, h⟩ := h
      have L31 : ∀ (n : Nat) (v5_246 : Int32) (z_247 : Nat → Int32), lp_L_draws_31 n_c (fun (z_4 : Nat → Int32) => G 0 0 [(a 0, .inl (V.2 0, n_a, .inl x_2)), (b 0, .inl (V.2 0, n_b, .inl y)), (c 0, .inl (V.2 0, n_c, .inl z_4))] 49 [(0, .ref b0), (1, .ref (a 0)), (2, .ref (b 0)), (3, .ref (c 0)), (4, .int r_1)] []) n v5_246 z_247 → G 0 0 [(a 0, .inl (V.2 0, n_a, .inl x_2)), (b 0, .inl (V.2 0, n_b, .inl y)), (c 0, .inl (V.2 0, n_c, .inl z_247))] 31 [(0, .ref b0), (1, .ref (a 0)), (2, .ref (b 0)), (3, .ref (c 0)), (4, .int r_1), (5, .int v5_246)] [] := by
        intro n
        induction n with
        | zero => exact fun _ _ h => False.elim h
        | succ n ih =>
          intro v5_246 z_247 h
          rw [lp_L_draws_31] at h
          refine ga_iload hR (pc := 31) 5 rfl dL_draws_31 ?_
          refine ga_bipush hR (pc := 33) (v := nI 61) (by decide) dL_draws_33 ?_
          refine ga_icmp_ge hR (pc := 35) 49 (by decide) dL_draws_35 (fun c35 => ?_) (fun c35 => ?_)
          · replace h := h.1 c35
            exact ga_lv hR [0, 1, 2, 3, 4] rfl h
          · replace h := h.2 c35
            refine ga_aload_n hR (pc := 38) 3 rfl rfl dL_draws_38 ?_
            refine ga_iload hR (pc := 39) 5 rfl dL_draws_39 ?_
            refine ga_iconst hR (pc := 41) (v := nI 0) (by decide) dL_draws_41 ?_
            refine ga_iast hR (pc := 42) (ws' := [(a 0, .inl (V.2 0, n_a, .inl x_2)), (b 0, .inl (V.2 0, n_b, .inl y)), (c 0, .inl (V.2 0, n_c, .inl ((upd z_247 v5_246.toNatClampNeg (nI 0)))))]) 2 rfl h.1 rfl dL_draws_42 ?_
            replace h := h.2
            obtain ⟨z_248, ez_248⟩ : ∃ f : Nat → Int32, f = upd z_247 v5_246.toNatClampNeg (nI 0) := ⟨_, rfl⟩
            refine ga_cast (ws' := [(a 0, .inl (V.2 0, n_a, .inl x_2)), (b 0, .inl (V.2 0, n_b, .inl y)), (c 0, .inl (V.2 0, n_c, .inl z_248))]) (by rw [ez_248]) rfl ?_
            replace h := h z_248 ez_248
            obtain ⟨v5_249, ev5_249⟩ : ∃ v : Int32, v = v5_246 + (nI 1) := ⟨_, rfl⟩
            replace h := h v5_249 ev5_249
            refine ga_iinc hR (pc := 43) (lv' := [(5, .int v5_249), (0, .ref b0), (1, .ref (a 0)), (2, .ref (b 0)), (3, .ref (c 0)), (4, .int r_1)]) 5 (by decide) rfl ev5_249 (by decide) rfl dL_draws_43 ?_
            refine ga_goto hR (pc := 46) 31 (by decide) dL_draws_46 ?_
            exact ga_lv hR [1, 2, 3, 4, 5, 0] rfl (ih _ _ h)
      exact ga_lv hR [1, 2, 3, 4, 5, 0] rfl (L31 n _ _ h)
  · intro h
    obtain ⟨n, h⟩ := h
    have L10 : ∀ (n : Nat) (v5_252 : Int32) (x_253 : Nat → Int32), lp_L_draws_10 n_a (fun (x_2 : Nat → Int32) => G 0 0 [(a 0, .inl (V.2 0, n_a, .inl x_2)), (b 0, .inl (V.2 0, n_b, .inl y)), (c 0, .inl (V.2 0, n_c, .inl z))] 28 [(0, .ref b0), (1, .ref (a 0)), (2, .ref (b 0)), (3, .ref (c 0)), (4, .int r_1)] []) n v5_252 x_253 → G 0 0 [(a 0, .inl (V.2 0, n_a, .inl x_253)), (b 0, .inl (V.2 0, n_b, .inl y)), (c 0, .inl (V.2 0, n_c, .inl z))] 10 [(0, .ref b0), (1, .ref (a 0)), (2, .ref (b 0)), (3, .ref (c 0)), (4, .int r_1), (5, .int v5_252)] [] := by
      intro n
      induction n with
      | zero => exact fun _ _ h => False.elim h
      | succ n ih =>
        intro v5_252 x_253 h
        rw [lp_L_draws_10] at h
        refine ga_iload hR (pc := 10) 5 rfl dL_draws_10 ?_
        refine ga_bipush hR (pc := 12) (v := nI 38) (by decide) dL_draws_12 ?_
        refine ga_icmp_ge hR (pc := 14) 28 (by decide) dL_draws_14 (fun c14 => ?_) (fun c14 => ?_)
        · replace h := h.1 c14
          exact ga_lv hR [0, 1, 2, 3, 4] rfl h
        · replace h := h.2 c14
          refine ga_aload_n hR (pc := 17) 1 rfl rfl dL_draws_17 ?_
          refine ga_iload hR (pc := 18) 5 rfl dL_draws_18 ?_
          refine ga_iconst hR (pc := 20) (v := nI 0) (by decide) dL_draws_20 ?_
          refine ga_iast hR (pc := 21) (ws' := [(a 0, .inl (V.2 0, n_a, .inl ((upd x_253 v5_252.toNatClampNeg (nI 0))))), (b 0, .inl (V.2 0, n_b, .inl y)), (c 0, .inl (V.2 0, n_c, .inl z))]) 0 rfl h.1 rfl dL_draws_21 ?_
          replace h := h.2
          obtain ⟨x_254, ex_254⟩ : ∃ f : Nat → Int32, f = upd x_253 v5_252.toNatClampNeg (nI 0) := ⟨_, rfl⟩
          refine ga_cast (ws' := [(a 0, .inl (V.2 0, n_a, .inl x_254)), (b 0, .inl (V.2 0, n_b, .inl y)), (c 0, .inl (V.2 0, n_c, .inl z))]) (by rw [ex_254]) rfl ?_
          replace h := h x_254 ex_254
          obtain ⟨v5_255, ev5_255⟩ : ∃ v : Int32, v = v5_252 + (nI 1) := ⟨_, rfl⟩
          replace h := h v5_255 ev5_255
          refine ga_iinc hR (pc := 22) (lv' := [(5, .int v5_255), (0, .ref b0), (1, .ref (a 0)), (2, .ref (b 0)), (3, .ref (c 0)), (4, .int r_1)]) 5 (by decide) rfl ev5_255 (by decide) rfl dL_draws_22 ?_
          refine ga_goto hR (pc := 25) 10 (by decide) dL_draws_25 ?_
          exact ga_lv hR [1, 2, 3, 4, 5, 0] rfl (ih _ _ h)
    exact ga_lv hR [2, 3, 4, 5, 1, 0] rfl (L10 n _ _ h)

def rm_L_lays : Room := { frames := 8, cells := 0, slots := 0, locals := 170 }
theorem hd_L_laysS : yL_lays.cls ≠ "java/lang/invoke/MethodHandle" ∧ yL_lays.cls ≠ "java/lang/invoke/VarHandle" ∧ (parseMethodDescriptor yL_lays.desc).map (fun d => d.parameters.length) = some 4 := by decide +kernel
set_option maxHeartbeats 4000000 in
set_option maxRecDepth 100000 in
theorem c_L_lays (V : ga_V) (a : Nat → Nat) (b : Nat → Nat) (c : Nat → Nat) (d : Nat → Nat) (n_b : Nat) (n_c : Nat) (n_d : Nat) (x_ways_number : Int32) (x_ways_unlikeNumber : Int32) (x_ways_knownNumber : Int32) (x_keptNumber : Int32) (x_text_length : Int32) (x_text_rulesSeen : Int32) (x_text_placesSeen : Int32) (x_text_signs : Nat → Int32) (x_rules_number : Int32) (x_rules_placeNumber : Int32) (x_rules_places : Nat → Int32) (x_rules_firsts : Nat → Int32) (x_rules_wholes : Nat → Int32) (x_rules_taken : Nat → Int32) (x_rules_behinds : Nat → Int32) (x_rules_parts_height : Int32) (x_rules_parts_firsts : Nat → Int32) (x_rules_parts_lasts : Nat → Int32) (x_rules_parts_lacking : Nat → Int32) (x_now_length : Int32) (x_now_classes : Nat → Int32) (x_now_kinds : Nat → Int32) (x_now_line : Nat → Int32) (x_acts_number : Int32) (x_steps_firsts : Int32) (x_steps_loose : Int32) (x_steps_onward : Nat → Int32) (x_steps_takers : Nat → Int32) (x_pieces_length : Int32) (x_pieces_bounds : Int32) (x_pieces_stands : Nat → Int32) (x_ways_areFound : Int32) (y : Nat → Int32) (z : Nat → Int32) (w : Nat → Int32) (K : Int32 → Int32 → Int32 → Int32 → Int32 → (Nat → Int32) → Int32 → Int32 → (Nat → Int32) → (Nat → Int32) → (Nat → Int32) → (Nat → Int32) → (Nat → Int32) → Int32 → (Nat → Int32) → (Nat → Int32) → (Nat → Int32) → Int32 → (Nat → Int32) → (Nat → Int32) → (Nat → Int32) → Int32 → Int32 → Int32 → (Nat → Int32) → (Nat → Int32) → Int32 → Int32 → (Nat → Int32) → Int32 → Prop) (h : wp_L_lays n_b n_c n_d x_keptNumber x_text_length x_text_rulesSeen x_text_placesSeen x_text_signs x_rules_number x_rules_placeNumber x_rules_places x_rules_firsts x_rules_wholes x_rules_taken x_rules_behinds x_rules_parts_height x_rules_parts_firsts x_rules_parts_lasts x_rules_parts_lacking x_now_length x_now_classes x_now_kinds x_now_line x_acts_number x_steps_firsts x_steps_loose x_steps_onward x_steps_takers x_pieces_length x_pieces_bounds x_pieces_stands x_ways_areFound y z w K) : ga_C V yL_lays wsL_lays rm_L_lays [.ref (a 0), .ref (b 0), .ref (c 0), .ref (d 0)] [(a 0, .inr (9, [.ref (a 1), .ref (a 3), .ref (a 13), .ref (a 17), .ref (a 21), .ref (a 25), .ref (a 29), .ref (a 32), .ref (a 34), .ref (a 46), .ref (a 50), .int x_keptNumber])), (a 1, .inr (7, [.ref (a 2), .int x_text_length, .int x_text_rulesSeen, .int x_text_placesSeen])), (a 2, .inl (V.2 0, 200, .inl x_text_signs)), (a 3, .inr (4, [.ref (a 4), .ref (a 5), .ref (a 6), .ref (a 7), .ref (a 8), .ref (a 9), .int x_rules_number, .int x_rules_placeNumber])), (a 4, .inl (V.2 0, 4, .inl x_rules_places)), (a 5, .inl (V.2 0, 4, .inl x_rules_firsts)), (a 6, .inl (V.2 0, 4, .inl x_rules_wholes)), (a 7, .inl (V.2 0, 10, .inl x_rules_taken)), (a 8, .inl (V.2 0, 10, .inl x_rules_behinds)), (a 9, .inr (2, [.ref (a 10), .ref (a 11), .ref (a 12), .int x_rules_parts_height])), (a 10, .inl (V.2 0, 16, .inl x_rules_parts_firsts)), (a 11, .inl (V.2 0, 16, .inl x_rules_parts_lasts)), (a 12, .inl (V.2 1, 16, .inl x_rules_parts_lacking)), (a 13, .inr (6, [.ref (a 14), .ref (a 15), .ref (a 16), .int x_now_length])), (a 14, .inl (V.2 0, 26, .inl x_now_classes)), (a 15, .inl (V.2 0, 4, .inl x_now_kinds)), (a 16, .inl (V.2 0, 30, .inl x_now_line)), (a 25, .inr (0, [.ref (a 26), .ref (a 27), .ref (a 28), .int x_acts_number])), (a 29, .inr (5, [.ref (a 30), .ref (a 31), .int x_steps_firsts, .int x_steps_loose])), (a 30, .inl (V.2 0, 10, .inl x_steps_onward)), (a 31, .inl (V.2 0, 6, .inl x_steps_takers)), (a 32, .inr (3, [.ref (a 33), .int x_pieces_length, .int x_pieces_bounds])), (a 33, .inl (V.2 0, 31, .inl x_pieces_stands)), (a 34, .inr (8, [.ref (a 35), .ref (a 36), .ref (a 37), .ref (a 38), .ref (a 39), .ref (a 40), .ref (a 41), .int x_ways_number, .int x_ways_unlikeNumber, .int x_ways_knownNumber, .int x_ways_areFound])), (b 0, .inl (V.2 0, n_b, .inl y)), (c 0, .inl (V.2 0, n_c, .inl z)), (d 0, .inl (V.2 0, n_d, .inl w))] 0 0 (ga_Fi (fun (u : Int32 × Int32 × Int32 × Int32 × (Nat → Int32) × Int32 × Int32 × (Nat → Int32) × (Nat → Int32) × (Nat → Int32) × (Nat → Int32) × (Nat → Int32) × Int32 × (Nat → Int32) × (Nat → Int32) × (Nat → Int32) × Int32 × (Nat → Int32) × (Nat → Int32) × (Nat → Int32) × Int32 × Int32 × Int32 × (Nat → Int32) × (Nat → Int32) × Int32 × Int32 × (Nat → Int32) × Int32) => [(a 0, .inr (9, [.ref (a 1), .ref (a 3), .ref (a 13), .ref (a 17), .ref (a 21), .ref (a 25), .ref (a 29), .ref (a 32), .ref (a 34), .ref (a 46), .ref (a 50), .int u.1])), (a 1, .inr (7, [.ref (a 2), .int u.2.1, .int u.2.2.1, .int u.2.2.2.1])), (a 2, .inl (V.2 0, 200, .inl u.2.2.2.2.1)), (a 3, .inr (4, [.ref (a 4), .ref (a 5), .ref (a 6), .ref (a 7), .ref (a 8), .ref (a 9), .int u.2.2.2.2.2.1, .int u.2.2.2.2.2.2.1])), (a 4, .inl (V.2 0, 4, .inl u.2.2.2.2.2.2.2.1)), (a 5, .inl (V.2 0, 4, .inl u.2.2.2.2.2.2.2.2.1)), (a 6, .inl (V.2 0, 4, .inl u.2.2.2.2.2.2.2.2.2.1)), (a 7, .inl (V.2 0, 10, .inl u.2.2.2.2.2.2.2.2.2.2.1)), (a 8, .inl (V.2 0, 10, .inl u.2.2.2.2.2.2.2.2.2.2.2.1)), (a 9, .inr (2, [.ref (a 10), .ref (a 11), .ref (a 12), .int u.2.2.2.2.2.2.2.2.2.2.2.2.1])), (a 10, .inl (V.2 0, 16, .inl u.2.2.2.2.2.2.2.2.2.2.2.2.2.1)), (a 11, .inl (V.2 0, 16, .inl u.2.2.2.2.2.2.2.2.2.2.2.2.2.2.1)), (a 12, .inl (V.2 1, 16, .inl u.2.2.2.2.2.2.2.2.2.2.2.2.2.2.2.1)), (a 13, .inr (6, [.ref (a 14), .ref (a 15), .ref (a 16), .int u.2.2.2.2.2.2.2.2.2.2.2.2.2.2.2.2.1])), (a 14, .inl (V.2 0, 26, .inl u.2.2.2.2.2.2.2.2.2.2.2.2.2.2.2.2.2.1)), (a 15, .inl (V.2 0, 4, .inl u.2.2.2.2.2.2.2.2.2.2.2.2.2.2.2.2.2.2.1)), (a 16, .inl (V.2 0, 30, .inl u.2.2.2.2.2.2.2.2.2.2.2.2.2.2.2.2.2.2.2.1)), (a 25, .inr (0, [.ref (a 26), .ref (a 27), .ref (a 28), .int u.2.2.2.2.2.2.2.2.2.2.2.2.2.2.2.2.2.2.2.2.1])), (a 29, .inr (5, [.ref (a 30), .ref (a 31), .int u.2.2.2.2.2.2.2.2.2.2.2.2.2.2.2.2.2.2.2.2.2.1, .int u.2.2.2.2.2.2.2.2.2.2.2.2.2.2.2.2.2.2.2.2.2.2.1])), (a 30, .inl (V.2 0, 10, .inl u.2.2.2.2.2.2.2.2.2.2.2.2.2.2.2.2.2.2.2.2.2.2.2.1)), (a 31, .inl (V.2 0, 6, .inl u.2.2.2.2.2.2.2.2.2.2.2.2.2.2.2.2.2.2.2.2.2.2.2.2.1)), (a 32, .inr (3, [.ref (a 33), .int u.2.2.2.2.2.2.2.2.2.2.2.2.2.2.2.2.2.2.2.2.2.2.2.2.2.1, .int u.2.2.2.2.2.2.2.2.2.2.2.2.2.2.2.2.2.2.2.2.2.2.2.2.2.2.1])), (a 33, .inl (V.2 0, 31, .inl u.2.2.2.2.2.2.2.2.2.2.2.2.2.2.2.2.2.2.2.2.2.2.2.2.2.2.2.1)), (a 34, .inr (8, [.ref (a 35), .ref (a 36), .ref (a 37), .ref (a 38), .ref (a 39), .ref (a 40), .ref (a 41), .int x_ways_number, .int x_ways_unlikeNumber, .int x_ways_knownNumber, .int u.2.2.2.2.2.2.2.2.2.2.2.2.2.2.2.2.2.2.2.2.2.2.2.2.2.2.2.2])), (b 0, .inl (V.2 0, n_b, .inl y)), (c 0, .inl (V.2 0, n_c, .inl z)), (d 0, .inl (V.2 0, n_d, .inl w))]) (fun r u => K r u.1 u.2.1 u.2.2.1 u.2.2.2.1 u.2.2.2.2.1 u.2.2.2.2.2.1 u.2.2.2.2.2.2.1 u.2.2.2.2.2.2.2.1 u.2.2.2.2.2.2.2.2.1 u.2.2.2.2.2.2.2.2.2.1 u.2.2.2.2.2.2.2.2.2.2.1 u.2.2.2.2.2.2.2.2.2.2.2.1 u.2.2.2.2.2.2.2.2.2.2.2.2.1 u.2.2.2.2.2.2.2.2.2.2.2.2.2.1 u.2.2.2.2.2.2.2.2.2.2.2.2.2.2.1 u.2.2.2.2.2.2.2.2.2.2.2.2.2.2.2.1 u.2.2.2.2.2.2.2.2.2.2.2.2.2.2.2.2.1 u.2.2.2.2.2.2.2.2.2.2.2.2.2.2.2.2.2.1 u.2.2.2.2.2.2.2.2.2.2.2.2.2.2.2.2.2.2.1 u.2.2.2.2.2.2.2.2.2.2.2.2.2.2.2.2.2.2.2.1 u.2.2.2.2.2.2.2.2.2.2.2.2.2.2.2.2.2.2.2.2.1 u.2.2.2.2.2.2.2.2.2.2.2.2.2.2.2.2.2.2.2.2.2.1 u.2.2.2.2.2.2.2.2.2.2.2.2.2.2.2.2.2.2.2.2.2.2.1 u.2.2.2.2.2.2.2.2.2.2.2.2.2.2.2.2.2.2.2.2.2.2.2.1 u.2.2.2.2.2.2.2.2.2.2.2.2.2.2.2.2.2.2.2.2.2.2.2.2.1 u.2.2.2.2.2.2.2.2.2.2.2.2.2.2.2.2.2.2.2.2.2.2.2.2.2.1 u.2.2.2.2.2.2.2.2.2.2.2.2.2.2.2.2.2.2.2.2.2.2.2.2.2.2.1 u.2.2.2.2.2.2.2.2.2.2.2.2.2.2.2.2.2.2.2.2.2.2.2.2.2.2.2.1 u.2.2.2.2.2.2.2.2.2.2.2.2.2.2.2.2.2.2.2.2.2.2.2.2.2.2.2.2)) := by
  refine ga_met (cc := cL_lays) (maxL := 8) (rt := (some .int)) (by decide) rfl [(0, .ref (a 0)), (1, .ref (b 0)), (2, .ref (c 0)), (3, .ref (d 0))] rfl (Nat.le_of_ble_eq_true rfl) ?_
  intro G hR hE
  unfold wp_L_lays at h
  refine ga_aload_n hR (pc := 0) 0 rfl rfl dL_lays_0 ?_
  refine ga_callV hR (pc := 1) (As := []) (rest := []) (st0 := [.ref (a 0)]) (b := (a 0)) 0 (c_X9_wipe V a x_keptNumber x_text_rulesSeen x_text_placesSeen x_text_length _ h) (ga_same_i fun _ => rfl) gL_lays_X9_wipe rfl rfl rfl hd_X9_wipe ⟨Nat.le_of_ble_eq_true rfl, Nat.le_of_ble_eq_true rfl⟩ rfl rfl (Nat.le_of_ble_eq_true rfl) ⟨Nat.le_of_ble_eq_true rfl, Nat.le_of_ble_eq_true rfl⟩ [0, 1] rfl rfl 0 rfl rfl dL_lays_1 ?_
  rintro _ _ ⟨r_2, x_text_length_1, rfl, rfl, h⟩
  refine ga_to [(a 0, .inr (9, [.ref (a 1), .ref (a 3), .ref (a 13), .ref (a 17), .ref (a 21), .ref (a 25), .ref (a 29), .ref (a 32), .ref (a 34), .ref (a 46), .ref (a 50), .int x_keptNumber])), (a 1, .inr (7, [.ref (a 2), .int x_text_length_1, .int x_text_rulesSeen, .int x_text_placesSeen])), (a 2, .inl (V.2 0, 200, .inl x_text_signs)), (a 3, .inr (4, [.ref (a 4), .ref (a 5), .ref (a 6), .ref (a 7), .ref (a 8), .ref (a 9), .int x_rules_number, .int x_rules_placeNumber])), (a 4, .inl (V.2 0, 4, .inl x_rules_places)), (a 5, .inl (V.2 0, 4, .inl x_rules_firsts)), (a 6, .inl (V.2 0, 4, .inl x_rules_wholes)), (a 7, .inl (V.2 0, 10, .inl x_rules_taken)), (a 8, .inl (V.2 0, 10, .inl x_rules_behinds)), (a 9, .inr (2, [.ref (a 10), .ref (a 11), .ref (a 12), .int x_rules_parts_height])), (a 10, .inl (V.2 0, 16, .inl x_rules_parts_firsts)), (a 11, .inl (V.2 0, 16, .inl x_rules_parts_lasts)), (a 12, .inl (V.2 1, 16, .inl x_rules_parts_lacking)), (a 13, .inr (6, [.ref (a 14), .ref (a 15), .ref (a 16), .int x_now_length])), (a 14, .inl (V.2 0, 26, .inl x_now_classes)), (a 15, .inl (V.2 0, 4, .inl x_now_kinds)), (a 16, .inl (V.2 0, 30, .inl x_now_line)), (a 25, .inr (0, [.ref (a 26), .ref (a 27), .ref (a 28), .int x_acts_number])), (a 29, .inr (5, [.ref (a 30), .ref (a 31), .int x_steps_firsts, .int x_steps_loose])), (a 30, .inl (V.2 0, 10, .inl x_steps_onward)), (a 31, .inl (V.2 0, 6, .inl x_steps_takers)), (a 32, .inr (3, [.ref (a 33), .int x_pieces_length, .int x_pieces_bounds])), (a 33, .inl (V.2 0, 31, .inl x_pieces_stands)), (a 34, .inr (8, [.ref (a 35), .ref (a 36), .ref (a 37), .ref (a 38), .ref (a 39), .ref (a 40), .ref (a 41), .int x_ways_number, .int x_ways_unlikeNumber, .int x_ways_knownNumber, .int x_ways_areFound])), (b 0, .inl (V.2 0, n_b, .inl y)), (c 0, .inl (V.2 0, n_c, .inl z)), (d 0, .inl (V.2 0, n_d, .inl w))] [.int r_2] rfl rfl ?_
  try dsimp only at h
  refine ga_istore hR (pc := 4) (lv' := [(4, .int r_2), (0, .ref (a 0)), (1, .ref (b 0)), (2, .ref (c 0)), (3, .ref (d 0))]) (by decide) rfl dL_lays_4 ?_
  refine ga_iconst hR (pc := 6) (v := nI 1) (by decide) dL_lays_6 ?_
  refine ga_istore hR (pc := 7) (lv' := [(5, .int (nI 1)), (4, .int r_2), (0, .ref (a 0)), (1, .ref (b 0)), (2, .ref (c 0)), (3, .ref (d 0))]) (by decide) rfl dL_lays_7 ?_
  have hJ := h (fun (x_text_length_3 : Int32) (x_text_signs_4 : Nat → Int32) => G 0 0 [(a 0, .inr (9, [.ref (a 1), .ref (a 3), .ref (a 13), .ref (a 17), .ref (a 21), .ref (a 25), .ref (a 29), .ref (a 32), .ref (a 34), .ref (a 46), .ref (a 50), .int x_keptNumber])), (a 1, .inr (7, [.ref (a 2), .int x_text_length_3, .int x_text_rulesSeen, .int x_text_placesSeen])), (a 2, .inl (V.2 0, 200, .inl x_text_signs_4)), (a 3, .inr (4, [.ref (a 4), .ref (a 5), .ref (a 6), .ref (a 7), .ref (a 8), .ref (a 9), .int x_rules_number, .int x_rules_placeNumber])), (a 4, .inl (V.2 0, 4, .inl x_rules_places)), (a 5, .inl (V.2 0, 4, .inl x_rules_firsts)), (a 6, .inl (V.2 0, 4, .inl x_rules_wholes)), (a 7, .inl (V.2 0, 10, .inl x_rules_taken)), (a 8, .inl (V.2 0, 10, .inl x_rules_behinds)), (a 9, .inr (2, [.ref (a 10), .ref (a 11), .ref (a 12), .int x_rules_parts_height])), (a 10, .inl (V.2 0, 16, .inl x_rules_parts_firsts)), (a 11, .inl (V.2 0, 16, .inl x_rules_parts_lasts)), (a 12, .inl (V.2 1, 16, .inl x_rules_parts_lacking)), (a 13, .inr (6, [.ref (a 14), .ref (a 15), .ref (a 16), .int x_now_length])), (a 14, .inl (V.2 0, 26, .inl x_now_classes)), (a 15, .inl (V.2 0, 4, .inl x_now_kinds)), (a 16, .inl (V.2 0, 30, .inl x_now_line)), (a 25, .inr (0, [.ref (a 26), .ref (a 27), .ref (a 28), .int x_acts_number])), (a 29, .inr (5, [.ref (a 30), .ref (a 31), .int x_steps_firsts, .int x_steps_loose])), (a 30, .inl (V.2 0, 10, .inl x_steps_onward)), (a 31, .inl (V.2 0, 6, .inl x_steps_takers)), (a 32, .inr (3, [.ref (a 33), .int x_pieces_length, .int x_pieces_bounds])), (a 33, .inl (V.2 0, 31, .inl x_pieces_stands)), (a 34, .inr (8, [.ref (a 35), .ref (a 36), .ref (a 37), .ref (a 38), .ref (a 39), .ref (a 40), .ref (a 41), .int x_ways_number, .int x_ways_unlikeNumber, .int x_ways_knownNumber, .int x_ways_areFound])), (b 0, .inl (V.2 0, n_b, .inl y)), (c 0, .inl (V.2 0, n_c, .inl z)), (d 0, .inl (V.2 0, n_d, .inl w))] 114 [(0, .ref (a 0)), (1, .ref (b 0)), (2, .ref (c 0)), (3, .ref (d 0))] [])
  refine ga_bind hJ ?_ ?_
  · intro x_text_length_3 x_text_signs_4 h
    show G 0 0 [(a 0, .inr (9, [.ref (a 1), .ref (a 3), .ref (a 13), .ref (a 17), .ref (a 21), .ref (a 25), .ref (a 29), .ref (a 32), .ref (a 34), .ref (a 46), .ref (a 50), .int x_keptNumber])), (a 1, .inr (7, [.ref (a 2), .int x_text_length_3, .int x_text_rulesSeen, .int x_text_placesSeen])), (a 2, .inl (V.2 0, 200, .inl x_text_signs_4)), (a 3, .inr (4, [.ref (a 4), .ref (a 5), .ref (a 6), .ref (a 7), .ref (a 8), .ref (a 9), .int x_rules_number, .int x_rules_placeNumber])), (a 4, .inl (V.2 0, 4, .inl x_rules_places)), (a 5, .inl (V.2 0, 4, .inl x_rules_firsts)), (a 6, .inl (V.2 0, 4, .inl x_rules_wholes)), (a 7, .inl (V.2 0, 10, .inl x_rules_taken)), (a 8, .inl (V.2 0, 10, .inl x_rules_behinds)), (a 9, .inr (2, [.ref (a 10), .ref (a 11), .ref (a 12), .int x_rules_parts_height])), (a 10, .inl (V.2 0, 16, .inl x_rules_parts_firsts)), (a 11, .inl (V.2 0, 16, .inl x_rules_parts_lasts)), (a 12, .inl (V.2 1, 16, .inl x_rules_parts_lacking)), (a 13, .inr (6, [.ref (a 14), .ref (a 15), .ref (a 16), .int x_now_length])), (a 14, .inl (V.2 0, 26, .inl x_now_classes)), (a 15, .inl (V.2 0, 4, .inl x_now_kinds)), (a 16, .inl (V.2 0, 30, .inl x_now_line)), (a 25, .inr (0, [.ref (a 26), .ref (a 27), .ref (a 28), .int x_acts_number])), (a 29, .inr (5, [.ref (a 30), .ref (a 31), .int x_steps_firsts, .int x_steps_loose])), (a 30, .inl (V.2 0, 10, .inl x_steps_onward)), (a 31, .inl (V.2 0, 6, .inl x_steps_takers)), (a 32, .inr (3, [.ref (a 33), .int x_pieces_length, .int x_pieces_bounds])), (a 33, .inl (V.2 0, 31, .inl x_pieces_stands)), (a 34, .inr (8, [.ref (a 35), .ref (a 36), .ref (a 37), .ref (a 38), .ref (a 39), .ref (a 40), .ref (a 41), .int x_ways_number, .int x_ways_unlikeNumber, .int x_ways_knownNumber, .int x_ways_areFound])), (b 0, .inl (V.2 0, n_b, .inl y)), (c 0, .inl (V.2 0, n_c, .inl z)), (d 0, .inl (V.2 0, n_d, .inl w))] 114 [(0, .ref (a 0)), (1, .ref (b 0)), (2, .ref (c 0)), (3, .ref (d 0))] []
    refine ga_iconst hR (pc := 114) (v := nI 0) (by decide) dL_lays_114 ?_
    refine ga_istore hR (pc := 115) (lv' := [(5, .int (nI 0)), (0, .ref (a 0)), (1, .ref (b 0)), (2, .ref (c 0)), (3, .ref (d 0))]) (by decide) rfl dL_lays_115 ?_
    have hJ := h (fun (x_text_length_6 : Int32) (x_text_signs_7 : Nat → Int32) => G 0 0 [(a 0, .inr (9, [.ref (a 1), .ref (a 3), .ref (a 13), .ref (a 17), .ref (a 21), .ref (a 25), .ref (a 29), .ref (a 32), .ref (a 34), .ref (a 46), .ref (a 50), .int x_keptNumber])), (a 1, .inr (7, [.ref (a 2), .int x_text_length_6, .int x_text_rulesSeen, .int x_text_placesSeen])), (a 2, .inl (V.2 0, 200, .inl x_text_signs_7)), (a 3, .inr (4, [.ref (a 4), .ref (a 5), .ref (a 6), .ref (a 7), .ref (a 8), .ref (a 9), .int x_rules_number, .int x_rules_placeNumber])), (a 4, .inl (V.2 0, 4, .inl x_rules_places)), (a 5, .inl (V.2 0, 4, .inl x_rules_firsts)), (a 6, .inl (V.2 0, 4, .inl x_rules_wholes)), (a 7, .inl (V.2 0, 10, .inl x_rules_taken)), (a 8, .inl (V.2 0, 10, .inl x_rules_behinds)), (a 9, .inr (2, [.ref (a 10), .ref (a 11), .ref (a 12), .int x_rules_parts_height])), (a 10, .inl (V.2 0, 16, .inl x_rules_parts_firsts)), (a 11, .inl (V.2 0, 16, .inl x_rules_parts_lasts)), (a 12, .inl (V.2 1, 16, .inl x_rules_parts_lacking)), (a 13, .inr (6, [.ref (a 14), .ref (a 15), .ref (a 16), .int x_now_length])), (a 14, .inl (V.2 0, 26, .inl x_now_classes)), (a 15, .inl (V.2 0, 4, .inl x_now_kinds)), (a 16, .inl (V.2 0, 30, .inl x_now_line)), (a 25, .inr (0, [.ref (a 26), .ref (a 27), .ref (a 28), .int x_acts_number])), (a 29, .inr (5, [.ref (a 30), .ref (a 31), .int x_steps_firsts, .int x_steps_loose])), (a 30, .inl (V.2 0, 10, .inl x_steps_onward)), (a 31, .inl (V.2 0, 6, .inl x_steps_takers)), (a 32, .inr (3, [.ref (a 33), .int x_pieces_length, .int x_pieces_bounds])), (a 33, .inl (V.2 0, 31, .inl x_pieces_stands)), (a 34, .inr (8, [.ref (a 35), .ref (a 36), .ref (a 37), .ref (a 38), .ref (a 39), .ref (a 40), .ref (a 41), .int x_ways_number, .int x_ways_unlikeNumber, .int x_ways_knownNumber, .int x_ways_areFound])), (b 0, .inl (V.2 0, n_b, .inl y)), (c 0, .inl (V.2 0, n_c, .inl z)), (d 0, .inl (V.2 0, n_d, .inl w))] 208 [(0, .ref (a 0)), (3, .ref (d 0))] [])
    refine ga_bind hJ ?_ ?_
    · intro x_text_length_6 x_text_signs_7 h
      show G 0 0 [(a 0, .inr (9, [.ref (a 1), .ref (a 3), .ref (a 13), .ref (a 17), .ref (a 21), .ref (a 25), .ref (a 29), .ref (a 32), .ref (a 34), .ref (a 46), .ref (a 50), .int x_keptNumber])), (a 1, .inr (7, [.ref (a 2), .int x_text_length_6, .int x_text_rulesSeen, .int x_text_placesSeen])), (a 2, .inl (V.2 0, 200, .inl x_text_signs_7)), (a 3, .inr (4, [.ref (a 4), .ref (a 5), .ref (a 6), .ref (a 7), .ref (a 8), .ref (a 9), .int x_rules_number, .int x_rules_placeNumber])), (a 4, .inl (V.2 0, 4, .inl x_rules_places)), (a 5, .inl (V.2 0, 4, .inl x_rules_firsts)), (a 6, .inl (V.2 0, 4, .inl x_rules_wholes)), (a 7, .inl (V.2 0, 10, .inl x_rules_taken)), (a 8, .inl (V.2 0, 10, .inl x_rules_behinds)), (a 9, .inr (2, [.ref (a 10), .ref (a 11), .ref (a 12), .int x_rules_parts_height])), (a 10, .inl (V.2 0, 16, .inl x_rules_parts_firsts)), (a 11, .inl (V.2 0, 16, .inl x_rules_parts_lasts)), (a 12, .inl (V.2 1, 16, .inl x_rules_parts_lacking)), (a 13, .inr (6, [.ref (a 14), .ref (a 15), .ref (a 16), .int x_now_length])), (a 14, .inl (V.2 0, 26, .inl x_now_classes)), (a 15, .inl (V.2 0, 4, .inl x_now_kinds)), (a 16, .inl (V.2 0, 30, .inl x_now_line)), (a 25, .inr (0, [.ref (a 26), .ref (a 27), .ref (a 28), .int x_acts_number])), (a 29, .inr (5, [.ref (a 30), .ref (a 31), .int x_steps_firsts, .int x_steps_loose])), (a 30, .inl (V.2 0, 10, .inl x_steps_onward)), (a 31, .inl (V.2 0, 6, .inl x_steps_takers)), (a 32, .inr (3, [.ref (a 33), .int x_pieces_length, .int x_pieces_bounds])), (a 33, .inl (V.2 0, 31, .inl x_pieces_stands)), (a 34, .inr (8, [.ref (a 35), .ref (a 36), .ref (a 37), .ref (a 38), .ref (a 39), .ref (a 40), .ref (a 41), .int x_ways_number, .int x_ways_unlikeNumber, .int x_ways_knownNumber, .int x_ways_areFound])), (b 0, .inl (V.2 0, n_b, .inl y)), (c 0, .inl (V.2 0, n_c, .inl z)), (d 0, .inl (V.2 0, n_d, .inl w))] 208 [(0, .ref (a 0)), (3, .ref (d 0))] []
      refine ga_aload_n hR (pc := 208) 0 rfl rfl dL_lays_208 ?_
      refine ga_bipush hR (pc := 209) (v := nI 115) (by decide) dL_lays_209 ?_
      refine ga_callV hR (pc := 211) (As := [.int (nI 115)]) (rest := []) (st0 := [.int (nI 115), .ref (a 0)]) (b := (a 0)) 1 (c_X9_write V a x_keptNumber x_text_rulesSeen x_text_placesSeen x_text_length_6 x_text_signs_7 (nI 115) _ h) (ga_same_i fun _ => rfl) gL_lays_X9_write rfl rfl rfl hd_X9_write ⟨Nat.le_of_ble_eq_true rfl, Nat.le_of_ble_eq_true rfl⟩ rfl rfl (Nat.le_of_ble_eq_true rfl) ⟨Nat.le_of_ble_eq_true rfl, Nat.le_of_ble_eq_true rfl⟩ [0, 1, 2] rfl rfl 0 rfl rfl dL_lays_211 ?_
      rintro _ _ ⟨r_11, ⟨x_text_length_9, x_text_signs_10⟩, rfl, rfl, h⟩
      refine ga_to [(a 0, .inr (9, [.ref (a 1), .ref (a 3), .ref (a 13), .ref (a 17), .ref (a 21), .ref (a 25), .ref (a 29), .ref (a 32), .ref (a 34), .ref (a 46), .ref (a 50), .int x_keptNumber])), (a 1, .inr (7, [.ref (a 2), .int x_text_length_9, .int x_text_rulesSeen, .int x_text_placesSeen])), (a 2, .inl (V.2 0, 200, .inl x_text_signs_10)), (a 3, .inr (4, [.ref (a 4), .ref (a 5), .ref (a 6), .ref (a 7), .ref (a 8), .ref (a 9), .int x_rules_number, .int x_rules_placeNumber])), (a 4, .inl (V.2 0, 4, .inl x_rules_places)), (a 5, .inl (V.2 0, 4, .inl x_rules_firsts)), (a 6, .inl (V.2 0, 4, .inl x_rules_wholes)), (a 7, .inl (V.2 0, 10, .inl x_rules_taken)), (a 8, .inl (V.2 0, 10, .inl x_rules_behinds)), (a 9, .inr (2, [.ref (a 10), .ref (a 11), .ref (a 12), .int x_rules_parts_height])), (a 10, .inl (V.2 0, 16, .inl x_rules_parts_firsts)), (a 11, .inl (V.2 0, 16, .inl x_rules_parts_lasts)), (a 12, .inl (V.2 1, 16, .inl x_rules_parts_lacking)), (a 13, .inr (6, [.ref (a 14), .ref (a 15), .ref (a 16), .int x_now_length])), (a 14, .inl (V.2 0, 26, .inl x_now_classes)), (a 15, .inl (V.2 0, 4, .inl x_now_kinds)), (a 16, .inl (V.2 0, 30, .inl x_now_line)), (a 25, .inr (0, [.ref (a 26), .ref (a 27), .ref (a 28), .int x_acts_number])), (a 29, .inr (5, [.ref (a 30), .ref (a 31), .int x_steps_firsts, .int x_steps_loose])), (a 30, .inl (V.2 0, 10, .inl x_steps_onward)), (a 31, .inl (V.2 0, 6, .inl x_steps_takers)), (a 32, .inr (3, [.ref (a 33), .int x_pieces_length, .int x_pieces_bounds])), (a 33, .inl (V.2 0, 31, .inl x_pieces_stands)), (a 34, .inr (8, [.ref (a 35), .ref (a 36), .ref (a 37), .ref (a 38), .ref (a 39), .ref (a 40), .ref (a 41), .int x_ways_number, .int x_ways_unlikeNumber, .int x_ways_knownNumber, .int x_ways_areFound])), (b 0, .inl (V.2 0, n_b, .inl y)), (c 0, .inl (V.2 0, n_c, .inl z)), (d 0, .inl (V.2 0, n_d, .inl w))] [.int r_11] rfl rfl ?_
      try dsimp only at h
      refine ga_istore hR (pc := 214) (lv' := [(4, .int r_11), (0, .ref (a 0)), (3, .ref (d 0))]) (by decide) rfl dL_lays_214 ?_
      refine ga_iconst hR (pc := 216) (v := nI 0) (by decide) dL_lays_216 ?_
      refine ga_istore hR (pc := 217) (lv' := [(5, .int (nI 0)), (4, .int r_11), (0, .ref (a 0)), (3, .ref (d 0))]) (by decide) rfl dL_lays_217 ?_
      have hJ := h (fun (x_text_length_12 : Int32) (x_text_signs_13 : Nat → Int32) => G 0 0 [(a 0, .inr (9, [.ref (a 1), .ref (a 3), .ref (a 13), .ref (a 17), .ref (a 21), .ref (a 25), .ref (a 29), .ref (a 32), .ref (a 34), .ref (a 46), .ref (a 50), .int x_keptNumber])), (a 1, .inr (7, [.ref (a 2), .int x_text_length_12, .int x_text_rulesSeen, .int x_text_placesSeen])), (a 2, .inl (V.2 0, 200, .inl x_text_signs_13)), (a 3, .inr (4, [.ref (a 4), .ref (a 5), .ref (a 6), .ref (a 7), .ref (a 8), .ref (a 9), .int x_rules_number, .int x_rules_placeNumber])), (a 4, .inl (V.2 0, 4, .inl x_rules_places)), (a 5, .inl (V.2 0, 4, .inl x_rules_firsts)), (a 6, .inl (V.2 0, 4, .inl x_rules_wholes)), (a 7, .inl (V.2 0, 10, .inl x_rules_taken)), (a 8, .inl (V.2 0, 10, .inl x_rules_behinds)), (a 9, .inr (2, [.ref (a 10), .ref (a 11), .ref (a 12), .int x_rules_parts_height])), (a 10, .inl (V.2 0, 16, .inl x_rules_parts_firsts)), (a 11, .inl (V.2 0, 16, .inl x_rules_parts_lasts)), (a 12, .inl (V.2 1, 16, .inl x_rules_parts_lacking)), (a 13, .inr (6, [.ref (a 14), .ref (a 15), .ref (a 16), .int x_now_length])), (a 14, .inl (V.2 0, 26, .inl x_now_classes)), (a 15, .inl (V.2 0, 4, .inl x_now_kinds)), (a 16, .inl (V.2 0, 30, .inl x_now_line)), (a 25, .inr (0, [.ref (a 26), .ref (a 27), .ref (a 28), .int x_acts_number])), (a 29, .inr (5, [.ref (a 30), .ref (a 31), .int x_steps_firsts, .int x_steps_loose])), (a 30, .inl (V.2 0, 10, .inl x_steps_onward)), (a 31, .inl (V.2 0, 6, .inl x_steps_takers)), (a 32, .inr (3, [.ref (a 33), .int x_pieces_length, .int x_pieces_bounds])), (a 33, .inl (V.2 0, 31, .inl x_pieces_stands)), (a 34, .inr (8, [.ref (a 35), .ref (a 36), .ref (a 37), .ref (a 38), .ref (a 39), .ref (a 40), .ref (a 41), .int x_ways_number, .int x_ways_unlikeNumber, .int x_ways_knownNumber, .int x_ways_areFound])), (b 0, .inl (V.2 0, n_b, .inl y)), (c 0, .inl (V.2 0, n_c, .inl z)), (d 0, .inl (V.2 0, n_d, .inl w))] 250 [(0, .ref (a 0))] [])
      refine ga_bind hJ ?_ ?_
      · intro x_text_length_12 x_text_signs_13 h
        show G 0 0 [(a 0, .inr (9, [.ref (a 1), .ref (a 3), .ref (a 13), .ref (a 17), .ref (a 21), .ref (a 25), .ref (a 29), .ref (a 32), .ref (a 34), .ref (a 46), .ref (a 50), .int x_keptNumber])), (a 1, .inr (7, [.ref (a 2), .int x_text_length_12, .int x_text_rulesSeen, .int x_text_placesSeen])), (a 2, .inl (V.2 0, 200, .inl x_text_signs_13)), (a 3, .inr (4, [.ref (a 4), .ref (a 5), .ref (a 6), .ref (a 7), .ref (a 8), .ref (a 9), .int x_rules_number, .int x_rules_placeNumber])), (a 4, .inl (V.2 0, 4, .inl x_rules_places)), (a 5, .inl (V.2 0, 4, .inl x_rules_firsts)), (a 6, .inl (V.2 0, 4, .inl x_rules_wholes)), (a 7, .inl (V.2 0, 10, .inl x_rules_taken)), (a 8, .inl (V.2 0, 10, .inl x_rules_behinds)), (a 9, .inr (2, [.ref (a 10), .ref (a 11), .ref (a 12), .int x_rules_parts_height])), (a 10, .inl (V.2 0, 16, .inl x_rules_parts_firsts)), (a 11, .inl (V.2 0, 16, .inl x_rules_parts_lasts)), (a 12, .inl (V.2 1, 16, .inl x_rules_parts_lacking)), (a 13, .inr (6, [.ref (a 14), .ref (a 15), .ref (a 16), .int x_now_length])), (a 14, .inl (V.2 0, 26, .inl x_now_classes)), (a 15, .inl (V.2 0, 4, .inl x_now_kinds)), (a 16, .inl (V.2 0, 30, .inl x_now_line)), (a 25, .inr (0, [.ref (a 26), .ref (a 27), .ref (a 28), .int x_acts_number])), (a 29, .inr (5, [.ref (a 30), .ref (a 31), .int x_steps_firsts, .int x_steps_loose])), (a 30, .inl (V.2 0, 10, .inl x_steps_onward)), (a 31, .inl (V.2 0, 6, .inl x_steps_takers)), (a 32, .inr (3, [.ref (a 33), .int x_pieces_length, .int x_pieces_bounds])), (a 33, .inl (V.2 0, 31, .inl x_pieces_stands)), (a 34, .inr (8, [.ref (a 35), .ref (a 36), .ref (a 37), .ref (a 38), .ref (a 39), .ref (a 40), .ref (a 41), .int x_ways_number, .int x_ways_unlikeNumber, .int x_ways_knownNumber, .int x_ways_areFound])), (b 0, .inl (V.2 0, n_b, .inl y)), (c 0, .inl (V.2 0, n_c, .inl z)), (d 0, .inl (V.2 0, n_d, .inl w))] 250 [(0, .ref (a 0))] []
        refine ga_aload_n hR (pc := 250) 0 rfl rfl dL_lays_250 ?_
        refine ga_bipush hR (pc := 251) (v := nI 59) (by decide) dL_lays_251 ?_
        refine ga_callV hR (pc := 253) (As := [.int (nI 59)]) (rest := []) (st0 := [.int (nI 59), .ref (a 0)]) (b := (a 0)) 1 (c_X9_write V a x_keptNumber x_text_rulesSeen x_text_placesSeen x_text_length_12 x_text_signs_13 (nI 59) _ h) (ga_same_i fun _ => rfl) gL_lays_X9_write rfl rfl rfl hd_X9_write ⟨Nat.le_of_ble_eq_true rfl, Nat.le_of_ble_eq_true rfl⟩ rfl rfl (Nat.le_of_ble_eq_true rfl) ⟨Nat.le_of_ble_eq_true rfl, Nat.le_of_ble_eq_true rfl⟩ [0, 1, 2] rfl rfl 0 rfl rfl dL_lays_253 ?_
        rintro _ _ ⟨r_17, ⟨x_text_length_15, x_text_signs_16⟩, rfl, rfl, h⟩
        refine ga_to [(a 0, .inr (9, [.ref (a 1), .ref (a 3), .ref (a 13), .ref (a 17), .ref (a 21), .ref (a 25), .ref (a 29), .ref (a 32), .ref (a 34), .ref (a 46), .ref (a 50), .int x_keptNumber])), (a 1, .inr (7, [.ref (a 2), .int x_text_length_15, .int x_text_rulesSeen, .int x_text_placesSeen])), (a 2, .inl (V.2 0, 200, .inl x_text_signs_16)), (a 3, .inr (4, [.ref (a 4), .ref (a 5), .ref (a 6), .ref (a 7), .ref (a 8), .ref (a 9), .int x_rules_number, .int x_rules_placeNumber])), (a 4, .inl (V.2 0, 4, .inl x_rules_places)), (a 5, .inl (V.2 0, 4, .inl x_rules_firsts)), (a 6, .inl (V.2 0, 4, .inl x_rules_wholes)), (a 7, .inl (V.2 0, 10, .inl x_rules_taken)), (a 8, .inl (V.2 0, 10, .inl x_rules_behinds)), (a 9, .inr (2, [.ref (a 10), .ref (a 11), .ref (a 12), .int x_rules_parts_height])), (a 10, .inl (V.2 0, 16, .inl x_rules_parts_firsts)), (a 11, .inl (V.2 0, 16, .inl x_rules_parts_lasts)), (a 12, .inl (V.2 1, 16, .inl x_rules_parts_lacking)), (a 13, .inr (6, [.ref (a 14), .ref (a 15), .ref (a 16), .int x_now_length])), (a 14, .inl (V.2 0, 26, .inl x_now_classes)), (a 15, .inl (V.2 0, 4, .inl x_now_kinds)), (a 16, .inl (V.2 0, 30, .inl x_now_line)), (a 25, .inr (0, [.ref (a 26), .ref (a 27), .ref (a 28), .int x_acts_number])), (a 29, .inr (5, [.ref (a 30), .ref (a 31), .int x_steps_firsts, .int x_steps_loose])), (a 30, .inl (V.2 0, 10, .inl x_steps_onward)), (a 31, .inl (V.2 0, 6, .inl x_steps_takers)), (a 32, .inr (3, [.ref (a 33), .int x_pieces_length, .int x_pieces_bounds])), (a 33, .inl (V.2 0, 31, .inl x_pieces_stands)), (a 34, .inr (8, [.ref (a 35), .ref (a 36), .ref (a 37), .ref (a 38), .ref (a 39), .ref (a 40), .ref (a 41), .int x_ways_number, .int x_ways_unlikeNumber, .int x_ways_knownNumber, .int x_ways_areFound])), (b 0, .inl (V.2 0, n_b, .inl y)), (c 0, .inl (V.2 0, n_c, .inl z)), (d 0, .inl (V.2 0, n_d, .inl w))] [.int r_17] rfl rfl ?_
        try dsimp only at h
        refine ga_istore hR (pc := 256) (lv' := [(4, .int r_17), (0, .ref (a 0))]) (by decide) rfl dL_lays_256 ?_
        refine ga_aload_n hR (pc := 258) 1 rfl rfl dL_lays_258 ?_
        refine ga_callV hR (pc := 259) (As := []) (rest := []) (st0 := [.ref (a 0)]) (b := (a 0)) 0 (c_X9_lay V a x_ways_number x_ways_unlikeNumber x_ways_knownNumber x_keptNumber x_text_length_15 x_text_rulesSeen x_text_placesSeen x_text_signs_16 x_rules_number x_rules_placeNumber x_rules_places x_rules_firsts x_rules_wholes x_rules_taken x_rules_behinds x_rules_parts_height x_rules_parts_firsts x_rules_parts_lasts x_rules_parts_lacking x_now_length x_now_classes x_now_kinds x_now_line x_acts_number x_steps_firsts x_steps_loose x_steps_onward x_steps_takers x_pieces_length x_pieces_bounds x_pieces_stands x_ways_areFound _ h) (ga_same_i fun _ => rfl) gL_lays_X9_lay rfl rfl rfl hd_X9_lay ⟨Nat.le_of_ble_eq_true rfl, Nat.le_of_ble_eq_true rfl⟩ rfl rfl (Nat.le_of_ble_eq_true rfl) ⟨Nat.le_of_ble_eq_true rfl, Nat.le_of_ble_eq_true rfl⟩ [0, 1, 2, 3, 4, 5, 6, 7, 8, 9, 10, 11, 12, 13, 14, 15, 16, 17, 18, 19, 20, 21, 22, 23] rfl rfl 0 rfl rfl dL_lays_259 ?_
        rintro _ _ ⟨r_45, ⟨x_keptNumber_18, x_text_rulesSeen_19, x_text_placesSeen_20, x_rules_number_21, x_rules_placeNumber_22, x_rules_places_23, x_rules_firsts_24, x_rules_wholes_25, x_rules_taken_26, x_rules_behinds_27, x_rules_parts_height_28, x_rules_parts_firsts_29, x_rules_parts_lasts_30, x_rules_parts_lacking_31, x_now_length_32, x_now_classes_33, x_now_kinds_34, x_now_line_35, x_acts_number_36, x_steps_firsts_37, x_steps_loose_38, x_steps_onward_39, x_steps_takers_40, x_pieces_length_41, x_pieces_bounds_42, x_pieces_stands_43, x_ways_areFound_44⟩, rfl, rfl, h⟩
        refine ga_pto [(a 0, .inr (9, [.ref (a 1), .ref (a 3), .ref (a 13), .ref (a 17), .ref (a 21), .ref (a 25), .ref (a 29), .ref (a 32), .ref (a 34), .ref (a 46), .ref (a 50), .int x_keptNumber_18])), (a 1, .inr (7, [.ref (a 2), .int x_text_length_15, .int x_text_rulesSeen_19, .int x_text_placesSeen_20])), (a 2, .inl (V.2 0, 200, .inl x_text_signs_16)), (a 3, .inr (4, [.ref (a 4), .ref (a 5), .ref (a 6), .ref (a 7), .ref (a 8), .ref (a 9), .int x_rules_number_21, .int x_rules_placeNumber_22])), (a 4, .inl (V.2 0, 4, .inl x_rules_places_23)), (a 5, .inl (V.2 0, 4, .inl x_rules_firsts_24)), (a 6, .inl (V.2 0, 4, .inl x_rules_wholes_25)), (a 7, .inl (V.2 0, 10, .inl x_rules_taken_26)), (a 8, .inl (V.2 0, 10, .inl x_rules_behinds_27)), (a 9, .inr (2, [.ref (a 10), .ref (a 11), .ref (a 12), .int x_rules_parts_height_28])), (a 10, .inl (V.2 0, 16, .inl x_rules_parts_firsts_29)), (a 11, .inl (V.2 0, 16, .inl x_rules_parts_lasts_30)), (a 12, .inl (V.2 1, 16, .inl x_rules_parts_lacking_31)), (a 13, .inr (6, [.ref (a 14), .ref (a 15), .ref (a 16), .int x_now_length_32])), (a 14, .inl (V.2 0, 26, .inl x_now_classes_33)), (a 15, .inl (V.2 0, 4, .inl x_now_kinds_34)), (a 16, .inl (V.2 0, 30, .inl x_now_line_35)), (a 25, .inr (0, [.ref (a 26), .ref (a 27), .ref (a 28), .int x_acts_number_36])), (a 29, .inr (5, [.ref (a 30), .ref (a 31), .int x_steps_firsts_37, .int x_steps_loose_38])), (a 30, .inl (V.2 0, 10, .inl x_steps_onward_39)), (a 31, .inl (V.2 0, 6, .inl x_steps_takers_40)), (a 32, .inr (3, [.ref (a 33), .int x_pieces_length_41, .int x_pieces_bounds_42])), (a 33, .inl (V.2 0, 31, .inl x_pieces_stands_43)), (a 34, .inr (8, [.ref (a 35), .ref (a 36), .ref (a 37), .ref (a 38), .ref (a 39), .ref (a 40), .ref (a 41), .int x_ways_number, .int x_ways_unlikeNumber, .int x_ways_knownNumber, .int x_ways_areFound_44])), (b 0, .inl (V.2 0, n_b, .inl y)), (c 0, .inl (V.2 0, n_c, .inl z)), (d 0, .inl (V.2 0, n_d, .inl w))] [.int r_45] rfl rfl rfl rfl rfl ?_
        try dsimp only at h
        exact ga_iret hE dL_lays_262 rfl (ga_ri (x_keptNumber_18, x_text_length_15, x_text_rulesSeen_19, x_text_placesSeen_20, x_text_signs_16, x_rules_number_21, x_rules_placeNumber_22, x_rules_places_23, x_rules_firsts_24, x_rules_wholes_25, x_rules_taken_26, x_rules_behinds_27, x_rules_parts_height_28, x_rules_parts_firsts_29, x_rules_parts_lasts_30, x_rules_parts_lacking_31, x_now_length_32, x_now_classes_33, x_now_kinds_34, x_now_line_35, x_acts_number_36, x_steps_firsts_37, x_steps_loose_38, x_steps_onward_39, x_steps_takers_40, x_pieces_length_41, x_pieces_bounds_42, x_pieces_stands_43, x_ways_areFound_44) rfl h)
      · intro h
        obtain ⟨n, h⟩ := h
        have L219 : ∀ (n : Nat) (v5_50 : Int32) (x_text_length_51 : Int32) (x_text_signs_52 : Nat → Int32), lp_L_lays_219 n_d w (fun (x_text_length_12 : Int32) (x_text_signs_13 : Nat → Int32) => G 0 0 [(a 0, .inr (9, [.ref (a 1), .ref (a 3), .ref (a 13), .ref (a 17), .ref (a 21), .ref (a 25), .ref (a 29), .ref (a 32), .ref (a 34), .ref (a 46), .ref (a 50), .int x_keptNumber])), (a 1, .inr (7, [.ref (a 2), .int x_text_length_12, .int x_text_rulesSeen, .int x_text_placesSeen])), (a 2, .inl (V.2 0, 200, .inl x_text_signs_13)), (a 3, .inr (4, [.ref (a 4), .ref (a 5), .ref (a 6), .ref (a 7), .ref (a 8), .ref (a 9), .int x_rules_number, .int x_rules_placeNumber])), (a 4, .inl (V.2 0, 4, .inl x_rules_places)), (a 5, .inl (V.2 0, 4, .inl x_rules_firsts)), (a 6, .inl (V.2 0, 4, .inl x_rules_wholes)), (a 7, .inl (V.2 0, 10, .inl x_rules_taken)), (a 8, .inl (V.2 0, 10, .inl x_rules_behinds)), (a 9, .inr (2, [.ref (a 10), .ref (a 11), .ref (a 12), .int x_rules_parts_height])), (a 10, .inl (V.2 0, 16, .inl x_rules_parts_firsts)), (a 11, .inl (V.2 0, 16, .inl x_rules_parts_lasts)), (a 12, .inl (V.2 1, 16, .inl x_rules_parts_lacking)), (a 13, .inr (6, [.ref (a 14), .ref (a 15), .ref (a 16), .int x_now_length])), (a 14, .inl (V.2 0, 26, .inl x_now_classes)), (a 15, .inl (V.2 0, 4, .inl x_now_kinds)), (a 16, .inl (V.2 0, 30, .inl x_now_line)), (a 25, .inr (0, [.ref (a 26), .ref (a 27), .ref (a 28), .int x_acts_number])), (a 29, .inr (5, [.ref (a 30), .ref (a 31), .int x_steps_firsts, .int x_steps_loose])), (a 30, .inl (V.2 0, 10, .inl x_steps_onward)), (a 31, .inl (V.2 0, 6, .inl x_steps_takers)), (a 32, .inr (3, [.ref (a 33), .int x_pieces_length, .int x_pieces_bounds])), (a 33, .inl (V.2 0, 31, .inl x_pieces_stands)), (a 34, .inr (8, [.ref (a 35), .ref (a 36), .ref (a 37), .ref (a 38), .ref (a 39), .ref (a 40), .ref (a 41), .int x_ways_number, .int x_ways_unlikeNumber, .int x_ways_knownNumber, .int x_ways_areFound])), (b 0, .inl (V.2 0, n_b, .inl y)), (c 0, .inl (V.2 0, n_c, .inl z)), (d 0, .inl (V.2 0, n_d, .inl w))] 250 [(0, .ref (a 0))] []) n v5_50 x_text_length_51 x_text_signs_52 → G 0 0 [(a 0, .inr (9, [.ref (a 1), .ref (a 3), .ref (a 13), .ref (a 17), .ref (a 21), .ref (a 25), .ref (a 29), .ref (a 32), .ref (a 34), .ref (a 46), .ref (a 50), .int x_keptNumber])), (a 1, .inr (7, [.ref (a 2), .int x_text_length_51, .int x_text_rulesSeen, .int x_text_placesSeen])), (a 2, .inl (V.2 0, 200, .inl x_text_signs_52)), (a 3, .inr (4, [.ref (a 4), .ref (a 5), .ref (a 6), .ref (a 7), .ref (a 8), .ref (a 9), .int x_rules_number, .int x_rules_placeNumber])), (a 4, .inl (V.2 0, 4, .inl x_rules_places)), (a 5, .inl (V.2 0, 4, .inl x_rules_firsts)), (a 6, .inl (V.2 0, 4, .inl x_rules_wholes)), (a 7, .inl (V.2 0, 10, .inl x_rules_taken)), (a 8, .inl (V.2 0, 10, .inl x_rules_behinds)), (a 9, .inr (2, [.ref (a 10), .ref (a 11), .ref (a 12), .int x_rules_parts_height])), (a 10, .inl (V.2 0, 16, .inl x_rules_parts_firsts)), (a 11, .inl (V.2 0, 16, .inl x_rules_parts_lasts)), (a 12, .inl (V.2 1, 16, .inl x_rules_parts_lacking)), (a 13, .inr (6, [.ref (a 14), .ref (a 15), .ref (a 16), .int x_now_length])), (a 14, .inl (V.2 0, 26, .inl x_now_classes)), (a 15, .inl (V.2 0, 4, .inl x_now_kinds)), (a 16, .inl (V.2 0, 30, .inl x_now_line)), (a 25, .inr (0, [.ref (a 26), .ref (a 27), .ref (a 28), .int x_acts_number])), (a 29, .inr (5, [.ref (a 30), .ref (a 31), .int x_steps_firsts, .int x_steps_loose])), (a 30, .inl (V.2 0, 10, .inl x_steps_onward)), (a 31, .inl (V.2 0, 6, .inl x_steps_takers)), (a 32, .inr (3, [.ref (a 33), .int x_pieces_length, .int x_pieces_bounds])), (a 33, .inl (V.2 0, 31, .inl x_pieces_stands)), (a 34, .inr (8, [.ref (a 35), .ref (a 36), .ref (a 37), .ref (a 38), .ref (a 39), .ref (a 40), .ref (a 41), .int x_ways_number, .int x_ways_unlikeNumber, .int x_ways_knownNumber, .int x_ways_areFound])), (b 0, .inl (V.2 0, n_b, .inl y)), (c 0, .inl (V.2 0, n_c, .inl z)), (d 0, .inl (V.2 0, n_d, .inl w))] 219 [(0, .ref (a 0)), (3, .ref (d 0)), (5, .int v5_50)] [] := by
          intro n
          induction n with
          | zero => exact fun _ _ _ h => False.elim h
          | succ n ih =>
            intro v5_50 x_text_length_51 x_text_signs_52 h
            rw [lp_L_lays_219] at h
            refine ga_iload hR (pc := 219) 2 rfl dL_lays_219 ?_
            refine ga_aload_n hR (pc := 221) 1 rfl rfl dL_lays_221 ?_
            refine ga_bipush hR (pc := 222) (v := nI 30) (by decide) dL_lays_222 ?_
            refine ga_iald hR (pc := 224) 26 rfl h.1 dL_lays_224 ?_
            replace h := h.2
            refine ga_icmp_ge hR (pc := 225) 250 (by decide) dL_lays_225 (fun c225 => ?_) (fun c225 => ?_)
            · replace h := h.1 c225
              exact ga_lv hR [0] rfl h
            · replace h := h.2 c225
              refine ga_aload_n hR (pc := 228) 0 rfl rfl dL_lays_228 ?_
              refine ga_bipush hR (pc := 229) (v := nI 97) (by decide) dL_lays_229 ?_
              refine ga_aload_n hR (pc := 231) 1 rfl rfl dL_lays_231 ?_
              refine ga_bipush hR (pc := 232) (v := nI 31) (by decide) dL_lays_232 ?_
              refine ga_iload hR (pc := 234) 2 rfl dL_lays_234 ?_
              refine ga_iadd hR (pc := 236) dL_lays_236 ?_
              refine ga_iald hR (pc := 237) 26 rfl h.1 dL_lays_237 ?_
              replace h := h.2
              refine ga_iadd hR (pc := 238) dL_lays_238 ?_
              refine ga_callV hR (pc := 239) (As := [.int ((nI 97) + (w ((nI 31) + v5_50).toNatClampNeg))]) (rest := []) (st0 := [.int ((nI 97) + (w ((nI 31) + v5_50).toNatClampNeg)), .ref (a 0)]) (b := (a 0)) 1 (c_X9_write V a x_keptNumber x_text_rulesSeen x_text_placesSeen x_text_length_51 x_text_signs_52 ((nI 97) + (w ((nI 31) + v5_50).toNatClampNeg)) _ h) (ga_same_i fun _ => rfl) gL_lays_X9_write rfl rfl rfl hd_X9_write ⟨Nat.le_of_ble_eq_true rfl, Nat.le_of_ble_eq_true rfl⟩ rfl rfl (Nat.le_of_ble_eq_true rfl) ⟨Nat.le_of_ble_eq_true rfl, Nat.le_of_ble_eq_true rfl⟩ [0, 1, 2] rfl rfl 0 rfl rfl dL_lays_239 ?_
              rintro _ _ ⟨r_55, ⟨x_text_length_53, x_text_signs_54⟩, rfl, rfl, h⟩
              refine ga_to [(a 0, .inr (9, [.ref (a 1), .ref (a 3), .ref (a 13), .ref (a 17), .ref (a 21), .ref (a 25), .ref (a 29), .ref (a 32), .ref (a 34), .ref (a 46), .ref (a 50), .int x_keptNumber])), (a 1, .inr (7, [.ref (a 2), .int x_text_length_53, .int x_text_rulesSeen, .int x_text_placesSeen])), (a 2, .inl (V.2 0, 200, .inl x_text_signs_54)), (a 3, .inr (4, [.ref (a 4), .ref (a 5), .ref (a 6), .ref (a 7), .ref (a 8), .ref (a 9), .int x_rules_number, .int x_rules_placeNumber])), (a 4, .inl (V.2 0, 4, .inl x_rules_places)), (a 5, .inl (V.2 0, 4, .inl x_rules_firsts)), (a 6, .inl (V.2 0, 4, .inl x_rules_wholes)), (a 7, .inl (V.2 0, 10, .inl x_rules_taken)), (a 8, .inl (V.2 0, 10, .inl x_rules_behinds)), (a 9, .inr (2, [.ref (a 10), .ref (a 11), .ref (a 12), .int x_rules_parts_height])), (a 10, .inl (V.2 0, 16, .inl x_rules_parts_firsts)), (a 11, .inl (V.2 0, 16, .inl x_rules_parts_lasts)), (a 12, .inl (V.2 1, 16, .inl x_rules_parts_lacking)), (a 13, .inr (6, [.ref (a 14), .ref (a 15), .ref (a 16), .int x_now_length])), (a 14, .inl (V.2 0, 26, .inl x_now_classes)), (a 15, .inl (V.2 0, 4, .inl x_now_kinds)), (a 16, .inl (V.2 0, 30, .inl x_now_line)), (a 25, .inr (0, [.ref (a 26), .ref (a 27), .ref (a 28), .int x_acts_number])), (a 29, .inr (5, [.ref (a 30), .ref (a 31), .int x_steps_firsts, .int x_steps_loose])), (a 30, .inl (V.2 0, 10, .inl x_steps_onward)), (a 31, .inl (V.2 0, 6, .inl x_steps_takers)), (a 32, .inr (3, [.ref (a 33), .int x_pieces_length, .int x_pieces_bounds])), (a 33, .inl (V.2 0, 31, .inl x_pieces_stands)), (a 34, .inr (8, [.ref (a 35), .ref (a 36), .ref (a 37), .ref (a 38), .ref (a 39), .ref (a 40), .ref (a 41), .int x_ways_number, .int x_ways_unlikeNumber, .int x_ways_knownNumber, .int x_ways_areFound])), (b 0, .inl (V.2 0, n_b, .inl y)), (c 0, .inl (V.2 0, n_c, .inl z)), (d 0, .inl (V.2 0, n_d, .inl w))] [.int r_55] rfl rfl ?_
              try dsimp only at h
              refine ga_istore hR (pc := 242) (lv' := [(4, .int r_55), (0, .ref (a 0)), (3, .ref (d 0)), (5, .int v5_50)]) (by decide) rfl dL_lays_242 ?_
              obtain ⟨v5_56, ev5_56⟩ : ∃ v : Int32, v = v5_50 + (nI 1) := ⟨_, rfl⟩
              replace h := h v5_56 ev5_56
              refine ga_iinc hR (pc := 244) (lv' := [(5, .int v5_56), (4, .int r_55), (0, .ref (a 0)), (3, .ref (d 0))]) 3 (by decide) rfl ev5_56 (by decide) rfl dL_lays_244 ?_
              refine ga_goto hR (pc := 247) 219 (by decide) dL_lays_247 ?_
              exact ga_lv hR [2, 3, 0] rfl (ih _ _ _ h)
        exact ga_lv hR [2, 3, 0] rfl (L219 n _ _ _ h)
    · intro h
      obtain ⟨n, h⟩ := h
      have L117 : ∀ (n : Nat) (v5_84 : Int32) (x_text_length_85 : Int32) (x_text_signs_86 : Nat → Int32), lp_L_lays_117 n_b n_c n_d y z w (fun (x_text_length_6 : Int32) (x_text_signs_7 : Nat → Int32) => G 0 0 [(a 0, .inr (9, [.ref (a 1), .ref (a 3), .ref (a 13), .ref (a 17), .ref (a 21), .ref (a 25), .ref (a 29), .ref (a 32), .ref (a 34), .ref (a 46), .ref (a 50), .int x_keptNumber])), (a 1, .inr (7, [.ref (a 2), .int x_text_length_6, .int x_text_rulesSeen, .int x_text_placesSeen])), (a 2, .inl (V.2 0, 200, .inl x_text_signs_7)), (a 3, .inr (4, [.ref (a 4), .ref (a 5), .ref (a 6), .ref (a 7), .ref (a 8), .ref (a 9), .int x_rules_number, .int x_rules_placeNumber])), (a 4, .inl (V.2 0, 4, .inl x_rules_places)), (a 5, .inl (V.2 0, 4, .inl x_rules_firsts)), (a 6, .inl (V.2 0, 4, .inl x_rules_wholes)), (a 7, .inl (V.2 0, 10, .inl x_rules_taken)), (a 8, .inl (V.2 0, 10, .inl x_rules_behinds)), (a 9, .inr (2, [.ref (a 10), .ref (a 11), .ref (a 12), .int x_rules_parts_height])), (a 10, .inl (V.2 0, 16, .inl x_rules_parts_firsts)), (a 11, .inl (V.2 0, 16, .inl x_rules_parts_lasts)), (a 12, .inl (V.2 1, 16, .inl x_rules_parts_lacking)), (a 13, .inr (6, [.ref (a 14), .ref (a 15), .ref (a 16), .int x_now_length])), (a 14, .inl (V.2 0, 26, .inl x_now_classes)), (a 15, .inl (V.2 0, 4, .inl x_now_kinds)), (a 16, .inl (V.2 0, 30, .inl x_now_line)), (a 25, .inr (0, [.ref (a 26), .ref (a 27), .ref (a 28), .int x_acts_number])), (a 29, .inr (5, [.ref (a 30), .ref (a 31), .int x_steps_firsts, .int x_steps_loose])), (a 30, .inl (V.2 0, 10, .inl x_steps_onward)), (a 31, .inl (V.2 0, 6, .inl x_steps_takers)), (a 32, .inr (3, [.ref (a 33), .int x_pieces_length, .int x_pieces_bounds])), (a 33, .inl (V.2 0, 31, .inl x_pieces_stands)), (a 34, .inr (8, [.ref (a 35), .ref (a 36), .ref (a 37), .ref (a 38), .ref (a 39), .ref (a 40), .ref (a 41), .int x_ways_number, .int x_ways_unlikeNumber, .int x_ways_knownNumber, .int x_ways_areFound])), (b 0, .inl (V.2 0, n_b, .inl y)), (c 0, .inl (V.2 0, n_c, .inl z)), (d 0, .inl (V.2 0, n_d, .inl w))] 208 [(0, .ref (a 0)), (3, .ref (d 0))] []) n v5_84 x_text_length_85 x_text_signs_86 → G 0 0 [(a 0, .inr (9, [.ref (a 1), .ref (a 3), .ref (a 13), .ref (a 17), .ref (a 21), .ref (a 25), .ref (a 29), .ref (a 32), .ref (a 34), .ref (a 46), .ref (a 50), .int x_keptNumber])), (a 1, .inr (7, [.ref (a 2), .int x_text_length_85, .int x_text_rulesSeen, .int x_text_placesSeen])), (a 2, .inl (V.2 0, 200, .inl x_text_signs_86)), (a 3, .inr (4, [.ref (a 4), .ref (a 5), .ref (a 6), .ref (a 7), .ref (a 8), .ref (a 9), .int x_rules_number, .int x_rules_placeNumber])), (a 4, .inl (V.2 0, 4, .inl x_rules_places)), (a 5, .inl (V.2 0, 4, .inl x_rules_firsts)), (a 6, .inl (V.2 0, 4, .inl x_rules_wholes)), (a 7, .inl (V.2 0, 10, .inl x_rules_taken)), (a 8, .inl (V.2 0, 10, .inl x_rules_behinds)), (a 9, .inr (2, [.ref (a 10), .ref (a 11), .ref (a 12), .int x_rules_parts_height])), (a 10, .inl (V.2 0, 16, .inl x_rules_parts_firsts)), (a 11, .inl (V.2 0, 16, .inl x_rules_parts_lasts)), (a 12, .inl (V.2 1, 16, .inl x_rules_parts_lacking)), (a 13, .inr (6, [.ref (a 14), .ref (a 15), .ref (a 16), .int x_now_length])), (a 14, .inl (V.2 0, 26, .inl x_now_classes)), (a 15, .inl (V.2 0, 4, .inl x_now_kinds)), (a 16, .inl (V.2 0, 30, .inl x_now_line)), (a 25, .inr (0, [.ref (a 26), .ref (a 27), .ref (a 28), .int x_acts_number])), (a 29, .inr (5, [.ref (a 30), .ref (a 31), .int x_steps_firsts, .int x_steps_loose])), (a 30, .inl (V.2 0, 10, .inl x_steps_onward)), (a 31, .inl (V.2 0, 6, .inl x_steps_takers)), (a 32, .inr (3, [.ref (a 33), .int x_pieces_length, .int x_pieces_bounds])), (a 33, .inl (V.2 0, 31, .inl x_pieces_stands)), (a 34, .inr (8, [.ref (a 35), .ref (a 36), .ref (a 37), .ref (a 38), .ref (a 39), .ref (a 40), .ref (a 41), .int x_ways_number, .int x_ways_unlikeNumber, .int x_ways_knownNumber, .int x_ways_areFound])), (b 0, .inl (V.2 0, n_b, .inl y)), (c 0, .inl (V.2 0, n_c, .inl z)), (d 0, .inl (V.2 0, n_d, .inl w))] 117 [(0, .ref (a 0)), (1, .ref (b 0)), (2, .ref (c 0)), (3, .ref (d 0)), (5, .int v5_84)] [] := by
        intro n
        induction n with
        | zero => exact fun _ _ _ h => False.elim h
        | succ n ih =>
          intro v5_84 x_text_length_85 x_text_signs_86 h
          rw [lp_L_lays_117] at h
          refine ga_iload hR (pc := 117) 4 rfl dL_lays_117 ?_
          refine ga_aload_n hR (pc := 119) 1 rfl rfl dL_lays_119 ?_
          refine ga_iconst hR (pc := 120) (v := nI 0) (by decide) dL_lays_120 ?_
          refine ga_iald hR (pc := 121) 24 rfl h.1 dL_lays_121 ?_
          replace h := h.2
          refine ga_icmp_ge hR (pc := 122) 208 (by decide) dL_lays_122 (fun c122 => ?_) (fun c122 => ?_)
          · replace h := h.1 c122
            exact ga_lv hR [0, 3] rfl h
          · replace h := h.2 c122
            refine ga_aload_n hR (pc := 125) 0 rfl rfl dL_lays_125 ?_
            refine ga_bipush hR (pc := 126) (v := nI 114) (by decide) dL_lays_126 ?_
            refine ga_callV hR (pc := 128) (As := [.int (nI 114)]) (rest := []) (st0 := [.int (nI 114), .ref (a 0)]) (b := (a 0)) 1 (c_X9_write V a x_keptNumber x_text_rulesSeen x_text_placesSeen x_text_length_85 x_text_signs_86 (nI 114) _ h) (ga_same_i fun _ => rfl) gL_lays_X9_write rfl rfl rfl hd_X9_write ⟨Nat.le_of_ble_eq_true rfl, Nat.le_of_ble_eq_true rfl⟩ rfl rfl (Nat.le_of_ble_eq_true rfl) ⟨Nat.le_of_ble_eq_true rfl, Nat.le_of_ble_eq_true rfl⟩ [0, 1, 2] rfl rfl 0 rfl rfl dL_lays_128 ?_
            rintro _ _ ⟨r_89, ⟨x_text_length_87, x_text_signs_88⟩, rfl, rfl, h⟩
            refine ga_to [(a 0, .inr (9, [.ref (a 1), .ref (a 3), .ref (a 13), .ref (a 17), .ref (a 21), .ref (a 25), .ref (a 29), .ref (a 32), .ref (a 34), .ref (a 46), .ref (a 50), .int x_keptNumber])), (a 1, .inr (7, [.ref (a 2), .int x_text_length_87, .int x_text_rulesSeen, .int x_text_placesSeen])), (a 2, .inl (V.2 0, 200, .inl x_text_signs_88)), (a 3, .inr (4, [.ref (a 4), .ref (a 5), .ref (a 6), .ref (a 7), .ref (a 8), .ref (a 9), .int x_rules_number, .int x_rules_placeNumber])), (a 4, .inl (V.2 0, 4, .inl x_rules_places)), (a 5, .inl (V.2 0, 4, .inl x_rules_firsts)), (a 6, .inl (V.2 0, 4, .inl x_rules_wholes)), (a 7, .inl (V.2 0, 10, .inl x_rules_taken)), (a 8, .inl (V.2 0, 10, .inl x_rules_behinds)), (a 9, .inr (2, [.ref (a 10), .ref (a 11), .ref (a 12), .int x_rules_parts_height])), (a 10, .inl (V.2 0, 16, .inl x_rules_parts_firsts)), (a 11, .inl (V.2 0, 16, .inl x_rules_parts_lasts)), (a 12, .inl (V.2 1, 16, .inl x_rules_parts_lacking)), (a 13, .inr (6, [.ref (a 14), .ref (a 15), .ref (a 16), .int x_now_length])), (a 14, .inl (V.2 0, 26, .inl x_now_classes)), (a 15, .inl (V.2 0, 4, .inl x_now_kinds)), (a 16, .inl (V.2 0, 30, .inl x_now_line)), (a 25, .inr (0, [.ref (a 26), .ref (a 27), .ref (a 28), .int x_acts_number])), (a 29, .inr (5, [.ref (a 30), .ref (a 31), .int x_steps_firsts, .int x_steps_loose])), (a 30, .inl (V.2 0, 10, .inl x_steps_onward)), (a 31, .inl (V.2 0, 6, .inl x_steps_takers)), (a 32, .inr (3, [.ref (a 33), .int x_pieces_length, .int x_pieces_bounds])), (a 33, .inl (V.2 0, 31, .inl x_pieces_stands)), (a 34, .inr (8, [.ref (a 35), .ref (a 36), .ref (a 37), .ref (a 38), .ref (a 39), .ref (a 40), .ref (a 41), .int x_ways_number, .int x_ways_unlikeNumber, .int x_ways_knownNumber, .int x_ways_areFound])), (b 0, .inl (V.2 0, n_b, .inl y)), (c 0, .inl (V.2 0, n_c, .inl z)), (d 0, .inl (V.2 0, n_d, .inl w))] [.int r_89] rfl rfl ?_
            try dsimp only at h
            refine ga_istore hR (pc := 131) (lv' := [(4, .int r_89), (0, .ref (a 0)), (1, .ref (b 0)), (2, .ref (c 0)), (3, .ref (d 0)), (5, .int v5_84)]) (by decide) rfl dL_lays_131 ?_
            refine ga_aload_n hR (pc := 133) 1 rfl rfl dL_lays_133 ?_
            refine ga_bipush hR (pc := 134) (v := nI 48) (by decide) dL_lays_134 ?_
            refine ga_aload_n hR (pc := 136) 4 rfl rfl dL_lays_136 ?_
            refine ga_bipush hR (pc := 137) (v := nI 26) (by decide) dL_lays_137 ?_
            refine ga_iload hR (pc := 139) 5 rfl dL_lays_139 ?_
            refine ga_iadd hR (pc := 141) dL_lays_141 ?_
            refine ga_iald hR (pc := 142) 26 rfl h.1 dL_lays_142 ?_
            replace h := h.2
            refine ga_iadd hR (pc := 143) dL_lays_143 ?_
            refine ga_callV hR (pc := 144) (As := [.int ((nI 48) + (w ((nI 26) + v5_84).toNatClampNeg))]) (rest := []) (st0 := [.int ((nI 48) + (w ((nI 26) + v5_84).toNatClampNeg)), .ref (a 0)]) (b := (a 0)) 1 (c_X9_write V a x_keptNumber x_text_rulesSeen x_text_placesSeen x_text_length_87 x_text_signs_88 ((nI 48) + (w ((nI 26) + v5_84).toNatClampNeg)) _ h) (ga_same_i fun _ => rfl) gL_lays_X9_write rfl rfl rfl hd_X9_write ⟨Nat.le_of_ble_eq_true rfl, Nat.le_of_ble_eq_true rfl⟩ rfl rfl (Nat.le_of_ble_eq_true rfl) ⟨Nat.le_of_ble_eq_true rfl, Nat.le_of_ble_eq_true rfl⟩ [0, 1, 2] rfl rfl 0 rfl rfl dL_lays_144 ?_
            rintro _ _ ⟨r_92, ⟨x_text_length_90, x_text_signs_91⟩, rfl, rfl, h⟩
            refine ga_to [(a 0, .inr (9, [.ref (a 1), .ref (a 3), .ref (a 13), .ref (a 17), .ref (a 21), .ref (a 25), .ref (a 29), .ref (a 32), .ref (a 34), .ref (a 46), .ref (a 50), .int x_keptNumber])), (a 1, .inr (7, [.ref (a 2), .int x_text_length_90, .int x_text_rulesSeen, .int x_text_placesSeen])), (a 2, .inl (V.2 0, 200, .inl x_text_signs_91)), (a 3, .inr (4, [.ref (a 4), .ref (a 5), .ref (a 6), .ref (a 7), .ref (a 8), .ref (a 9), .int x_rules_number, .int x_rules_placeNumber])), (a 4, .inl (V.2 0, 4, .inl x_rules_places)), (a 5, .inl (V.2 0, 4, .inl x_rules_firsts)), (a 6, .inl (V.2 0, 4, .inl x_rules_wholes)), (a 7, .inl (V.2 0, 10, .inl x_rules_taken)), (a 8, .inl (V.2 0, 10, .inl x_rules_behinds)), (a 9, .inr (2, [.ref (a 10), .ref (a 11), .ref (a 12), .int x_rules_parts_height])), (a 10, .inl (V.2 0, 16, .inl x_rules_parts_firsts)), (a 11, .inl (V.2 0, 16, .inl x_rules_parts_lasts)), (a 12, .inl (V.2 1, 16, .inl x_rules_parts_lacking)), (a 13, .inr (6, [.ref (a 14), .ref (a 15), .ref (a 16), .int x_now_length])), (a 14, .inl (V.2 0, 26, .inl x_now_classes)), (a 15, .inl (V.2 0, 4, .inl x_now_kinds)), (a 16, .inl (V.2 0, 30, .inl x_now_line)), (a 25, .inr (0, [.ref (a 26), .ref (a 27), .ref (a 28), .int x_acts_number])), (a 29, .inr (5, [.ref (a 30), .ref (a 31), .int x_steps_firsts, .int x_steps_loose])), (a 30, .inl (V.2 0, 10, .inl x_steps_onward)), (a 31, .inl (V.2 0, 6, .inl x_steps_takers)), (a 32, .inr (3, [.ref (a 33), .int x_pieces_length, .int x_pieces_bounds])), (a 33, .inl (V.2 0, 31, .inl x_pieces_stands)), (a 34, .inr (8, [.ref (a 35), .ref (a 36), .ref (a 37), .ref (a 38), .ref (a 39), .ref (a 40), .ref (a 41), .int x_ways_number, .int x_ways_unlikeNumber, .int x_ways_knownNumber, .int x_ways_areFound])), (b 0, .inl (V.2 0, n_b, .inl y)), (c 0, .inl (V.2 0, n_c, .inl z)), (d 0, .inl (V.2 0, n_d, .inl w))] [.int r_92] rfl rfl ?_
            try dsimp only at h
            refine ga_istore hR (pc := 147) (lv' := [(4, .int r_92), (0, .ref (a 0)), (1, .ref (b 0)), (2, .ref (c 0)), (3, .ref (d 0)), (5, .int v5_84)]) (by decide) rfl dL_lays_147 ?_
            refine ga_aload_n hR (pc := 149) 1 rfl rfl dL_lays_149 ?_
            refine ga_bipush hR (pc := 150) (v := nI 44) (by decide) dL_lays_150 ?_
            refine ga_callV hR (pc := 152) (As := [.int (nI 44)]) (rest := []) (st0 := [.int (nI 44), .ref (a 0)]) (b := (a 0)) 1 (c_X9_write V a x_keptNumber x_text_rulesSeen x_text_placesSeen x_text_length_90 x_text_signs_91 (nI 44) _ h) (ga_same_i fun _ => rfl) gL_lays_X9_write rfl rfl rfl hd_X9_write ⟨Nat.le_of_ble_eq_true rfl, Nat.le_of_ble_eq_true rfl⟩ rfl rfl (Nat.le_of_ble_eq_true rfl) ⟨Nat.le_of_ble_eq_true rfl, Nat.le_of_ble_eq_true rfl⟩ [0, 1, 2] rfl rfl 0 rfl rfl dL_lays_152 ?_
            rintro _ _ ⟨r_95, ⟨x_text_length_93, x_text_signs_94⟩, rfl, rfl, h⟩
            refine ga_to [(a 0, .inr (9, [.ref (a 1), .ref (a 3), .ref (a 13), .ref (a 17), .ref (a 21), .ref (a 25), .ref (a 29), .ref (a 32), .ref (a 34), .ref (a 46), .ref (a 50), .int x_keptNumber])), (a 1, .inr (7, [.ref (a 2), .int x_text_length_93, .int x_text_rulesSeen, .int x_text_placesSeen])), (a 2, .inl (V.2 0, 200, .inl x_text_signs_94)), (a 3, .inr (4, [.ref (a 4), .ref (a 5), .ref (a 6), .ref (a 7), .ref (a 8), .ref (a 9), .int x_rules_number, .int x_rules_placeNumber])), (a 4, .inl (V.2 0, 4, .inl x_rules_places)), (a 5, .inl (V.2 0, 4, .inl x_rules_firsts)), (a 6, .inl (V.2 0, 4, .inl x_rules_wholes)), (a 7, .inl (V.2 0, 10, .inl x_rules_taken)), (a 8, .inl (V.2 0, 10, .inl x_rules_behinds)), (a 9, .inr (2, [.ref (a 10), .ref (a 11), .ref (a 12), .int x_rules_parts_height])), (a 10, .inl (V.2 0, 16, .inl x_rules_parts_firsts)), (a 11, .inl (V.2 0, 16, .inl x_rules_parts_lasts)), (a 12, .inl (V.2 1, 16, .inl x_rules_parts_lacking)), (a 13, .inr (6, [.ref (a 14), .ref (a 15), .ref (a 16), .int x_now_length])), (a 14, .inl (V.2 0, 26, .inl x_now_classes)), (a 15, .inl (V.2 0, 4, .inl x_now_kinds)), (a 16, .inl (V.2 0, 30, .inl x_now_line)), (a 25, .inr (0, [.ref (a 26), .ref (a 27), .ref (a 28), .int x_acts_number])), (a 29, .inr (5, [.ref (a 30), .ref (a 31), .int x_steps_firsts, .int x_steps_loose])), (a 30, .inl (V.2 0, 10, .inl x_steps_onward)), (a 31, .inl (V.2 0, 6, .inl x_steps_takers)), (a 32, .inr (3, [.ref (a 33), .int x_pieces_length, .int x_pieces_bounds])), (a 33, .inl (V.2 0, 31, .inl x_pieces_stands)), (a 34, .inr (8, [.ref (a 35), .ref (a 36), .ref (a 37), .ref (a 38), .ref (a 39), .ref (a 40), .ref (a 41), .int x_ways_number, .int x_ways_unlikeNumber, .int x_ways_knownNumber, .int x_ways_areFound])), (b 0, .inl (V.2 0, n_b, .inl y)), (c 0, .inl (V.2 0, n_c, .inl z)), (d 0, .inl (V.2 0, n_d, .inl w))] [.int r_95] rfl rfl ?_
            try dsimp only at h
            refine ga_istore hR (pc := 155) (lv' := [(4, .int r_95), (0, .ref (a 0)), (1, .ref (b 0)), (2, .ref (c 0)), (3, .ref (d 0)), (5, .int v5_84)]) (by decide) rfl dL_lays_155 ?_
            refine ga_iconst hR (pc := 157) (v := nI 0) (by decide) dL_lays_157 ?_
            refine ga_istore hR (pc := 158) (lv' := [(6, .int (nI 0)), (4, .int r_95), (0, .ref (a 0)), (1, .ref (b 0)), (2, .ref (c 0)), (3, .ref (d 0)), (5, .int v5_84)]) (by decide) rfl dL_lays_158 ?_
            have hJ := h (fun (x_text_length_96 : Int32) (x_text_signs_97 : Nat → Int32) => G 0 0 [(a 0, .inr (9, [.ref (a 1), .ref (a 3), .ref (a 13), .ref (a 17), .ref (a 21), .ref (a 25), .ref (a 29), .ref (a 32), .ref (a 34), .ref (a 46), .ref (a 50), .int x_keptNumber])), (a 1, .inr (7, [.ref (a 2), .int x_text_length_96, .int x_text_rulesSeen, .int x_text_placesSeen])), (a 2, .inl (V.2 0, 200, .inl x_text_signs_97)), (a 3, .inr (4, [.ref (a 4), .ref (a 5), .ref (a 6), .ref (a 7), .ref (a 8), .ref (a 9), .int x_rules_number, .int x_rules_placeNumber])), (a 4, .inl (V.2 0, 4, .inl x_rules_places)), (a 5, .inl (V.2 0, 4, .inl x_rules_firsts)), (a 6, .inl (V.2 0, 4, .inl x_rules_wholes)), (a 7, .inl (V.2 0, 10, .inl x_rules_taken)), (a 8, .inl (V.2 0, 10, .inl x_rules_behinds)), (a 9, .inr (2, [.ref (a 10), .ref (a 11), .ref (a 12), .int x_rules_parts_height])), (a 10, .inl (V.2 0, 16, .inl x_rules_parts_firsts)), (a 11, .inl (V.2 0, 16, .inl x_rules_parts_lasts)), (a 12, .inl (V.2 1, 16, .inl x_rules_parts_lacking)), (a 13, .inr (6, [.ref (a 14), .ref (a 15), .ref (a 16), .int x_now_length])), (a 14, .inl (V.2 0, 26, .inl x_now_classes)), (a 15, .inl (V.2 0, 4, .inl x_now_kinds)), (a 16, .inl (V.2 0, 30, .inl x_now_line)), (a 25, .inr (0, [.ref (a 26), .ref (a 27), .ref (a 28), .int x_acts_number])), (a 29, .inr (5, [.ref (a 30), .ref (a 31), .int x_steps_firsts, .int x_steps_loose])), (a 30, .inl (V.2 0, 10, .inl x_steps_onward)), (a 31, .inl (V.2 0, 6, .inl x_steps_takers)), (a 32, .inr (3, [.ref (a 33), .int x_pieces_length, .int x_pieces_bounds])), (a 33, .inl (V.2 0, 31, .inl x_pieces_stands)), (a 34, .inr (8, [.ref (a 35), .ref (a 36), .ref (a 37), .ref (a 38), .ref (a 39), .ref (a 40), .ref (a 41), .int x_ways_number, .int x_ways_unlikeNumber, .int x_ways_knownNumber, .int x_ways_areFound])), (b 0, .inl (V.2 0, n_b, .inl y)), (c 0, .inl (V.2 0, n_c, .inl z)), (d 0, .inl (V.2 0, n_d, .inl w))] 194 [(0, .ref (a 0)), (1, .ref (b 0)), (2, .ref (c 0)), (3, .ref (d 0)), (5, .int v5_84)] [])
            refine ga_bind hJ ?_ ?_
            · intro x_text_length_96 x_text_signs_97 h
              show G 0 0 [(a 0, .inr (9, [.ref (a 1), .ref (a 3), .ref (a 13), .ref (a 17), .ref (a 21), .ref (a 25), .ref (a 29), .ref (a 32), .ref (a 34), .ref (a 46), .ref (a 50), .int x_keptNumber])), (a 1, .inr (7, [.ref (a 2), .int x_text_length_96, .int x_text_rulesSeen, .int x_text_placesSeen])), (a 2, .inl (V.2 0, 200, .inl x_text_signs_97)), (a 3, .inr (4, [.ref (a 4), .ref (a 5), .ref (a 6), .ref (a 7), .ref (a 8), .ref (a 9), .int x_rules_number, .int x_rules_placeNumber])), (a 4, .inl (V.2 0, 4, .inl x_rules_places)), (a 5, .inl (V.2 0, 4, .inl x_rules_firsts)), (a 6, .inl (V.2 0, 4, .inl x_rules_wholes)), (a 7, .inl (V.2 0, 10, .inl x_rules_taken)), (a 8, .inl (V.2 0, 10, .inl x_rules_behinds)), (a 9, .inr (2, [.ref (a 10), .ref (a 11), .ref (a 12), .int x_rules_parts_height])), (a 10, .inl (V.2 0, 16, .inl x_rules_parts_firsts)), (a 11, .inl (V.2 0, 16, .inl x_rules_parts_lasts)), (a 12, .inl (V.2 1, 16, .inl x_rules_parts_lacking)), (a 13, .inr (6, [.ref (a 14), .ref (a 15), .ref (a 16), .int x_now_length])), (a 14, .inl (V.2 0, 26, .inl x_now_classes)), (a 15, .inl (V.2 0, 4, .inl x_now_kinds)), (a 16, .inl (V.2 0, 30, .inl x_now_line)), (a 25, .inr (0, [.ref (a 26), .ref (a 27), .ref (a 28), .int x_acts_number])), (a 29, .inr (5, [.ref (a 30), .ref (a 31), .int x_steps_firsts, .int x_steps_loose])), (a 30, .inl (V.2 0, 10, .inl x_steps_onward)), (a 31, .inl (V.2 0, 6, .inl x_steps_takers)), (a 32, .inr (3, [.ref (a 33), .int x_pieces_length, .int x_pieces_bounds])), (a 33, .inl (V.2 0, 31, .inl x_pieces_stands)), (a 34, .inr (8, [.ref (a 35), .ref (a 36), .ref (a 37), .ref (a 38), .ref (a 39), .ref (a 40), .ref (a 41), .int x_ways_number, .int x_ways_unlikeNumber, .int x_ways_knownNumber, .int x_ways_areFound])), (b 0, .inl (V.2 0, n_b, .inl y)), (c 0, .inl (V.2 0, n_c, .inl z)), (d 0, .inl (V.2 0, n_d, .inl w))] 194 [(0, .ref (a 0)), (1, .ref (b 0)), (2, .ref (c 0)), (3, .ref (d 0)), (5, .int v5_84)] []
              refine ga_aload_n hR (pc := 194) 0 rfl rfl dL_lays_194 ?_
              refine ga_bipush hR (pc := 195) (v := nI 59) (by decide) dL_lays_195 ?_
              refine ga_callV hR (pc := 197) (As := [.int (nI 59)]) (rest := []) (st0 := [.int (nI 59), .ref (a 0)]) (b := (a 0)) 1 (c_X9_write V a x_keptNumber x_text_rulesSeen x_text_placesSeen x_text_length_96 x_text_signs_97 (nI 59) _ h) (ga_same_i fun _ => rfl) gL_lays_X9_write rfl rfl rfl hd_X9_write ⟨Nat.le_of_ble_eq_true rfl, Nat.le_of_ble_eq_true rfl⟩ rfl rfl (Nat.le_of_ble_eq_true rfl) ⟨Nat.le_of_ble_eq_true rfl, Nat.le_of_ble_eq_true rfl⟩ [0, 1, 2] rfl rfl 0 rfl rfl dL_lays_197 ?_
              rintro _ _ ⟨r_101, ⟨x_text_length_99, x_text_signs_100⟩, rfl, rfl, h⟩
              refine ga_to [(a 0, .inr (9, [.ref (a 1), .ref (a 3), .ref (a 13), .ref (a 17), .ref (a 21), .ref (a 25), .ref (a 29), .ref (a 32), .ref (a 34), .ref (a 46), .ref (a 50), .int x_keptNumber])), (a 1, .inr (7, [.ref (a 2), .int x_text_length_99, .int x_text_rulesSeen, .int x_text_placesSeen])), (a 2, .inl (V.2 0, 200, .inl x_text_signs_100)), (a 3, .inr (4, [.ref (a 4), .ref (a 5), .ref (a 6), .ref (a 7), .ref (a 8), .ref (a 9), .int x_rules_number, .int x_rules_placeNumber])), (a 4, .inl (V.2 0, 4, .inl x_rules_places)), (a 5, .inl (V.2 0, 4, .inl x_rules_firsts)), (a 6, .inl (V.2 0, 4, .inl x_rules_wholes)), (a 7, .inl (V.2 0, 10, .inl x_rules_taken)), (a 8, .inl (V.2 0, 10, .inl x_rules_behinds)), (a 9, .inr (2, [.ref (a 10), .ref (a 11), .ref (a 12), .int x_rules_parts_height])), (a 10, .inl (V.2 0, 16, .inl x_rules_parts_firsts)), (a 11, .inl (V.2 0, 16, .inl x_rules_parts_lasts)), (a 12, .inl (V.2 1, 16, .inl x_rules_parts_lacking)), (a 13, .inr (6, [.ref (a 14), .ref (a 15), .ref (a 16), .int x_now_length])), (a 14, .inl (V.2 0, 26, .inl x_now_classes)), (a 15, .inl (V.2 0, 4, .inl x_now_kinds)), (a 16, .inl (V.2 0, 30, .inl x_now_line)), (a 25, .inr (0, [.ref (a 26), .ref (a 27), .ref (a 28), .int x_acts_number])), (a 29, .inr (5, [.ref (a 30), .ref (a 31), .int x_steps_firsts, .int x_steps_loose])), (a 30, .inl (V.2 0, 10, .inl x_steps_onward)), (a 31, .inl (V.2 0, 6, .inl x_steps_takers)), (a 32, .inr (3, [.ref (a 33), .int x_pieces_length, .int x_pieces_bounds])), (a 33, .inl (V.2 0, 31, .inl x_pieces_stands)), (a 34, .inr (8, [.ref (a 35), .ref (a 36), .ref (a 37), .ref (a 38), .ref (a 39), .ref (a 40), .ref (a 41), .int x_ways_number, .int x_ways_unlikeNumber, .int x_ways_knownNumber, .int x_ways_areFound])), (b 0, .inl (V.2 0, n_b, .inl y)), (c 0, .inl (V.2 0, n_c, .inl z)), (d 0, .inl (V.2 0, n_d, .inl w))] [.int r_101] rfl rfl ?_
              try dsimp only at h
              refine ga_istore hR (pc := 200) (lv' := [(4, .int r_101), (0, .ref (a 0)), (1, .ref (b 0)), (2, .ref (c 0)), (3, .ref (d 0)), (5, .int v5_84)]) (by decide) rfl dL_lays_200 ?_
              obtain ⟨v5_102, ev5_102⟩ : ∃ v : Int32, v = v5_84 + (nI 1) := ⟨_, rfl⟩
              replace h := h v5_102 ev5_102
              refine ga_iinc hR (pc := 202) (lv' := [(5, .int v5_102), (4, .int r_101), (0, .ref (a 0)), (1, .ref (b 0)), (2, .ref (c 0)), (3, .ref (d 0))]) 5 (by decide) rfl ev5_102 (by decide) rfl dL_lays_202 ?_
              refine ga_goto hR (pc := 205) 117 (by decide) dL_lays_205 ?_
              exact ga_lv hR [2, 3, 4, 5, 0] rfl (ih _ _ _ h)
            · intro h
              obtain ⟨n, h⟩ := h
              have L160 : ∀ (n : Nat) (v6_103 : Int32) (x_text_length_104 : Int32) (x_text_signs_105 : Nat → Int32), lp_L_lays_160 n_b n_c y z v5_84 (fun (x_text_length_96 : Int32) (x_text_signs_97 : Nat → Int32) => G 0 0 [(a 0, .inr (9, [.ref (a 1), .ref (a 3), .ref (a 13), .ref (a 17), .ref (a 21), .ref (a 25), .ref (a 29), .ref (a 32), .ref (a 34), .ref (a 46), .ref (a 50), .int x_keptNumber])), (a 1, .inr (7, [.ref (a 2), .int x_text_length_96, .int x_text_rulesSeen, .int x_text_placesSeen])), (a 2, .inl (V.2 0, 200, .inl x_text_signs_97)), (a 3, .inr (4, [.ref (a 4), .ref (a 5), .ref (a 6), .ref (a 7), .ref (a 8), .ref (a 9), .int x_rules_number, .int x_rules_placeNumber])), (a 4, .inl (V.2 0, 4, .inl x_rules_places)), (a 5, .inl (V.2 0, 4, .inl x_rules_firsts)), (a 6, .inl (V.2 0, 4, .inl x_rules_wholes)), (a 7, .inl (V.2 0, 10, .inl x_rules_taken)), (a 8, .inl (V.2 0, 10, .inl x_rules_behinds)), (a 9, .inr (2, [.ref (a 10), .ref (a 11), .ref (a 12), .int x_rules_parts_height])), (a 10, .inl (V.2 0, 16, .inl x_rules_parts_firsts)), (a 11, .inl (V.2 0, 16, .inl x_rules_parts_lasts)), (a 12, .inl (V.2 1, 16, .inl x_rules_parts_lacking)), (a 13, .inr (6, [.ref (a 14), .ref (a 15), .ref (a 16), .int x_now_length])), (a 14, .inl (V.2 0, 26, .inl x_now_classes)), (a 15, .inl (V.2 0, 4, .inl x_now_kinds)), (a 16, .inl (V.2 0, 30, .inl x_now_line)), (a 25, .inr (0, [.ref (a 26), .ref (a 27), .ref (a 28), .int x_acts_number])), (a 29, .inr (5, [.ref (a 30), .ref (a 31), .int x_steps_firsts, .int x_steps_loose])), (a 30, .inl (V.2 0, 10, .inl x_steps_onward)), (a 31, .inl (V.2 0, 6, .inl x_steps_takers)), (a 32, .inr (3, [.ref (a 33), .int x_pieces_length, .int x_pieces_bounds])), (a 33, .inl (V.2 0, 31, .inl x_pieces_stands)), (a 34, .inr (8, [.ref (a 35), .ref (a 36), .ref (a 37), .ref (a 38), .ref (a 39), .ref (a 40), .ref (a 41), .int x_ways_number, .int x_ways_unlikeNumber, .int x_ways_knownNumber, .int x_ways_areFound])), (b 0, .inl (V.2 0, n_b, .inl y)), (c 0, .inl (V.2 0, n_c, .inl z)), (d 0, .inl (V.2 0, n_d, .inl w))] 194 [(0, .ref (a 0)), (1, .ref (b 0)), (2, .ref (c 0)), (3, .ref (d 0)), (5, .int v5_84)] []) n v6_103 x_text_length_104 x_text_signs_105 → G 0 0 [(a 0, .inr (9, [.ref (a 1), .ref (a 3), .ref (a 13), .ref (a 17), .ref (a 21), .ref (a 25), .ref (a 29), .ref (a 32), .ref (a 34), .ref (a 46), .ref (a 50), .int x_keptNumber])), (a 1, .inr (7, [.ref (a 2), .int x_text_length_104, .int x_text_rulesSeen, .int x_text_placesSeen])), (a 2, .inl (V.2 0, 200, .inl x_text_signs_105)), (a 3, .inr (4, [.ref (a 4), .ref (a 5), .ref (a 6), .ref (a 7), .ref (a 8), .ref (a 9), .int x_rules_number, .int x_rules_placeNumber])), (a 4, .inl (V.2 0, 4, .inl x_rules_places)), (a 5, .inl (V.2 0, 4, .inl x_rules_firsts)), (a 6, .inl (V.2 0, 4, .inl x_rules_wholes)), (a 7, .inl (V.2 0, 10, .inl x_rules_taken)), (a 8, .inl (V.2 0, 10, .inl x_rules_behinds)), (a 9, .inr (2, [.ref (a 10), .ref (a 11), .ref (a 12), .int x_rules_parts_height])), (a 10, .inl (V.2 0, 16, .inl x_rules_parts_firsts)), (a 11, .inl (V.2 0, 16, .inl x_rules_parts_lasts)), (a 12, .inl (V.2 1, 16, .inl x_rules_parts_lacking)), (a 13, .inr (6, [.ref (a 14), .ref (a 15), .ref (a 16), .int x_now_length])), (a 14, .inl (V.2 0, 26, .inl x_now_classes)), (a 15, .inl (V.2 0, 4, .inl x_now_kinds)), (a 16, .inl (V.2 0, 30, .inl x_now_line)), (a 25, .inr (0, [.ref (a 26), .ref (a 27), .ref (a 28), .int x_acts_number])), (a 29, .inr (5, [.ref (a 30), .ref (a 31), .int x_steps_firsts, .int x_steps_loose])), (a 30, .inl (V.2 0, 10, .inl x_steps_onward)), (a 31, .inl (V.2 0, 6, .inl x_steps_takers)), (a 32, .inr (3, [.ref (a 33), .int x_pieces_length, .int x_pieces_bounds])), (a 33, .inl (V.2 0, 31, .inl x_pieces_stands)), (a 34, .inr (8, [.ref (a 35), .ref (a 36), .ref (a 37), .ref (a 38), .ref (a 39), .ref (a 40), .ref (a 41), .int x_ways_number, .int x_ways_unlikeNumber, .int x_ways_knownNumber, .int x_ways_areFound])), (b 0, .inl (V.2 0, n_b, .inl y)), (c 0, .inl (V.2 0, n_c, .inl z)), (d 0, .inl (V.2 0, n_d, .inl w))] 160 [(0, .ref (a 0)), (1, .ref (b 0)), (2, .ref (c 0)), (3, .ref (d 0)), (5, .int v5_84), (6, .int v6_103)] [] := by
                intro n
                induction n with
                | zero => exact fun _ _ _ h => False.elim h
                | succ n ih =>
                  intro v6_103 x_text_length_104 x_text_signs_105 h
                  rw [lp_L_lays_160] at h
                  refine ga_iload hR (pc := 160) 5 rfl dL_lays_160 ?_
                  refine ga_aload_n hR (pc := 162) 1 rfl rfl dL_lays_162 ?_
                  refine ga_bipush hR (pc := 163) (v := nI 34) (by decide) dL_lays_163 ?_
                  refine ga_iload hR (pc := 165) 4 rfl dL_lays_165 ?_
                  refine ga_iadd hR (pc := 167) dL_lays_167 ?_
                  refine ga_iald hR (pc := 168) 24 rfl h.1 dL_lays_168 ?_
                  replace h := h.2
                  refine ga_icmp_ge hR (pc := 169) 194 (by decide) dL_lays_169 (fun c169 => ?_) (fun c169 => ?_)
                  · replace h := h.1 c169
                    exact ga_lv hR [0, 1, 2, 3, 4] rfl h
                  · replace h := h.2 c169
                    refine ga_aload_n hR (pc := 172) 0 rfl rfl dL_lays_172 ?_
                    refine ga_aload_n hR (pc := 173) 2 rfl rfl dL_lays_173 ?_
                    refine ga_bipush hR (pc := 174) (v := nI 16) (by decide) dL_lays_174 ?_
                    refine ga_iload hR (pc := 176) 4 rfl dL_lays_176 ?_
                    refine ga_imul hR (pc := 178) dL_lays_178 ?_
                    refine ga_iload hR (pc := 179) 5 rfl dL_lays_179 ?_
                    refine ga_iadd hR (pc := 181) dL_lays_181 ?_
                    refine ga_iald hR (pc := 182) 25 rfl h.1 dL_lays_182 ?_
                    replace h := h.2
                    refine ga_callV hR (pc := 183) (As := [.int (z (((nI 16) * v5_84) + v6_103).toNatClampNeg)]) (rest := []) (st0 := [.int (z (((nI 16) * v5_84) + v6_103).toNatClampNeg), .ref (a 0)]) (b := (a 0)) 1 (c_X9_write V a x_keptNumber x_text_rulesSeen x_text_placesSeen x_text_length_104 x_text_signs_105 (z (((nI 16) * v5_84) + v6_103).toNatClampNeg) _ h) (ga_same_i fun _ => rfl) gL_lays_X9_write rfl rfl rfl hd_X9_write ⟨Nat.le_of_ble_eq_true rfl, Nat.le_of_ble_eq_true rfl⟩ rfl rfl (Nat.le_of_ble_eq_true rfl) ⟨Nat.le_of_ble_eq_true rfl, Nat.le_of_ble_eq_true rfl⟩ [0, 1, 2] rfl rfl 0 rfl rfl dL_lays_183 ?_
                    rintro _ _ ⟨r_108, ⟨x_text_length_106, x_text_signs_107⟩, rfl, rfl, h⟩
                    refine ga_to [(a 0, .inr (9, [.ref (a 1), .ref (a 3), .ref (a 13), .ref (a 17), .ref (a 21), .ref (a 25), .ref (a 29), .ref (a 32), .ref (a 34), .ref (a 46), .ref (a 50), .int x_keptNumber])), (a 1, .inr (7, [.ref (a 2), .int x_text_length_106, .int x_text_rulesSeen, .int x_text_placesSeen])), (a 2, .inl (V.2 0, 200, .inl x_text_signs_107)), (a 3, .inr (4, [.ref (a 4), .ref (a 5), .ref (a 6), .ref (a 7), .ref (a 8), .ref (a 9), .int x_rules_number, .int x_rules_placeNumber])), (a 4, .inl (V.2 0, 4, .inl x_rules_places)), (a 5, .inl (V.2 0, 4, .inl x_rules_firsts)), (a 6, .inl (V.2 0, 4, .inl x_rules_wholes)), (a 7, .inl (V.2 0, 10, .inl x_rules_taken)), (a 8, .inl (V.2 0, 10, .inl x_rules_behinds)), (a 9, .inr (2, [.ref (a 10), .ref (a 11), .ref (a 12), .int x_rules_parts_height])), (a 10, .inl (V.2 0, 16, .inl x_rules_parts_firsts)), (a 11, .inl (V.2 0, 16, .inl x_rules_parts_lasts)), (a 12, .inl (V.2 1, 16, .inl x_rules_parts_lacking)), (a 13, .inr (6, [.ref (a 14), .ref (a 15), .ref (a 16), .int x_now_length])), (a 14, .inl (V.2 0, 26, .inl x_now_classes)), (a 15, .inl (V.2 0, 4, .inl x_now_kinds)), (a 16, .inl (V.2 0, 30, .inl x_now_line)), (a 25, .inr (0, [.ref (a 26), .ref (a 27), .ref (a 28), .int x_acts_number])), (a 29, .inr (5, [.ref (a 30), .ref (a 31), .int x_steps_firsts, .int x_steps_loose])), (a 30, .inl (V.2 0, 10, .inl x_steps_onward)), (a 31, .inl (V.2 0, 6, .inl x_steps_takers)), (a 32, .inr (3, [.ref (a 33), .int x_pieces_length, .int x_pieces_bounds])), (a 33, .inl (V.2 0, 31, .inl x_pieces_stands)), (a 34, .inr (8, [.ref (a 35), .ref (a 36), .ref (a 37), .ref (a 38), .ref (a 39), .ref (a 40), .ref (a 41), .int x_ways_number, .int x_ways_unlikeNumber, .int x_ways_knownNumber, .int x_ways_areFound])), (b 0, .inl (V.2 0, n_b, .inl y)), (c 0, .inl (V.2 0, n_c, .inl z)), (d 0, .inl (V.2 0, n_d, .inl w))] [.int r_108] rfl rfl ?_
                    try dsimp only at h
                    refine ga_istore hR (pc := 186) (lv' := [(4, .int r_108), (0, .ref (a 0)), (1, .ref (b 0)), (2, .ref (c 0)), (3, .ref (d 0)), (5, .int v5_84), (6, .int v6_103)]) (by decide) rfl dL_lays_186 ?_
                    obtain ⟨v6_109, ev6_109⟩ : ∃ v : Int32, v = v6_103 + (nI 1) := ⟨_, rfl⟩
                    replace h := h v6_109 ev6_109
                    refine ga_iinc hR (pc := 188) (lv' := [(6, .int v6_109), (4, .int r_108), (0, .ref (a 0)), (1, .ref (b 0)), (2, .ref (c 0)), (3, .ref (d 0)), (5, .int v5_84)]) 6 (by decide) rfl ev6_109 (by decide) rfl dL_lays_188 ?_
                    refine ga_goto hR (pc := 191) 160 (by decide) dL_lays_191 ?_
                    exact ga_lv hR [2, 3, 4, 5, 6, 0] rfl (ih _ _ _ h)
              exact ga_lv hR [2, 3, 4, 5, 6, 0] rfl (L160 n _ _ _ h)
      exact ga_lv hR [1, 2, 3, 4, 0] rfl (L117 n _ _ _ h)
  · intro h
    obtain ⟨n, h⟩ := h
    have L9 : ∀ (n : Nat) (v4_159 : Int32) (v5_160 : Int32) (x_text_length_161 : Int32) (x_text_signs_162 : Nat → Int32), lp_L_lays_9 n_d w (fun (x_text_length_3 : Int32) (x_text_signs_4 : Nat → Int32) => G 0 0 [(a 0, .inr (9, [.ref (a 1), .ref (a 3), .ref (a 13), .ref (a 17), .ref (a 21), .ref (a 25), .ref (a 29), .ref (a 32), .ref (a 34), .ref (a 46), .ref (a 50), .int x_keptNumber])), (a 1, .inr (7, [.ref (a 2), .int x_text_length_3, .int x_text_rulesSeen, .int x_text_placesSeen])), (a 2, .inl (V.2 0, 200, .inl x_text_signs_4)), (a 3, .inr (4, [.ref (a 4), .ref (a 5), .ref (a 6), .ref (a 7), .ref (a 8), .ref (a 9), .int x_rules_number, .int x_rules_placeNumber])), (a 4, .inl (V.2 0, 4, .inl x_rules_places)), (a 5, .inl (V.2 0, 4, .inl x_rules_firsts)), (a 6, .inl (V.2 0, 4, .inl x_rules_wholes)), (a 7, .inl (V.2 0, 10, .inl x_rules_taken)), (a 8, .inl (V.2 0, 10, .inl x_rules_behinds)), (a 9, .inr (2, [.ref (a 10), .ref (a 11), .ref (a 12), .int x_rules_parts_height])), (a 10, .inl (V.2 0, 16, .inl x_rules_parts_firsts)), (a 11, .inl (V.2 0, 16, .inl x_rules_parts_lasts)), (a 12, .inl (V.2 1, 16, .inl x_rules_parts_lacking)), (a 13, .inr (6, [.ref (a 14), .ref (a 15), .ref (a 16), .int x_now_length])), (a 14, .inl (V.2 0, 26, .inl x_now_classes)), (a 15, .inl (V.2 0, 4, .inl x_now_kinds)), (a 16, .inl (V.2 0, 30, .inl x_now_line)), (a 25, .inr (0, [.ref (a 26), .ref (a 27), .ref (a 28), .int x_acts_number])), (a 29, .inr (5, [.ref (a 30), .ref (a 31), .int x_steps_firsts, .int x_steps_loose])), (a 30, .inl (V.2 0, 10, .inl x_steps_onward)), (a 31, .inl (V.2 0, 6, .inl x_steps_takers)), (a 32, .inr (3, [.ref (a 33), .int x_pieces_length, .int x_pieces_bounds])), (a 33, .inl (V.2 0, 31, .inl x_pieces_stands)), (a 34, .inr (8, [.ref (a 35), .ref (a 36), .ref (a 37), .ref (a 38), .ref (a 39), .ref (a 40), .ref (a 41), .int x_ways_number, .int x_ways_unlikeNumber, .int x_ways_knownNumber, .int x_ways_areFound])), (b 0, .inl (V.2 0, n_b, .inl y)), (c 0, .inl (V.2 0, n_c, .inl z)), (d 0, .inl (V.2 0, n_d, .inl w))] 114 [(0, .ref (a 0)), (1, .ref (b 0)), (2, .ref (c 0)), (3, .ref (d 0))] []) n v4_159 v5_160 x_text_length_161 x_text_signs_162 → G 0 0 [(a 0, .inr (9, [.ref (a 1), .ref (a 3), .ref (a 13), .ref (a 17), .ref (a 21), .ref (a 25), .ref (a 29), .ref (a 32), .ref (a 34), .ref (a 46), .ref (a 50), .int x_keptNumber])), (a 1, .inr (7, [.ref (a 2), .int x_text_length_161, .int x_text_rulesSeen, .int x_text_placesSeen])), (a 2, .inl (V.2 0, 200, .inl x_text_signs_162)), (a 3, .inr (4, [.ref (a 4), .ref (a 5), .ref (a 6), .ref (a 7), .ref (a 8), .ref (a 9), .int x_rules_number, .int x_rules_placeNumber])), (a 4, .inl (V.2 0, 4, .inl x_rules_places)), (a 5, .inl (V.2 0, 4, .inl x_rules_firsts)), (a 6, .inl (V.2 0, 4, .inl x_rules_wholes)), (a 7, .inl (V.2 0, 10, .inl x_rules_taken)), (a 8, .inl (V.2 0, 10, .inl x_rules_behinds)), (a 9, .inr (2, [.ref (a 10), .ref (a 11), .ref (a 12), .int x_rules_parts_height])), (a 10, .inl (V.2 0, 16, .inl x_rules_parts_firsts)), (a 11, .inl (V.2 0, 16, .inl x_rules_parts_lasts)), (a 12, .inl (V.2 1, 16, .inl x_rules_parts_lacking)), (a 13, .inr (6, [.ref (a 14), .ref (a 15), .ref (a 16), .int x_now_length])), (a 14, .inl (V.2 0, 26, .inl x_now_classes)), (a 15, .inl (V.2 0, 4, .inl x_now_kinds)), (a 16, .inl (V.2 0, 30, .inl x_now_line)), (a 25, .inr (0, [.ref (a 26), .ref (a 27), .ref (a 28), .int x_acts_number])), (a 29, .inr (5, [.ref (a 30), .ref (a 31), .int x_steps_firsts, .int x_steps_loose])), (a 30, .inl (V.2 0, 10, .inl x_steps_onward)), (a 31, .inl (V.2 0, 6, .inl x_steps_takers)), (a 32, .inr (3, [.ref (a 33), .int x_pieces_length, .int x_pieces_bounds])), (a 33, .inl (V.2 0, 31, .inl x_pieces_stands)), (a 34, .inr (8, [.ref (a 35), .ref (a 36), .ref (a 37), .ref (a 38), .ref (a 39), .ref (a 40), .ref (a 41), .int x_ways_number, .int x_ways_unlikeNumber, .int x_ways_knownNumber, .int x_ways_areFound])), (b 0, .inl (V.2 0, n_b, .inl y)), (c 0, .inl (V.2 0, n_c, .inl z)), (d 0, .inl (V.2 0, n_d, .inl w))] 9 [(0, .ref (a 0)), (1, .ref (b 0)), (2, .ref (c 0)), (3, .ref (d 0)), (4, .int v4_159), (5, .int v5_160)] [] := by
      intro n
      induction n with
      | zero => exact fun _ _ _ _ h => False.elim h
      | succ n ih =>
        intro v4_159 v5_160 x_text_length_161 x_text_signs_162 h
        rw [lp_L_lays_9] at h
        refine ga_iload hR (pc := 9) 5 rfl dL_lays_9 ?_
        refine ga_bipush hR (pc := 11) (v := nI 6) (by decide) dL_lays_11 ?_
        refine ga_icmp_ge hR (pc := 13) 114 (by decide) dL_lays_13 (fun c13 => ?_) (fun c13 => ?_)
        · replace h := h.1 c13
          exact ga_lv hR [0, 1, 2, 3] rfl h
        · replace h := h.2 c13
          refine ga_iconst hR (pc := 16) (v := nI 0) (by decide) dL_lays_16 ?_
          refine ga_istore hR (pc := 17) (lv' := [(6, .int (nI 0)), (0, .ref (a 0)), (1, .ref (b 0)), (2, .ref (c 0)), (3, .ref (d 0)), (4, .int v4_159), (5, .int v5_160)]) (by decide) rfl dL_lays_17 ?_
          refine ga_iconst hR (pc := 19) (v := nI 0) (by decide) dL_lays_19 ?_
          refine ga_istore hR (pc := 20) (lv' := [(7, .int (nI 0)), (6, .int (nI 0)), (0, .ref (a 0)), (1, .ref (b 0)), (2, .ref (c 0)), (3, .ref (d 0)), (4, .int v4_159), (5, .int v5_160)]) (by decide) rfl dL_lays_20 ?_
          have hJ := h (fun (v4_163 : Int32) (v6_164 : Int32) (x_text_length_165 : Int32) (x_text_signs_166 : Nat → Int32) => G 0 0 [(a 0, .inr (9, [.ref (a 1), .ref (a 3), .ref (a 13), .ref (a 17), .ref (a 21), .ref (a 25), .ref (a 29), .ref (a 32), .ref (a 34), .ref (a 46), .ref (a 50), .int x_keptNumber])), (a 1, .inr (7, [.ref (a 2), .int x_text_length_165, .int x_text_rulesSeen, .int x_text_placesSeen])), (a 2, .inl (V.2 0, 200, .inl x_text_signs_166)), (a 3, .inr (4, [.ref (a 4), .ref (a 5), .ref (a 6), .ref (a 7), .ref (a 8), .ref (a 9), .int x_rules_number, .int x_rules_placeNumber])), (a 4, .inl (V.2 0, 4, .inl x_rules_places)), (a 5, .inl (V.2 0, 4, .inl x_rules_firsts)), (a 6, .inl (V.2 0, 4, .inl x_rules_wholes)), (a 7, .inl (V.2 0, 10, .inl x_rules_taken)), (a 8, .inl (V.2 0, 10, .inl x_rules_behinds)), (a 9, .inr (2, [.ref (a 10), .ref (a 11), .ref (a 12), .int x_rules_parts_height])), (a 10, .inl (V.2 0, 16, .inl x_rules_parts_firsts)), (a 11, .inl (V.2 0, 16, .inl x_rules_parts_lasts)), (a 12, .inl (V.2 1, 16, .inl x_rules_parts_lacking)), (a 13, .inr (6, [.ref (a 14), .ref (a 15), .ref (a 16), .int x_now_length])), (a 14, .inl (V.2 0, 26, .inl x_now_classes)), (a 15, .inl (V.2 0, 4, .inl x_now_kinds)), (a 16, .inl (V.2 0, 30, .inl x_now_line)), (a 25, .inr (0, [.ref (a 26), .ref (a 27), .ref (a 28), .int x_acts_number])), (a 29, .inr (5, [.ref (a 30), .ref (a 31), .int x_steps_firsts, .int x_steps_loose])), (a 30, .inl (V.2 0, 10, .inl x_steps_onward)), (a 31, .inl (V.2 0, 6, .inl x_steps_takers)), (a 32, .inr (3, [.ref (a 33), .int x_pieces_length, .int x_pieces_bounds])), (a 33, .inl (V.2 0, 31, .inl x_pieces_stands)), (a 34, .inr (8, [.ref (a 35), .ref (a 36), .ref (a 37), .ref (a 38), .ref (a 39), .ref (a 40), .ref (a 41), .int x_ways_number, .int x_ways_unlikeNumber, .int x_ways_knownNumber, .int x_ways_areFound])), (b 0, .inl (V.2 0, n_b, .inl y)), (c 0, .inl (V.2 0, n_c, .inl z)), (d 0, .inl (V.2 0, n_d, .inl w))] 90 [(0, .ref (a 0)), (1, .ref (b 0)), (2, .ref (c 0)), (3, .ref (d 0)), (4, .int v4_163), (5, .int v5_160), (6, .int v6_164)] [])
          refine ga_bind hJ ?_ ?_
          · intro v4_163 v6_164 x_text_length_165 x_text_signs_166 h
            show G 0 0 [(a 0, .inr (9, [.ref (a 1), .ref (a 3), .ref (a 13), .ref (a 17), .ref (a 21), .ref (a 25), .ref (a 29), .ref (a 32), .ref (a 34), .ref (a 46), .ref (a 50), .int x_keptNumber])), (a 1, .inr (7, [.ref (a 2), .int x_text_length_165, .int x_text_rulesSeen, .int x_text_placesSeen])), (a 2, .inl (V.2 0, 200, .inl x_text_signs_166)), (a 3, .inr (4, [.ref (a 4), .ref (a 5), .ref (a 6), .ref (a 7), .ref (a 8), .ref (a 9), .int x_rules_number, .int x_rules_placeNumber])), (a 4, .inl (V.2 0, 4, .inl x_rules_places)), (a 5, .inl (V.2 0, 4, .inl x_rules_firsts)), (a 6, .inl (V.2 0, 4, .inl x_rules_wholes)), (a 7, .inl (V.2 0, 10, .inl x_rules_taken)), (a 8, .inl (V.2 0, 10, .inl x_rules_behinds)), (a 9, .inr (2, [.ref (a 10), .ref (a 11), .ref (a 12), .int x_rules_parts_height])), (a 10, .inl (V.2 0, 16, .inl x_rules_parts_firsts)), (a 11, .inl (V.2 0, 16, .inl x_rules_parts_lasts)), (a 12, .inl (V.2 1, 16, .inl x_rules_parts_lacking)), (a 13, .inr (6, [.ref (a 14), .ref (a 15), .ref (a 16), .int x_now_length])), (a 14, .inl (V.2 0, 26, .inl x_now_classes)), (a 15, .inl (V.2 0, 4, .inl x_now_kinds)), (a 16, .inl (V.2 0, 30, .inl x_now_line)), (a 25, .inr (0, [.ref (a 26), .ref (a 27), .ref (a 28), .int x_acts_number])), (a 29, .inr (5, [.ref (a 30), .ref (a 31), .int x_steps_firsts, .int x_steps_loose])), (a 30, .inl (V.2 0, 10, .inl x_steps_onward)), (a 31, .inl (V.2 0, 6, .inl x_steps_takers)), (a 32, .inr (3, [.ref (a 33), .int x_pieces_length, .int x_pieces_bounds])), (a 33, .inl (V.2 0, 31, .inl x_pieces_stands)), (a 34, .inr (8, [.ref (a 35), .ref (a 36), .ref (a 37), .ref (a 38), .ref (a 39), .ref (a 40), .ref (a 41), .int x_ways_number, .int x_ways_unlikeNumber, .int x_ways_knownNumber, .int x_ways_areFound])), (b 0, .inl (V.2 0, n_b, .inl y)), (c 0, .inl (V.2 0, n_c, .inl z)), (d 0, .inl (V.2 0, n_d, .inl w))] 90 [(0, .ref (a 0)), (1, .ref (b 0)), (2, .ref (c 0)), (3, .ref (d 0)), (4, .int v4_163), (5, .int v5_160), (6, .int v6_164)] []
            refine ga_iload hR (pc := 90) 6 rfl dL_lays_90 ?_
            refine ga_if_eq hR (pc := 92) 104 (by decide) dL_lays_92 (fun c92 => ?_) (fun c92 => ?_)
            · replace h := h.1 c92
              refine ga_iload hR (pc := 104) 4 rfl dL_lays_104 ?_
              refine ga_istore hR (pc := 106) (lv' := [(4, .int v4_163), (0, .ref (a 0)), (1, .ref (b 0)), (2, .ref (c 0)), (3, .ref (d 0)), (5, .int v5_160), (6, .int v6_164)]) (by decide) rfl dL_lays_106 ?_
              obtain ⟨v5_168, ev5_168⟩ : ∃ v : Int32, v = v5_160 + (nI 1) := ⟨_, rfl⟩
              replace h := h v5_168 ev5_168
              refine ga_iinc hR (pc := 108) (lv' := [(5, .int v5_168), (4, .int v4_163), (0, .ref (a 0)), (1, .ref (b 0)), (2, .ref (c 0)), (3, .ref (d 0)), (6, .int v6_164)]) 5 (by decide) rfl ev5_168 (by decide) rfl dL_lays_108 ?_
              refine ga_goto hR (pc := 111) 9 (by decide) dL_lays_111 ?_
              exact ga_lv hR [2, 3, 4, 5, 1, 0] rfl (ih _ _ _ _ h)
            · replace h := h.2 c92
              refine ga_aload_n hR (pc := 95) 0 rfl rfl dL_lays_95 ?_
              refine ga_bipush hR (pc := 96) (v := nI 59) (by decide) dL_lays_96 ?_
              refine ga_callV hR (pc := 98) (As := [.int (nI 59)]) (rest := []) (st0 := [.int (nI 59), .ref (a 0)]) (b := (a 0)) 1 (c_X9_write V a x_keptNumber x_text_rulesSeen x_text_placesSeen x_text_length_165 x_text_signs_166 (nI 59) _ h) (ga_same_i fun _ => rfl) gL_lays_X9_write rfl rfl rfl hd_X9_write ⟨Nat.le_of_ble_eq_true rfl, Nat.le_of_ble_eq_true rfl⟩ rfl rfl (Nat.le_of_ble_eq_true rfl) ⟨Nat.le_of_ble_eq_true rfl, Nat.le_of_ble_eq_true rfl⟩ [0, 1, 2] rfl rfl 0 rfl rfl dL_lays_98 ?_
              rintro _ _ ⟨r_171, ⟨x_text_length_169, x_text_signs_170⟩, rfl, rfl, h⟩
              refine ga_to [(a 0, .inr (9, [.ref (a 1), .ref (a 3), .ref (a 13), .ref (a 17), .ref (a 21), .ref (a 25), .ref (a 29), .ref (a 32), .ref (a 34), .ref (a 46), .ref (a 50), .int x_keptNumber])), (a 1, .inr (7, [.ref (a 2), .int x_text_length_169, .int x_text_rulesSeen, .int x_text_placesSeen])), (a 2, .inl (V.2 0, 200, .inl x_text_signs_170)), (a 3, .inr (4, [.ref (a 4), .ref (a 5), .ref (a 6), .ref (a 7), .ref (a 8), .ref (a 9), .int x_rules_number, .int x_rules_placeNumber])), (a 4, .inl (V.2 0, 4, .inl x_rules_places)), (a 5, .inl (V.2 0, 4, .inl x_rules_firsts)), (a 6, .inl (V.2 0, 4, .inl x_rules_wholes)), (a 7, .inl (V.2 0, 10, .inl x_rules_taken)), (a 8, .inl (V.2 0, 10, .inl x_rules_behinds)), (a 9, .inr (2, [.ref (a 10), .ref (a 11), .ref (a 12), .int x_rules_parts_height])), (a 10, .inl (V.2 0, 16, .inl x_rules_parts_firsts)), (a 11, .inl (V.2 0, 16, .inl x_rules_parts_lasts)), (a 12, .inl (V.2 1, 16, .inl x_rules_parts_lacking)), (a 13, .inr (6, [.ref (a 14), .ref (a 15), .ref (a 16), .int x_now_length])), (a 14, .inl (V.2 0, 26, .inl x_now_classes)), (a 15, .inl (V.2 0, 4, .inl x_now_kinds)), (a 16, .inl (V.2 0, 30, .inl x_now_line)), (a 25, .inr (0, [.ref (a 26), .ref (a 27), .ref (a 28), .int x_acts_number])), (a 29, .inr (5, [.ref (a 30), .ref (a 31), .int x_steps_firsts, .int x_steps_loose])), (a 30, .inl (V.2 0, 10, .inl x_steps_onward)), (a 31, .inl (V.2 0, 6, .inl x_steps_takers)), (a 32, .inr (3, [.ref (a 33), .int x_pieces_length, .int x_pieces_bounds])), (a 33, .inl (V.2 0, 31, .inl x_pieces_stands)), (a 34, .inr (8, [.ref (a 35), .ref (a 36), .ref (a 37), .ref (a 38), .ref (a 39), .ref (a 40), .ref (a 41), .int x_ways_number, .int x_ways_unlikeNumber, .int x_ways_knownNumber, .int x_ways_areFound])), (b 0, .inl (V.2 0, n_b, .inl y)), (c 0, .inl (V.2 0, n_c, .inl z)), (d 0, .inl (V.2 0, n_d, .inl w))] [.int r_171] rfl rfl ?_
              try dsimp only at h
              refine ga_goto hR (pc := 101) 106 (by decide) dL_lays_101 ?_
              refine ga_istore hR (pc := 106) (lv' := [(4, .int r_171), (0, .ref (a 0)), (1, .ref (b 0)), (2, .ref (c 0)), (3, .ref (d 0)), (5, .int v5_160), (6, .int v6_164)]) (by decide) rfl dL_lays_106 ?_
              obtain ⟨v5_172, ev5_172⟩ : ∃ v : Int32, v = v5_160 + (nI 1) := ⟨_, rfl⟩
              replace h := h v5_172 ev5_172
              refine ga_iinc hR (pc := 108) (lv' := [(5, .int v5_172), (4, .int r_171), (0, .ref (a 0)), (1, .ref (b 0)), (2, .ref (c 0)), (3, .ref (d 0)), (6, .int v6_164)]) 5 (by decide) rfl ev5_172 (by decide) rfl dL_lays_108 ?_
              refine ga_goto hR (pc := 111) 9 (by decide) dL_lays_111 ?_
              exact ga_lv hR [2, 3, 4, 5, 1, 0] rfl (ih _ _ _ _ h)
          · intro h
            obtain ⟨n, h⟩ := h
            have L22 : ∀ (n : Nat) (v4_173 : Int32) (v6_174 : Int32) (v7_175 : Int32) (x_text_length_176 : Int32) (x_text_signs_177 : Nat → Int32), lp_L_lays_22 n_d w v5_160 (fun (v4_163 : Int32) (v6_164 : Int32) (x_text_length_165 : Int32) (x_text_signs_166 : Nat → Int32) => G 0 0 [(a 0, .inr (9, [.ref (a 1), .ref (a 3), .ref (a 13), .ref (a 17), .ref (a 21), .ref (a 25), .ref (a 29), .ref (a 32), .ref (a 34), .ref (a 46), .ref (a 50), .int x_keptNumber])), (a 1, .inr (7, [.ref (a 2), .int x_text_length_165, .int x_text_rulesSeen, .int x_text_placesSeen])), (a 2, .inl (V.2 0, 200, .inl x_text_signs_166)), (a 3, .inr (4, [.ref (a 4), .ref (a 5), .ref (a 6), .ref (a 7), .ref (a 8), .ref (a 9), .int x_rules_number, .int x_rules_placeNumber])), (a 4, .inl (V.2 0, 4, .inl x_rules_places)), (a 5, .inl (V.2 0, 4, .inl x_rules_firsts)), (a 6, .inl (V.2 0, 4, .inl x_rules_wholes)), (a 7, .inl (V.2 0, 10, .inl x_rules_taken)), (a 8, .inl (V.2 0, 10, .inl x_rules_behinds)), (a 9, .inr (2, [.ref (a 10), .ref (a 11), .ref (a 12), .int x_rules_parts_height])), (a 10, .inl (V.2 0, 16, .inl x_rules_parts_firsts)), (a 11, .inl (V.2 0, 16, .inl x_rules_parts_lasts)), (a 12, .inl (V.2 1, 16, .inl x_rules_parts_lacking)), (a 13, .inr (6, [.ref (a 14), .ref (a 15), .ref (a 16), .int x_now_length])), (a 14, .inl (V.2 0, 26, .inl x_now_classes)), (a 15, .inl (V.2 0, 4, .inl x_now_kinds)), (a 16, .inl (V.2 0, 30, .inl x_now_line)), (a 25, .inr (0, [.ref (a 26), .ref (a 27), .ref (a 28), .int x_acts_number])), (a 29, .inr (5, [.ref (a 30), .ref (a 31), .int x_steps_firsts, .int x_steps_loose])), (a 30, .inl (V.2 0, 10, .inl x_steps_onward)), (a 31, .inl (V.2 0, 6, .inl x_steps_takers)), (a 32, .inr (3, [.ref (a 33), .int x_pieces_length, .int x_pieces_bounds])), (a 33, .inl (V.2 0, 31, .inl x_pieces_stands)), (a 34, .inr (8, [.ref (a 35), .ref (a 36), .ref (a 37), .ref (a 38), .ref (a 39), .ref (a 40), .ref (a 41), .int x_ways_number, .int x_ways_unlikeNumber, .int x_ways_knownNumber, .int x_ways_areFound])), (b 0, .inl (V.2 0, n_b, .inl y)), (c 0, .inl (V.2 0, n_c, .inl z)), (d 0, .inl (V.2 0, n_d, .inl w))] 90 [(0, .ref (a 0)), (1, .ref (b 0)), (2, .ref (c 0)), (3, .ref (d 0)), (4, .int v4_163), (5, .int v5_160), (6, .int v6_164)] []) n v4_173 v6_174 v7_175 x_text_length_176 x_text_signs_177 → G 0 0 [(a 0, .inr (9, [.ref (a 1), .ref (a 3), .ref (a 13), .ref (a 17), .ref (a 21), .ref (a 25), .ref (a 29), .ref (a 32), .ref (a 34), .ref (a 46), .ref (a 50), .int x_keptNumber])), (a 1, .inr (7, [.ref (a 2), .int x_text_length_176, .int x_text_rulesSeen, .int x_text_placesSeen])), (a 2, .inl (V.2 0, 200, .inl x_text_signs_177)), (a 3, .inr (4, [.ref (a 4), .ref (a 5), .ref (a 6), .ref (a 7), .ref (a 8), .ref (a 9), .int x_rules_number, .int x_rules_placeNumber])), (a 4, .inl (V.2 0, 4, .inl x_rules_places)), (a 5, .inl (V.2 0, 4, .inl x_rules_firsts)), (a 6, .inl (V.2 0, 4, .inl x_rules_wholes)), (a 7, .inl (V.2 0, 10, .inl x_rules_taken)), (a 8, .inl (V.2 0, 10, .inl x_rules_behinds)), (a 9, .inr (2, [.ref (a 10), .ref (a 11), .ref (a 12), .int x_rules_parts_height])), (a 10, .inl (V.2 0, 16, .inl x_rules_parts_firsts)), (a 11, .inl (V.2 0, 16, .inl x_rules_parts_lasts)), (a 12, .inl (V.2 1, 16, .inl x_rules_parts_lacking)), (a 13, .inr (6, [.ref (a 14), .ref (a 15), .ref (a 16), .int x_now_length])), (a 14, .inl (V.2 0, 26, .inl x_now_classes)), (a 15, .inl (V.2 0, 4, .inl x_now_kinds)), (a 16, .inl (V.2 0, 30, .inl x_now_line)), (a 25, .inr (0, [.ref (a 26), .ref (a 27), .ref (a 28), .int x_acts_number])), (a 29, .inr (5, [.ref (a 30), .ref (a 31), .int x_steps_firsts, .int x_steps_loose])), (a 30, .inl (V.2 0, 10, .inl x_steps_onward)), (a 31, .inl (V.2 0, 6, .inl x_steps_takers)), (a 32, .inr (3, [.ref (a 33), .int x_pieces_length, .int x_pieces_bounds])), (a 33, .inl (V.2 0, 31, .inl x_pieces_stands)), (a 34, .inr (8, [.ref (a 35), .ref (a 36), .ref (a 37), .ref (a 38), .ref (a 39), .ref (a 40), .ref (a 41), .int x_ways_number, .int x_ways_unlikeNumber, .int x_ways_knownNumber, .int x_ways_areFound])), (b 0, .inl (V.2 0, n_b, .inl y)), (c 0, .inl (V.2 0, n_c, .inl z)), (d 0, .inl (V.2 0, n_d, .inl w))] 22 [(0, .ref (a 0)), (1, .ref (b 0)), (2, .ref (c 0)), (3, .ref (d 0)), (4, .int v4_173), (5, .int v5_160), (6, .int v6_174), (7, .int v7_175)] [] := by
              intro n
              induction n with
              | zero => exact fun _ _ _ _ _ h => False.elim h
              | succ n ih =>
                intro v4_173 v6_174 v7_175 x_text_length_176 x_text_signs_177 h
                rw [lp_L_lays_22] at h
                refine ga_iload hR (pc := 22) 7 rfl dL_lays_22 ?_
                refine ga_bipush hR (pc := 24) (v := nI 26) (by decide) dL_lays_24 ?_
                refine ga_icmp_ge hR (pc := 26) 90 (by decide) dL_lays_26 (fun c26 => ?_) (fun c26 => ?_)
                · replace h := h.1 c26
                  exact ga_lv hR [0, 1, 2, 3, 4, 5, 6] rfl h
                · replace h := h.2 c26
                  refine ga_aload_n hR (pc := 29) 3 rfl rfl dL_lays_29 ?_
                  refine ga_iload hR (pc := 30) 7 rfl dL_lays_30 ?_
                  refine ga_iald hR (pc := 32) 26 rfl h.1 dL_lays_32 ?_
                  replace h := h.2
                  refine ga_iload hR (pc := 33) 5 rfl dL_lays_33 ?_
                  refine ga_icmp_ne hR (pc := 35) 84 (by decide) dL_lays_35 (fun c35 => ?_) (fun c35 => ?_)
                  · replace h := h.1 c35
                    obtain ⟨v7_178, ev7_178⟩ : ∃ v : Int32, v = v7_175 + (nI 1) := ⟨_, rfl⟩
                    replace h := h v7_178 ev7_178
                    refine ga_iinc hR (pc := 84) (lv' := [(7, .int v7_178), (0, .ref (a 0)), (1, .ref (b 0)), (2, .ref (c 0)), (3, .ref (d 0)), (4, .int v4_173), (5, .int v5_160), (6, .int v6_174)]) 7 (by decide) rfl ev7_178 (by decide) rfl dL_lays_84 ?_
                    refine ga_goto hR (pc := 87) 22 (by decide) dL_lays_87 ?_
                    exact ga_lv hR [1, 2, 3, 4, 5, 6, 7, 0] rfl (ih _ _ _ _ _ h)
                  · replace h := h.2 c35
                    refine ga_iload hR (pc := 38) 6 rfl dL_lays_38 ?_
                    have hJ := h (fun (x_text_length_179 : Int32) (x_text_signs_180 : Nat → Int32) => G 0 0 [(a 0, .inr (9, [.ref (a 1), .ref (a 3), .ref (a 13), .ref (a 17), .ref (a 21), .ref (a 25), .ref (a 29), .ref (a 32), .ref (a 34), .ref (a 46), .ref (a 50), .int x_keptNumber])), (a 1, .inr (7, [.ref (a 2), .int x_text_length_179, .int x_text_rulesSeen, .int x_text_placesSeen])), (a 2, .inl (V.2 0, 200, .inl x_text_signs_180)), (a 3, .inr (4, [.ref (a 4), .ref (a 5), .ref (a 6), .ref (a 7), .ref (a 8), .ref (a 9), .int x_rules_number, .int x_rules_placeNumber])), (a 4, .inl (V.2 0, 4, .inl x_rules_places)), (a 5, .inl (V.2 0, 4, .inl x_rules_firsts)), (a 6, .inl (V.2 0, 4, .inl x_rules_wholes)), (a 7, .inl (V.2 0, 10, .inl x_rules_taken)), (a 8, .inl (V.2 0, 10, .inl x_rules_behinds)), (a 9, .inr (2, [.ref (a 10), .ref (a 11), .ref (a 12), .int x_rules_parts_height])), (a 10, .inl (V.2 0, 16, .inl x_rules_parts_firsts)), (a 11, .inl (V.2 0, 16, .inl x_rules_parts_lasts)), (a 12, .inl (V.2 1, 16, .inl x_rules_parts_lacking)), (a 13, .inr (6, [.ref (a 14), .ref (a 15), .ref (a 16), .int x_now_length])), (a 14, .inl (V.2 0, 26, .inl x_now_classes)), (a 15, .inl (V.2 0, 4, .inl x_now_kinds)), (a 16, .inl (V.2 0, 30, .inl x_now_line)), (a 25, .inr (0, [.ref (a 26), .ref (a 27), .ref (a 28), .int x_acts_number])), (a 29, .inr (5, [.ref (a 30), .ref (a 31), .int x_steps_firsts, .int x_steps_loose])), (a 30, .inl (V.2 0, 10, .inl x_steps_onward)), (a 31, .inl (V.2 0, 6, .inl x_steps_takers)), (a 32, .inr (3, [.ref (a 33), .int x_pieces_length, .int x_pieces_bounds])), (a 33, .inl (V.2 0, 31, .inl x_pieces_stands)), (a 34, .inr (8, [.ref (a 35), .ref (a 36), .ref (a 37), .ref (a 38), .ref (a 39), .ref (a 40), .ref (a 41), .int x_ways_number, .int x_ways_unlikeNumber, .int x_ways_knownNumber, .int x_ways_areFound])), (b 0, .inl (V.2 0, n_b, .inl y)), (c 0, .inl (V.2 0, n_c, .inl z)), (d 0, .inl (V.2 0, n_d, .inl w))] 70 [(0, .ref (a 0)), (1, .ref (b 0)), (2, .ref (c 0)), (3, .ref (d 0)), (5, .int v5_160), (7, .int v7_175)] [])
                    refine ga_bind hJ ?_ ?_
                    · intro x_text_length_179 x_text_signs_180 h
                      show G 0 0 [(a 0, .inr (9, [.ref (a 1), .ref (a 3), .ref (a 13), .ref (a 17), .ref (a 21), .ref (a 25), .ref (a 29), .ref (a 32), .ref (a 34), .ref (a 46), .ref (a 50), .int x_keptNumber])), (a 1, .inr (7, [.ref (a 2), .int x_text_length_179, .int x_text_rulesSeen, .int x_text_placesSeen])), (a 2, .inl (V.2 0, 200, .inl x_text_signs_180)), (a 3, .inr (4, [.ref (a 4), .ref (a 5), .ref (a 6), .ref (a 7), .ref (a 8), .ref (a 9), .int x_rules_number, .int x_rules_placeNumber])), (a 4, .inl (V.2 0, 4, .inl x_rules_places)), (a 5, .inl (V.2 0, 4, .inl x_rules_firsts)), (a 6, .inl (V.2 0, 4, .inl x_rules_wholes)), (a 7, .inl (V.2 0, 10, .inl x_rules_taken)), (a 8, .inl (V.2 0, 10, .inl x_rules_behinds)), (a 9, .inr (2, [.ref (a 10), .ref (a 11), .ref (a 12), .int x_rules_parts_height])), (a 10, .inl (V.2 0, 16, .inl x_rules_parts_firsts)), (a 11, .inl (V.2 0, 16, .inl x_rules_parts_lasts)), (a 12, .inl (V.2 1, 16, .inl x_rules_parts_lacking)), (a 13, .inr (6, [.ref (a 14), .ref (a 15), .ref (a 16), .int x_now_length])), (a 14, .inl (V.2 0, 26, .inl x_now_classes)), (a 15, .inl (V.2 0, 4, .inl x_now_kinds)), (a 16, .inl (V.2 0, 30, .inl x_now_line)), (a 25, .inr (0, [.ref (a 26), .ref (a 27), .ref (a 28), .int x_acts_number])), (a 29, .inr (5, [.ref (a 30), .ref (a 31), .int x_steps_firsts, .int x_steps_loose])), (a 30, .inl (V.2 0, 10, .inl x_steps_onward)), (a 31, .inl (V.2 0, 6, .inl x_steps_takers)), (a 32, .inr (3, [.ref (a 33), .int x_pieces_length, .int x_pieces_bounds])), (a 33, .inl (V.2 0, 31, .inl x_pieces_stands)), (a 34, .inr (8, [.ref (a 35), .ref (a 36), .ref (a 37), .ref (a 38), .ref (a 39), .ref (a 40), .ref (a 41), .int x_ways_number, .int x_ways_unlikeNumber, .int x_ways_knownNumber, .int x_ways_areFound])), (b 0, .inl (V.2 0, n_b, .inl y)), (c 0, .inl (V.2 0, n_c, .inl z)), (d 0, .inl (V.2 0, n_d, .inl w))] 70 [(0, .ref (a 0)), (1, .ref (b 0)), (2, .ref (c 0)), (3, .ref (d 0)), (5, .int v5_160), (7, .int v7_175)] []
                      refine ga_iconst hR (pc := 70) (v := nI 1) (by decide) dL_lays_70 ?_
                      refine ga_istore hR (pc := 71) (lv' := [(6, .int (nI 1)), (0, .ref (a 0)), (1, .ref (b 0)), (2, .ref (c 0)), (3, .ref (d 0)), (5, .int v5_160), (7, .int v7_175)]) (by decide) rfl dL_lays_71 ?_
                      refine ga_aload_n hR (pc := 73) 1 rfl rfl dL_lays_73 ?_
                      refine ga_bipush hR (pc := 74) (v := nI 97) (by decide) dL_lays_74 ?_
                      refine ga_iload hR (pc := 76) 6 rfl dL_lays_76 ?_
                      refine ga_iadd hR (pc := 78) dL_lays_78 ?_
                      refine ga_callV hR (pc := 79) (As := [.int ((nI 97) + v7_175)]) (rest := []) (st0 := [.int ((nI 97) + v7_175), .ref (a 0)]) (b := (a 0)) 1 (c_X9_write V a x_keptNumber x_text_rulesSeen x_text_placesSeen x_text_length_179 x_text_signs_180 ((nI 97) + v7_175) _ h) (ga_same_i fun _ => rfl) gL_lays_X9_write rfl rfl rfl hd_X9_write ⟨Nat.le_of_ble_eq_true rfl, Nat.le_of_ble_eq_true rfl⟩ rfl rfl (Nat.le_of_ble_eq_true rfl) ⟨Nat.le_of_ble_eq_true rfl, Nat.le_of_ble_eq_true rfl⟩ [0, 1, 2] rfl rfl 0 rfl rfl dL_lays_79 ?_
                      rintro _ _ ⟨r_184, ⟨x_text_length_182, x_text_signs_183⟩, rfl, rfl, h⟩
                      refine ga_to [(a 0, .inr (9, [.ref (a 1), .ref (a 3), .ref (a 13), .ref (a 17), .ref (a 21), .ref (a 25), .ref (a 29), .ref (a 32), .ref (a 34), .ref (a 46), .ref (a 50), .int x_keptNumber])), (a 1, .inr (7, [.ref (a 2), .int x_text_length_182, .int x_text_rulesSeen, .int x_text_placesSeen])), (a 2, .inl (V.2 0, 200, .inl x_text_signs_183)), (a 3, .inr (4, [.ref (a 4), .ref (a 5), .ref (a 6), .ref (a 7), .ref (a 8), .ref (a 9), .int x_rules_number, .int x_rules_placeNumber])), (a 4, .inl (V.2 0, 4, .inl x_rules_places)), (a 5, .inl (V.2 0, 4, .inl x_rules_firsts)), (a 6, .inl (V.2 0, 4, .inl x_rules_wholes)), (a 7, .inl (V.2 0, 10, .inl x_rules_taken)), (a 8, .inl (V.2 0, 10, .inl x_rules_behinds)), (a 9, .inr (2, [.ref (a 10), .ref (a 11), .ref (a 12), .int x_rules_parts_height])), (a 10, .inl (V.2 0, 16, .inl x_rules_parts_firsts)), (a 11, .inl (V.2 0, 16, .inl x_rules_parts_lasts)), (a 12, .inl (V.2 1, 16, .inl x_rules_parts_lacking)), (a 13, .inr (6, [.ref (a 14), .ref (a 15), .ref (a 16), .int x_now_length])), (a 14, .inl (V.2 0, 26, .inl x_now_classes)), (a 15, .inl (V.2 0, 4, .inl x_now_kinds)), (a 16, .inl (V.2 0, 30, .inl x_now_line)), (a 25, .inr (0, [.ref (a 26), .ref (a 27), .ref (a 28), .int x_acts_number])), (a 29, .inr (5, [.ref (a 30), .ref (a 31), .int x_steps_firsts, .int x_steps_loose])), (a 30, .inl (V.2 0, 10, .inl x_steps_onward)), (a 31, .inl (V.2 0, 6, .inl x_steps_takers)), (a 32, .inr (3, [.ref (a 33), .int x_pieces_length, .int x_pieces_bounds])), (a 33, .inl (V.2 0, 31, .inl x_pieces_stands)), (a 34, .inr (8, [.ref (a 35), .ref (a 36), .ref (a 37), .ref (a 38), .ref (a 39), .ref (a 40), .ref (a 41), .int x_ways_number, .int x_ways_unlikeNumber, .int x_ways_knownNumber, .int x_ways_areFound])), (b 0, .inl (V.2 0, n_b, .inl y)), (c 0, .inl (V.2 0, n_c, .inl z)), (d 0, .inl (V.2 0, n_d, .inl w))] [.int r_184] rfl rfl ?_
                      try dsimp only at h
                      refine ga_istore hR (pc := 82) (lv' := [(4, .int r_184), (6, .int (nI 1)), (0, .ref (a 0)), (1, .ref (b 0)), (2, .ref (c 0)), (3, .ref (d 0)), (5, .int v5_160), (7, .int v7_175)]) (by decide) rfl dL_lays_82 ?_
                      obtain ⟨v7_185, ev7_185⟩ : ∃ v : Int32, v = v7_175 + (nI 1) := ⟨_, rfl⟩
                      replace h := h v7_185 ev7_185
                      refine ga_iinc hR (pc := 84) (lv' := [(7, .int v7_185), (4, .int r_184), (6, .int (nI 1)), (0, .ref (a 0)), (1, .ref (b 0)), (2, .ref (c 0)), (3, .ref (d 0)), (5, .int v5_160)]) 7 (by decide) rfl ev7_185 (by decide) rfl dL_lays_84 ?_
                      refine ga_goto hR (pc := 87) 22 (by decide) dL_lays_87 ?_
                      exact ga_lv hR [3, 4, 5, 6, 1, 7, 2, 0] rfl (ih _ _ _ _ _ h)
                    · intro h
                      refine ga_if_ne hR (pc := 40) 70 (by decide) dL_lays_40 (fun c40 => ?_) (fun c40 => ?_)
                      · replace h := h.1 c40
                        exact ga_lv hR [0, 1, 2, 3, 5, 7] rfl h
                      · replace h := h.2 c40
                        refine ga_aload_n hR (pc := 43) 0 rfl rfl dL_lays_43 ?_
                        refine ga_bipush hR (pc := 44) (v := nI 99) (by decide) dL_lays_44 ?_
                        refine ga_callV hR (pc := 46) (As := [.int (nI 99)]) (rest := []) (st0 := [.int (nI 99), .ref (a 0)]) (b := (a 0)) 1 (c_X9_write V a x_keptNumber x_text_rulesSeen x_text_placesSeen x_text_length_176 x_text_signs_177 (nI 99) _ h) (ga_same_i fun _ => rfl) gL_lays_X9_write rfl rfl rfl hd_X9_write ⟨Nat.le_of_ble_eq_true rfl, Nat.le_of_ble_eq_true rfl⟩ rfl rfl (Nat.le_of_ble_eq_true rfl) ⟨Nat.le_of_ble_eq_true rfl, Nat.le_of_ble_eq_true rfl⟩ [0, 1, 2] rfl rfl 0 rfl rfl dL_lays_46 ?_
                        rintro _ _ ⟨r_188, ⟨x_text_length_186, x_text_signs_187⟩, rfl, rfl, h⟩
                        refine ga_to [(a 0, .inr (9, [.ref (a 1), .ref (a 3), .ref (a 13), .ref (a 17), .ref (a 21), .ref (a 25), .ref (a 29), .ref (a 32), .ref (a 34), .ref (a 46), .ref (a 50), .int x_keptNumber])), (a 1, .inr (7, [.ref (a 2), .int x_text_length_186, .int x_text_rulesSeen, .int x_text_placesSeen])), (a 2, .inl (V.2 0, 200, .inl x_text_signs_187)), (a 3, .inr (4, [.ref (a 4), .ref (a 5), .ref (a 6), .ref (a 7), .ref (a 8), .ref (a 9), .int x_rules_number, .int x_rules_placeNumber])), (a 4, .inl (V.2 0, 4, .inl x_rules_places)), (a 5, .inl (V.2 0, 4, .inl x_rules_firsts)), (a 6, .inl (V.2 0, 4, .inl x_rules_wholes)), (a 7, .inl (V.2 0, 10, .inl x_rules_taken)), (a 8, .inl (V.2 0, 10, .inl x_rules_behinds)), (a 9, .inr (2, [.ref (a 10), .ref (a 11), .ref (a 12), .int x_rules_parts_height])), (a 10, .inl (V.2 0, 16, .inl x_rules_parts_firsts)), (a 11, .inl (V.2 0, 16, .inl x_rules_parts_lasts)), (a 12, .inl (V.2 1, 16, .inl x_rules_parts_lacking)), (a 13, .inr (6, [.ref (a 14), .ref (a 15), .ref (a 16), .int x_now_length])), (a 14, .inl (V.2 0, 26, .inl x_now_classes)), (a 15, .inl (V.2 0, 4, .inl x_now_kinds)), (a 16, .inl (V.2 0, 30, .inl x_now_line)), (a 25, .inr (0, [.ref (a 26), .ref (a 27), .ref (a 28), .int x_acts_number])), (a 29, .inr (5, [.ref (a 30), .ref (a 31), .int x_steps_firsts, .int x_steps_loose])), (a 30, .inl (V.2 0, 10, .inl x_steps_onward)), (a 31, .inl (V.2 0, 6, .inl x_steps_takers)), (a 32, .inr (3, [.ref (a 33), .int x_pieces_length, .int x_pieces_bounds])), (a 33, .inl (V.2 0, 31, .inl x_pieces_stands)), (a 34, .inr (8, [.ref (a 35), .ref (a 36), .ref (a 37), .ref (a 38), .ref (a 39), .ref (a 40), .ref (a 41), .int x_ways_number, .int x_ways_unlikeNumber, .int x_ways_knownNumber, .int x_ways_areFound])), (b 0, .inl (V.2 0, n_b, .inl y)), (c 0, .inl (V.2 0, n_c, .inl z)), (d 0, .inl (V.2 0, n_d, .inl w))] [.int r_188] rfl rfl ?_
                        try dsimp only at h
                        refine ga_istore hR (pc := 49) (lv' := [(4, .int r_188), (0, .ref (a 0)), (1, .ref (b 0)), (2, .ref (c 0)), (3, .ref (d 0)), (5, .int v5_160), (6, .int v6_174), (7, .int v7_175)]) (by decide) rfl dL_lays_49 ?_
                        refine ga_aload_n hR (pc := 51) 1 rfl rfl dL_lays_51 ?_
                        refine ga_bipush hR (pc := 52) (v := nI 48) (by decide) dL_lays_52 ?_
                        refine ga_iload hR (pc := 54) 5 rfl dL_lays_54 ?_
                        refine ga_iadd hR (pc := 56) dL_lays_56 ?_
                        refine ga_callV hR (pc := 57) (As := [.int ((nI 48) + v5_160)]) (rest := []) (st0 := [.int ((nI 48) + v5_160), .ref (a 0)]) (b := (a 0)) 1 (c_X9_write V a x_keptNumber x_text_rulesSeen x_text_placesSeen x_text_length_186 x_text_signs_187 ((nI 48) + v5_160) _ h) (ga_same_i fun _ => rfl) gL_lays_X9_write rfl rfl rfl hd_X9_write ⟨Nat.le_of_ble_eq_true rfl, Nat.le_of_ble_eq_true rfl⟩ rfl rfl (Nat.le_of_ble_eq_true rfl) ⟨Nat.le_of_ble_eq_true rfl, Nat.le_of_ble_eq_true rfl⟩ [0, 1, 2] rfl rfl 0 rfl rfl dL_lays_57 ?_
                        rintro _ _ ⟨r_191, ⟨x_text_length_189, x_text_signs_190⟩, rfl, rfl, h⟩
                        refine ga_to [(a 0, .inr (9, [.ref (a 1), .ref (a 3), .ref (a 13), .ref (a 17), .ref (a 21), .ref (a 25), .ref (a 29), .ref (a 32), .ref (a 34), .ref (a 46), .ref (a 50), .int x_keptNumber])), (a 1, .inr (7, [.ref (a 2), .int x_text_length_189, .int x_text_rulesSeen, .int x_text_placesSeen])), (a 2, .inl (V.2 0, 200, .inl x_text_signs_190)), (a 3, .inr (4, [.ref (a 4), .ref (a 5), .ref (a 6), .ref (a 7), .ref (a 8), .ref (a 9), .int x_rules_number, .int x_rules_placeNumber])), (a 4, .inl (V.2 0, 4, .inl x_rules_places)), (a 5, .inl (V.2 0, 4, .inl x_rules_firsts)), (a 6, .inl (V.2 0, 4, .inl x_rules_wholes)), (a 7, .inl (V.2 0, 10, .inl x_rules_taken)), (a 8, .inl (V.2 0, 10, .inl x_rules_behinds)), (a 9, .inr (2, [.ref (a 10), .ref (a 11), .ref (a 12), .int x_rules_parts_height])), (a 10, .inl (V.2 0, 16, .inl x_rules_parts_firsts)), (a 11, .inl (V.2 0, 16, .inl x_rules_parts_lasts)), (a 12, .inl (V.2 1, 16, .inl x_rules_parts_lacking)), (a 13, .inr (6, [.ref (a 14), .ref (a 15), .ref (a 16), .int x_now_length])), (a 14, .inl (V.2 0, 26, .inl x_now_classes)), (a 15, .inl (V.2 0, 4, .inl x_now_kinds)), (a 16, .inl (V.2 0, 30, .inl x_now_line)), (a 25, .inr (0, [.ref (a 26), .ref (a 27), .ref (a 28), .int x_acts_number])), (a 29, .inr (5, [.ref (a 30), .ref (a 31), .int x_steps_firsts, .int x_steps_loose])), (a 30, .inl (V.2 0, 10, .inl x_steps_onward)), (a 31, .inl (V.2 0, 6, .inl x_steps_takers)), (a 32, .inr (3, [.ref (a 33), .int x_pieces_length, .int x_pieces_bounds])), (a 33, .inl (V.2 0, 31, .inl x_pieces_stands)), (a 34, .inr (8, [.ref (a 35), .ref (a 36), .ref (a 37), .ref (a 38), .ref (a 39), .ref (a 40), .ref (a 41), .int x_ways_number, .int x_ways_unlikeNumber, .int x_ways_knownNumber, .int x_ways_areFound])), (b 0, .inl (V.2 0, n_b, .inl y)), (c 0, .inl (V.2 0, n_c, .inl z)), (d 0, .inl (V.2 0, n_d, .inl w))] [.int r_191] rfl rfl ?_
                        try dsimp only at h
                        refine ga_istore hR (pc := 60) (lv' := [(4, .int r_191), (0, .ref (a 0)), (1, .ref (b 0)), (2, .ref (c 0)), (3, .ref (d 0)), (5, .int v5_160), (6, .int v6_174), (7, .int v7_175)]) (by decide) rfl dL_lays_60 ?_
                        refine ga_aload_n hR (pc := 62) 1 rfl rfl dL_lays_62 ?_
                        refine ga_bipush hR (pc := 63) (v := nI 44) (by decide) dL_lays_63 ?_
                        refine ga_callV hR (pc := 65) (As := [.int (nI 44)]) (rest := []) (st0 := [.int (nI 44), .ref (a 0)]) (b := (a 0)) 1 (c_X9_write V a x_keptNumber x_text_rulesSeen x_text_placesSeen x_text_length_189 x_text_signs_190 (nI 44) _ h) (ga_same_i fun _ => rfl) gL_lays_X9_write rfl rfl rfl hd_X9_write ⟨Nat.le_of_ble_eq_true rfl, Nat.le_of_ble_eq_true rfl⟩ rfl rfl (Nat.le_of_ble_eq_true rfl) ⟨Nat.le_of_ble_eq_true rfl, Nat.le_of_ble_eq_true rfl⟩ [0, 1, 2] rfl rfl 0 rfl rfl dL_lays_65 ?_
                        rintro _ _ ⟨r_194, ⟨x_text_length_192, x_text_signs_193⟩, rfl, rfl, h⟩
                        refine ga_to [(a 0, .inr (9, [.ref (a 1), .ref (a 3), .ref (a 13), .ref (a 17), .ref (a 21), .ref (a 25), .ref (a 29), .ref (a 32), .ref (a 34), .ref (a 46), .ref (a 50), .int x_keptNumber])), (a 1, .inr (7, [.ref (a 2), .int x_text_length_192, .int x_text_rulesSeen, .int x_text_placesSeen])), (a 2, .inl (V.2 0, 200, .inl x_text_signs_193)), (a 3, .inr (4, [.ref (a 4), .ref (a 5), .ref (a 6), .ref (a 7), .ref (a 8), .ref (a 9), .int x_rules_number, .int x_rules_placeNumber])), (a 4, .inl (V.2 0, 4, .inl x_rules_places)), (a 5, .inl (V.2 0, 4, .inl x_rules_firsts)), (a 6, .inl (V.2 0, 4, .inl x_rules_wholes)), (a 7, .inl (V.2 0, 10, .inl x_rules_taken)), (a 8, .inl (V.2 0, 10, .inl x_rules_behinds)), (a 9, .inr (2, [.ref (a 10), .ref (a 11), .ref (a 12), .int x_rules_parts_height])), (a 10, .inl (V.2 0, 16, .inl x_rules_parts_firsts)), (a 11, .inl (V.2 0, 16, .inl x_rules_parts_lasts)), (a 12, .inl (V.2 1, 16, .inl x_rules_parts_lacking)), (a 13, .inr (6, [.ref (a 14), .ref (a 15), .ref (a 16), .int x_now_length])), (a 14, .inl (V.2 0, 26, .inl x_now_classes)), (a 15, .inl (V.2 0, 4, .inl x_now_kinds)), (a 16, .inl (V.2 0, 30, .inl x_now_line)), (a 25, .inr (0, [.ref (a 26), .ref (a 27), .ref (a 28), .int x_acts_number])), (a 29, .inr (5, [.ref (a 30), .ref (a 31), .int x_steps_firsts, .int x_steps_loose])), (a 30, .inl (V.2 0, 10, .inl x_steps_onward)), (a 31, .inl (V.2 0, 6, .inl x_steps_takers)), (a 32, .inr (3, [.ref (a 33), .int x_pieces_length, .int x_pieces_bounds])), (a 33, .inl (V.2 0, 31, .inl x_pieces_stands)), (a 34, .inr (8, [.ref (a 35), .ref (a 36), .ref (a 37), .ref (a 38), .ref (a 39), .ref (a 40), .ref (a 41), .int x_ways_number, .int x_ways_unlikeNumber, .int x_ways_knownNumber, .int x_ways_areFound])), (b 0, .inl (V.2 0, n_b, .inl y)), (c 0, .inl (V.2 0, n_c, .inl z)), (d 0, .inl (V.2 0, n_d, .inl w))] [.int r_194] rfl rfl ?_
                        try dsimp only at h
                        refine ga_istore hR (pc := 68) (lv' := [(4, .int r_194), (0, .ref (a 0)), (1, .ref (b 0)), (2, .ref (c 0)), (3, .ref (d 0)), (5, .int v5_160), (6, .int v6_174), (7, .int v7_175)]) (by decide) rfl dL_lays_68 ?_
                        exact ga_lv hR [1, 2, 3, 4, 5, 7] rfl h
            exact ga_lv hR [2, 3, 4, 5, 6, 7, 1, 0] rfl (L22 n _ _ _ _ _ h)
    exact ga_lv hR [2, 3, 4, 5, 1, 0] rfl (L9 n _ _ _ _ h)
