/-! the class's String constant, and who reads it -/
def gx_tx : String := "c1,aeiou;c2,bcdfg;c3,xyz;c5,q;r0,&+2?1;r1,&1*|12;r2,&3&.3;r0,+3;sbaqbxyzaqqebcxqzz;"
def gx_X (kS vS : Nat) (A : Nat → Prop) (U : State) (H : Heap) : Prop :=
  vk_S 1 [83] [gx_by] (fun _ => kS) (fun _ => vS) A U H ∧ va_Z "java/lang/String" "COMPACT_STRINGS" "Z" (.int 1) A U H ∧ va_Zq "jdk/internal/util/Preconditions" "SIOOBE_FORMATTER" "Ljava/util/function/BiFunction;" A U H ∧ vk_R "BoundaryRules" 70 gx_tx kS U
theorem gx_X.call {kS vS : Nat} {A : Nat → Prop} {U : State} {g : JFrame} {mk : MethodId} {a : Array Value} (h : gx_X kS vS A U U.heap) : gx_X kS vS A (U.calling g mk a) (U.calling g mk a).heap :=
  ⟨h.1.moved (U := U.calling g mk a) (Vm.Alike.refl U.vm), h.2.1.moved (U := U.calling g mk a) (Vm.Alike.refl U.vm), h.2.2.1.moved (U := U.calling g mk a) (Vm.Alike.refl U.vm), vk_R.same (u := U) (U := U.calling g mk a) rfl h.2.2.2⟩
theorem gx_X.push {kS vS : Nat} {A B : Nat → Prop} {s U : State} {H : Heap} {locs : List Loc} (h : gx_X kS vS A s s.heap) (hS : va_S A s.heap H locs) (hB : ∀ q, B q → A q) (hU : U.heap = H) (hW : s.WarmedH U.vm) : gx_X kS vS B U U.heap := by
  subst hU
  exact ⟨((h.1.kept hS.2.1).narrow hB).moved hW.alike, ((h.2.1.kept hS.2.1).narrow hB).moved hW.alike, ((h.2.2.1.kept hS.2.1).narrow hB).moved hW.alike, h.2.2.2.warm hW⟩
def gx_C (V : ga_V) (kS vS : Nat) (y : MethodName) (wsY : List Cond) (rm : Room) (av : List Value) (w0 : va_W) (mc ms : Nat) (F : ga_F) : Prop :=
  ∀ (l : Launch) (sz : Nat), Met l y wsY rm (va_Pc av (fun U => U.heap.size = sz ∧ va_P V.1 vwCl w0 U.heap ∧ va_K V.1 vwCl (ga_ty V) U ∧ ga_N U ∧ va_D (fun _ => True) w0 ∧ gx_X kS vS (va_A w0 sz) U U.heap))
    (fun _ st oc t => (∃ (v : Option Value) (w : va_W), oc = .returned v ∧ F v w ∧ va_P V.1 vwCl w t.heap ∧ va_D (va_A w0 sz) w) ∧ va_F (va_A w0 sz) st t) mc ms (va_A w0 sz)
def gx_R (V : ga_V) (kS vS : Nat) (cc : ByteArray) (own nm : String) (Ts : List Cond) (nL : Nat) (R : Room) (G : ga_G) : Prop :=
  ∃ (p : Program) (l : Launch) (e : Env) (s : State) (m : MethodId) (args : Array Value) (below : List Frame) (meth : Method) (c : Code) (A : Nat → Prop) (Q : State → Prop),
    G = ga_At V p l e R s m args below meth c A s.heap nL Q ∧ p.tables.exec = Jvm.exec ∧ c.code = cc ∧ c.maxLocals = nL ∧ s.vm.findClass own = some m.cls ∧ meth.name = nm ∧ (∀ w ∈ Ts, w.before args s = true) ∧ va_K V.1 vwCl (ga_ty V) s ∧ ga_N s ∧ (∀ q, s.heap.size ≤ q → A q) ∧ gx_X kS vS A s s.heap
theorem gx_R.r {V : ga_V} {kS vS : Nat} {cc : ByteArray} {own nm : String} {Ts : List Cond} {nL : Nat} {R : Room} {G : ga_G} (h : gx_R V kS vS cc own nm Ts nL R G) : ga_R V cc own nm Ts nL R G := by
  obtain ⟨p, l, e, s, m, args, below, meth, c, A, Q, h1, h2, h3, h4, h5, h6, h7, h8, h9, h10, -⟩ := h
  exact ⟨p, l, e, s, m, args, below, meth, c, A, s.heap, Q, h1, h2, h3, h4, h5, h6, h7, h8, h9, h10⟩
theorem gx_met {V : ga_V} {kS vS : Nat} {y : MethodName} {wsY wsY' : List Cond} {rm : Room} {av : List Value} {w0 : va_W} {mc ms : Nat} {F : ga_F} {cc : ByteArray} {maxL : Nat} {rt : Option FieldType} (hy : plainName y.cls = true) (hw : wsY = Cond.code y cc maxL rt :: wsY') (lv0 : ga_L) (hlv : lv_args 0 av = lv0) (hlen : (lg_sl av).length ≤ maxL)
    (body : ∀ G : ga_G, gx_R V kS vS cc y.cls y.name wsY maxL rm G → ga_E cc rt mc ms F G → G 0 0 w0 0 lv0 []) : gx_C V kS vS y wsY rm av w0 mc ms F := by
  intro l sz
  refine Met.ofW (cc := cc) (maxL := maxL) (ret := rt) hy hw ?_
  intro p e s m args below meth c s₁ B hml hv
  obtain ⟨rfl, hsz, hP, hK, hN, hD0, hX⟩ := hv
  have hx := B.exec
  have hb := B.bytes
  have hr := B.returns
  have hts := atoms_spec (ws := wsY) B.pre
  have hown : s.vm.findClass y.cls = some m.cls := findClass_of_methodNamed B.named
  have hlocks := B.notSynchronized
  have hin : meth.name = y.name := (name_of_methodNamed B.named B.method).1
  subst hsz
  have hD := hD0.self (sz := s.heap.size)
  have hl := lv_entry av hlen
  rw [lg_entry_eq]
  rw [hlv] at hl
  refine body (ga_At V p l e rm s m av.toArray below meth c (va_A w0 s.heap.size) s.heap maxL (MQ below _ av.toArray s mc ms (va_A w0 s.heap.size))) ⟨p, l, e, s, m, av.toArray, below, meth, c, va_A w0 s.heap.size, _, rfl, hx, hb, hml, hown, hin, hts, hK, hN, fun q h => Or.inr h, hX⟩ ⟨?_, ?_, ?_⟩ s.heap [] _ hP hD va_S.rf hl
  · intro pc ws lv v ty hty hd hn h H locs ls hP hD hS hl
    subst hty
    exact W.zret hx hb hr hn (fun t ht hW => ⟨⟨some (.int v), ws, rfl, h, by rw [ht]; exact hP, hD⟩, hS.F ht⟩) hS.2.2 hd hlocks
  · intro pc ws lv hty hd h H locs ls hP hD hS hl
    subst hty
    exact W.vret hx hb hr (fun t ht hW => ⟨⟨none, ws, rfl, h, by rw [ht]; exact hP, hD⟩, hS.F ht⟩) hS.2.2 hd hlocks
  · intro pc ws lv a C hty hd h H locs ls hP hD hS hl
    subst hty
    exact W.aret hx hb hr (Or.inl ⟨C, rfl⟩) (Or.inr ⟨a, rfl⟩) (fun t ht hW => ⟨⟨some (.ref a), ws, rfl, h, by rw [ht]; exact hP, hD⟩, hS.F ht⟩) hS.2.2 hd hlocks
section GX
variable {V : ga_V} {kS vS : Nat} {cc : ByteArray} {own nm : String} {Ts : List Cond} {nL : Nat} {R : Room} {G : ga_G} {k n pc : Nat} {ws ws' : va_W} {lv lv' : ga_L} {st : List Value}
theorem gx_ldc0 (hR : gx_R V kS vS cc own nm Ts nL R G) (ho : own = "BoundaryRules") (hd : decode cc pc = .ok (.ldc 70, 2)) (kk : G k n ws (pc + 2) lv (.ref kS :: st)) : G k n ws pc lv st := by
  obtain ⟨p, l, e, s, m, args, below, meth, c, A, Q, rfl, hx, hb, hml, hown, hnm, hts, hK, hN, hA, hX⟩ := hR
  subst ho
  exact fun H locs ls hP hD hS hl => va_ldcS hx hb hown hX.2.2.2 hd (kk H locs ls hP hD hS hl)
theorem gx_getC (hR : gx_R V kS vS cc own nm Ts nL R G) {ix : Nat} (hlk : Cond.fieldLink own ix "java/lang/String" "coder" "B" ∈ Ts) (hd : decode cc pc = .ok (.getfield ix, 3)) (kk : G k n ws (pc + 3) lv (.int 0 :: st)) : G k n ws pc lv (.ref kS :: st) := by
  obtain ⟨p, l, e, s, m, args, below, meth, c, A, Q, rfl, hx, hb, hml, hown, hnm, hts, hK, hN, hA, hX⟩ := hR
  exact fun H locs ls hP hD hS hl => vk_getf hx hb (hX.1.1 0 (by decide)).2.1 hS hown (hts _ hlk) (fun _ h => h) hd (kk H locs ls hP hD hS hl)
theorem gx_getV (hR : gx_R V kS vS cc own nm Ts nL R G) {ix : Nat} (hlk : Cond.fieldLink own ix "java/lang/String" "value" "[B" ∈ Ts) (hd : decode cc pc = .ok (.getfield ix, 3)) (kk : G k n ws (pc + 3) lv (.ref vS :: st)) : G k n ws pc lv (.ref kS :: st) := by
  obtain ⟨p, l, e, s, m, args, below, meth, c, A, Q, rfl, hx, hb, hml, hown, hnm, hts, hK, hN, hA, hX⟩ := hR
  exact fun H locs ls hP hD hS hl => vk_getf hx hb (hX.1.1 0 (by decide)).2.2.1 hS hown (hts _ hlk) (fun _ h => h) hd (kk H locs ls hP hD hS hl)
theorem gx_getsC (hR : gx_R V kS vS cc own nm Ts nL R G) {ix : Nat} (hlk : Cond.fieldLink own ix "java/lang/String" "COMPACT_STRINGS" "Z" ∈ Ts) (hd : decode cc pc = .ok (.getstatic ix, 3)) (kk : G k n ws (pc + 3) lv (.int 1 :: st)) : G k n ws pc lv st := by
  obtain ⟨p, l, e, s, m, args, below, meth, c, A, Q, rfl, hx, hb, hml, hown, hnm, hts, hK, hN, hA, hX⟩ := hR
  exact fun H locs ls hP hD hS hl => va_gets hx hb hX.2.1 hS hown (hts _ hlk) (fun _ h => h) hd (kk H locs ls hP hD hS hl)
theorem gx_getsF (hR : gx_R V kS vS cc own nm Ts nL R G) {ix : Nat} (hlk : Cond.fieldLink own ix "jdk/internal/util/Preconditions" "SIOOBE_FORMATTER" "Ljava/util/function/BiFunction;" ∈ Ts) (hd : decode cc pc = .ok (.getstatic ix, 3)) (k1 : G k n ws (pc + 3) lv (.null :: st)) (k2 : ∀ t : Nat, G k n ws (pc + 3) lv (.ref t :: st)) : G k n ws pc lv st := by
  obtain ⟨p, l, e, s, m, args, below, meth, c, A, Q, rfl, hx, hb, hml, hown, hnm, hts, hK, hN, hA, hX⟩ := hR
  rcases hX.2.2.1 with h | ⟨t, h⟩
  · exact fun H locs ls hP hD hS hl => va_gets hx hb h hS hown (hts _ hlk) (fun _ h => h) hd (k1 H locs ls hP hD hS hl)
  · exact fun H locs ls hP hD hS hl => va_gets hx hb h hS hown (hts _ hlk) (fun _ h => h) hd (k2 t H locs ls hP hD hS hl)
theorem gx_alen (hR : gx_R V kS vS cc own nm Ts nL R G) (hd : decode cc pc = .ok (.arraylength, 1)) (kk : G k n ws (pc + 1) lv (.int (nI 83) :: st)) : G k n ws pc lv (.ref vS :: st) := by
  obtain ⟨p, l, e, s, m, args, below, meth, c, A, Q, rfl, hx, hb, hml, hown, hnm, hts, hK, hN, hA, hX⟩ := hR
  obtain ⟨cell, h1, h2, h3, h4, h5, h6, h7⟩ := (hX.1.1 0 (by decide)).2.2.2
  exact fun H locs ls hP hD hS hl => W.alen hx hb (by rw [hS.2.1 vS (Array.getElem?_eq_some_iff.mp h1).1 h7]; exact h1) h2 (h5.trans rfl) rfl rfl hd (kk H locs ls hP hD hS hl)
theorem gx_bald (hR : gx_R V kS vS cc own nm Ts nL R G) {i : Int32} (hin : vp_in i 83) (hd : decode cc pc = .ok (.baload, 1)) (kk : G k n ws (pc + 1) lv (.int (gx_by.getD i.toNatClampNeg 0) :: st)) : G k n ws pc lv (.int i :: .ref vS :: st) := by
  obtain ⟨p, l, e, s, m, args, below, meth, c, A, Q, rfl, hx, hb, hml, hown, hnm, hts, hK, hN, hA, hX⟩ := hR
  obtain ⟨cell, h1, h2, h3, h4, h5, h6, h7⟩ := (hX.1.1 0 (by decide)).2.2.2
  have hlt : i.toNatClampNeg < 83 := Nat.not_le.mp fun q => hin (Or.inr q)
  exact fun H locs ls hP hD hS hl => W.bald (v := .int (gx_by.getD i.toNatClampNeg 0)) hx hb (by rw [hS.2.1 vS (Array.getElem?_eq_some_iff.mp h1).1 h7]; exact h1) h2 h3 (fun z => hin (z.imp id (fun z => Nat.le_trans h4 z))) (h6 _ hlt) rfl rfl hd (kk H locs ls hP hD hS hl)
theorem gx_callV (hR : gx_R V kS vS cc own nm Ts nL R G) {y : MethodName} {wsY wsY' : List Cond} {rm : Room} {As rest st0 : List Value} {F : ga_F} {bytes : ByteArray} {maxL ix : Nat} {ret : Option FieldType} (na : Nat) (hC : gx_C V kS vS y wsY rm (.ref kS :: As) [] 0 0 F) (hG : GoodIn Ts (wsV own ix "java/lang/String" y wsY)) (hw : wsY = Cond.code y bytes maxL ret :: wsY') (hrc : rm.cells = 0) (hrs : rm.slots = 0) (hdn : y.cls = "java/lang/String" ∧ y.cls ≠ "java/lang/invoke/MethodHandle" ∧ y.cls ≠ "java/lang/invoke/VarHandle" ∧ (parseMethodDescriptor y.desc).map (fun d => d.parameters.length) = some na) (hroom : rm.frames + 1 ≤ R.frames ∧ 8 + (maxL + 11) + rm.locals ≤ R.locals) (hna : As.length = na) (hst : st0 = As.reverse ++ .ref kS :: rest) (h8 : (rest.map fun v => v.category).sum ≤ 8) (hf : k ≤ R.cells ∧ n ≤ R.slots) (hd : decode cc pc = .ok (.invokevirtual ix, 3))
    (kk : ∀ (v : Option Value), F v [] → G k n ws (pc + 3) lv (v.toList ++ rest)) (hF : ∀ v w, F v w → w = []) : G k n ws pc lv st0 := by
  obtain ⟨p, l, e, s, m, args, below, meth, c, A, Q, rfl, hx, hb, hml, hown, hnm, hts, hK, hN, hA, hX⟩ := hR
  have run : ∀ (H : Heap) (locs : List Loc) (ls : Array Slot), va_P V.1 vwCl ws H → va_D A ws → va_S A s.heap H locs → lv_has ls nL lv → va_Run p l e R s m args below meth c H locs k n 0 0 (F0 m pc ls st0) rest _ (va_A [] H.size) := fun H locs ls hP hD hS1 hl =>
    va_runV (As := As) (rest := rest) ⟨hx, hb, hml, hown, hts⟩ (hC l H.size) (cwV na hts hG hw hrc hrs hdn hroom) ⟨fun a U g mk q => by obtain ⟨q0, q1, qP, qK, qN, qD, qX⟩ := q; exact ⟨q0, q1, qP, va_K.moved (u := U) (U := U.calling g mk a) (Vm.Alike.refl U.vm) qK, ga_N.same (u := U) (U := U.calling g mk a) rfl qN, qD, qX.call⟩, vk_recv hX.1 (i := 0) (by decide) hS1, fun U hU hW => ⟨rfl, by rw [hU], (fun j q h => by simp at h), va_K.moved hW.alike hK, ga_N.warm hW hN, ⟨fun i j p q h => by simp at h, fun j q h => by simp at h⟩, hX.push hS1 (fun q h => by
      rcases h with ⟨j, e, h⟩ | h
      · simp at h
      · exact hA q (Nat.le_trans hS1.1 h)) hU hW⟩⟩ rfl hna hl.1 hst (lv_room h8) hd hf
  subst hst
  intro H locs ls hP hD hS1 hl T hT X
  have hFc : ∀ q, va_A [] H.size q → A q := fun q h => by
    rcases h with ⟨j, e, h⟩ | h
    · simp at h
    · exact hA q (Nat.le_trans hS1.1 h)
  obtain ⟨v, st₀, t, T', L, h0, X', hL, e1, e2, ⟨⟨v', w, hv, hFw, hP1, hD1⟩, hz, hk⟩, stp⟩ := run H locs ls hP hD hS1 hl T hT X
  cases hv
  cases hF _ _ hFw
  rw [h0] at hz hk
  have hP2 : va_P V.1 vwCl ws T'.heap := hP.kept (fun j q hq => by
    rw [e1]
    have hlt := (hP j q hq).lt
    refine hk q.1 hlt (fun z => ?_)
    rcases z with ⟨j, e, z⟩ | z
    · simp at z
    · omega)
  have hS2 : va_S A s.heap T'.heap (locs ++ L) := ⟨Nat.le_trans hS1.1 (by rw [e1]; exact hz), fun q h1 h2 => by rw [e1, hk q (Nat.lt_of_lt_of_le h1 hS1.1) (fun z => h2 (hFc q z))]; exact hS1.2.1 q h1 h2, fun q hq => by
      rcases List.mem_append.mp hq with h | h
      · exact hS1.2.2 q h
      · exact hFc _ (hL q h)⟩
  obtain ⟨t2, a1, b1⟩ := kk v hFw T'.heap (locs ++ L) ls hP2 hD hS2 hl T' rfl X'
  exact ⟨t2, stp t2 a1, b1⟩
theorem gx_callS (hR : gx_R V kS vS cc own nm Ts nL R G) {y : MethodName} {wsY wsY' : List Cond} {rm : Room} {As rest st0 : List Value} {F : ga_F} {bytes : ByteArray} {maxL ix : Nat} {ret : Option FieldType} (na : Nat) (hC : gx_C V kS vS y wsY rm As [] 0 0 F) (hG : GoodIn Ts (va_wsS own ix y wsY)) (hw : wsY = Cond.code y bytes maxL ret :: wsY') (hrc : rm.cells = 0) (hrs : rm.slots = 0) (hdn : y.cls ≠ "java/lang/invoke/MethodHandle" ∧ y.cls ≠ "java/lang/invoke/VarHandle" ∧ (parseMethodDescriptor y.desc).map (fun d => d.parameters.length) = some na) (hroom : rm.frames + 1 ≤ R.frames ∧ 8 + (maxL + 11) + rm.locals ≤ R.locals) (hna : As.length = na) (hst : st0 = As.reverse ++ rest) (h8 : (rest.map fun v => v.category).sum ≤ 8) (hf : k ≤ R.cells ∧ n ≤ R.slots) (hd : decode cc pc = .ok (.invokestatic ix, 3))
    (kk : ∀ (v : Option Value), F v [] → G k n ws (pc + 3) lv (v.toList ++ rest)) (hF : ∀ v w, F v w → w = []) : G k n ws pc lv st0 := by
  obtain ⟨p, l, e, s, m, args, below, meth, c, A, Q, rfl, hx, hb, hml, hown, hnm, hts, hK, hN, hA, hX⟩ := hR
  have run : ∀ (H : Heap) (locs : List Loc) (ls : Array Slot), va_P V.1 vwCl ws H → va_D A ws → va_S A s.heap H locs → lv_has ls nL lv → va_Run p l e R s m args below meth c H locs k n 0 0 (F0 m pc ls st0) rest _ (va_A [] H.size) := fun H locs ls hP hD hS1 hl =>
    va_runS (As := As) (rest := rest) ⟨hx, hb, hml, hown, hts⟩ (hC l H.size) (va_cwS na hts hG hw hrc hrs hdn hroom) ⟨fun a U g mk q => by obtain ⟨q0, q1, qP, qK, qN, qD, qX⟩ := q; exact ⟨q0, q1, qP, va_K.moved (u := U) (U := U.calling g mk a) (Vm.Alike.refl U.vm) qK, ga_N.same (u := U) (U := U.calling g mk a) rfl qN, qD, qX.call⟩, fun U hU hW => ⟨rfl, by rw [hU], (fun j q h => by simp at h), va_K.moved hW.alike hK, ga_N.warm hW hN, ⟨fun i j p q h => by simp at h, fun j q h => by simp at h⟩, hX.push hS1 (fun q h => by
      rcases h with ⟨j, e, h⟩ | h
      · simp at h
      · exact hA q (Nat.le_trans hS1.1 h)) hU hW⟩⟩ rfl hna hl.1 hst (lv_room h8) hd hf
  subst hst
  intro H locs ls hP hD hS1 hl T hT X
  have hFc : ∀ q, va_A [] H.size q → A q := fun q h => by
    rcases h with ⟨j, e, h⟩ | h
    · simp at h
    · exact hA q (Nat.le_trans hS1.1 h)
  obtain ⟨v, st₀, t, T', L, h0, X', hL, e1, e2, ⟨⟨v', w, hv, hFw, hP1, hD1⟩, hz, hk⟩, stp⟩ := run H locs ls hP hD hS1 hl T hT X
  cases hv
  cases hF _ _ hFw
  rw [h0] at hz hk
  have hP2 : va_P V.1 vwCl ws T'.heap := hP.kept (fun j q hq => by
    rw [e1]
    have hlt := (hP j q hq).lt
    refine hk q.1 hlt (fun z => ?_)
    rcases z with ⟨j, e, z⟩ | z
    · simp at z
    · omega)
  have hS2 : va_S A s.heap T'.heap (locs ++ L) := ⟨Nat.le_trans hS1.1 (by rw [e1]; exact hz), fun q h1 h2 => by rw [e1, hk q (Nat.lt_of_lt_of_le h1 hS1.1) (fun z => h2 (hFc q z))]; exact hS1.2.1 q h1 h2, fun q hq => by
      rcases List.mem_append.mp hq with h | h
      · exact hS1.2.2 q h
      · exact hFc _ (hL q h)⟩
  obtain ⟨t2, a1, b1⟩ := kk v hFw T'.heap (locs ++ L) ls hP2 hD hS2 hl T' rfl X'
  exact ⟨t2, stp t2 a1, b1⟩
end GX
def rm_J3_checkIndex_8e157 : Room := { frames := 0, cells := 0, slots := 0, locals := 0 }
theorem hd_J3_checkIndex_8e157S : yJ3_checkIndex_8e157.cls ≠ "java/lang/invoke/MethodHandle" ∧ yJ3_checkIndex_8e157.cls ≠ "java/lang/invoke/VarHandle" ∧ (parseMethodDescriptor yJ3_checkIndex_8e157.desc).map (fun d => d.parameters.length) = some 3 := by decide +kernel
def rm_J0_checkIndex_df160 : Room := { frames := 1, cells := 0, slots := 0, locals := 22 }
theorem hd_J0_checkIndex_df160S : yJ0_checkIndex_df160.cls ≠ "java/lang/invoke/MethodHandle" ∧ yJ0_checkIndex_df160.cls ≠ "java/lang/invoke/VarHandle" ∧ (parseMethodDescriptor yJ0_checkIndex_df160.desc).map (fun d => d.parameters.length) = some 2 := by decide +kernel
def rm_J1_charAt_3b067 : Room := { frames := 2, cells := 0, slots := 0, locals := 43 }
theorem hd_J1_charAt_3b067S : yJ1_charAt_3b067.cls ≠ "java/lang/invoke/MethodHandle" ∧ yJ1_charAt_3b067.cls ≠ "java/lang/invoke/VarHandle" ∧ (parseMethodDescriptor yJ1_charAt_3b067.desc).map (fun d => d.parameters.length) = some 2 := by decide +kernel
def rm_J0_isLatin1_aae02 : Room := { frames := 0, cells := 0, slots := 0, locals := 0 }
theorem hd_J0_isLatin1_aae02S : yJ0_isLatin1_aae02.cls ≠ "java/lang/invoke/MethodHandle" ∧ yJ0_isLatin1_aae02.cls ≠ "java/lang/invoke/VarHandle" ∧ (parseMethodDescriptor yJ0_isLatin1_aae02.desc).map (fun d => d.parameters.length) = some 0 := by decide +kernel
theorem hd_J0_isLatin1_aae02 : yJ0_isLatin1_aae02.cls = "java/lang/String" ∧ yJ0_isLatin1_aae02.cls ≠ "java/lang/invoke/MethodHandle" ∧ yJ0_isLatin1_aae02.cls ≠ "java/lang/invoke/VarHandle" ∧ (parseMethodDescriptor yJ0_isLatin1_aae02.desc).map (fun d => d.parameters.length) = some 0 := ⟨rfl, hd_J0_isLatin1_aae02S⟩
def rm_J0_coder_7d493 : Room := { frames := 0, cells := 0, slots := 0, locals := 0 }
theorem hd_J0_coder_7d493S : yJ0_coder_7d493.cls ≠ "java/lang/invoke/MethodHandle" ∧ yJ0_coder_7d493.cls ≠ "java/lang/invoke/VarHandle" ∧ (parseMethodDescriptor yJ0_coder_7d493.desc).map (fun d => d.parameters.length) = some 0 := by decide +kernel
theorem hd_J0_coder_7d493 : yJ0_coder_7d493.cls = "java/lang/String" ∧ yJ0_coder_7d493.cls ≠ "java/lang/invoke/MethodHandle" ∧ yJ0_coder_7d493.cls ≠ "java/lang/invoke/VarHandle" ∧ (parseMethodDescriptor yJ0_coder_7d493.desc).map (fun d => d.parameters.length) = some 0 := ⟨rfl, hd_J0_coder_7d493S⟩
def rm_J0_length_8abf5 : Room := { frames := 1, cells := 0, slots := 0, locals := 20 }
theorem hd_J0_length_8abf5S : yJ0_length_8abf5.cls ≠ "java/lang/invoke/MethodHandle" ∧ yJ0_length_8abf5.cls ≠ "java/lang/invoke/VarHandle" ∧ (parseMethodDescriptor yJ0_length_8abf5.desc).map (fun d => d.parameters.length) = some 0 := by decide +kernel
theorem hd_J0_length_8abf5 : yJ0_length_8abf5.cls = "java/lang/String" ∧ yJ0_length_8abf5.cls ≠ "java/lang/invoke/MethodHandle" ∧ yJ0_length_8abf5.cls ≠ "java/lang/invoke/VarHandle" ∧ (parseMethodDescriptor yJ0_length_8abf5.desc).map (fun d => d.parameters.length) = some 0 := ⟨rfl, hd_J0_length_8abf5S⟩
def rm_J0_charAt_5068e : Room := { frames := 3, cells := 0, slots := 0, locals := 64 }
theorem hd_J0_charAt_5068eS : yJ0_charAt_5068e.cls ≠ "java/lang/invoke/MethodHandle" ∧ yJ0_charAt_5068e.cls ≠ "java/lang/invoke/VarHandle" ∧ (parseMethodDescriptor yJ0_charAt_5068e.desc).map (fun d => d.parameters.length) = some 1 := by decide +kernel
theorem hd_J0_charAt_5068e : yJ0_charAt_5068e.cls = "java/lang/String" ∧ yJ0_charAt_5068e.cls ≠ "java/lang/invoke/MethodHandle" ∧ yJ0_charAt_5068e.cls ≠ "java/lang/invoke/VarHandle" ∧ (parseMethodDescriptor yJ0_charAt_5068e.desc).map (fun d => d.parameters.length) = some 1 := ⟨rfl, hd_J0_charAt_5068eS⟩
theorem c_J3_checkIndex_8e157 (V : ga_V) (kS vS : Nat) (x y : Int32) (v : Value) (hv : v = .null ∨ ∃ t, v = .ref t) (h0 : ¬ x < 0) (h1 : x < y) : gx_C V kS vS yJ3_checkIndex_8e157 wsJ3_checkIndex_8e157 rm_J3_checkIndex_8e157 [.int x, .int y, v] [] 0 0 (ga_Fi (fun _ : Unit => []) (fun r _ => r = x)) := by
  rcases hv with rfl | ⟨t, rfl⟩
  · refine gx_met (cc := cJ3_checkIndex_8e157) (maxL := 3) (rt := (some .int)) (by decide) rfl [(0, .int x), (1, .int y), (2, .null)] rfl (Nat.le_of_ble_eq_true rfl) ?_
    intro G hX hE
    have hR := hX.r
    refine ga_iload_n hR (pc := 0) 0 rfl rfl dJ3_checkIndex_8e157_0 ?_
    refine ga_if_lt hR (pc := 1) 9 (by decide) dJ3_checkIndex_8e157_1 (fun c => absurd c h0) (fun c => ?_)
    refine ga_iload_n hR (pc := 4) 0 rfl rfl dJ3_checkIndex_8e157_4 ?_
    refine ga_iload_n hR (pc := 5) 1 rfl rfl dJ3_checkIndex_8e157_5 ?_
    refine ga_icmp_lt hR (pc := 6) 16 (by decide) dJ3_checkIndex_8e157_6 (fun c => ?_) (fun c => absurd h1 c)
    refine ga_iload_n hR (pc := 16) 0 rfl rfl dJ3_checkIndex_8e157_16 ?_
    exact ga_iret hE dJ3_checkIndex_8e157_17 rfl (ga_ri () rfl rfl)
  · refine gx_met (cc := cJ3_checkIndex_8e157) (maxL := 3) (rt := (some .int)) (by decide) rfl [(0, .int x), (1, .int y), (2, .ref t)] rfl (Nat.le_of_ble_eq_true rfl) ?_
    intro G hX hE
    have hR := hX.r
    refine ga_iload_n hR (pc := 0) 0 rfl rfl dJ3_checkIndex_8e157_0 ?_
    refine ga_if_lt hR (pc := 1) 9 (by decide) dJ3_checkIndex_8e157_1 (fun c => absurd c h0) (fun c => ?_)
    refine ga_iload_n hR (pc := 4) 0 rfl rfl dJ3_checkIndex_8e157_4 ?_
    refine ga_iload_n hR (pc := 5) 1 rfl rfl dJ3_checkIndex_8e157_5 ?_
    refine ga_icmp_lt hR (pc := 6) 16 (by decide) dJ3_checkIndex_8e157_6 (fun c => ?_) (fun c => absurd h1 c)
    refine ga_iload_n hR (pc := 16) 0 rfl rfl dJ3_checkIndex_8e157_16 ?_
    exact ga_iret hE dJ3_checkIndex_8e157_17 rfl (ga_ri () rfl rfl)
theorem c_J0_checkIndex_df160 (V : ga_V) (kS vS : Nat) (x y : Int32) (h0 : ¬ x < 0) (h1 : x < y) : gx_C V kS vS yJ0_checkIndex_df160 wsJ0_checkIndex_df160 rm_J0_checkIndex_df160 [.int x, .int y] [] 0 0 (ga_Fv (fun _ : Unit => []) (fun _ => True)) := by
  refine gx_met (cc := cJ0_checkIndex_df160) (maxL := 2) (rt := none) (by decide) rfl [(0, .int x), (1, .int y)] rfl (Nat.le_of_ble_eq_true rfl) ?_
  intro G hX hE
  have hR := hX.r
  refine ga_iload_n hR (pc := 0) 0 rfl rfl dJ0_checkIndex_df160_0 ?_
  refine ga_iload_n hR (pc := 1) 1 rfl rfl dJ0_checkIndex_df160_1 ?_
  refine gx_getsF hX (pc := 2) (by decide +kernel) dJ0_checkIndex_df160_2 ?_ (fun t => ?_)
  · refine gx_callS hX (pc := 5) (As := [.int x, .int y, .null]) (rest := []) (st0 := [.null, .int y, .int x]) 3 (c_J3_checkIndex_8e157 V kS vS x y (.null) (Or.inl rfl) h0 h1) gJ0_checkIndex_df160_J3_checkIndex_8e157 rfl rfl rfl hd_J3_checkIndex_8e157S ⟨Nat.le_of_ble_eq_true rfl, Nat.le_of_ble_eq_true rfl⟩ rfl rfl (Nat.le_of_ble_eq_true rfl) ⟨Nat.zero_le _, Nat.zero_le _⟩ dJ0_checkIndex_df160_5 ?_ (by rintro _ _ ⟨_, _, _, rfl, _⟩; rfl)
    rintro _ ⟨r, u, rfl, -, hr⟩
    refine ga_to [] [.int r] rfl rfl ?_
    refine ga_pop hR (pc := 8) rfl dJ0_checkIndex_df160_8 ?_
    exact ga_vret hE dJ0_checkIndex_df160_9 ⟨(), rfl, rfl, trivial⟩
  · refine gx_callS hX (pc := 5) (As := [.int x, .int y, .ref t]) (rest := []) (st0 := [.ref t, .int y, .int x]) 3 (c_J3_checkIndex_8e157 V kS vS x y (.ref t) (Or.inr ⟨t, rfl⟩) h0 h1) gJ0_checkIndex_df160_J3_checkIndex_8e157 rfl rfl rfl hd_J3_checkIndex_8e157S ⟨Nat.le_of_ble_eq_true rfl, Nat.le_of_ble_eq_true rfl⟩ rfl rfl (Nat.le_of_ble_eq_true rfl) ⟨Nat.zero_le _, Nat.zero_le _⟩ dJ0_checkIndex_df160_5 ?_ (by rintro _ _ ⟨_, _, _, rfl, _⟩; rfl)
    rintro _ ⟨r, u, rfl, -, hr⟩
    refine ga_to [] [.int r] rfl rfl ?_
    refine ga_pop hR (pc := 8) rfl dJ0_checkIndex_df160_8 ?_
    exact ga_vret hE dJ0_checkIndex_df160_9 ⟨(), rfl, rfl, trivial⟩
theorem gx_chE : ∀ k, k < 83 → ((gx_by.getD k 0 &&& nI 255).toUInt32 % 65536).toInt32 = gx_ch k ∧ narrow .char (.int (gx_ch k)) = .int (gx_ch k) := by decide +kernel
theorem c_J1_charAt_3b067 (V : ga_V) (kS vS : Nat) (x : Int32) (h : vp_in x 83) : gx_C V kS vS yJ1_charAt_3b067 wsJ1_charAt_3b067 rm_J1_charAt_3b067 [.ref vS, .int x] [] 0 0 (ga_Fi (fun _ : Unit => []) (fun r _ => r = gx_ch x.toNatClampNeg)) := by
  refine gx_met (cc := cJ1_charAt_3b067) (maxL := 2) (rt := (some .char)) (by decide) rfl [(0, .ref vS), (1, .int x)] rfl (Nat.le_of_ble_eq_true rfl) ?_
  intro G hX hE
  have hR := hX.r
  obtain ⟨j, hj, rfl⟩ := vp_in_of h (by decide)
  obtain ⟨e1, e2⟩ := gx_chE j hj
  rw [nI_clamp (by omega)] at *
  refine ga_iload_n hR (pc := 0) 1 rfl rfl dJ1_charAt_3b067_0 ?_
  refine ga_aload_n hR (pc := 1) 0 rfl rfl dJ1_charAt_3b067_1 ?_
  refine gx_alen hX (pc := 2) dJ1_charAt_3b067_2 ?_
  refine gx_callS hX (pc := 3) (As := [.int (nI j), .int (nI 83)]) (rest := []) (st0 := [.int (nI 83), .int (nI j)]) 2 (c_J0_checkIndex_df160 V kS vS (nI j) (nI 83) (nI_pos (by omega)) (nI_lt hj (by decide))) gJ1_charAt_3b067_J0_checkIndex_df160 rfl rfl rfl hd_J0_checkIndex_df160S ⟨Nat.le_of_ble_eq_true rfl, Nat.le_of_ble_eq_true rfl⟩ rfl rfl (Nat.le_of_ble_eq_true rfl) ⟨Nat.zero_le _, Nat.zero_le _⟩ dJ1_charAt_3b067_3 ?_ (by rintro _ _ ⟨_, _, rfl, _⟩; rfl)
  rintro _ ⟨u, rfl, -, -⟩
  refine ga_to [] [] rfl rfl ?_
  refine ga_aload_n hR (pc := 6) 0 rfl rfl dJ1_charAt_3b067_6 ?_
  refine ga_iload_n hR (pc := 7) 1 rfl rfl dJ1_charAt_3b067_7 ?_
  refine gx_bald hX (pc := 8) h dJ1_charAt_3b067_8 ?_
  refine ga_sipush hR (pc := 9) (v := nI 255) (by decide) dJ1_charAt_3b067_9 ?_
  refine ga_iand hR (pc := 12) dJ1_charAt_3b067_12 ?_
  refine ga_i2c hR (pc := 13) dJ1_charAt_3b067_13 ?_
  rw [nI_clamp (by omega), e1]
  exact ga_iret hE dJ1_charAt_3b067_14 e2 (ga_ri () rfl rfl)
theorem c_J0_isLatin1_aae02 (V : ga_V) (kS vS : Nat) : gx_C V kS vS yJ0_isLatin1_aae02 wsJ0_isLatin1_aae02 rm_J0_isLatin1_aae02 [.ref kS] [] 0 0 (ga_Fi (fun _ : Unit => []) (fun r _ => r = nI 1)) := by
  refine gx_met (cc := cJ0_isLatin1_aae02) (maxL := 1) (rt := (some .boolean)) (by decide) rfl [(0, .ref kS)] rfl (Nat.le_of_ble_eq_true rfl) ?_
  intro G hX hE
  have hR := hX.r
  refine gx_getsC hX (pc := 0) (by decide +kernel) dJ0_isLatin1_aae02_0 ?_
  refine ga_if_eq hR (pc := 3) 17 (by decide) dJ0_isLatin1_aae02_3 (fun c => absurd c (by decide)) (fun c => ?_)
  refine ga_aload_n hR (pc := 6) 0 rfl rfl dJ0_isLatin1_aae02_6 ?_
  refine gx_getC hX (pc := 7) (by decide +kernel) dJ0_isLatin1_aae02_7 ?_
  refine ga_if_ne hR (pc := 10) 17 (by decide) dJ0_isLatin1_aae02_10 (fun c => absurd rfl c) (fun c => ?_)
  refine ga_iconst hR (pc := 13) (v := nI 1) (by decide) dJ0_isLatin1_aae02_13 ?_
  refine ga_goto hR (pc := 14) 18 (by decide) dJ0_isLatin1_aae02_14 ?_
  exact ga_iret hE dJ0_isLatin1_aae02_18 (by decide) (ga_ri () rfl rfl)
theorem c_J0_coder_7d493 (V : ga_V) (kS vS : Nat) : gx_C V kS vS yJ0_coder_7d493 wsJ0_coder_7d493 rm_J0_coder_7d493 [.ref kS] [] 0 0 (ga_Fi (fun _ : Unit => []) (fun r _ => r = 0)) := by
  refine gx_met (cc := cJ0_coder_7d493) (maxL := 1) (rt := (some .byte)) (by decide) rfl [(0, .ref kS)] rfl (Nat.le_of_ble_eq_true rfl) ?_
  intro G hX hE
  have hR := hX.r
  refine gx_getsC hX (pc := 0) (by decide +kernel) dJ0_coder_7d493_0 ?_
  refine ga_if_eq hR (pc := 3) 13 (by decide) dJ0_coder_7d493_3 (fun c => absurd c (by decide)) (fun c => ?_)
  refine ga_aload_n hR (pc := 6) 0 rfl rfl dJ0_coder_7d493_6 ?_
  refine gx_getC hX (pc := 7) (by decide +kernel) dJ0_coder_7d493_7 ?_
  refine ga_goto hR (pc := 10) 14 (by decide) dJ0_coder_7d493_10 ?_
  exact ga_iret hE dJ0_coder_7d493_14 (by decide) (ga_ri () rfl rfl)
theorem c_J0_length_8abf5 (V : ga_V) (kS vS : Nat) : gx_C V kS vS yJ0_length_8abf5 wsJ0_length_8abf5 rm_J0_length_8abf5 [.ref kS] [] 0 0 (ga_Fi (fun _ : Unit => []) (fun r _ => r = nI 83)) := by
  refine gx_met (cc := cJ0_length_8abf5) (maxL := 1) (rt := (some .int)) (by decide) rfl [(0, .ref kS)] rfl (Nat.le_of_ble_eq_true rfl) ?_
  intro G hX hE
  have hR := hX.r
  refine ga_aload_n hR (pc := 0) 0 rfl rfl dJ0_length_8abf5_0 ?_
  refine gx_getV hX (pc := 1) (by decide +kernel) dJ0_length_8abf5_1 ?_
  refine gx_alen hX (pc := 4) dJ0_length_8abf5_4 ?_
  refine ga_aload_n hR (pc := 5) 0 rfl rfl dJ0_length_8abf5_5 ?_
  refine gx_callV hX (pc := 6) (As := []) (rest := [.int (nI 83)]) (st0 := [.ref kS, .int (nI 83)]) 0 (c_J0_coder_7d493 V kS vS) gJ0_length_8abf5_J0_coder_7d493 rfl rfl rfl hd_J0_coder_7d493 ⟨Nat.le_of_ble_eq_true rfl, Nat.le_of_ble_eq_true rfl⟩ rfl rfl (Nat.le_of_ble_eq_true rfl) ⟨Nat.zero_le _, Nat.zero_le _⟩ dJ0_length_8abf5_6 ?_ (by rintro _ _ ⟨_, _, _, rfl, _⟩; rfl)
  rintro _ ⟨r, u, rfl, -, rfl⟩
  refine ga_to [] [.int 0, .int (nI 83)] rfl rfl ?_
  refine ga_ishr hR (pc := 9) dJ0_length_8abf5_9 ?_
  exact ga_iret hE dJ0_length_8abf5_10 rfl (ga_ri () rfl (by decide))
theorem c_J0_charAt_5068e (V : ga_V) (kS vS : Nat) (x : Int32) (h : vp_in x 83) : gx_C V kS vS yJ0_charAt_5068e wsJ0_charAt_5068e rm_J0_charAt_5068e [.ref kS, .int x] [] 0 0 (ga_Fi (fun _ : Unit => []) (fun r _ => r = gx_ch x.toNatClampNeg)) := by
  refine gx_met (cc := cJ0_charAt_5068e) (maxL := 2) (rt := (some .char)) (by decide) rfl [(0, .ref kS), (1, .int x)] rfl (Nat.le_of_ble_eq_true rfl) ?_
  intro G hX hE
  have hR := hX.r
  refine ga_aload_n hR (pc := 0) 0 rfl rfl dJ0_charAt_5068e_0 ?_
  refine gx_callV hX (pc := 1) (As := []) (rest := []) (st0 := [.ref kS]) 0 (c_J0_isLatin1_aae02 V kS vS) gJ0_charAt_5068e_J0_isLatin1_aae02 rfl rfl rfl hd_J0_isLatin1_aae02 ⟨Nat.le_of_ble_eq_true rfl, Nat.le_of_ble_eq_true rfl⟩ rfl rfl (Nat.le_of_ble_eq_true rfl) ⟨Nat.zero_le _, Nat.zero_le _⟩ dJ0_charAt_5068e_1 ?_ (by rintro _ _ ⟨_, _, _, rfl, _⟩; rfl)
  rintro _ ⟨r, u, rfl, -, rfl⟩
  refine ga_to [] [.int (nI 1)] rfl rfl ?_
  refine ga_if_eq hR (pc := 4) 16 (by decide) dJ0_charAt_5068e_4 (fun c => absurd c (by decide)) (fun c => ?_)
  refine ga_aload_n hR (pc := 7) 0 rfl rfl dJ0_charAt_5068e_7 ?_
  refine gx_getV hX (pc := 8) (by decide +kernel) dJ0_charAt_5068e_8 ?_
  refine ga_iload_n hR (pc := 11) 1 rfl rfl dJ0_charAt_5068e_11 ?_
  refine gx_callS hX (pc := 12) (As := [.ref vS, .int x]) (rest := []) (st0 := [.int x, .ref vS]) 2 (c_J1_charAt_3b067 V kS vS x h) gJ0_charAt_5068e_J1_charAt_3b067 rfl rfl rfl hd_J1_charAt_3b067S ⟨Nat.le_of_ble_eq_true rfl, Nat.le_of_ble_eq_true rfl⟩ rfl rfl (Nat.le_of_ble_eq_true rfl) ⟨Nat.zero_le _, Nat.zero_le _⟩ dJ0_charAt_5068e_12 ?_ (by rintro _ _ ⟨_, _, _, rfl, _⟩; rfl)
  rintro _ ⟨r, u, rfl, -, rfl⟩
  refine ga_to [] [.int (gx_ch x.toNatClampNeg)] rfl rfl ?_
  obtain ⟨j, hj, rfl⟩ := vp_in_of h (by decide)
  refine ga_iret hE dJ0_charAt_5068e_15 ?_ (ga_ri () rfl rfl)
  rw [nI_clamp (by omega)]
  exact (gx_chE j hj).2
theorem gx_ldc {V : ga_V} {kS vS : Nat} {R : Room} {G : ga_G} (hX : gx_R V kS vS cX9_init yX9_init.cls yX9_init.name wsX9_init 2 R G) : ∀ (pc k n : Nat) (ws : va_W) (lv : ga_L) (st : List Value), decode cX9_init pc = .ok (.ldc 70, 2) → G k n ws (pc + 2) lv (.ref kS :: st) → G k n ws pc lv st := fun pc k n ws lv st hd kk => gx_ldc0 hX rfl hd kk
theorem gx_len {V : ga_V} {kS vS : Nat} {R : Room} {G : ga_G} (hX : gx_R V kS vS cX9_init yX9_init.cls yX9_init.name wsX9_init 2 R G) (h1 : rm_J0_length_8abf5.frames + 1 ≤ R.frames) (h2 : 8 + (1 + 11) + rm_J0_length_8abf5.locals ≤ R.locals) : ∀ (pc k n : Nat) (ws : va_W) (lv : ga_L) (st : List Value), (st.map fun v => v.category).sum ≤ 8 → k ≤ R.cells → n ≤ R.slots → decode cX9_init pc = .ok (.invokevirtual 72, 3) → G k n ws (pc + 3) lv (.int (nI 83) :: st) → G k n ws pc lv (.ref kS :: st) := by
  intro pc k n ws lv st h8 hk hn hd kk
  refine gx_callV hX (As := []) (rest := st) 0 (c_J0_length_8abf5 V kS vS) gX9_init_J0_length_8abf5 rfl rfl rfl hd_J0_length_8abf5 ⟨h1, h2⟩ rfl rfl h8 ⟨hk, hn⟩ hd ?_ (by rintro _ _ ⟨_, _, _, rfl, _⟩; rfl)
  rintro _ ⟨r, u, rfl, -, rfl⟩
  exact kk
theorem gx_chr {V : ga_V} {kS vS : Nat} {R : Room} {G : ga_G} (hX : gx_R V kS vS cX9_init yX9_init.cls yX9_init.name wsX9_init 2 R G) (h1 : rm_J0_charAt_5068e.frames + 1 ≤ R.frames) (h2 : 8 + (2 + 11) + rm_J0_charAt_5068e.locals ≤ R.locals) : ∀ (pc k n : Nat) (ws : va_W) (lv : ga_L) (st : List Value) (x : Int32), (st.map fun v => v.category).sum ≤ 8 → k ≤ R.cells → n ≤ R.slots → vp_in x 83 → decode cX9_init pc = .ok (.invokevirtual 78, 3) → G k n ws (pc + 3) lv (.int (gx_ch x.toNatClampNeg) :: st) → G k n ws pc lv (.int x :: .ref kS :: st) := by
  intro pc k n ws lv st x h8 hk hn hin hd kk
  refine gx_callV hX (As := [.int x]) (rest := st) 1 (c_J0_charAt_5068e V kS vS x hin) gX9_init_J0_charAt_5068e rfl rfl rfl hd_J0_charAt_5068e ⟨h1, h2⟩ rfl rfl h8 ⟨hk, hn⟩ hd ?_ (by rintro _ _ ⟨_, _, _, rfl, _⟩; rfl)
  rintro _ ⟨r, u, rfl, -, rfl⟩
  exact kk
theorem gx_callI {V : ga_V} {kS vS : Nat} {cc : ByteArray} {own nm : String} {Ts : List Cond} {nL : Nat} {R : Room} {G : ga_G} {k n pc : Nat} {ws : va_W} {lv : ga_L} (hR : gx_R V kS vS cc own nm Ts nL R G) {b : Nat} {y : MethodName} {wsY wsY' : List Cond} {rm : Room} {As rest st0 : List Value} {wc wr : va_W} {mc ms : Nat} {F : ga_F} {bytes : ByteArray} {maxL ix : Nat} (na : Nat) (hC : gx_C V kS vS y wsY rm (.ref b :: As) wc mc ms F) (hG : GoodIn Ts wsY) (hw : wsY = Cond.code y bytes maxL none :: wsY') (hrc : rm.cells = mc) (hrs : rm.slots = ms) (hdn : y.cls ≠ "java/lang/invoke/MethodHandle" ∧ y.cls ≠ "java/lang/invoke/VarHandle" ∧ (parseMethodDescriptor y.desc).map (fun d => d.parameters.length) = some na) (hroom : rm.frames + 1 ≤ R.frames ∧ 8 + (maxL + 11) + rm.locals ≤ R.locals) (hna : As.length = na) (hst : st0 = As.reverse ++ .ref b :: rest) (h8 : (rest.map fun v => v.category).sum ≤ 8) (hf : k + mc ≤ R.cells ∧ n + ms ≤ R.slots) (is ir : List Nat) (his : is.map (fun i => ws[i]?) = wc.map some) (hir : ir.map (fun i => ws[i]?) = wr.map some) (hnd : va_nd is = true) (hnr : va_nd ir = true) (hdis : ∀ i ∈ ir, i ∉ is) (hnm1 : y.name = "<init>") (hins : Cond.instanceMethod y ∈ Ts) (hini : Cond.initialized y.cls ∈ Ts) (hlk : Cond.methodLink own ix y ∈ Ts) (hd : decode cc pc = .ok (.invokespecial ix, 3))
    (kk : ∀ (v : Option Value) (w : va_W), F v w → G (k + mc) (n + ms) (wr ++ w) (pc + 3) lv (v.toList ++ rest)) : G k n ws pc lv st0 := by
  obtain ⟨p, l, e, s, m, args, below, meth, c, A, Q, rfl, hx, hb, hml, hown, hnm, hts, hK, hN, hA, hX⟩ := hR
  have run : ∀ (H : Heap) (locs : List Loc) (ls : Array Slot), va_P V.1 vwCl ws H → va_D A ws → va_S A s.heap H locs → lv_has ls nL lv → va_Run p l e R s m args below meth c H locs k n mc ms (F0 m pc ls st0) rest _ (va_A wc H.size) := fun H locs ls hP hD hS1 hl =>
    va_runI (As := As) (rest := rest) ⟨hx, hb, hml, hown, hts⟩ (hC l H.size) (cwI na hts hG hw hrc hrs (hts _ hini) (hts _ hlk) (hts _ hins) hnm1 hdn hroom) ⟨fun a U g mk q => by obtain ⟨q0, q1, qP, qK, qN, qD, qX⟩ := q; exact ⟨q0, q1, qP, va_K.moved (u := U) (U := U.calling g mk a) (Vm.Alike.refl U.vm) qK, ga_N.same (u := U) (U := U.calling g mk a) rfl qN, qD, qX.call⟩, fun U hU hW => ⟨rfl, by rw [hU], by rw [hU]; exact ga_subP hP his, va_K.moved hW.alike hK, ga_N.warm hW hN, ga_subD hD his hnd, hX.push hS1 (va_free hD hS1 hA is his) hU hW⟩⟩ rfl hna hl.1 hst (lv_room h8) hd hf
  subst hst
  intro H locs ls hP hD hS1 hl T hT X
  have hPc := ga_subP hP his
  have hDc := ga_subD hD his hnd
  have hFc := va_free hD hS1 hA is his
  obtain ⟨v, st₀, t, T', L, h0, X', hL, e1, e2, ⟨⟨v', w, hv, hFw, hP1, hD1⟩, hz, hk⟩, stp⟩ := run H locs ls hP hD hS1 hl T hT X
  cases hv
  rw [h0] at hz hk
  have hP1 : va_P V.1 vwCl w T'.heap := by rw [e1]; exact hP1
  obtain ⟨hP2, hD2⟩ := va_join hP hD is ir his hir hnr hdis (fun q h1 h2 => by rw [e1]; exact hk q h1 h2) hFc hP1 hD1
  have hS2 : va_S A s.heap T'.heap (locs ++ L) := ⟨Nat.le_trans hS1.1 (by rw [e1]; exact hz), fun q h1 h2 => by rw [e1, hk q (Nat.lt_of_lt_of_le h1 hS1.1) (fun z => h2 (hFc q z))]; exact hS1.2.1 q h1 h2, fun q hq => by
      rcases List.mem_append.mp hq with h | h
      · exact hS1.2.2 q h
      · exact hFc _ (hL q h)⟩
  obtain ⟨t2, a1, b1⟩ := kk v w hFw T'.heap (locs ++ L) ls hP2 hD2 hS2 hl T' rfl X'
  exact ⟨t2, stp t2 a1, b1⟩
