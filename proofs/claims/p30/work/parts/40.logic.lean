/-! A WALK'S OWN RULES. A walk stands at G cells slots world pc locals stack; ga_R says what it rests on. -/
abbrev ga_V : Type := va_G × (Nat → ClassId)
def ga_ty (V : ga_V) : List (ClassId × FieldType) := [(V.2 0, .int), (V.2 1, .boolean), (V.2 2, .byte)]
abbrev ga_L : Type := List (Nat × Value)
abbrev ga_G : Type := Nat → Nat → va_W → Nat → ga_L → List Value → Prop
abbrev ga_F : Type := Option Value → va_W → Prop
def ga_At (V : ga_V) (p : Program) (l : Launch) (e : Env) (R : Room) (s : State) (m : MethodId) (args : Array Value) (below : List Frame) (meth : Method) (c : Code) (A : Nat → Prop) (H0 : Heap) (nL : Nat) (Q : State → Prop) : ga_G := fun k n ws pc lv st =>
  ∀ (H : Heap) (locs : List Loc) (ls : Array Slot), va_P V.1 vwCl ws H → va_D A ws → va_S A H0 H locs → lv_has ls nL lv → W p l e R s m args below meth c H locs k n Q (F0 m pc ls st)
/-- the links between nest mates -/
def ga_nests : List (String × Nat × MethodName × String) := [("BoundaryRules", 11, ⟨"BoundaryRules$Text", "<init>", "()V"⟩, "BoundaryRules"), ("BoundaryRules", 18, ⟨"BoundaryRules$Rules", "<init>", "()V"⟩, "BoundaryRules"), ("BoundaryRules", 25, ⟨"BoundaryRules$Stock", "<init>", "()V"⟩, "BoundaryRules"), ("BoundaryRules", 38, ⟨"BoundaryRules$Acts", "<init>", "()V"⟩, "BoundaryRules"), ("BoundaryRules", 45, ⟨"BoundaryRules$Steps", "<init>", "()V"⟩, "BoundaryRules"), ("BoundaryRules", 52, ⟨"BoundaryRules$Pieces", "<init>", "()V"⟩, "BoundaryRules"), ("BoundaryRules", 59, ⟨"BoundaryRules$Ways", "<init>", "()V"⟩, "BoundaryRules"), ("BoundaryRules$Rules", 29, ⟨"BoundaryRules$Parts", "<init>", "()V"⟩, "BoundaryRules"), ("BoundaryRules$Rules", 61, ⟨"BoundaryRules", "isClass", "(I)Z"⟩, "BoundaryRules"), ("BoundaryRules$Steps", 69, ⟨"BoundaryRules", "isClass", "(I)Z"⟩, "BoundaryRules"), ("BoundaryRules$Stock", 25, ⟨"BoundaryRules", "isLetter", "(I)Z"⟩, "BoundaryRules"), ("BoundaryRules$Text", 74, ⟨"BoundaryRules", "isLetter", "(I)Z"⟩, "BoundaryRules"), ("BoundaryRules$Text", 88, ⟨"BoundaryRules", "isClass", "(I)Z"⟩, "BoundaryRules"), ("BoundaryRules$Ways", 33, ⟨"BoundaryRules$Groups", "<init>", "()V"⟩, "BoundaryRules")]
def ga_N (U : State) : Prop := ∀ q ∈ ga_nests, va_Nw (.methodLinkNest q.1 q.2.1 q.2.2.1 q.2.2.2) U
theorem ga_N.same {u U : State} (h : u.vm = U.vm) (hN : ga_N u) : ga_N U := fun q hq => va_Nw.same rfl h (hN q hq)
theorem ga_N.warm {s U : State} (hW : s.WarmedH U.vm) (hN : ga_N s) : ga_N U := fun q hq => va_Nw.warmM hW (hN q hq)
/-- what a walk rests on -/
def ga_R (V : ga_V) (cc : ByteArray) (own nm : String) (Ts : List Cond) (nL : Nat) (R : Room) (G : ga_G) : Prop :=
  ∃ (p : Program) (l : Launch) (e : Env) (s : State) (m : MethodId) (args : Array Value) (below : List Frame) (meth : Method) (c : Code) (A : Nat → Prop) (H0 : Heap) (Q : State → Prop),
    G = ga_At V p l e R s m args below meth c A H0 nL Q ∧ p.tables.exec = Jvm.exec ∧ c.code = cc ∧ c.maxLocals = nL ∧ s.vm.findClass own = some m.cls ∧ meth.name = nm ∧ (∀ w ∈ Ts, w.before args s = true) ∧ va_K V.1 vwCl (ga_ty V) s ∧ ga_N s ∧ (∀ q, H0.size ≤ q → A q)
/-- a method's contract: the answer and the world behind it are as F says -/
def ga_C (V : ga_V) (y : MethodName) (wsY : List Cond) (rm : Room) (av : List Value) (w0 : va_W) (mc ms : Nat) (F : ga_F) : Prop :=
  ∀ (l : Launch) (sz : Nat), Met l y wsY rm (va_Pc av (fun U => U.heap.size = sz ∧ va_P V.1 vwCl w0 U.heap ∧ va_K V.1 vwCl (ga_ty V) U ∧ ga_N U ∧ va_D (fun _ => True) w0))
    (fun _ st oc t => (∃ (v : Option Value) (w : va_W), oc = .returned v ∧ F v w ∧ va_P V.1 vwCl w t.heap ∧ va_D (va_A w0 sz) w) ∧ va_F (va_A w0 sz) st t) mc ms (va_A w0 sz)
def ga_Fi {S : Type} (wl : S → va_W) (post : Int32 → S → Prop) : ga_F := fun v w => ∃ (r : Int32) (u : S), v = some (.int r) ∧ w = wl u ∧ post r u
def ga_Fv {S : Type} (wl : S → va_W) (post : S → Prop) : ga_F := fun v w => ∃ (u : S), v = none ∧ w = wl u ∧ post u
def ga_Fr {S : Type} (wl : S → va_W) (post : Nat → S → Prop) : ga_F := fun v w => ∃ (r : Nat) (u : S), v = some (.ref r) ∧ w = wl u ∧ post r u
/-- the same cells, at the same addresses -/
def ga_Same (w0 : va_W) (F : ga_F) : Prop := ∀ v w, F v w → w.map Prod.fst = w0.map Prod.fst
theorem ga_same_i {S : Type} {w0 : va_W} {wl : S → va_W} {post : Int32 → S → Prop} (h : ∀ u, (wl u).map Prod.fst = w0.map Prod.fst) : ga_Same w0 (ga_Fi wl post) := by
  rintro v w ⟨r, u, -, rfl, -⟩
  exact h u
theorem ga_same_v {S : Type} {w0 : va_W} {wl : S → va_W} {post : S → Prop} (h : ∀ u, (wl u).map Prod.fst = w0.map Prod.fst) : ga_Same w0 (ga_Fv wl post) := by
  rintro v w ⟨u, -, rfl, -⟩
  exact h u
theorem ga_same_r {S : Type} {w0 : va_W} {wl : S → va_W} {post : Nat → S → Prop} (h : ∀ u, (wl u).map Prod.fst = w0.map Prod.fst) : ga_Same w0 (ga_Fr wl post) := by
  rintro v w ⟨r, u, -, rfl, -⟩
  exact h u
/-- cells put in at their places -/
def ga_put : va_W → List Nat → va_W → va_W
  | ws, i :: is, e :: es => ga_put (ws.set i e) is es
  | ws, _, _ => ws
theorem ga_put_get : ∀ (is : List Nat) (es ws : va_W), is.length = es.length → (∀ i ∈ is, i < ws.length) → ∀ j : Nat, (∃ t : Nat, is[t]? = some j ∧ (ga_put ws is es)[j]? = es[t]?) ∨ (j ∉ is ∧ (ga_put ws is es)[j]? = ws[j]?) := by
  intro is
  induction is with
  | nil =>
    intro es ws _ _ j
    refine Or.inr ⟨List.not_mem_nil, ?_⟩
    cases es <;> rfl
  | cons i is ih =>
    intro es ws hl hi j
    cases es with
    | nil => simp at hl
    | cons e es =>
      have hl' : is.length = es.length := by simpa using hl
      have hi' : ∀ x ∈ is, x < (ws.set i e).length := fun x hx => by rw [List.length_set]; exact hi x (List.mem_cons_of_mem _ hx)
      show (∃ t : Nat, (i :: is)[t]? = some j ∧ (ga_put (ws.set i e) is es)[j]? = (e :: es)[t]?) ∨ (j ∉ i :: is ∧ (ga_put (ws.set i e) is es)[j]? = ws[j]?)
      rcases ih es (ws.set i e) hl' hi' j with ⟨t, h1, h2⟩ | ⟨h1, h2⟩
      · exact Or.inl ⟨t + 1, by simpa using h1, by simpa using h2⟩
      · by_cases hij : j = i
        · subst hij
          refine Or.inl ⟨0, by simp, ?_⟩
          rw [h2, List.getElem?_set_self (hi j List.mem_cons_self)]
          simp
        · refine Or.inr ⟨fun h => ?_, ?_⟩
          · rcases List.mem_cons.mp h with h | h
            · exact hij h
            · exact h1 h
          · rw [h2, List.getElem?_set_ne (Ne.symm hij)]
theorem ga_map_get {ws wc : va_W} {is : List Nat} (h : is.map (fun i => ws[i]?) = wc.map some) {t i : Nat} (hi : is[t]? = some i) : ∃ q, ws[i]? = some q ∧ wc[t]? = some q := by
  have h1 : (is.map (fun i => ws[i]?))[t]? = (wc.map some)[t]? := by rw [h]
  rw [List.getElem?_map, List.getElem?_map, hi] at h1
  cases hq : wc[t]? with
  | none => rw [hq] at h1; cases h1
  | some q => rw [hq] at h1; exact ⟨q, Option.some.inj h1, rfl⟩
theorem ga_map_get2 {ws wc : va_W} {is : List Nat} (h : is.map (fun i => ws[i]?) = wc.map some) {t : Nat} {q : Nat × va_E} (hq : wc[t]? = some q) : ∃ i, is[t]? = some i ∧ ws[i]? = some q := by
  have h1 : (is.map (fun i => ws[i]?))[t]? = (wc.map some)[t]? := by rw [h]
  rw [List.getElem?_map, List.getElem?_map, hq] at h1
  cases hi : is[t]? with
  | none => rw [hi] at h1; cases h1
  | some i => rw [hi] at h1; exact ⟨i, rfl, Option.some.inj h1⟩
theorem ga_join {A0 : Nat → Prop} {D : va_G} {cl : List vw_C} {ws wc w1 : va_W} {H H1 : Heap} {is : List Nat} (hP : va_P D cl ws H) (hD : va_D A0 ws) (hC : is.map (fun i => ws[i]?) = wc.map some) (hw : w1.map Prod.fst = wc.map Prod.fst)
    (hk : ∀ q : Nat, q < H.size → ¬ va_A wc H.size q → H1[q]? = H[q]?) (hP1 : va_P D cl w1 H1) : va_P D cl (ga_put ws is w1) H1 ∧ va_D A0 (ga_put ws is w1) := by
  have hlen : is.length = w1.length := by
    have h1 : is.length = wc.length := by simpa using congrArg List.length hC
    have h2 : w1.length = wc.length := by simpa using congrArg List.length hw
    rw [h1, h2]
  have hlt : ∀ i ∈ is, i < ws.length := by
    intro i hi
    obtain ⟨t, ht⟩ := List.getElem?_of_mem hi
    obtain ⟨q, h1, -⟩ := ga_map_get hC ht
    exact (List.getElem?_eq_some_iff.mp h1).1
  have hadr : ∀ (j : Nat) (q : Nat × va_E), (ga_put ws is w1)[j]? = some q → ∃ q' : Nat × va_E, ws[j]? = some q' ∧ q'.1 = q.1 := by
    intro j q hq
    rcases ga_put_get is w1 ws hlen hlt j with ⟨t, h1, h2⟩ | ⟨h1, h2⟩
    · rw [h2] at hq
      obtain ⟨q', h3, h4⟩ := ga_map_get hC h1
      refine ⟨q', h3, ?_⟩
      have h5 : (w1.map Prod.fst)[t]? = (wc.map Prod.fst)[t]? := by rw [hw]
      rw [List.getElem?_map, List.getElem?_map, hq, h4] at h5
      exact (Option.some.inj h5).symm
    · rw [h2] at hq
      exact ⟨q, hq, rfl⟩
  refine ⟨fun j q hq => ?_, ⟨fun i j x y hx hy hxy => ?_, fun j q hq => ?_⟩⟩
  · rcases ga_put_get is w1 ws hlen hlt j with ⟨t, h1, h2⟩ | ⟨h1, h2⟩
    · rw [h2] at hq
      exact hP1 t q hq
    · rw [h2] at hq
      have hl := (hP j q hq).lt
      refine (hP j q hq).kept (hk q.1 hl (fun h => ?_))
      rcases h with ⟨t, e, h⟩ | h
      · obtain ⟨i, h3, h4⟩ := ga_map_get2 hC h
        have hij := hD.1 j i q (q.1, e) hq h4 rfl
        subst hij
        exact h1 (List.mem_of_getElem? h3)
      · omega
  · obtain ⟨x', h1, h2⟩ := hadr i x hx
    obtain ⟨y', h3, h4⟩ := hadr j y hy
    exact hD.1 i j x' y' h1 h3 (by rw [h2, h4, hxy])
  · obtain ⟨q', h1, h2⟩ := hadr j q hq
    rw [← h2]
    exact hD.2 j q' h1
theorem ga_subD {A : Nat → Prop} {ws wc : va_W} {is : List Nat} (hD : va_D A ws) (hC : is.map (fun i => ws[i]?) = wc.map some) (hn : va_nd is = true) : va_D (fun _ => True) wc := (hD.sub is hn hC).weaken (fun _ _ _ _ => trivial)
theorem ga_subP {D : va_G} {cl : List vw_C} {H : Heap} {ws wc : va_W} {is : List Nat} (hP : va_P D cl ws H) (hC : is.map (fun i => ws[i]?) = wc.map some) : va_P D cl wc H := by
  intro t q hq
  obtain ⟨i, -, h2⟩ := ga_map_get2 hC hq
  exact hP i q h2
theorem ga_cast {G : ga_G} {k n pc : Nat} {ws ws' : va_W} {lv lv' : ga_L} {st : List Value} (hw : ws = ws') (hl : lv = lv') (h : G k n ws' pc lv' st) : G k n ws pc lv st := by
  subst hw; subst hl; exact h
theorem ga_topi {G : ga_G} {k n pc : Nat} {ws : va_W} {lv : ga_L} {st : List Value} {x : Int32} (kk : ∀ y : Int32, y = x → G k n ws pc lv (.int y :: st)) : G k n ws pc lv (.int x :: st) := kk x rfl
theorem ga_topl {G : ga_G} {k n pc : Nat} {ws : va_W} {lv : ga_L} {st : List Value} {x : Int64} (kk : ∀ y : Int64, y = x → G k n ws pc lv (.long y :: st)) : G k n ws pc lv (.long x :: st) := kk x rfl
section GA
variable {V : ga_V} {cc : ByteArray} {own nm : String} {Ts : List Cond} {nL : Nat} {R : Room} {G : ga_G} {k n pc : Nat} {ws ws' : va_W} {lv lv' : ga_L} {st : List Value}
theorem ga_iconst (hR : ga_R V cc own nm Ts nL R G) {z : Int} {v : Int32} (hv : Int32.ofInt z = v) (hd : decode cc pc = .ok (.iconst z, 1)) (kk : G k n ws (pc + 1) lv (.int v :: st)) : G k n ws pc lv st := by
  obtain ⟨p, l, e, s, m, args, below, meth, c, A, H0, Q, rfl, hx, hb, hml, hown, hnm, hts, hK, hN, hA⟩ := hR
  exact fun H locs ls hP hD hS hl => lv_iconst hx hb hd hv (kk H locs ls hP hD hS hl)
theorem ga_bipush (hR : ga_R V cc own nm Ts nL R G) {z : Int} {v : Int32} (hv : (Int8.ofInt z).toInt32 = v) (hd : decode cc pc = .ok (.bipush z, 2)) (kk : G k n ws (pc + 2) lv (.int v :: st)) : G k n ws pc lv st := by
  obtain ⟨p, l, e, s, m, args, below, meth, c, A, H0, Q, rfl, hx, hb, hml, hown, hnm, hts, hK, hN, hA⟩ := hR
  exact fun H locs ls hP hD hS hl => lv_bipush hx hb hd hv (kk H locs ls hP hD hS hl)
theorem ga_sipush (hR : ga_R V cc own nm Ts nL R G) {z : Int} {v : Int32} (hv : (Int16.ofInt z).toInt32 = v) (hd : decode cc pc = .ok (.sipush z, 3)) (kk : G k n ws (pc + 3) lv (.int v :: st)) : G k n ws pc lv st := by
  obtain ⟨p, l, e, s, m, args, below, meth, c, A, H0, Q, rfl, hx, hb, hml, hown, hnm, hts, hK, hN, hA⟩ := hR
  exact fun H locs ls hP hD hS hl => lv_sipush hx hb hd hv (kk H locs ls hP hD hS hl)
theorem ga_lconst (hR : ga_R V cc own nm Ts nL R G) {z : Fin 2} {v : Int64} (hv : Int64.ofNat (z : Nat) = v) (hd : decode cc pc = .ok (.lconst z, 1)) (kk : G k n ws (pc + 1) lv (.long v :: st)) : G k n ws pc lv st := by
  obtain ⟨p, l, e, s, m, args, below, meth, c, A, H0, Q, rfl, hx, hb, hml, hown, hnm, hts, hK, hN, hA⟩ := hR
  exact fun H locs ls hP hD hS hl => lv_lconst hx hb hd hv (kk H locs ls hP hD hS hl)
theorem ga_ldc2 (hR : ga_R V cc own nm Ts nL R G) {ix : Nat} {v : Int64} (hc : Cond.constantLong own ix v ∈ Ts) (hd : decode cc pc = .ok (.ldc2_w ix, 3)) (kk : G k n ws (pc + 3) lv (.long v :: st)) : G k n ws pc lv st := by
  obtain ⟨p, l, e, s, m, args, below, meth, c, A, H0, Q, rfl, hx, hb, hml, hown, hnm, hts, hK, hN, hA⟩ := hR
  exact fun H locs ls hP hD hS hl => lv_ldc2 hx hb hown (hts _ hc) hd (kk H locs ls hP hD hS hl)
theorem ga_ldcw (hR : ga_R V cc own nm Ts nL R G) {ix : Nat} {v : Int32} (hc : Cond.constant own ix v ∈ Ts) (hd : decode cc pc = .ok (.ldc_w ix, 3)) (kk : G k n ws (pc + 3) lv (.int v :: st)) : G k n ws pc lv st := by
  obtain ⟨p, l, e, s, m, args, below, meth, c, A, H0, Q, rfl, hx, hb, hml, hown, hnm, hts, hK, hN, hA⟩ := hR
  exact fun H locs ls hP hD hS hl => lv_ldcw hx hb hown (hts _ hc) hd (kk H locs ls hP hD hS hl)
theorem ga_ldci (hR : ga_R V cc own nm Ts nL R G) {ix : Nat} {v : Int32} (hc : Cond.constant own ix v ∈ Ts) (hd : decode cc pc = .ok (.ldc ix, 2)) (kk : G k n ws (pc + 2) lv (.int v :: st)) : G k n ws pc lv st := by
  obtain ⟨p, l, e, s, m, args, below, meth, c, A, H0, Q, rfl, hx, hb, hml, hown, hnm, hts, hK, hN, hA⟩ := hR
  exact fun H locs ls hP hD hS hl => lv_ldc hx hb hown (hts _ hc) hd (kk H locs ls hP hD hS hl)
theorem ga_iload_n (hR : ga_R V cc own nm Ts nL R G) (k0 : Nat) {kf : Fin 4} {i : Nat} {x : Int32} (hi : (kf : Nat) = i) (hlv : lv[k0]? = some (i, .int x)) (hd : decode cc pc = .ok (.iload_n kf, 1)) (kk : G k n ws (pc + 1) lv (.int x :: st)) : G k n ws pc lv st := by
  obtain ⟨p, l, e, s, m, args, below, meth, c, A, H0, Q, rfl, hx, hb, hml, hown, hnm, hts, hK, hN, hA⟩ := hR
  exact fun H locs ls hP hD hS hl => lv_iload_n hx hb hd hi (lv_at hl k0 hlv) (kk H locs ls hP hD hS hl)
theorem ga_iload (hR : ga_R V cc own nm Ts nL R G) (k0 : Nat) {i : Nat} {x : Int32} (hlv : lv[k0]? = some (i, .int x)) (hd : decode cc pc = .ok (.iload i, 2)) (kk : G k n ws (pc + 2) lv (.int x :: st)) : G k n ws pc lv st := by
  obtain ⟨p, l, e, s, m, args, below, meth, c, A, H0, Q, rfl, hx, hb, hml, hown, hnm, hts, hK, hN, hA⟩ := hR
  exact fun H locs ls hP hD hS hl => lv_iload hx hb hd (lv_at hl k0 hlv) (kk H locs ls hP hD hS hl)
theorem ga_istore_n (hR : ga_R V cc own nm Ts nL R G) {kf : Fin 4} {i : Nat} {x : Int32} (hi : (kf : Nat) = i) (hn : i < nL) (hlv : (i, Value.int x) :: lv.filter (fun q => !(q.1 == i) && !(q.1 + 1 == i && q.2.category == 2)) = lv') (hd : decode cc pc = .ok (.istore_n kf, 1)) (kk : G k n ws (pc + 1) lv' st) : G k n ws pc lv (.int x :: st) := by
  obtain ⟨p, l, e, s, m, args, below, meth, c, A, H0, Q, rfl, hx, hb, hml, hown, hnm, hts, hK, hN, hA⟩ := hR
  exact fun H locs ls hP hD hS hl => lv_istore_n hx hb hd hi hl hn hlv (fun ls hl => kk H locs ls hP hD hS hl)
theorem ga_istore (hR : ga_R V cc own nm Ts nL R G) {i : Nat} {x : Int32} (hn : i < nL) (hlv : (i, Value.int x) :: lv.filter (fun q => !(q.1 == i) && !(q.1 + 1 == i && q.2.category == 2)) = lv') (hd : decode cc pc = .ok (.istore i, 2)) (kk : G k n ws (pc + 2) lv' st) : G k n ws pc lv (.int x :: st) := by
  obtain ⟨p, l, e, s, m, args, below, meth, c, A, H0, Q, rfl, hx, hb, hml, hown, hnm, hts, hK, hN, hA⟩ := hR
  exact fun H locs ls hP hD hS hl => lv_istore hx hb hd hl hn hlv (fun ls hl => kk H locs ls hP hD hS hl)
theorem ga_lload_n (hR : ga_R V cc own nm Ts nL R G) (k0 : Nat) {kf : Fin 4} {i : Nat} {x : Int64} (hi : (kf : Nat) = i) (hlv : lv[k0]? = some (i, .long x)) (hd : decode cc pc = .ok (.lload_n kf, 1)) (kk : G k n ws (pc + 1) lv (.long x :: st)) : G k n ws pc lv st := by
  obtain ⟨p, l, e, s, m, args, below, meth, c, A, H0, Q, rfl, hx, hb, hml, hown, hnm, hts, hK, hN, hA⟩ := hR
  exact fun H locs ls hP hD hS hl => lv_lload_n hx hb hd hi (lv_at hl k0 hlv) (kk H locs ls hP hD hS hl)
theorem ga_lload (hR : ga_R V cc own nm Ts nL R G) (k0 : Nat) {i : Nat} {x : Int64} (hlv : lv[k0]? = some (i, .long x)) (hd : decode cc pc = .ok (.lload i, 2)) (kk : G k n ws (pc + 2) lv (.long x :: st)) : G k n ws pc lv st := by
  obtain ⟨p, l, e, s, m, args, below, meth, c, A, H0, Q, rfl, hx, hb, hml, hown, hnm, hts, hK, hN, hA⟩ := hR
  exact fun H locs ls hP hD hS hl => lv_lload hx hb hd (lv_at hl k0 hlv) (kk H locs ls hP hD hS hl)
theorem ga_lstore_n (hR : ga_R V cc own nm Ts nL R G) {kf : Fin 4} {i : Nat} {x : Int64} (hi : (kf : Nat) = i) (hn : i + 1 < nL) (hlv : (i, Value.long x) :: lv.filter (fun q => !(q.1 == i) && (!(q.1 == i + 1) && !(q.1 + 1 == i && q.2.category == 2))) = lv') (hd : decode cc pc = .ok (.lstore_n kf, 1)) (kk : G k n ws (pc + 1) lv' st) : G k n ws pc lv (.long x :: st) := by
  obtain ⟨p, l, e, s, m, args, below, meth, c, A, H0, Q, rfl, hx, hb, hml, hown, hnm, hts, hK, hN, hA⟩ := hR
  exact fun H locs ls hP hD hS hl => lv_lstore_n hx hb hd hi hl hn hlv (fun ls hl => kk H locs ls hP hD hS hl)
theorem ga_lstore (hR : ga_R V cc own nm Ts nL R G) {i : Nat} {x : Int64} (hn : i + 1 < nL) (hlv : (i, Value.long x) :: lv.filter (fun q => !(q.1 == i) && (!(q.1 == i + 1) && !(q.1 + 1 == i && q.2.category == 2))) = lv') (hd : decode cc pc = .ok (.lstore i, 2)) (kk : G k n ws (pc + 2) lv' st) : G k n ws pc lv (.long x :: st) := by
  obtain ⟨p, l, e, s, m, args, below, meth, c, A, H0, Q, rfl, hx, hb, hml, hown, hnm, hts, hK, hN, hA⟩ := hR
  exact fun H locs ls hP hD hS hl => lv_lstore hx hb hd hl hn hlv (fun ls hl => kk H locs ls hP hD hS hl)
theorem ga_aload_n (hR : ga_R V cc own nm Ts nL R G) (k0 : Nat) {kf : Fin 4} {i : Nat} {x : Nat} (hi : (kf : Nat) = i) (hlv : lv[k0]? = some (i, .ref x)) (hd : decode cc pc = .ok (.aload_n kf, 1)) (kk : G k n ws (pc + 1) lv (.ref x :: st)) : G k n ws pc lv st := by
  obtain ⟨p, l, e, s, m, args, below, meth, c, A, H0, Q, rfl, hx, hb, hml, hown, hnm, hts, hK, hN, hA⟩ := hR
  exact fun H locs ls hP hD hS hl => lv_aload_n hx hb hd hi (lv_at hl k0 hlv) (kk H locs ls hP hD hS hl)
theorem ga_aload (hR : ga_R V cc own nm Ts nL R G) (k0 : Nat) {i : Nat} {x : Nat} (hlv : lv[k0]? = some (i, .ref x)) (hd : decode cc pc = .ok (.aload i, 2)) (kk : G k n ws (pc + 2) lv (.ref x :: st)) : G k n ws pc lv st := by
  obtain ⟨p, l, e, s, m, args, below, meth, c, A, H0, Q, rfl, hx, hb, hml, hown, hnm, hts, hK, hN, hA⟩ := hR
  exact fun H locs ls hP hD hS hl => lv_aload hx hb hd (lv_at hl k0 hlv) (kk H locs ls hP hD hS hl)
theorem ga_astore_n (hR : ga_R V cc own nm Ts nL R G) {kf : Fin 4} {i : Nat} {x : Nat} (hi : (kf : Nat) = i) (hn : i < nL) (hlv : (i, Value.ref x) :: lv.filter (fun q => !(q.1 == i) && !(q.1 + 1 == i && q.2.category == 2)) = lv') (hd : decode cc pc = .ok (.astore_n kf, 1)) (kk : G k n ws (pc + 1) lv' st) : G k n ws pc lv (.ref x :: st) := by
  obtain ⟨p, l, e, s, m, args, below, meth, c, A, H0, Q, rfl, hx, hb, hml, hown, hnm, hts, hK, hN, hA⟩ := hR
  exact fun H locs ls hP hD hS hl => lv_astore_n hx hb hd hi hl hn hlv (fun ls hl => kk H locs ls hP hD hS hl)
theorem ga_astore (hR : ga_R V cc own nm Ts nL R G) {i : Nat} {x : Nat} (hn : i < nL) (hlv : (i, Value.ref x) :: lv.filter (fun q => !(q.1 == i) && !(q.1 + 1 == i && q.2.category == 2)) = lv') (hd : decode cc pc = .ok (.astore i, 2)) (kk : G k n ws (pc + 2) lv' st) : G k n ws pc lv (.ref x :: st) := by
  obtain ⟨p, l, e, s, m, args, below, meth, c, A, H0, Q, rfl, hx, hb, hml, hown, hnm, hts, hK, hN, hA⟩ := hR
  exact fun H locs ls hP hD hS hl => lv_astore hx hb hd hl hn hlv (fun ls hl => kk H locs ls hP hD hS hl)
theorem ga_iinc (hR : ga_R V cc own nm Ts nL R G) (k0 : Nat) {i : Nat} {z : Int} {x v d : Int32} (hz : Int32.ofInt z = d) (h0 : lv[k0]? = some (i, .int x)) (hv : v = x + d) (hn : i < nL) (hlv : (i, Value.int v) :: lv.filter (fun q => !(q.1 == i) && !(q.1 + 1 == i && q.2.category == 2)) = lv') (hd : decode cc pc = .ok (.iinc i z, 3)) (kk : G k n ws (pc + 3) lv' st) : G k n ws pc lv st := by
  obtain ⟨p, l, e, s, m, args, below, meth, c, A, H0, Q, rfl, hx, hb, hml, hown, hnm, hts, hK, hN, hA⟩ := hR
  exact fun H locs ls hP hD hS hl => lv_iinc hx hb hd hl h0 (by rw [hz, hv]) hn hlv (fun ls hl => kk H locs ls hP hD hS hl)
theorem ga_lv (hR : ga_R V cc own nm Ts nL R G) (ks : List Nat) (hlv : lv_pick lv ks = lv') (kk : G k n ws pc lv' st) : G k n ws pc lv st := by
  obtain ⟨p, l, e, s, m, args, below, meth, c, A, H0, Q, rfl, hx, hb, hml, hown, hnm, hts, hK, hN, hA⟩ := hR
  exact fun H locs ls hP hD hS hl => kk H locs ls hP hD hS (lv_sub hl ks hlv)
theorem ga_iadd (hR : ga_R V cc own nm Ts nL R G) {x y : Int32} (hd : decode cc pc = .ok (.iadd, 1)) (kk : G k n ws (pc + 1) lv (.int (x + y) :: st)) : G k n ws pc lv (.int y :: .int x :: st) := by
  obtain ⟨p, l, e, s, m, args, below, meth, c, A, H0, Q, rfl, hx, hb, hml, hown, hnm, hts, hK, hN, hA⟩ := hR
  exact fun H locs ls hP hD hS hl => lv_iadd hx hb hd (kk H locs ls hP hD hS hl)
theorem ga_ladd (hR : ga_R V cc own nm Ts nL R G) {x y : Int64} (hd : decode cc pc = .ok (.ladd, 1)) (kk : G k n ws (pc + 1) lv (.long (x + y) :: st)) : G k n ws pc lv (.long y :: .long x :: st) := by
  obtain ⟨p, l, e, s, m, args, below, meth, c, A, H0, Q, rfl, hx, hb, hml, hown, hnm, hts, hK, hN, hA⟩ := hR
  exact fun H locs ls hP hD hS hl => lv_ladd hx hb hd (kk H locs ls hP hD hS hl)
theorem ga_isub (hR : ga_R V cc own nm Ts nL R G) {x y : Int32} (hd : decode cc pc = .ok (.isub, 1)) (kk : G k n ws (pc + 1) lv (.int (x - y) :: st)) : G k n ws pc lv (.int y :: .int x :: st) := by
  obtain ⟨p, l, e, s, m, args, below, meth, c, A, H0, Q, rfl, hx, hb, hml, hown, hnm, hts, hK, hN, hA⟩ := hR
  exact fun H locs ls hP hD hS hl => lv_isub hx hb hd (kk H locs ls hP hD hS hl)
theorem ga_lsub (hR : ga_R V cc own nm Ts nL R G) {x y : Int64} (hd : decode cc pc = .ok (.lsub, 1)) (kk : G k n ws (pc + 1) lv (.long (x - y) :: st)) : G k n ws pc lv (.long y :: .long x :: st) := by
  obtain ⟨p, l, e, s, m, args, below, meth, c, A, H0, Q, rfl, hx, hb, hml, hown, hnm, hts, hK, hN, hA⟩ := hR
  exact fun H locs ls hP hD hS hl => lv_lsub hx hb hd (kk H locs ls hP hD hS hl)
theorem ga_imul (hR : ga_R V cc own nm Ts nL R G) {x y : Int32} (hd : decode cc pc = .ok (.imul, 1)) (kk : G k n ws (pc + 1) lv (.int (x * y) :: st)) : G k n ws pc lv (.int y :: .int x :: st) := by
  obtain ⟨p, l, e, s, m, args, below, meth, c, A, H0, Q, rfl, hx, hb, hml, hown, hnm, hts, hK, hN, hA⟩ := hR
  exact fun H locs ls hP hD hS hl => lv_imul hx hb hd (kk H locs ls hP hD hS hl)
theorem ga_lmul (hR : ga_R V cc own nm Ts nL R G) {x y : Int64} (hd : decode cc pc = .ok (.lmul, 1)) (kk : G k n ws (pc + 1) lv (.long (x * y) :: st)) : G k n ws pc lv (.long y :: .long x :: st) := by
  obtain ⟨p, l, e, s, m, args, below, meth, c, A, H0, Q, rfl, hx, hb, hml, hown, hnm, hts, hK, hN, hA⟩ := hR
  exact fun H locs ls hP hD hS hl => lv_lmul hx hb hd (kk H locs ls hP hD hS hl)
theorem ga_iand (hR : ga_R V cc own nm Ts nL R G) {x y : Int32} (hd : decode cc pc = .ok (.iand, 1)) (kk : G k n ws (pc + 1) lv (.int (x &&& y) :: st)) : G k n ws pc lv (.int y :: .int x :: st) := by
  obtain ⟨p, l, e, s, m, args, below, meth, c, A, H0, Q, rfl, hx, hb, hml, hown, hnm, hts, hK, hN, hA⟩ := hR
  exact fun H locs ls hP hD hS hl => lv_iand hx hb hd (kk H locs ls hP hD hS hl)
theorem ga_land (hR : ga_R V cc own nm Ts nL R G) {x y : Int64} (hd : decode cc pc = .ok (.land, 1)) (kk : G k n ws (pc + 1) lv (.long (x &&& y) :: st)) : G k n ws pc lv (.long y :: .long x :: st) := by
  obtain ⟨p, l, e, s, m, args, below, meth, c, A, H0, Q, rfl, hx, hb, hml, hown, hnm, hts, hK, hN, hA⟩ := hR
  exact fun H locs ls hP hD hS hl => lv_land hx hb hd (kk H locs ls hP hD hS hl)
theorem ga_ior (hR : ga_R V cc own nm Ts nL R G) {x y : Int32} (hd : decode cc pc = .ok (.ior, 1)) (kk : G k n ws (pc + 1) lv (.int (x ||| y) :: st)) : G k n ws pc lv (.int y :: .int x :: st) := by
  obtain ⟨p, l, e, s, m, args, below, meth, c, A, H0, Q, rfl, hx, hb, hml, hown, hnm, hts, hK, hN, hA⟩ := hR
  exact fun H locs ls hP hD hS hl => lv_ior hx hb hd (kk H locs ls hP hD hS hl)
theorem ga_lor (hR : ga_R V cc own nm Ts nL R G) {x y : Int64} (hd : decode cc pc = .ok (.lor, 1)) (kk : G k n ws (pc + 1) lv (.long (x ||| y) :: st)) : G k n ws pc lv (.long y :: .long x :: st) := by
  obtain ⟨p, l, e, s, m, args, below, meth, c, A, H0, Q, rfl, hx, hb, hml, hown, hnm, hts, hK, hN, hA⟩ := hR
  exact fun H locs ls hP hD hS hl => lv_lor hx hb hd (kk H locs ls hP hD hS hl)
theorem ga_ixor (hR : ga_R V cc own nm Ts nL R G) {x y : Int32} (hd : decode cc pc = .ok (.ixor, 1)) (kk : G k n ws (pc + 1) lv (.int (x ^^^ y) :: st)) : G k n ws pc lv (.int y :: .int x :: st) := by
  obtain ⟨p, l, e, s, m, args, below, meth, c, A, H0, Q, rfl, hx, hb, hml, hown, hnm, hts, hK, hN, hA⟩ := hR
  exact fun H locs ls hP hD hS hl => lv_ixor hx hb hd (kk H locs ls hP hD hS hl)
theorem ga_lxor (hR : ga_R V cc own nm Ts nL R G) {x y : Int64} (hd : decode cc pc = .ok (.lxor, 1)) (kk : G k n ws (pc + 1) lv (.long (x ^^^ y) :: st)) : G k n ws pc lv (.long y :: .long x :: st) := by
  obtain ⟨p, l, e, s, m, args, below, meth, c, A, H0, Q, rfl, hx, hb, hml, hown, hnm, hts, hK, hN, hA⟩ := hR
  exact fun H locs ls hP hD hS hl => lv_lxor hx hb hd (kk H locs ls hP hD hS hl)
theorem ga_idiv (hR : ga_R V cc own nm Ts nL R G) {x y : Int32} (hne : ¬ y = 0) (hd : decode cc pc = .ok (.idiv, 1)) (kk : G k n ws (pc + 1) lv (.int (x / y) :: st)) : G k n ws pc lv (.int y :: .int x :: st) := by
  obtain ⟨p, l, e, s, m, args, below, meth, c, A, H0, Q, rfl, hx, hb, hml, hown, hnm, hts, hK, hN, hA⟩ := hR
  exact fun H locs ls hP hD hS hl => lv_idiv hx hb hd hne (kk H locs ls hP hD hS hl)
theorem ga_irem (hR : ga_R V cc own nm Ts nL R G) {x y : Int32} (hne : ¬ y = 0) (hd : decode cc pc = .ok (.irem, 1)) (kk : G k n ws (pc + 1) lv (.int (x - x / y * y) :: st)) : G k n ws pc lv (.int y :: .int x :: st) := by
  obtain ⟨p, l, e, s, m, args, below, meth, c, A, H0, Q, rfl, hx, hb, hml, hown, hnm, hts, hK, hN, hA⟩ := hR
  exact fun H locs ls hP hD hS hl => lv_irem hx hb hd hne (kk H locs ls hP hD hS hl)
theorem ga_ldiv (hR : ga_R V cc own nm Ts nL R G) {x y : Int64} (hne : ¬ y = 0) (hd : decode cc pc = .ok (.ldiv, 1)) (kk : G k n ws (pc + 1) lv (.long (x / y) :: st)) : G k n ws pc lv (.long y :: .long x :: st) := by
  obtain ⟨p, l, e, s, m, args, below, meth, c, A, H0, Q, rfl, hx, hb, hml, hown, hnm, hts, hK, hN, hA⟩ := hR
  exact fun H locs ls hP hD hS hl => lv_ldiv hx hb hd hne (kk H locs ls hP hD hS hl)
theorem ga_lrem (hR : ga_R V cc own nm Ts nL R G) {x y : Int64} (hne : ¬ y = 0) (hd : decode cc pc = .ok (.lrem, 1)) (kk : G k n ws (pc + 1) lv (.long (x - x / y * y) :: st)) : G k n ws pc lv (.long y :: .long x :: st) := by
  obtain ⟨p, l, e, s, m, args, below, meth, c, A, H0, Q, rfl, hx, hb, hml, hown, hnm, hts, hK, hN, hA⟩ := hR
  exact fun H locs ls hP hD hS hl => lv_lrem hx hb hd hne (kk H locs ls hP hD hS hl)
theorem ga_ineg (hR : ga_R V cc own nm Ts nL R G) {x : Int32} (hd : decode cc pc = .ok (.ineg, 1)) (kk : G k n ws (pc + 1) lv (.int (-x) :: st)) : G k n ws pc lv (.int x :: st) := by
  obtain ⟨p, l, e, s, m, args, below, meth, c, A, H0, Q, rfl, hx, hb, hml, hown, hnm, hts, hK, hN, hA⟩ := hR
  exact fun H locs ls hP hD hS hl => lv_ineg hx hb hd (kk H locs ls hP hD hS hl)
theorem ga_ishl (hR : ga_R V cc own nm Ts nL R G) {x y : Int32} (hd : decode cc pc = .ok (.ishl, 1)) (kk : G k n ws (pc + 1) lv (.int (x <<< (y &&& 31)) :: st)) : G k n ws pc lv (.int y :: .int x :: st) := by
  obtain ⟨p, l, e, s, m, args, below, meth, c, A, H0, Q, rfl, hx, hb, hml, hown, hnm, hts, hK, hN, hA⟩ := hR
  exact fun H locs ls hP hD hS hl => lv_ishl hx hb hd (kk H locs ls hP hD hS hl)
theorem ga_ishr (hR : ga_R V cc own nm Ts nL R G) {x y : Int32} (hd : decode cc pc = .ok (.ishr, 1)) (kk : G k n ws (pc + 1) lv (.int (x >>> (y &&& 31)) :: st)) : G k n ws pc lv (.int y :: .int x :: st) := by
  obtain ⟨p, l, e, s, m, args, below, meth, c, A, H0, Q, rfl, hx, hb, hml, hown, hnm, hts, hK, hN, hA⟩ := hR
  exact fun H locs ls hP hD hS hl => lv_ishr hx hb hd (kk H locs ls hP hD hS hl)
theorem ga_iushr (hR : ga_R V cc own nm Ts nL R G) {x y : Int32} (hd : decode cc pc = .ok (.iushr, 1)) (kk : G k n ws (pc + 1) lv (.int ((x.toUInt32 >>> (y.toUInt32 &&& Int32.toUInt32 31)).toInt32) :: st)) : G k n ws pc lv (.int y :: .int x :: st) := by
  obtain ⟨p, l, e, s, m, args, below, meth, c, A, H0, Q, rfl, hx, hb, hml, hown, hnm, hts, hK, hN, hA⟩ := hR
  exact fun H locs ls hP hD hS hl => lv_iushr hx hb hd rfl (kk H locs ls hP hD hS hl)
theorem ga_i2l (hR : ga_R V cc own nm Ts nL R G) {x : Int32} (hd : decode cc pc = .ok (.i2l, 1)) (kk : G k n ws (pc + 1) lv (.long x.toInt64 :: st)) : G k n ws pc lv (.int x :: st) := by
  obtain ⟨p, l, e, s, m, args, below, meth, c, A, H0, Q, rfl, hx, hb, hml, hown, hnm, hts, hK, hN, hA⟩ := hR
  exact fun H locs ls hP hD hS hl => lv_i2l hx hb hd rfl (kk H locs ls hP hD hS hl)
theorem ga_l2i (hR : ga_R V cc own nm Ts nL R G) {x : Int64} (hd : decode cc pc = .ok (.l2i, 1)) (kk : G k n ws (pc + 1) lv (.int x.toInt32 :: st)) : G k n ws pc lv (.long x :: st) := by
  obtain ⟨p, l, e, s, m, args, below, meth, c, A, H0, Q, rfl, hx, hb, hml, hown, hnm, hts, hK, hN, hA⟩ := hR
  exact fun H locs ls hP hD hS hl => lv_l2i hx hb hd rfl (kk H locs ls hP hD hS hl)
theorem ga_i2b (hR : ga_R V cc own nm Ts nL R G) {x : Int32} (hd : decode cc pc = .ok (.i2b, 1)) (kk : G k n ws (pc + 1) lv (.int x.toInt8.toInt32 :: st)) : G k n ws pc lv (.int x :: st) := by
  obtain ⟨p, l, e, s, m, args, below, meth, c, A, H0, Q, rfl, hx, hb, hml, hown, hnm, hts, hK, hN, hA⟩ := hR
  exact fun H locs ls hP hD hS hl => lv_i2b hx hb hd rfl (kk H locs ls hP hD hS hl)
theorem ga_i2c (hR : ga_R V cc own nm Ts nL R G) {x : Int32} (hd : decode cc pc = .ok (.i2c, 1)) (kk : G k n ws (pc + 1) lv (.int (x.toUInt32 % 65536).toInt32 :: st)) : G k n ws pc lv (.int x :: st) := by
  obtain ⟨p, l, e, s, m, args, below, meth, c, A, H0, Q, rfl, hx, hb, hml, hown, hnm, hts, hK, hN, hA⟩ := hR
  exact fun H locs ls hP hD hS hl => lv_i2c hx hb hd rfl (kk H locs ls hP hD hS hl)
theorem ga_lcmp (hR : ga_R V cc own nm Ts nL R G) {x y : Int64} (hd : decode cc pc = .ok (.lcmp, 1)) (kk : G k n ws (pc + 1) lv (.int (lg_cmp x y) :: st)) : G k n ws pc lv (.long y :: .long x :: st) := by
  obtain ⟨p, l, e, s, m, args, below, meth, c, A, H0, Q, rfl, hx, hb, hml, hown, hnm, hts, hK, hN, hA⟩ := hR
  exact fun H locs ls hP hD hS hl => W.lcmp hx hb hd (kk H locs ls hP hD hS hl)
theorem ga_dup (hR : ga_R V cc own nm Ts nL R G) {va : Value} (hva : va.category = 1) (hd : decode cc pc = .ok (.dup, 1)) (kk : G k n ws (pc + 1) lv (va :: va :: st)) : G k n ws pc lv (va :: st) := by
  obtain ⟨p, l, e, s, m, args, below, meth, c, A, H0, Q, rfl, hx, hb, hml, hown, hnm, hts, hK, hN, hA⟩ := hR
  exact fun H locs ls hP hD hS hl => lv_dup hx hb hd hva (kk H locs ls hP hD hS hl)
theorem ga_pop (hR : ga_R V cc own nm Ts nL R G) {va : Value} (hva : va.category = 1) (hd : decode cc pc = .ok (.pop, 1)) (kk : G k n ws (pc + 1) lv st) : G k n ws pc lv (va :: st) := by
  obtain ⟨p, l, e, s, m, args, below, meth, c, A, H0, Q, rfl, hx, hb, hml, hown, hnm, hts, hK, hN, hA⟩ := hR
  exact fun H locs ls hP hD hS hl => lv_pop hx hb hd hva (kk H locs ls hP hD hS hl)
theorem ga_dup2 (hR : ga_R V cc own nm Ts nL R G) {va vb : Value} (hva : va.category = 1) (hvb : vb.category = 1) (hd : decode cc pc = .ok (.dup2, 1)) (kk : G k n ws (pc + 1) lv (va :: vb :: va :: vb :: st)) : G k n ws pc lv (va :: vb :: st) := by
  obtain ⟨p, l, e, s, m, args, below, meth, c, A, H0, Q, rfl, hx, hb, hml, hown, hnm, hts, hK, hN, hA⟩ := hR
  exact fun H locs ls hP hD hS hl => lv_dup2_11 hx hb hd hva hvb (kk H locs ls hP hD hS hl)
theorem ga_if_eq (hR : ga_R V cc own nm Ts nL R G) {x : Int32} {off : Int} (tgt : Nat) (ht : (pc : Int) + off = (tgt : Int)) (hd : decode cc pc = .ok (.ifCond .eq off, 3)) (kt : x = 0 → G k n ws (tgt) lv st) (kf : ¬ x = 0 → G k n ws (pc + 3) lv st) : G k n ws pc lv (.int x :: st) := by
  obtain ⟨p, l, e, s, m, args, below, meth, c, A, H0, Q, rfl, hx, hb, hml, hown, hnm, hts, hK, hN, hA⟩ := hR
  exact fun H locs ls hP hD hS hl => lv_if_eq hx hb hd ht (fun q => kt q H locs ls hP hD hS hl) (fun q => kf q H locs ls hP hD hS hl)
theorem ga_icmp_eq (hR : ga_R V cc own nm Ts nL R G) {x y : Int32} {off : Int} (tgt : Nat) (ht : (pc : Int) + off = (tgt : Int)) (hd : decode cc pc = .ok (.if_icmp .eq off, 3)) (kt : x = y → G k n ws (tgt) lv st) (kf : ¬ x = y → G k n ws (pc + 3) lv st) : G k n ws pc lv (.int y :: .int x :: st) := by
  obtain ⟨p, l, e, s, m, args, below, meth, c, A, H0, Q, rfl, hx, hb, hml, hown, hnm, hts, hK, hN, hA⟩ := hR
  exact fun H locs ls hP hD hS hl => lv_icmp_eq hx hb hd ht (fun q => kt q H locs ls hP hD hS hl) (fun q => kf q H locs ls hP hD hS hl)
theorem ga_if_ne (hR : ga_R V cc own nm Ts nL R G) {x : Int32} {off : Int} (tgt : Nat) (ht : (pc : Int) + off = (tgt : Int)) (hd : decode cc pc = .ok (.ifCond .ne off, 3)) (kt : ¬ x = 0 → G k n ws (tgt) lv st) (kf : x = 0 → G k n ws (pc + 3) lv st) : G k n ws pc lv (.int x :: st) := by
  obtain ⟨p, l, e, s, m, args, below, meth, c, A, H0, Q, rfl, hx, hb, hml, hown, hnm, hts, hK, hN, hA⟩ := hR
  exact fun H locs ls hP hD hS hl => lv_if_ne hx hb hd ht (fun q => kt q H locs ls hP hD hS hl) (fun q => kf q H locs ls hP hD hS hl)
theorem ga_icmp_ne (hR : ga_R V cc own nm Ts nL R G) {x y : Int32} {off : Int} (tgt : Nat) (ht : (pc : Int) + off = (tgt : Int)) (hd : decode cc pc = .ok (.if_icmp .ne off, 3)) (kt : ¬ x = y → G k n ws (tgt) lv st) (kf : x = y → G k n ws (pc + 3) lv st) : G k n ws pc lv (.int y :: .int x :: st) := by
  obtain ⟨p, l, e, s, m, args, below, meth, c, A, H0, Q, rfl, hx, hb, hml, hown, hnm, hts, hK, hN, hA⟩ := hR
  exact fun H locs ls hP hD hS hl => lv_icmp_ne hx hb hd ht (fun q => kt q H locs ls hP hD hS hl) (fun q => kf q H locs ls hP hD hS hl)
theorem ga_if_lt (hR : ga_R V cc own nm Ts nL R G) {x : Int32} {off : Int} (tgt : Nat) (ht : (pc : Int) + off = (tgt : Int)) (hd : decode cc pc = .ok (.ifCond .lt off, 3)) (kt : x < 0 → G k n ws (tgt) lv st) (kf : ¬ x < 0 → G k n ws (pc + 3) lv st) : G k n ws pc lv (.int x :: st) := by
  obtain ⟨p, l, e, s, m, args, below, meth, c, A, H0, Q, rfl, hx, hb, hml, hown, hnm, hts, hK, hN, hA⟩ := hR
  exact fun H locs ls hP hD hS hl => lv_if_lt hx hb hd ht (fun q => kt q H locs ls hP hD hS hl) (fun q => kf q H locs ls hP hD hS hl)
theorem ga_icmp_lt (hR : ga_R V cc own nm Ts nL R G) {x y : Int32} {off : Int} (tgt : Nat) (ht : (pc : Int) + off = (tgt : Int)) (hd : decode cc pc = .ok (.if_icmp .lt off, 3)) (kt : x < y → G k n ws (tgt) lv st) (kf : ¬ x < y → G k n ws (pc + 3) lv st) : G k n ws pc lv (.int y :: .int x :: st) := by
  obtain ⟨p, l, e, s, m, args, below, meth, c, A, H0, Q, rfl, hx, hb, hml, hown, hnm, hts, hK, hN, hA⟩ := hR
  exact fun H locs ls hP hD hS hl => lv_icmp_lt hx hb hd ht (fun q => kt q H locs ls hP hD hS hl) (fun q => kf q H locs ls hP hD hS hl)
theorem ga_if_ge (hR : ga_R V cc own nm Ts nL R G) {x : Int32} {off : Int} (tgt : Nat) (ht : (pc : Int) + off = (tgt : Int)) (hd : decode cc pc = .ok (.ifCond .ge off, 3)) (kt : 0 ≤ x → G k n ws (tgt) lv st) (kf : ¬ 0 ≤ x → G k n ws (pc + 3) lv st) : G k n ws pc lv (.int x :: st) := by
  obtain ⟨p, l, e, s, m, args, below, meth, c, A, H0, Q, rfl, hx, hb, hml, hown, hnm, hts, hK, hN, hA⟩ := hR
  exact fun H locs ls hP hD hS hl => lv_if_ge hx hb hd ht (fun q => kt q H locs ls hP hD hS hl) (fun q => kf q H locs ls hP hD hS hl)
theorem ga_icmp_ge (hR : ga_R V cc own nm Ts nL R G) {x y : Int32} {off : Int} (tgt : Nat) (ht : (pc : Int) + off = (tgt : Int)) (hd : decode cc pc = .ok (.if_icmp .ge off, 3)) (kt : y ≤ x → G k n ws (tgt) lv st) (kf : ¬ y ≤ x → G k n ws (pc + 3) lv st) : G k n ws pc lv (.int y :: .int x :: st) := by
  obtain ⟨p, l, e, s, m, args, below, meth, c, A, H0, Q, rfl, hx, hb, hml, hown, hnm, hts, hK, hN, hA⟩ := hR
  exact fun H locs ls hP hD hS hl => lv_icmp_ge hx hb hd ht (fun q => kt q H locs ls hP hD hS hl) (fun q => kf q H locs ls hP hD hS hl)
theorem ga_if_gt (hR : ga_R V cc own nm Ts nL R G) {x : Int32} {off : Int} (tgt : Nat) (ht : (pc : Int) + off = (tgt : Int)) (hd : decode cc pc = .ok (.ifCond .gt off, 3)) (kt : 0 < x → G k n ws (tgt) lv st) (kf : ¬ 0 < x → G k n ws (pc + 3) lv st) : G k n ws pc lv (.int x :: st) := by
  obtain ⟨p, l, e, s, m, args, below, meth, c, A, H0, Q, rfl, hx, hb, hml, hown, hnm, hts, hK, hN, hA⟩ := hR
  exact fun H locs ls hP hD hS hl => lv_if_gt hx hb hd ht (fun q => kt q H locs ls hP hD hS hl) (fun q => kf q H locs ls hP hD hS hl)
theorem ga_icmp_gt (hR : ga_R V cc own nm Ts nL R G) {x y : Int32} {off : Int} (tgt : Nat) (ht : (pc : Int) + off = (tgt : Int)) (hd : decode cc pc = .ok (.if_icmp .gt off, 3)) (kt : y < x → G k n ws (tgt) lv st) (kf : ¬ y < x → G k n ws (pc + 3) lv st) : G k n ws pc lv (.int y :: .int x :: st) := by
  obtain ⟨p, l, e, s, m, args, below, meth, c, A, H0, Q, rfl, hx, hb, hml, hown, hnm, hts, hK, hN, hA⟩ := hR
  exact fun H locs ls hP hD hS hl => lv_icmp_gt hx hb hd ht (fun q => kt q H locs ls hP hD hS hl) (fun q => kf q H locs ls hP hD hS hl)
theorem ga_if_le (hR : ga_R V cc own nm Ts nL R G) {x : Int32} {off : Int} (tgt : Nat) (ht : (pc : Int) + off = (tgt : Int)) (hd : decode cc pc = .ok (.ifCond .le off, 3)) (kt : x ≤ 0 → G k n ws (tgt) lv st) (kf : ¬ x ≤ 0 → G k n ws (pc + 3) lv st) : G k n ws pc lv (.int x :: st) := by
  obtain ⟨p, l, e, s, m, args, below, meth, c, A, H0, Q, rfl, hx, hb, hml, hown, hnm, hts, hK, hN, hA⟩ := hR
  exact fun H locs ls hP hD hS hl => lv_if_le hx hb hd ht (fun q => kt q H locs ls hP hD hS hl) (fun q => kf q H locs ls hP hD hS hl)
theorem ga_icmp_le (hR : ga_R V cc own nm Ts nL R G) {x y : Int32} {off : Int} (tgt : Nat) (ht : (pc : Int) + off = (tgt : Int)) (hd : decode cc pc = .ok (.if_icmp .le off, 3)) (kt : x ≤ y → G k n ws (tgt) lv st) (kf : ¬ x ≤ y → G k n ws (pc + 3) lv st) : G k n ws pc lv (.int y :: .int x :: st) := by
  obtain ⟨p, l, e, s, m, args, below, meth, c, A, H0, Q, rfl, hx, hb, hml, hown, hnm, hts, hK, hN, hA⟩ := hR
  exact fun H locs ls hP hD hS hl => lv_icmp_le hx hb hd ht (fun q => kt q H locs ls hP hD hS hl) (fun q => kf q H locs ls hP hD hS hl)
theorem ga_goto (hR : ga_R V cc own nm Ts nL R G) {off : Int} (tgt : Nat) (ht : (pc : Int) + off = (tgt : Int)) (hd : decode cc pc = .ok (.goto off, 3)) (kk : G k n ws (tgt) lv st) : G k n ws pc lv st := by
  obtain ⟨p, l, e, s, m, args, below, meth, c, A, H0, Q, rfl, hx, hb, hml, hown, hnm, hts, hK, hN, hA⟩ := hR
  exact fun H locs ls hP hD hS hl => lv_goto hx hb hd ht (kk H locs ls hP hD hS hl)
theorem ga_tabOut (hR : ga_R V cc own nm Ts nL R G) {dflt lo hi : Int} {offs : Array Int} {len : Nat} {x : Int32} (tgt : Nat) (h : x.toInt < lo ∨ hi < x.toInt) (ht : (pc : Int) + dflt = (tgt : Int)) (hd : decode cc pc = .ok (.tableswitch dflt lo hi offs, len)) (kk : G k n ws (tgt) lv st) : G k n ws pc lv (.int x :: st) := by
  obtain ⟨p, l, e, s, m, args, below, meth, c, A, H0, Q, rfl, hx, hb, hml, hown, hnm, hts, hK, hN, hA⟩ := hR
  exact fun H locs ls hP hD hS hl => lv_tableOut hx hb hd h ht (kk H locs ls hP hD hS hl)
theorem ga_tabIn (hR : ga_R V cc own nm Ts nL R G) {dflt lo hi : Int} {offs : Array Int} {len : Nat} {x : Int32} {off : Int} (tgt : Nat) (h1 : ¬ x.toInt < lo) (h2 : ¬ hi < x.toInt) (ho : offs[(x.toInt - lo).toNat]? = some off) (ht : (pc : Int) + off = (tgt : Int)) (hd : decode cc pc = .ok (.tableswitch dflt lo hi offs, len)) (kk : G k n ws (tgt) lv st) : G k n ws pc lv (.int x :: st) := by
  obtain ⟨p, l, e, s, m, args, below, meth, c, A, H0, Q, rfl, hx, hb, hml, hown, hnm, hts, hK, hN, hA⟩ := hR
  exact fun H locs ls hP hD hS hl => lv_tableIn hx hb hd h1 h2 ho ht (kk H locs ls hP hD hS hl)
theorem ga_look (hR : ga_R V cc own nm Ts nL R G) {dflt : Int} {ps : Array (Int × Int)} {len : Nat} {x : Int32} {off : Int} (tgt : Nat) (hp : (ps.toList.zip (ps.toList.drop 1)).all (fun (a, next) => a.1 < next.1) = true) (ho : Op.lookupswitch.offset ps.toList dflt x.toInt = off) (ht : (pc : Int) + off = (tgt : Int)) (hd : decode cc pc = .ok (.lookupswitch dflt ps, len)) (kk : G k n ws (tgt) lv st) : G k n ws pc lv (.int x :: st) := by
  obtain ⟨p, l, e, s, m, args, below, meth, c, A, H0, Q, rfl, hx, hb, hml, hown, hnm, hts, hK, hN, hA⟩ := hR
  exact fun H locs ls hP hD hS hl => lv_lookup hx hb hd hp ho ht (kk H locs ls hP hD hS hl)
theorem ga_get (hR : ga_R V cc own nm Ts nL R G) {C : String} {T : u_T} {N ci ix a : Nat} (q0 : Nat) {fs : List Value} (he : ws[q0]? = some (a, .inr (ci, fs))) (hc : vwCl[ci]? = some (C, T, N)) (hin : ∀ w ∈ u_ws C T N, w ∈ Ts) (k0 : Nat) (hk : k0 < N) (hlk : Cond.fieldLink own ix (T k0).1 (T k0).2.1 (T k0).2.2.1 ∈ Ts) {v : Value} (hv : fs[k0]? = some v) (hd : decode cc pc = .ok (.getfield ix, 3)) (kk : G k n ws (pc + 3) lv (v :: st)) : G k n ws pc lv (.ref a :: st) := by
  obtain ⟨p, l, e, s, m, args, below, meth, c, A, H0, Q, rfl, hx, hb, hml, hown, hnm, hts, hK, hN, hA⟩ := hR
  exact fun H locs ls hP hD hS hl => va_get hx hb hts hin hown hK hP q0 he hc k0 hk (hts _ hlk) (fun _ h9 => h9) hv hd (kk H locs ls hP hD hS hl)
theorem ga_putf (hR : ga_R V cc own nm Ts nL R G) {C : String} {T : u_T} {N ci ix a : Nat} (q0 : Nat) {fs : List Value} (he : ws[q0]? = some (a, .inr (ci, fs))) (hc : vwCl[ci]? = some (C, T, N)) (hin : ∀ w ∈ u_ws C T N, w ∈ Ts) (k0 : Nat) (hk : k0 < N) (hlk : Cond.fieldLink own ix (T k0).1 (T k0).2.1 (T k0).2.2.1 ∈ Ts) {ty : Nat → FieldType} (hty : ∀ k, k < N → parseFieldDescriptor (T k).2.2.1 = some (ty k)) (hnmn : ∀ a, a < N → ∀ b, b < N → a ≠ b → (T a).2.1 ≠ (T b).2.1) (hfin : (T k0).2.2.2 = false) {v : Value} (hn : narrow (ty k0) v = v) (hfit : fits (ty k0) v = true) (hlen : k0 < fs.length) (hw : ws.set q0 (a, .inr (ci, fs.set k0 v)) = ws') (hd : decode cc pc = .ok (.putfield ix, 3)) (kk : G k n ws' (pc + 3) lv st) : G k n ws pc lv (v :: .ref a :: st) := by
  obtain ⟨p, l, e, s, m, args, below, meth, c, A, H0, Q, rfl, hx, hb, hml, hown, hnm, hts, hK, hN, hA⟩ := hR
  exact fun H locs ls hP hD hS hl => va_put hx hb hts hin ty hty hnmn hown hK hP hD hS q0 he hc k0 hk (hts _ hlk) (fun _ h9 => h9) hfin (hty k0 hk) hn hfit hlen hd (fun H1 locs1 hP hD hS => by subst hw; exact kk H1 locs1 ls hP hD hS hl)
theorem ga_putF (hR : ga_R V cc own nm Ts nL R G) {C : String} {T : u_T} {N ci ix a : Nat} (q0 : Nat) {fs : List Value} (he : ws[q0]? = some (a, .inr (ci, fs))) (hc : vwCl[ci]? = some (C, T, N)) (hin : ∀ w ∈ u_ws C T N, w ∈ Ts) (k0 : Nat) (hk : k0 < N) (hlk : Cond.fieldLink own ix (T k0).1 (T k0).2.1 (T k0).2.2.1 ∈ Ts) {ty : Nat → FieldType} (hty : ∀ k, k < N → parseFieldDescriptor (T k).2.2.1 = some (ty k)) (hnmn : ∀ a, a < N → ∀ b, b < N → a ≠ b → (T a).2.1 ≠ (T b).2.1) (hfin : (T k0).2.2.2 = true) (hini : nm = "<init>") (hdecl : (T k0).1 = own) {v : Value} (hn : narrow (ty k0) v = v) (hfit : fits (ty k0) v = true) (hlen : k0 < fs.length) (hw : ws.set q0 (a, .inr (ci, fs.set k0 v)) = ws') (hd : decode cc pc = .ok (.putfield ix, 3)) (kk : G k n ws' (pc + 3) lv st) : G k n ws pc lv (v :: .ref a :: st) := by
  obtain ⟨p, l, e, s, m, args, below, meth, c, A, H0, Q, rfl, hx, hb, hml, hown, hnm, hts, hK, hN, hA⟩ := hR
  exact fun H locs ls hP hD hS hl => va_putF hx hb hts hin ty hty hnmn hown hK hP hD hS q0 he hc k0 hk (hts _ hlk) (fun _ h9 => h9) hfin (hnm.trans hini) hdecl (hty k0 hk) hn hfit hlen hd (fun H1 locs1 hP hD hS => by subst hw; exact kk H1 locs1 ls hP hD hS hl)
theorem ga_iald (hR : ga_R V cc own nm Ts nL R G) {a N : Nat} (q0 : Nat) {f : Nat → Int32} (ha : ws[q0]? = some (a, .inl (V.2 0, N, .inl f))) {i : Int32} (hin : vp_in i N) (hd : decode cc pc = .ok (.iaload, 1)) (kk : G k n ws (pc + 1) lv (.int (f i.toNatClampNeg) :: st)) : G k n ws pc lv (.int i :: .ref a :: st) := by
  obtain ⟨p, l, e, s, m, args, below, meth, c, A, H0, Q, rfl, hx, hb, hml, hown, hnm, hts, hK, hN, hA⟩ := hR
  exact fun H locs ls hP hD hS hl => va_iald hx hb hK hP q0 0 ha rfl hin hd (kk H locs ls hP hD hS hl)
theorem ga_iast (hR : ga_R V cc own nm Ts nL R G) {a N : Nat} (q0 : Nat) {f : Nat → Int32} (ha : ws[q0]? = some (a, .inl (V.2 0, N, .inl f))) {i x : Int32} (hin : vp_in i N) (hw : ws.set q0 (a, .inl (V.2 0, N, .inl (upd f i.toNatClampNeg x))) = ws') (hd : decode cc pc = .ok (.iastore, 1)) (kk : G k n ws' (pc + 1) lv st) : G k n ws pc lv (.int x :: .int i :: .ref a :: st) := by
  obtain ⟨p, l, e, s, m, args, below, meth, c, A, H0, Q, rfl, hx, hb, hml, hown, hnm, hts, hK, hN, hA⟩ := hR
  exact fun H locs ls hP hD hS hl => va_iast hx hb hK hP hD hS q0 0 ha rfl hin hd (fun H1 locs1 hP hD hS => by subst hw; exact kk H1 locs1 ls hP hD hS hl)
theorem ga_zald (hR : ga_R V cc own nm Ts nL R G) {a N : Nat} (q0 : Nat) {f : Nat → Int32} (ha : ws[q0]? = some (a, .inl (V.2 1, N, .inl f))) {i : Int32} (hin : vp_in i N) (hd : decode cc pc = .ok (.baload, 1)) (kk : G k n ws (pc + 1) lv (.int (f i.toNatClampNeg) :: st)) : G k n ws pc lv (.int i :: .ref a :: st) := by
  obtain ⟨p, l, e, s, m, args, below, meth, c, A, H0, Q, rfl, hx, hb, hml, hown, hnm, hts, hK, hN, hA⟩ := hR
  exact fun H locs ls hP hD hS hl => va_zald hx hb hK hP q0 1 ha rfl hin hd (kk H locs ls hP hD hS hl)
theorem ga_zast (hR : ga_R V cc own nm Ts nL R G) {a N : Nat} (q0 : Nat) {f : Nat → Int32} (ha : ws[q0]? = some (a, .inl (V.2 1, N, .inl f))) {i x : Int32} (hin : vp_in i N) (hw : ws.set q0 (a, .inl (V.2 1, N, .inl (upd f i.toNatClampNeg (vp_nar .boolean x)))) = ws') (hd : decode cc pc = .ok (.bastore, 1)) (kk : G k n ws' (pc + 1) lv st) : G k n ws pc lv (.int x :: .int i :: .ref a :: st) := by
  obtain ⟨p, l, e, s, m, args, below, meth, c, A, H0, Q, rfl, hx, hb, hml, hown, hnm, hts, hK, hN, hA⟩ := hR
  exact fun H locs ls hP hD hS hl => va_zast hx hb hK hP hD hS q0 1 ha rfl hin hd (fun H1 locs1 hP hD hS => by subst hw; exact kk H1 locs1 ls hP hD hS hl)
theorem ga_bald (hR : ga_R V cc own nm Ts nL R G) {a N : Nat} (q0 : Nat) {f : Nat → Int32} (ha : ws[q0]? = some (a, .inl (V.2 2, N, .inl f))) {i : Int32} (hin : vp_in i N) (hd : decode cc pc = .ok (.baload, 1)) (kk : G k n ws (pc + 1) lv (.int (f i.toNatClampNeg) :: st)) : G k n ws pc lv (.int i :: .ref a :: st) := by
  obtain ⟨p, l, e, s, m, args, below, meth, c, A, H0, Q, rfl, hx, hb, hml, hown, hnm, hts, hK, hN, hA⟩ := hR
  exact fun H locs ls hP hD hS hl => va_bald hx hb hK hP q0 2 ha rfl hin hd (kk H locs ls hP hD hS hl)
theorem ga_bast (hR : ga_R V cc own nm Ts nL R G) {a N : Nat} (q0 : Nat) {f : Nat → Int32} (ha : ws[q0]? = some (a, .inl (V.2 2, N, .inl f))) {i x : Int32} (hin : vp_in i N) (hw : ws.set q0 (a, .inl (V.2 2, N, .inl (upd f i.toNatClampNeg (vp_nar .byte x)))) = ws') (hd : decode cc pc = .ok (.bastore, 1)) (kk : G k n ws' (pc + 1) lv st) : G k n ws pc lv (.int x :: .int i :: .ref a :: st) := by
  obtain ⟨p, l, e, s, m, args, below, meth, c, A, H0, Q, rfl, hx, hb, hml, hown, hnm, hts, hK, hN, hA⟩ := hR
  exact fun H locs ls hP hD hS hl => va_bast hx hb hK hP hD hS q0 2 ha rfl hin hd (fun H1 locs1 hP hD hS => by subst hw; exact kk H1 locs1 ls hP hD hS hl)
theorem ga_alen (hR : ga_R V cc own nm Ts nL R G) {a : Nat} (q0 : Nat) {t : Nat} {x : vp_A} (ha : ws[q0]? = some (a, .inl (V.2 t, x))) {ty : FieldType} (ht : (ga_ty V)[t]? = some (V.2 t, ty)) {v : Int32} (hv : Int32.ofNat x.1 = v) (hd : decode cc pc = .ok (.arraylength, 1)) (kk : G k n ws (pc + 1) lv (.int v :: st)) : G k n ws pc lv (.ref a :: st) := by
  obtain ⟨p, l, e, s, m, args, below, meth, c, A, H0, Q, rfl, hx, hb, hml, hown, hnm, hts, hK, hN, hA⟩ := hR
  exact fun H locs ls hP hD hS hl => va_alen hx hb hK hP q0 t ha ht hv hd (kk H locs ls hP hD hS hl)
theorem ga_widen (hR : ga_R V cc own nm Ts nL R G) {k1 n1 : Nat} (h1 : k ≤ k1) (h2 : n ≤ n1) (kk : G k1 n1 ws pc lv st) : G k n ws pc lv st := by
  obtain ⟨p, l, e, s, m, args, below, meth, c, A, H0, Q, rfl, hx, hb, hml, hown, hnm, hts, hK, hN, hA⟩ := hR
  exact fun H locs ls hP hD hS hl => W.widen h1 h2 (kk H locs ls hP hD hS hl)
theorem ga_callV (hR : ga_R V cc own nm Ts nL R G) {C : String} {b : Nat} {y : MethodName} {wsY wsY' : List Cond} {rm : Room} {As rest st0 : List Value} {wc : va_W} {mc ms : Nat} {F : ga_F} {bytes : ByteArray} {maxL ix : Nat} {ret : Option FieldType} (na : Nat) (hC : ga_C V y wsY rm (.ref b :: As) wc mc ms F) (hS : ga_Same wc F) (hG : GoodIn Ts (wsV own ix C y wsY)) (hw : wsY = Cond.code y bytes maxL ret :: wsY') (hrc : rm.cells = mc) (hrs : rm.slots = ms) (hdn : y.cls = C ∧ y.cls ≠ "java/lang/invoke/MethodHandle" ∧ y.cls ≠ "java/lang/invoke/VarHandle" ∧ (parseMethodDescriptor y.desc).map (fun d => d.parameters.length) = some na) (hroom : rm.frames + 1 ≤ R.frames ∧ 8 + (maxL + 11) + rm.locals ≤ R.locals) (hna : As.length = na) (hst : st0 = As.reverse ++ .ref b :: rest) (h8 : (rest.map fun v => v.category).sum ≤ 8) (hf : k + mc ≤ R.cells ∧ n + ms ≤ R.slots) (is : List Nat) (his : is.map (fun i => ws[i]?) = wc.map some) (hnd : va_nd is = true) {ci : Nat} {T0 : u_T} {N0 : Nat} {fs : List Value} (q0 : Nat) (hb0 : ws[q0]? = some (b, .inr (ci, fs))) (hc0 : vwCl[ci]? = some (C, T0, N0)) (hd : decode cc pc = .ok (.invokevirtual ix, 3))
    (kk : ∀ (v : Option Value) (w : va_W), F v w → G (k + mc) (n + ms) (ga_put ws is w) (pc + 3) lv (v.toList ++ rest)) : G k n ws pc lv st0 := by
  obtain ⟨p, l, e, s, m, args, below, meth, c, A, H0, Q, rfl, hx, hb, hml, hown, hnm, hts, hK, hN, hA⟩ := hR
  have run : ∀ (H : Heap) (locs : List Loc) (ls : Array Slot), va_P V.1 vwCl ws H → va_D A ws → va_S A H0 H locs → lv_has ls nL lv → va_Run p l e R s m args below meth c H locs k n mc ms (F0 m pc ls st0) rest _ (va_A wc H.size) := fun H locs ls hP hD hS1 hl =>
    va_runV (As := As) (rest := rest) ⟨hx, hb, hml, hown, hts⟩ (hC l H.size) (cwV na hts hG hw hrc hrs hdn hroom) ⟨fun a U g mk q => by obtain ⟨q0, q1, qP, qK, qN, qD⟩ := q; exact ⟨q0, q1, qP, va_K.moved (u := U) (U := U.calling g mk a) (Vm.Alike.refl U.vm) qK, ga_N.same (u := U) (U := U.calling g mk a) rfl qN, qD⟩, va_recv hK hP hc0 hb0, fun U hU hW => ⟨rfl, by rw [hU], by rw [hU]; exact ga_subP hP his, va_K.moved hW.alike hK, ga_N.warm hW hN, ga_subD hD his hnd⟩⟩ rfl hna hl.1 hst (lv_room h8) hd hf
  subst hst
  intro H locs ls hP hD hS1 hl T hT X
  have hPc := ga_subP hP his
  have hDc := ga_subD hD his hnd
  have hFc := va_free hD hS1 hA is his
  obtain ⟨v, st₀, t, T', L, h0, X', hL, e1, e2, ⟨⟨v', w, hv, hFw, hP1, hD1⟩, hz, hk⟩, stp⟩ := run H locs ls hP hD hS1 hl T hT X
  cases hv
  rw [h0] at hz hk
  have hP1 : va_P V.1 vwCl w T'.heap := by rw [e1]; exact hP1
  obtain ⟨hP2, hD2⟩ := ga_join hP hD his (hS v w hFw) (fun q h1 h2 => by rw [e1]; exact hk q h1 h2) hP1
  have hS2 : va_S A H0 T'.heap (locs ++ L) := ⟨Nat.le_trans hS1.1 (by rw [e1]; exact hz), fun q h1 h2 => by rw [e1, hk q (Nat.lt_of_lt_of_le h1 hS1.1) (fun z => h2 (hFc q z))]; exact hS1.2.1 q h1 h2, fun q hq => by
      rcases List.mem_append.mp hq with h | h
      · exact hS1.2.2 q h
      · exact hFc _ (hL q h)⟩
  obtain ⟨t2, a1, b1⟩ := kk v w hFw T'.heap (locs ++ L) ls hP2 hD2 hS2 hl T' rfl X'
  exact ⟨t2, stp t2 a1, b1⟩
theorem ga_callS (hR : ga_R V cc own nm Ts nL R G) {y : MethodName} {wsY wsY' : List Cond} {rm : Room} {As rest st0 : List Value} {wc : va_W} {mc ms : Nat} {F : ga_F} {bytes : ByteArray} {maxL ix : Nat} {ret : Option FieldType} (na : Nat) (hC : ga_C V y wsY rm As wc mc ms F) (hS : ga_Same wc F) (hG : GoodIn Ts (va_wsS own ix y wsY)) (hw : wsY = Cond.code y bytes maxL ret :: wsY') (hrc : rm.cells = mc) (hrs : rm.slots = ms) (hdn : y.cls ≠ "java/lang/invoke/MethodHandle" ∧ y.cls ≠ "java/lang/invoke/VarHandle" ∧ (parseMethodDescriptor y.desc).map (fun d => d.parameters.length) = some na) (hroom : rm.frames + 1 ≤ R.frames ∧ 8 + (maxL + 11) + rm.locals ≤ R.locals) (hna : As.length = na) (hst : st0 = As.reverse ++ rest) (h8 : (rest.map fun v => v.category).sum ≤ 8) (hf : k + mc ≤ R.cells ∧ n + ms ≤ R.slots) (is : List Nat) (his : is.map (fun i => ws[i]?) = wc.map some) (hnd : va_nd is = true) (hd : decode cc pc = .ok (.invokestatic ix, 3))
    (kk : ∀ (v : Option Value) (w : va_W), F v w → G (k + mc) (n + ms) (ga_put ws is w) (pc + 3) lv (v.toList ++ rest)) : G k n ws pc lv st0 := by
  obtain ⟨p, l, e, s, m, args, below, meth, c, A, H0, Q, rfl, hx, hb, hml, hown, hnm, hts, hK, hN, hA⟩ := hR
  have run : ∀ (H : Heap) (locs : List Loc) (ls : Array Slot), va_P V.1 vwCl ws H → va_D A ws → va_S A H0 H locs → lv_has ls nL lv → va_Run p l e R s m args below meth c H locs k n mc ms (F0 m pc ls st0) rest _ (va_A wc H.size) := fun H locs ls hP hD hS1 hl =>
    va_runS (As := As) (rest := rest) ⟨hx, hb, hml, hown, hts⟩ (hC l H.size) (va_cwS na hts hG hw hrc hrs hdn hroom) ⟨fun a U g mk q => by obtain ⟨q0, q1, qP, qK, qN, qD⟩ := q; exact ⟨q0, q1, qP, va_K.moved (u := U) (U := U.calling g mk a) (Vm.Alike.refl U.vm) qK, ga_N.same (u := U) (U := U.calling g mk a) rfl qN, qD⟩, fun U hU hW => ⟨rfl, by rw [hU], by rw [hU]; exact ga_subP hP his, va_K.moved hW.alike hK, ga_N.warm hW hN, ga_subD hD his hnd⟩⟩ rfl hna hl.1 hst (lv_room h8) hd hf
  subst hst
  intro H locs ls hP hD hS1 hl T hT X
  have hPc := ga_subP hP his
  have hDc := ga_subD hD his hnd
  have hFc := va_free hD hS1 hA is his
  obtain ⟨v, st₀, t, T', L, h0, X', hL, e1, e2, ⟨⟨v', w, hv, hFw, hP1, hD1⟩, hz, hk⟩, stp⟩ := run H locs ls hP hD hS1 hl T hT X
  cases hv
  rw [h0] at hz hk
  have hP1 : va_P V.1 vwCl w T'.heap := by rw [e1]; exact hP1
  obtain ⟨hP2, hD2⟩ := ga_join hP hD his (hS v w hFw) (fun q h1 h2 => by rw [e1]; exact hk q h1 h2) hP1
  have hS2 : va_S A H0 T'.heap (locs ++ L) := ⟨Nat.le_trans hS1.1 (by rw [e1]; exact hz), fun q h1 h2 => by rw [e1, hk q (Nat.lt_of_lt_of_le h1 hS1.1) (fun z => h2 (hFc q z))]; exact hS1.2.1 q h1 h2, fun q hq => by
      rcases List.mem_append.mp hq with h | h
      · exact hS1.2.2 q h
      · exact hFc _ (hL q h)⟩
  obtain ⟨t2, a1, b1⟩ := kk v w hFw T'.heap (locs ++ L) ls hP2 hD2 hS2 hl T' rfl X'
  exact ⟨t2, stp t2 a1, b1⟩
theorem ga_callSN (hR : ga_R V cc own nm Ts nL R G) {y : MethodName} {wsY wsY' : List Cond} {rm : Room} {As rest st0 : List Value} {wc : va_W} {mc ms : Nat} {F : ga_F} {bytes : ByteArray} {maxL ix : Nat} {ret : Option FieldType} (na : Nat) (hC : ga_C V y wsY rm As wc mc ms F) (hS : ga_Same wc F) (hG : GoodIn Ts wsY) (hw : wsY = Cond.code y bytes maxL ret :: wsY') (hrc : rm.cells = mc) (hrs : rm.slots = ms) (hdn : y.cls ≠ "java/lang/invoke/MethodHandle" ∧ y.cls ≠ "java/lang/invoke/VarHandle" ∧ (parseMethodDescriptor y.desc).map (fun d => d.parameters.length) = some na) (hroom : rm.frames + 1 ≤ R.frames ∧ 8 + (maxL + 11) + rm.locals ≤ R.locals) (hna : As.length = na) (hst : st0 = As.reverse ++ rest) (h8 : (rest.map fun v => v.category).sum ≤ 8) (hf : k + mc ≤ R.cells ∧ n + ms ≤ R.slots) (is : List Nat) (his : is.map (fun i => ws[i]?) = wc.map some) (hnd : va_nd is = true) {host : String} (hnest : (own, ix, y, host) ∈ ga_nests) (hstat : Cond.static y ∈ Ts) (hini : Cond.initialized y.cls ∈ Ts) (hd : decode cc pc = .ok (.invokestatic ix, 3))
    (kk : ∀ (v : Option Value) (w : va_W), F v w → G (k + mc) (n + ms) (ga_put ws is w) (pc + 3) lv (v.toList ++ rest)) : G k n ws pc lv st0 := by
  obtain ⟨p, l, e, s, m, args, below, meth, c, A, H0, Q, rfl, hx, hb, hml, hown, hnm, hts, hK, hN, hA⟩ := hR
  have run : ∀ (H : Heap) (locs : List Loc) (ls : Array Slot), va_P V.1 vwCl ws H → va_D A ws → va_S A H0 H locs → lv_has ls nL lv → va_Run p l e R s m args below meth c H locs k n mc ms (F0 m pc ls st0) rest _ (va_A wc H.size) := fun H locs ls hP hD hS1 hl =>
    va_runSN (host := host) (As := As) (rest := rest) ⟨hx, hb, hml, hown, hts⟩ (hC l H.size) ⟨va_cnB na hts hG hw hrc hrs (hN _ hnest) (hts _ hini) hdn hroom, hts _ hstat, trivial⟩ ⟨fun a U g mk q => by obtain ⟨q0, q1, qP, qK, qN, qD⟩ := q; exact ⟨q0, q1, qP, va_K.moved (u := U) (U := U.calling g mk a) (Vm.Alike.refl U.vm) qK, ga_N.same (u := U) (U := U.calling g mk a) rfl qN, qD⟩, fun U hU hW => ⟨rfl, by rw [hU], by rw [hU]; exact ga_subP hP his, va_K.moved hW.alike hK, ga_N.warm hW hN, ga_subD hD his hnd⟩⟩ rfl hna hl.1 hst (lv_room h8) hd hf
  subst hst
  intro H locs ls hP hD hS1 hl T hT X
  have hPc := ga_subP hP his
  have hDc := ga_subD hD his hnd
  have hFc := va_free hD hS1 hA is his
  obtain ⟨v, st₀, t, T', L, h0, X', hL, e1, e2, ⟨⟨v', w, hv, hFw, hP1, hD1⟩, hz, hk⟩, stp⟩ := run H locs ls hP hD hS1 hl T hT X
  cases hv
  rw [h0] at hz hk
  have hP1 : va_P V.1 vwCl w T'.heap := by rw [e1]; exact hP1
  obtain ⟨hP2, hD2⟩ := ga_join hP hD his (hS v w hFw) (fun q h1 h2 => by rw [e1]; exact hk q h1 h2) hP1
  have hS2 : va_S A H0 T'.heap (locs ++ L) := ⟨Nat.le_trans hS1.1 (by rw [e1]; exact hz), fun q h1 h2 => by rw [e1, hk q (Nat.lt_of_lt_of_le h1 hS1.1) (fun z => h2 (hFc q z))]; exact hS1.2.1 q h1 h2, fun q hq => by
      rcases List.mem_append.mp hq with h | h
      · exact hS1.2.2 q h
      · exact hFc _ (hL q h)⟩
  obtain ⟨t2, a1, b1⟩ := kk v w hFw T'.heap (locs ++ L) ls hP2 hD2 hS2 hl T' rfl X'
  exact ⟨t2, stp t2 a1, b1⟩
theorem ga_mmax (hR : ga_R V cc own nm Ts nL R G) {x y : Int32} {ix : Nat} (hlk : Cond.methodLink own ix Lib.Math.max.name ∈ Ts) (hstat : Cond.static Lib.Math.max.name ∈ Ts) (hini : Cond.initialized "java/lang/Math" ∈ Ts) (hcode : Cond.code Lib.Math.max.name Lib.Math.max.code 2 (some .int) ∈ Ts) (hfr : 1 ≤ R.frames) (hlo : (st.map fun v => v.category).sum + 13 ≤ R.locals) (hce : k ≤ R.cells) (hsl : n ≤ R.slots) (hd : decode cc pc = .ok (.invokestatic ix, 3)) (kk : G k n ws (pc + 3) lv (.int (if x < y then y else x) :: st)) : G k n ws pc lv (.int y :: .int x :: st) := by
  obtain ⟨p, l, e, s, m, args, below, meth, c, A, H0, Q, rfl, hx, hb, hml, hown, hnm, hts, hK, hN, hA⟩ := hR
  exact fun H locs ls hP hD hS hl => va_mmax hx hb (hml.trans hl.1.symm) hown (hts _ hlk) (hts _ hstat) (hts _ hini) (hts _ hcode) hfr hlo hce hsl hd (kk H locs ls hP hD hS hl)
theorem ga_copyi (hR : ga_R V cc own nm Ts nL R G) {a a0 ix : Nat} (q0 q1 : Nat) {n0 n1 : Nat} {f g : Nat → Int32} (ha0 : ws[q0]? = some (a0, .inl (V.2 0, n0, .inl f))) (ha1 : ws[q1]? = some (a, .inl (V.2 0, n1, .inl g))) {sp dp nn : Int32} (h1 : ¬ sp < 0) (h2 : ¬ dp < 0) (h3 : ¬ nn < 0) (h4 : sp.toNatClampNeg + nn.toNatClampNeg ≤ n0) (h5 : dp.toNatClampNeg + nn.toNatClampNeg ≤ n1) (hlk : Cond.methodLink own ix arraycopyName ∈ Ts) (hnat : Cond.native arraycopyName ∈ Ts) (hstat : Cond.static arraycopyName ∈ Ts) (hini : Cond.initialized "java/lang/System" ∈ Ts) (hfr : 1 ≤ R.frames) (hlo : (st.map fun v => v.category).sum + (nativeFrameWords "java/lang/System" "arraycopy" 5 + 11) ≤ R.locals) (hw : ws.set q1 (a, .inl (V.2 0, n1, .inl (va_cpy f g sp.toNatClampNeg dp.toNatClampNeg nn.toNatClampNeg))) = ws') (hd : decode cc pc = .ok (.invokestatic ix, 3)) (kk : G k n ws' (pc + 3) lv st) : G k n ws pc lv (.int nn :: .int dp :: .ref a :: .int sp :: .ref a0 :: st) := by
  obtain ⟨p, l, e, s, m, args, below, meth, c, A, H0, Q, rfl, hx, hb, hml, hown, hnm, hts, hK, hN, hA⟩ := hR
  exact fun H locs ls hP hD hS hl => va_copyi hx hb (hml.trans hl.1.symm) hown (hts _ hlk) (hts _ hnat) (hts _ hstat) (hts _ hini) hK hP hD hS q0 q1 0 0 ha0 ha1 rfl rfl rfl h1 h2 h3 h4 h5 (fun _ _ => rfl) hfr hlo hd (fun H1 locs1 hP hD hS => by subst hw; exact kk H1 locs1 ls hP hD hS hl)
theorem ga_objInit (hR : ga_R V cc own nm Ts nL R G) {a ix : Nat} (hlk : Cond.methodLink own ix objectInit ∈ Ts) (hinst : Cond.instanceMethod objectInit ∈ Ts) (hcode : Cond.code objectInit ⟨#[0xb1]⟩ 1 none ∈ Ts) (hfr : 1 ≤ R.frames) (hlo : 2 * 0 + (st.map fun v => v.category).sum + 12 ≤ R.locals) (hd : decode cc pc = .ok (.invokespecial ix, 3)) (kk : G k n ws (pc + 3) lv st) : G k n ws pc lv (.ref a :: st) := by
  obtain ⟨p, l, e, s, m, args, below, meth, c, A, H0, Q, rfl, hx, hb, hml, hown, hnm, hts, hK, hN, hA⟩ := hR
  exact fun H locs ls hP hD hS hl => W.objInit hx hb hown (hts _ hlk) (hts _ hinst) (hts _ hcode) rfl (by rw [hml]; exact hl.1) rfl hd hfr hlo (W.eq (g2 := F0 m (pc + 3) ls st) rfl (kk H locs ls hP hD hS hl))
theorem ga_new (hR : ga_R V cc own nm Ts nL R G) {C : String} {T : u_T} {N ci ix : Nat} {ty : Nat → FieldType} (hc : vwCl[ci]? = some (C, T, N)) (hin : ∀ w ∈ u_ws C T N, w ∈ Ts) (hty : ∀ k, k < N → parseFieldDescriptor (T k).2.2.1 = some (ty k)) (hcl : Cond.classLink own ix C ∈ Ts) (hinst : Cond.instantiable C N ∈ Ts) (hini : Cond.initialized C ∈ Ts) (fs : List Value) (hfs : ∀ j, j < N → defaultValue (ty j) = vp_V fs j) (hcells : k + 1 ≤ R.cells) (hslots : n + N ≤ R.slots) (hd : decode cc pc = .ok (.new ix, 3)) (kk : ∀ q : Nat, G (k + 1) (n + N) (ws ++ [(q, .inr (ci, fs))]) (pc + 3) lv (.ref q :: st)) : G k n ws pc lv st := by
  obtain ⟨p, l, e, s, m, args, below, meth, c, A, H0, Q, rfl, hx, hb, hml, hown, hnm, hts, hK, hN, hA⟩ := hR
  exact fun H locs ls hP hD hS hl => va_new hx hb hts hin ty hty hown (hts _ hcl) (hts _ hinst) (hts _ hini) hK hP hD hS hA hc hfs hcells hslots hd (fun q H1 hP hD hS => kk q H1 locs ls hP hD hS hl)
theorem ga_newa (hR : ga_R V cc own nm Ts nL R G) {z : Int32} {N t : Nat} {aty : ArrayType} {ty : FieldType} (ht : (ga_ty V)[t]? = some (V.2 t, ty)) (hty : newarray.typeOf aty = ty) (hdef : defaultValue ty = .int 0) (hno : ∀ C, ty ≠ .object C) (harr : Cond.arrayClass ty ∈ Ts) (hz : ¬ z < 0) (hN0 : z.toNatClampNeg = N) (hbytes : N * componentBytes ty ≤ 536870912) (hcells : k + 1 ≤ R.cells) (hslots : n + N ≤ R.slots) (hd : decode cc pc = .ok (.newarray aty, 2)) (kk : ∀ q : Nat, G (k + 1) (n + N) (ws ++ [(q, .inl (V.2 t, N, .inl (fun _ => 0)))]) (pc + 2) lv (.ref q :: st)) : G k n ws pc lv (.int z :: st) := by
  obtain ⟨p, l, e, s, m, args, below, meth, c, A, H0, Q, rfl, hx, hb, hml, hown, hnm, hts, hK, hN, hA⟩ := hR
  exact fun H locs ls hP hD hS hl => va_newa (a0 := (N, .inl (fun _ => 0))) hx hb (by rw [hty]; exact hts _ harr) hty hK hP hD hS hA (fun cA => by rw [hdef]; rfl) hz hN0 hbytes hcells hslots hd (fun q cA H1 hK1 hP hD hS => by
    have e : cA = V.2 t := by
      have h1 := (hK1.2 (ga_ty V).length (cA, ty) (by simp)).2
      have h2 := (hK.2 t _ ht).2
      cases ty with
      | object C => exact absurd rfl (hno C)
      | _ => exact Option.some.inj (h1.symm.trans h2)
    subst e
    exact kk q H1 locs ls hP hD hS hl)
theorem ga_callI (hR : ga_R V cc own nm Ts nL R G) {b : Nat} {y : MethodName} {wsY wsY' : List Cond} {rm : Room} {As rest st0 : List Value} {wc wr : va_W} {mc ms : Nat} {F : ga_F} {bytes : ByteArray} {maxL ix : Nat} (na : Nat) (hC : ga_C V y wsY rm (.ref b :: As) wc mc ms F) (hG : GoodIn Ts wsY) (hw : wsY = Cond.code y bytes maxL none :: wsY') (hrc : rm.cells = mc) (hrs : rm.slots = ms) (hdn : y.cls ≠ "java/lang/invoke/MethodHandle" ∧ y.cls ≠ "java/lang/invoke/VarHandle" ∧ (parseMethodDescriptor y.desc).map (fun d => d.parameters.length) = some na) (hroom : rm.frames + 1 ≤ R.frames ∧ 8 + (maxL + 11) + rm.locals ≤ R.locals) (hna : As.length = na) (hst : st0 = As.reverse ++ .ref b :: rest) (h8 : (rest.map fun v => v.category).sum ≤ 8) (hf : k + mc ≤ R.cells ∧ n + ms ≤ R.slots) (is ir : List Nat) (his : is.map (fun i => ws[i]?) = wc.map some) (hir : ir.map (fun i => ws[i]?) = wr.map some) (hnd : va_nd is = true) (hnr : va_nd ir = true) (hdis : ∀ i ∈ ir, i ∉ is) (hnm1 : y.name = "<init>") (hins : Cond.instanceMethod y ∈ Ts) (hini : Cond.initialized y.cls ∈ Ts) (hlk : Cond.methodLink own ix y ∈ Ts) (hd : decode cc pc = .ok (.invokespecial ix, 3))
    (kk : ∀ (v : Option Value) (w : va_W), F v w → G (k + mc) (n + ms) (wr ++ w) (pc + 3) lv (v.toList ++ rest)) : G k n ws pc lv st0 := by
  obtain ⟨p, l, e, s, m, args, below, meth, c, A, H0, Q, rfl, hx, hb, hml, hown, hnm, hts, hK, hN, hA⟩ := hR
  have run : ∀ (H : Heap) (locs : List Loc) (ls : Array Slot), va_P V.1 vwCl ws H → va_D A ws → va_S A H0 H locs → lv_has ls nL lv → va_Run p l e R s m args below meth c H locs k n mc ms (F0 m pc ls st0) rest _ (va_A wc H.size) := fun H locs ls hP hD hS1 hl =>
    va_runI (As := As) (rest := rest) ⟨hx, hb, hml, hown, hts⟩ (hC l H.size) (cwI na hts hG hw hrc hrs (hts _ hini) (hts _ hlk) (hts _ hins) hnm1 hdn hroom) ⟨fun a U g mk q => by obtain ⟨q0, q1, qP, qK, qN, qD⟩ := q; exact ⟨q0, q1, qP, va_K.moved (u := U) (U := U.calling g mk a) (Vm.Alike.refl U.vm) qK, ga_N.same (u := U) (U := U.calling g mk a) rfl qN, qD⟩, fun U hU hW => ⟨rfl, by rw [hU], by rw [hU]; exact ga_subP hP his, va_K.moved hW.alike hK, ga_N.warm hW hN, ga_subD hD his hnd⟩⟩ rfl hna hl.1 hst (lv_room h8) hd hf
  subst hst
  intro H locs ls hP hD hS1 hl T hT X
  have hPc := ga_subP hP his
  have hDc := ga_subD hD his hnd
  have hFc := va_free hD hS1 hA is his
  obtain ⟨v, st₀, t, T', L, h0, X', hL, e1, e2, ⟨⟨v', w, hv, hFw, hP1, hD1⟩, hz, hk⟩, stp⟩ := run H locs ls hP hD hS1 hl T hT X
  cases hv
  rw [h0] at hz hk
  have hP1 : va_P V.1 vwCl w T'.heap := by rw [e1]; exact hP1
  obtain ⟨hP2, hD2⟩ := va_join hP hD is ir his hir hnr hdis (fun q h1 h2 => by rw [e1]; exact hk q h1 h2) hFc hP1 hD1
  have hS2 : va_S A H0 T'.heap (locs ++ L) := ⟨Nat.le_trans hS1.1 (by rw [e1]; exact hz), fun q h1 h2 => by rw [e1, hk q (Nat.lt_of_lt_of_le h1 hS1.1) (fun z => h2 (hFc q z))]; exact hS1.2.1 q h1 h2, fun q hq => by
      rcases List.mem_append.mp hq with h | h
      · exact hS1.2.2 q h
      · exact hFc _ (hL q h)⟩
  obtain ⟨t2, a1, b1⟩ := kk v w hFw T'.heap (locs ++ L) ls hP2 hD2 hS2 hl T' rfl X'
  exact ⟨t2, stp t2 a1, b1⟩
theorem ga_callIN (hR : ga_R V cc own nm Ts nL R G) {b : Nat} {y : MethodName} {wsY wsY' : List Cond} {rm : Room} {As rest st0 : List Value} {wc wr : va_W} {mc ms : Nat} {F : ga_F} {bytes : ByteArray} {maxL ix : Nat} (na : Nat) (hC : ga_C V y wsY rm (.ref b :: As) wc mc ms F) (hG : GoodIn Ts wsY) (hw : wsY = Cond.code y bytes maxL none :: wsY') (hrc : rm.cells = mc) (hrs : rm.slots = ms) (hdn : y.cls ≠ "java/lang/invoke/MethodHandle" ∧ y.cls ≠ "java/lang/invoke/VarHandle" ∧ (parseMethodDescriptor y.desc).map (fun d => d.parameters.length) = some na) (hroom : rm.frames + 1 ≤ R.frames ∧ 8 + (maxL + 11) + rm.locals ≤ R.locals) (hna : As.length = na) (hst : st0 = As.reverse ++ .ref b :: rest) (h8 : (rest.map fun v => v.category).sum ≤ 8) (hf : k + mc ≤ R.cells ∧ n + ms ≤ R.slots) (is ir : List Nat) (his : is.map (fun i => ws[i]?) = wc.map some) (hir : ir.map (fun i => ws[i]?) = wr.map some) (hnd : va_nd is = true) (hnr : va_nd ir = true) (hdis : ∀ i ∈ ir, i ∉ is) (hnm1 : y.name = "<init>") (hins : Cond.instanceMethod y ∈ Ts) (hini : Cond.initialized y.cls ∈ Ts) {host : String} (hnest : (own, ix, y, host) ∈ ga_nests) (hd : decode cc pc = .ok (.invokespecial ix, 3))
    (kk : ∀ (v : Option Value) (w : va_W), F v w → G (k + mc) (n + ms) (wr ++ w) (pc + 3) lv (v.toList ++ rest)) : G k n ws pc lv st0 := by
  obtain ⟨p, l, e, s, m, args, below, meth, c, A, H0, Q, rfl, hx, hb, hml, hown, hnm, hts, hK, hN, hA⟩ := hR
  have run : ∀ (H : Heap) (locs : List Loc) (ls : Array Slot), va_P V.1 vwCl ws H → va_D A ws → va_S A H0 H locs → lv_has ls nL lv → va_Run p l e R s m args below meth c H locs k n mc ms (F0 m pc ls st0) rest _ (va_A wc H.size) := fun H locs ls hP hD hS1 hl =>
    va_runIN (host := host) (As := As) (rest := rest) ⟨hx, hb, hml, hown, hts⟩ (hC l H.size) ⟨va_cnB na hts hG hw hrc hrs (hN _ hnest) (hts _ hini) hdn hroom, hnm1, hts _ hins⟩ ⟨fun a U g mk q => by obtain ⟨q0, q1, qP, qK, qN, qD⟩ := q; exact ⟨q0, q1, qP, va_K.moved (u := U) (U := U.calling g mk a) (Vm.Alike.refl U.vm) qK, ga_N.same (u := U) (U := U.calling g mk a) rfl qN, qD⟩, fun U hU hW => ⟨rfl, by rw [hU], by rw [hU]; exact ga_subP hP his, va_K.moved hW.alike hK, ga_N.warm hW hN, ga_subD hD his hnd⟩⟩ rfl hna hl.1 hst (lv_room h8) hd hf
  subst hst
  intro H locs ls hP hD hS1 hl T hT X
  have hPc := ga_subP hP his
  have hDc := ga_subD hD his hnd
  have hFc := va_free hD hS1 hA is his
  obtain ⟨v, st₀, t, T', L, h0, X', hL, e1, e2, ⟨⟨v', w, hv, hFw, hP1, hD1⟩, hz, hk⟩, stp⟩ := run H locs ls hP hD hS1 hl T hT X
  cases hv
  rw [h0] at hz hk
  have hP1 : va_P V.1 vwCl w T'.heap := by rw [e1]; exact hP1
  obtain ⟨hP2, hD2⟩ := va_join hP hD is ir his hir hnr hdis (fun q h1 h2 => by rw [e1]; exact hk q h1 h2) hFc hP1 hD1
  have hS2 : va_S A H0 T'.heap (locs ++ L) := ⟨Nat.le_trans hS1.1 (by rw [e1]; exact hz), fun q h1 h2 => by rw [e1, hk q (Nat.lt_of_lt_of_le h1 hS1.1) (fun z => h2 (hFc q z))]; exact hS1.2.1 q h1 h2, fun q hq => by
      rcases List.mem_append.mp hq with h | h
      · exact hS1.2.2 q h
      · exact hFc _ (hL q h)⟩
  obtain ⟨t2, a1, b1⟩ := kk v w hFw T'.heap (locs ++ L) ls hP2 hD2 hS2 hl T' rfl X'
  exact ⟨t2, stp t2 a1, b1⟩
end GA
theorem ga_em (p : Prop) : p ∨ ¬ p := Classical.em p
theorem ga_bind {A B C : Prop} (h : A → B) (a : A) (k : B → C) : C := k (h a)
theorem ga_to {G : ga_G} {k n pc : Nat} {ws : va_W} {lv : ga_L} {st : List Value} (ws' : va_W) (st' : List Value) (hw : ws = ws') (hs : st = st') (h : G k n ws' pc lv st') : G k n ws pc lv st := by
  subst hw; subst hs; exact h
/-- a method's ends -/
def ga_E (cc : ByteArray) (rt : Option FieldType) (mc ms : Nat) (F : ga_F) (G : ga_G) : Prop :=
  (∀ (pc : Nat) (ws : va_W) (lv : ga_L) (v : Int32) (ty : FieldType), rt = some ty → decode cc pc = .ok (.ireturn, 1) → narrow ty (.int v) = .int v → F (some (.int v)) ws → G mc ms ws pc lv [.int v]) ∧
  (∀ (pc : Nat) (ws : va_W) (lv : ga_L), rt = none → decode cc pc = .ok (.return_, 1) → F none ws → G mc ms ws pc lv []) ∧
  (∀ (pc : Nat) (ws : va_W) (lv : ga_L) (a : Nat) (C : String), rt = some (.object C) → decode cc pc = .ok (.areturn, 1) → F (some (.ref a)) ws → G mc ms ws pc lv [.ref a])
theorem ga_iret {cc : ByteArray} {ty : FieldType} {mc ms : Nat} {F : ga_F} {G : ga_G} (hE : ga_E cc (some ty) mc ms F G) {pc : Nat} {ws : va_W} {lv : ga_L} {v : Int32} (hd : decode cc pc = .ok (.ireturn, 1)) (hn : narrow ty (.int v) = .int v) (h : F (some (.int v)) ws) : G mc ms ws pc lv [.int v] := hE.1 pc ws lv v ty rfl hd hn h
theorem ga_vret {cc : ByteArray} {mc ms : Nat} {F : ga_F} {G : ga_G} (hE : ga_E cc none mc ms F G) {pc : Nat} {ws : va_W} {lv : ga_L} (hd : decode cc pc = .ok (.return_, 1)) (h : F none ws) : G mc ms ws pc lv [] := hE.2.1 pc ws lv rfl hd h
theorem ga_aret {cc : ByteArray} {C : String} {mc ms : Nat} {F : ga_F} {G : ga_G} (hE : ga_E cc (some (.object C)) mc ms F G) {pc : Nat} {ws : va_W} {lv : ga_L} {a : Nat} (hd : decode cc pc = .ok (.areturn, 1)) (h : F (some (.ref a)) ws) : G mc ms ws pc lv [.ref a] := hE.2.2 pc ws lv a C rfl hd h
theorem ga_ri {S : Type} {wl : S → va_W} {post : Int32 → S → Prop} {r : Int32} {w : va_W} (u : S) (hw : w = wl u) (h : post r u) : ga_Fi wl post (some (.int r)) w := ⟨r, u, rfl, hw, h⟩
theorem ga_rv {S : Type} {wl : S → va_W} {post : S → Prop} {w : va_W} (u : S) (hw : w = wl u) (h : post u) : ga_Fv wl post none w := ⟨u, rfl, hw, h⟩
theorem ga_rr {S : Type} {wl : S → va_W} {post : Nat → S → Prop} {r : Nat} {w : va_W} (u : S) (hw : w = wl u) (h : post r u) : ga_Fr wl post (some (.ref r)) w := ⟨r, u, rfl, hw, h⟩
/-- a contract out of one walk -/
theorem ga_met {V : ga_V} {y : MethodName} {wsY wsY' : List Cond} {rm : Room} {av : List Value} {w0 : va_W} {mc ms : Nat} {F : ga_F} {cc : ByteArray} {maxL : Nat} {rt : Option FieldType} (hy : plainName y.cls = true) (hw : wsY = Cond.code y cc maxL rt :: wsY') (lv0 : ga_L) (hlv : lv_args 0 av = lv0) (hlen : (lg_sl av).length ≤ maxL)
    (body : ∀ G : ga_G, ga_R V cc y.cls y.name wsY maxL rm G → ga_E cc rt mc ms F G → G 0 0 w0 0 lv0 []) : ga_C V y wsY rm av w0 mc ms F := by
  intro l sz
  refine Met.ofW (cc := cc) (maxL := maxL) (ret := rt) hy hw ?_
  intro p e s m args below meth c s₁ B hml hv
  obtain ⟨rfl, hsz, hP, hK, hN, hD0⟩ := hv
  have hx := B.exec
  have hb := B.bytes
  have hr := B.returns
  have hts := atoms_spec (ws := wsY) B.pre
  have hown : s.vm.findClass y.cls = some m.cls := findClass_of_methodNamed B.named
  have hlocks := B.notSynchronized
  have hin : meth.name = y.name := (name_of_methodNamed B.named B.method).1
  subst hsz
  have hD := hD0.self (sz := s.heap.size)
  have hl := lv_entry av hlen
  rw [lg_entry_eq]
  rw [hlv] at hl
  refine body (ga_At V p l e rm s m av.toArray below meth c (va_A w0 s.heap.size) s.heap maxL (MQ below _ av.toArray s mc ms (va_A w0 s.heap.size))) ⟨p, l, e, s, m, av.toArray, below, meth, c, va_A w0 s.heap.size, s.heap, _, rfl, hx, hb, hml, hown, hin, hts, hK, hN, fun q h => Or.inr h⟩ ⟨?_, ?_, ?_⟩ s.heap [] _ hP hD va_S.rf hl
  · intro pc ws lv v ty hty hd hn h H locs ls hP hD hS hl
    subst hty
    exact W.zret hx hb hr hn (fun t ht hW => ⟨⟨some (.int v), ws, rfl, h, by rw [ht]; exact hP, hD⟩, hS.F ht⟩) hS.2.2 hd hlocks
  · intro pc ws lv hty hd h H locs ls hP hD hS hl
    subst hty
    exact W.vret hx hb hr (fun t ht hW => ⟨⟨none, ws, rfl, h, by rw [ht]; exact hP, hD⟩, hS.F ht⟩) hS.2.2 hd hlocks
  · intro pc ws lv a C hty hd h H locs ls hP hD hS hl
    subst hty
    exact W.aret hx hb hr (Or.inl ⟨C, rfl⟩) (Or.inr ⟨a, rfl⟩) (fun t ht hW => ⟨⟨some (.ref a), ws, rfl, h, by rw [ht]; exact hP, hD⟩, hS.F ht⟩) hS.2.2 hd hlocks
