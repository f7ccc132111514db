/-! the law's script, read where it stands: judgements of walks and methods that may read it, and worlds made smaller -/
theorem ga_drop {V : ga_V} {cc : ByteArray} {own nm : String} {Ts : List Cond} {nL : Nat} {R : Room} {G : ga_G} {k n pc : Nat} {ws : va_W} {lv : ga_L} {st : List Value} (hR : ga_R V cc own nm Ts nL R G) (is : List Nat) {wc : va_W} (his : is.map (fun i => ws[i]?) = wc.map some) (hnd : va_nd is = true) (kk : G k n wc pc lv st) : G k n ws pc lv st := by
  obtain ⟨p, l, e, s, m, args, below, meth, c, A, H0, Q, rfl, hx, hb, hml, hown, hnm, hts, hK, hN, hA⟩ := hR
  exact fun H locs ls hP hD hS hl => kk H locs ls (ga_subP hP his) (hD.sub is hnd his) hS hl
def gs_X (b L : Nat) (xs : Nat → Int32) (A : Nat → Prop) (U : State) (H : Heap) : Prop := va_X b L xs U H ∧ b < H.size ∧ ¬ A b
theorem gs_X.call {b L : Nat} {xs : Nat → Int32} {A : Nat → Prop} {U : State} {g : JFrame} {mk : MethodId} {a : Array Value} (h : gs_X b L xs A U U.heap) : gs_X b L xs A (U.calling g mk a) (U.calling g mk a).heap :=
  ⟨h.1.moved (U := U.calling g mk a) (Vm.Alike.refl U.vm), h.2⟩
theorem gs_X.push {b L : Nat} {xs : Nat → Int32} {A B : Nat → Prop} {s U : State} {H : Heap} {locs : List Loc} (h : gs_X b L xs A s s.heap) (hS : va_S A s.heap H locs) (hB : ∀ q, B q → A q) (hU : U.heap = H) (hW : s.WarmedH U.vm) : gs_X b L xs B U U.heap := by
  subst hU
  exact ⟨(h.1.kept (hS.2.1 b h.2.1 h.2.2)).moved hW.alike, Nat.lt_of_lt_of_le h.2.1 hS.1, fun z => h.2.2 (hB b z)⟩
def gs_C (V : ga_V) (b L : Nat) (xs : Nat → Int32) (y : MethodName) (wsY : List Cond) (rm : Room) (av : List Value) (w0 : va_W) (mc ms : Nat) (F : ga_F) : Prop :=
  ∀ (l : Launch) (sz : Nat), Met l y wsY rm (va_Pc av (fun U => U.heap.size = sz ∧ va_P V.1 vwCl w0 U.heap ∧ va_K V.1 vwCl (ga_ty V) U ∧ ga_N U ∧ va_D (fun _ => True) w0 ∧ gs_X b L xs (va_A w0 sz) U U.heap))
    (fun _ st oc t => (∃ (v : Option Value) (w : va_W), oc = .returned v ∧ F v w ∧ va_P V.1 vwCl w t.heap ∧ va_D (va_A w0 sz) w) ∧ va_F (va_A w0 sz) st t) mc ms (va_A w0 sz)
def gs_R (V : ga_V) (b L : Nat) (xs : Nat → Int32) (cc : ByteArray) (own nm : String) (Ts : List Cond) (nL : Nat) (R : Room) (G : ga_G) : Prop :=
  ∃ (p : Program) (l : Launch) (e : Env) (s : State) (m : MethodId) (args : Array Value) (below : List Frame) (meth : Method) (c : Code) (A : Nat → Prop) (Q : State → Prop),
    G = ga_At V p l e R s m args below meth c A s.heap nL Q ∧ p.tables.exec = Jvm.exec ∧ c.code = cc ∧ c.maxLocals = nL ∧ s.vm.findClass own = some m.cls ∧ meth.name = nm ∧ (∀ w ∈ Ts, w.before args s = true) ∧ va_K V.1 vwCl (ga_ty V) s ∧ ga_N s ∧ (∀ q, s.heap.size ≤ q → A q) ∧ gs_X b L xs A s s.heap
theorem gs_R.r {V : ga_V} {b L : Nat} {xs : Nat → Int32} {cc : ByteArray} {own nm : String} {Ts : List Cond} {nL : Nat} {R : Room} {G : ga_G} (h : gs_R V b L xs cc own nm Ts nL R G) : ga_R V cc own nm Ts nL R G := by
  obtain ⟨p, l, e, s, m, args, below, meth, c, A, Q, h1, h2, h3, h4, h5, h6, h7, h8, h9, h10, -⟩ := h
  exact ⟨p, l, e, s, m, args, below, meth, c, A, s.heap, Q, h1, h2, h3, h4, h5, h6, h7, h8, h9, h10⟩
theorem gs_met {V : ga_V} {b L : Nat} {xs : Nat → Int32} {y : MethodName} {wsY wsY' : List Cond} {rm : Room} {av : List Value} {w0 : va_W} {mc ms : Nat} {F : ga_F} {cc : ByteArray} {maxL : Nat} {rt : Option FieldType} (hy : plainName y.cls = true) (hw : wsY = Cond.code y cc maxL rt :: wsY') (lv0 : ga_L) (hlv : lv_args 0 av = lv0) (hlen : (lg_sl av).length ≤ maxL)
    (body : ∀ G : ga_G, gs_R V b L xs cc y.cls y.name wsY maxL rm G → ga_E cc rt mc ms F G → G 0 0 w0 0 lv0 []) : gs_C V b L xs y wsY rm av w0 mc ms F := by
  intro l sz
  refine Met.ofW (cc := cc) (maxL := maxL) (ret := rt) hy hw ?_
  intro p e s m args below meth c s₁ B hml hv
  obtain ⟨rfl, hsz, hP, hK, hN, hD0, hX⟩ := hv
  have hx := B.exec
  have hb := B.bytes
  have hr := B.returns
  have hts := atoms_spec (ws := wsY) B.pre
  have hown : s.vm.findClass y.cls = some m.cls := findClass_of_methodNamed B.named
  have hlocks := B.notSynchronized
  have hin : meth.name = y.name := (name_of_methodNamed B.named B.method).1
  subst hsz
  have hD := hD0.self (sz := s.heap.size)
  have hl := lv_entry av hlen
  rw [lg_entry_eq]
  rw [hlv] at hl
  refine body (ga_At V p l e rm s m av.toArray below meth c (va_A w0 s.heap.size) s.heap maxL (MQ below _ av.toArray s mc ms (va_A w0 s.heap.size))) ⟨p, l, e, s, m, av.toArray, below, meth, c, va_A w0 s.heap.size, _, rfl, hx, hb, hml, hown, hin, hts, hK, hN, fun q h => Or.inr h, hX⟩ ⟨?_, ?_, ?_⟩ s.heap [] _ hP hD va_S.rf hl
  · intro pc ws lv v ty hty hd hn h H locs ls hP hD hS hl
    subst hty
    exact W.zret hx hb hr hn (fun t ht hW => ⟨⟨some (.int v), ws, rfl, h, by rw [ht]; exact hP, hD⟩, hS.F ht⟩) hS.2.2 hd hlocks
  · intro pc ws lv hty hd h H locs ls hP hD hS hl
    subst hty
    exact W.vret hx hb hr (fun t ht hW => ⟨⟨none, ws, rfl, h, by rw [ht]; exact hP, hD⟩, hS.F ht⟩) hS.2.2 hd hlocks
  · intro pc ws lv a C hty hd h H locs ls hP hD hS hl
    subst hty
    exact W.aret hx hb hr (Or.inl ⟨C, rfl⟩) (Or.inr ⟨a, rfl⟩) (fun t ht hW => ⟨⟨some (.ref a), ws, rfl, h, by rw [ht]; exact hP, hD⟩, hS.F ht⟩) hS.2.2 hd hlocks
section GS
variable {V : ga_V} {b0 L : Nat} {xs : Nat → Int32} {cc : ByteArray} {own nm : String} {Ts : List Cond} {nL : Nat} {R : Room} {G : ga_G} {k n pc : Nat} {ws ws' : va_W} {lv lv' : ga_L} {st : List Value}
theorem gs_slen (hR : gs_R V b0 L xs cc own nm Ts nL R G) (hd : decode cc pc = .ok (.arraylength, 1)) (kk : G k n ws (pc + 1) lv (.int (nI L) :: st)) : G k n ws pc lv (.ref b0 :: st) := by
  obtain ⟨p, l, e, s, m, args, below, meth, c, A, Q, rfl, hx, hb, hml, hown, hnm, hts, hK, hN, hA, hX⟩ := hR
  exact fun H locs ls hP hD hS hl => va_slen hx hb hX.1 hX.2.1 hX.2.2 hS hd (kk H locs ls hP hD hS hl)
theorem gs_sld (hR : gs_R V b0 L xs cc own nm Ts nL R G) {i : Int32} (hin : vp_in i L) (hd : decode cc pc = .ok (.iaload, 1)) (kk : G k n ws (pc + 1) lv (.int (xs i.toNatClampNeg) :: st)) : G k n ws pc lv (.int i :: .ref b0 :: st) := by
  obtain ⟨p, l, e, s, m, args, below, meth, c, A, Q, rfl, hx, hb, hml, hown, hnm, hts, hK, hN, hA, hX⟩ := hR
  exact fun H locs ls hP hD hS hl => va_sld hx hb hX.1 hX.2.1 hX.2.2 hS hin hd (kk H locs ls hP hD hS hl)
theorem gs_callS (hR : gs_R V b0 L xs cc own nm Ts nL R G) {y : MethodName} {wsY wsY' : List Cond} {rm : Room} {As rest st0 : List Value} {wc : va_W} {mc ms : Nat} {F : ga_F} {bytes : ByteArray} {maxL ix : Nat} {ret : Option FieldType} (na : Nat) (hC : gs_C V b0 L xs y wsY rm As wc mc ms F) (hS : ga_Same wc F) (hG : GoodIn Ts (va_wsS own ix y wsY)) (hw : wsY = Cond.code y bytes maxL ret :: wsY') (hrc : rm.cells = mc) (hrs : rm.slots = ms) (hdn : y.cls ≠ "java/lang/invoke/MethodHandle" ∧ y.cls ≠ "java/lang/invoke/VarHandle" ∧ (parseMethodDescriptor y.desc).map (fun d => d.parameters.length) = some na) (hroom : rm.frames + 1 ≤ R.frames ∧ 8 + (maxL + 11) + rm.locals ≤ R.locals) (hna : As.length = na) (hst : st0 = As.reverse ++ rest) (h8 : (rest.map fun v => v.category).sum ≤ 8) (hf : k + mc ≤ R.cells ∧ n + ms ≤ R.slots) (is : List Nat) (his : is.map (fun i => ws[i]?) = wc.map some) (hnd : va_nd is = true) (hd : decode cc pc = .ok (.invokestatic ix, 3))
    (kk : ∀ (v : Option Value) (w : va_W), F v w → G (k + mc) (n + ms) (ga_put ws is w) (pc + 3) lv (v.toList ++ rest)) : G k n ws pc lv st0 := by
  obtain ⟨p, l, e, s, m, args, below, meth, c, A, Q, rfl, hx, hb, hml, hown, hnm, hts, hK, hN, hA, hX⟩ := hR
  have run : ∀ (H : Heap) (locs : List Loc) (ls : Array Slot), va_P V.1 vwCl ws H → va_D A ws → va_S A s.heap H locs → lv_has ls nL lv → va_Run p l e R s m args below meth c H locs k n mc ms (F0 m pc ls st0) rest _ (va_A wc H.size) := fun H locs ls hP hD hS1 hl =>
    va_runS (As := As) (rest := rest) ⟨hx, hb, hml, hown, hts⟩ (hC l H.size) (va_cwS na hts hG hw hrc hrs hdn hroom) ⟨fun a U g mk q => by obtain ⟨q0, q1, qP, qK, qN, qD, qX⟩ := q; exact ⟨q0, q1, qP, va_K.moved (u := U) (U := U.calling g mk a) (Vm.Alike.refl U.vm) qK, ga_N.same (u := U) (U := U.calling g mk a) rfl qN, qD, qX.call⟩, fun U hU hW => ⟨rfl, by rw [hU], by rw [hU]; exact ga_subP hP his, va_K.moved hW.alike hK, ga_N.warm hW hN, ga_subD hD his hnd, hX.push hS1 (va_free hD hS1 hA is his) hU hW⟩⟩ rfl hna hl.1 hst (lv_room h8) hd hf
  subst hst
  intro H locs ls hP hD hS1 hl T hT X
  have hPc := ga_subP hP his
  have hDc := ga_subD hD his hnd
  have hFc := va_free hD hS1 hA is his
  obtain ⟨v, st₀, t, T', L, h0, X', hL, e1, e2, ⟨⟨v', w, hv, hFw, hP1, hD1⟩, hz, hk⟩, stp⟩ := run H locs ls hP hD hS1 hl T hT X
  cases hv
  rw [h0] at hz hk
  have hP1 : va_P V.1 vwCl w T'.heap := by rw [e1]; exact hP1
  obtain ⟨hP2, hD2⟩ := ga_join hP hD his (hS v w hFw) (fun q h1 h2 => by rw [e1]; exact hk q h1 h2) hP1
  have hS2 : va_S A s.heap T'.heap (locs ++ L) := ⟨Nat.le_trans hS1.1 (by rw [e1]; exact hz), fun q h1 h2 => by rw [e1, hk q (Nat.lt_of_lt_of_le h1 hS1.1) (fun z => h2 (hFc q z))]; exact hS1.2.1 q h1 h2, fun q hq => by
      rcases List.mem_append.mp hq with h | h
      · exact hS1.2.2 q h
      · exact hFc _ (hL q h)⟩
  obtain ⟨t2, a1, b1⟩ := kk v w hFw T'.heap (locs ++ L) ls hP2 hD2 hS2 hl T' rfl X'
  exact ⟨t2, stp t2 a1, b1⟩
end GS
