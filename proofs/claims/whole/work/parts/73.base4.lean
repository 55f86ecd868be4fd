/-! methods that answer or throw; methods that catch -/
def BXC (g : GE) (w : va_W) (sz : Nat) (XP : String → Prop) : String → State → State → Prop := fun E st t => XP E ∧ XCT g w sz E E st t
def CtB (l : Launch) (y : MethodName) (cc : ByteArray) (nL : Nat) (ret : Option FieldType) (rm : Room) (g : GE) (av : List Value) (w : va_W) {S : Type} (post : Option Value → S → Prop) (w1 : S → va_W) (XP : String → Prop) : Prop :=
  ∀ sz : Nat, vx_Met l y (Cond.code y cc nL ret :: TW) rm (CP g w sz av) (CQ g w sz post w1) (BXC g w sz XP) rm.cells rm.slots (va_A w sz)
def BQ (below : List Frame) (a : Array Value) (s : State) (rm : Room) (g : GE) (w : va_W) {S : Type} (post : Option Value → S → Prop) (w1 : S → va_W) (XP : String → Prop) : State → Prop := vx_MQ below (CQ g w s.heap.size post w1) (BXC g w s.heap.size XP) a s rm.cells rm.slots (va_A w s.heap.size)
theorem CtB.of {l : Launch} {y : MethodName} {cc : ByteArray} {nL : Nat} {ret : Option FieldType} {rm : Room} {g : GE} {av : List Value} {w : va_W} {S : Type} {post : Option Value → S → Prop} {w1 : S → va_W} {XP : String → Prop} {own : String}
    (ho : y.cls = own) (hy : plainName y.cls = true) (hlen : (lg_sl av).length ≤ nL)
    (body : ∀ (p : Program) (e : Env) (s : State) (m : MethodId) (below : List Frame) (meth : Method) (c : Code) (ls : Array Slot), CallFix p m c cc nL s av.toArray TW own → meth.sig.returnType = ret → (∀ x ∈ c.exceptionTable.toList, False) → meth.locks = false → meth.name = y.name →
      Wd g (va_A w s.heap.size) s s.heap [] w → lv_has ls nL (lv_args 0 av) → W p l e rm s m av.toArray below meth c s.heap [] 0 0 (BQ below av.toArray s rm g w post w1 XP) (F0 m 0 ls [])) :
    CtB l y cc nL ret rm g av w post w1 XP := by
  intro sz
  refine vx_ofW (cc := cc) (maxL := nL) (ret := ret) hy rfl ?_
  intro p e s m args below meth c s₁ B hml hxt hv
  obtain ⟨rfl, hsz, hP, hK, hD0, hC⟩ := hv
  subst hsz
  have hts := atoms_spec (ws := Cond.code y cc nL ret :: TW) B.pre
  have hown : s.vm.findClass own = some m.cls := by rw [← ho]; exact findClass_of_methodNamed B.named
  have hl := lv_entry av (n := nL) hlen
  rw [lg_entry_eq]
  generalize (lg_sl av ++ List.replicate (nL - (lg_sl av).length) Slot.unset).toArray = ls at hl ⊢
  exact body p e s m below meth c ls ⟨B.exec, B.bytes, hml, hown, fun w h => hts w (List.mem_cons_of_mem _ h)⟩ B.returns hxt B.notSynchronized (name_of_methodNamed B.named B.method).1 ⟨hK, hP, hD0.self, va_S.rf, fun q h => Or.inr h, hC⟩ hl
/-- a method with handlers -/
def CtH (l : Launch) (y : MethodName) (cc : ByteArray) (nL : Nat) (ret : Option FieldType) (hh : List (Nat × Nat × Nat × Nat)) (rm : Room) (g : GE) (av : List Value) (w : va_W) {S : Type} (post : Option Value → S → Prop) (w1 : S → va_W) : Prop :=
  ∀ sz : Nat, Met l y (Cond.codeWith y cc nL ret hh :: TW) rm (CP g w sz av) (CQ g w sz post w1) rm.cells rm.slots (va_A w sz)
theorem CtH.of {l : Launch} {y : MethodName} {cc : ByteArray} {nL : Nat} {ret : Option FieldType} {hh : List (Nat × Nat × Nat × Nat)} {rm : Room} {g : GE} {av : List Value} {w : va_W} {S : Type} {post : Option Value → S → Prop} {w1 : S → va_W} {own : String}
    (ho : y.cls = own) (hy : plainName y.cls = true) (hlen : (lg_sl av).length ≤ nL)
    (body : ∀ (p : Program) (e : Env) (s : State) (m : MethodId) (below : List Frame) (meth : Method) (c : Code) (ls : Array Slot), CallFix p m c cc nL s av.toArray TW own → meth.sig.returnType = ret → c.exceptionTable.toList = tableOf hh → meth.locks = false →
      Wd g (va_A w s.heap.size) s s.heap [] w → lv_has ls nL (lv_args 0 av) → W p l e rm s m av.toArray below meth c s.heap [] 0 0 (RQ below av.toArray s rm g w post w1) (F0 m 0 ls [])) :
    CtH l y cc nL ret hh rm g av w post w1 := by
  intro sz
  refine MetFree.of_bodyS (code := cc) (maxLocals := nL) (ret := ret) hy ?_ ?_
  · intro args s m h hn
    obtain ⟨m9, meth, c, hn9, h1, h2, h3, h4, -, h5, h6, -⟩ := Cond.codeWith_spec (atoms_spec (ws := Cond.codeWith y cc nL ret hh :: TW) h _ List.mem_cons_self)
    cases hn.symm.trans hn9
    exact ⟨meth, c, h1, h2, h3, h4, h5, h6⟩
  · intro p e s m args below meth c s₁ B hml hv _
    have hh0 : s₁.heap = s.heap := by rw [B.state]; rfl
    obtain ⟨rfl, hsz, hP, hK, hD0, hC⟩ := hv
    subst hsz
    have hts := atoms_spec (ws := Cond.codeWith y cc nL ret hh :: TW) B.pre
    have hown : s.vm.findClass own = some m.cls := by rw [← ho]; exact findClass_of_methodNamed B.named
    have htb := vx_table (x := y) B (hts _ List.mem_cons_self)
    have hl := lv_entry av (n := nL) hlen
    have hW : W p l e (headSpec (Cond.codeWith y cc nL ret hh :: TW) rm).room s m av.toArray below meth c s.heap [] 0 0 (RQ below av.toArray s rm g w post w1) (entryFrame m av.toArray nL) := by
      rw [lg_entry_eq]
      generalize (lg_sl av ++ List.replicate (nL - (lg_sl av).length) Slot.unset).toArray = ls at hl ⊢
      exact body p e s m below meth c ls ⟨B.exec, B.bytes, hml, hown, fun w h => hts w (List.mem_cons_of_mem _ h)⟩ B.returns htb B.notSynchronized ⟨hK, hP, hD0.self, va_S.rf, fun q h => Or.inr h, hC⟩ hl
    obtain ⟨t, a1, o, b1, b2, b3⟩ := hW s₁ hh0 (Stand.of_body B)
    exact ⟨t, o, a1, b1, b2, ⟨b3.1, b3.2⟩⟩
section BaseB
variable {p : Program} {l : Launch} {e : Env} {R : Room} {s : State} {m : MethodId} {args : Array Value} {below : List Frame} {meth : Method} {c : Code} {H : Heap} {locs : List Loc} {cells slots : Nat} {Q : State → Prop}
variable {cc : ByteArray} {nL pc : Nat} {ls : Array Slot} {rest : List Value} {g : GE} {A : Nat → Prop} {ws : va_W} {own : String}
theorem BQ.ret {rm : Room} {w : va_W} {S : Type} {post : Option Value → S → Prop} {w1 : S → va_W} {XP : String → Prop} {g9 : JFrame} (k : W p l e R s m args below meth c H locs cells slots (RQ below args s rm g w post w1) g9) : W p l e R s m args below meth c H locs cells slots (BQ below args s rm g w post w1 XP) g9 := vx_ret k
theorem BQ.throw0 {rm : Room} {w : va_W} {S : Type} {post : Option Value → S → Prop} {w1 : S → va_W} {XP : String → Prop} {E0 : String} {ik ic : Nat} {names : List String} (hF : CallFix p m c cc nL s args TW own) (hst : l.stackTraces = false) (hxt : ∀ x ∈ c.exceptionTable.toList, False) (hlk : meth.locks = false) (hw : Wd g (va_A w s.heap.size) s H locs w) (hXP : XP E0)
    (hcls : Bundle.fit E0 = true) (hnames : ∀ n ∈ names, Bundle.fit n = true) (hk : Cond.classLink own ik E0 ∈ TW) (hini : Cond.initialized E0 ∈ TW) (hat : ∀ w ∈ vx_at0 own ic E0 names, w ∈ TW) (hgood : ∀ w ∈ Cond.classLink own ik E0 :: Cond.initialized E0 :: vx_at0 own ic E0 names, vx_ot w = true) (hls : ls.size = nL)
    (d0 : decode cc pc = .ok (.new ik, 3)) (d3 : decode cc (pc + 3) = .ok (.dup, 1)) (d4 : decode cc (pc + 4) = .ok (.invokespecial ic, 3)) (d7 : decode cc (pc + 7) = .ok (.athrow, 1))
    (hRf : names.length + 3 < R.frames) (hRl : (rest.map fun v => v.category).sum + (13 * (names.length + 1) + 42) ≤ R.locals) (hRc : cells + 1 ≤ R.cells) (hRs : slots + 6 ≤ R.slots) (hc : cells + 1 ≤ rm.cells) (hs : slots + 6 ≤ rm.slots) :
    W p l e R s m args below meth c H locs cells slots (BQ below args s rm g w post w1 XP) (F0 m pc ls rest) := by
  have hts := hF.2.2.2.2
  obtain ⟨hK, hP, hD, hS, hA, hC⟩ := hw
  refine vx_throw0 hF.1 hF.2.1 hst hF.2.2.2.1 hcls hnames (hts _ hk) (hts _ hini) (fun w h => hts w (hat w h)) hgood hC.2.2.2.2.2.1 hC.2.2.2.2.2.2.1 hS (hls.trans hF.2.2.1.symm) d0 d3 d4 d7 (fun x h => (hxt x h).elim) hRf hRl hRc hRs hlk ?_ hS.2.2 hc hs
  intro t hvm hz hk
  exact ⟨hXP, rfl, fun k q h => (hP k q h).kept (hk q.1 (hP k q h).lt), va_K.moved hvm hK, hD, ⟨Nat.le_trans hS.1 hz, fun q h1 h2 => by rw [hk q (Nat.lt_of_lt_of_le h1 hS.1)]; exact hS.2.1 q h1 h2⟩⟩
theorem BQ.out {rm : Room} {w : va_W} {S : Type} {post : Option Value → S → Prop} {w1 : S → va_W} {XP : String → Prop} {E0 : String} {q9 : Addr} {ce : Cell} (hxt : ∀ x ∈ c.exceptionTable.toList, False) (hlk : meth.locks = false) (hw : Wd g (va_A w s.heap.size) s H locs w) (hXP : XP E0) (hce : H[q9]? = some ce) (hcv : ce.vm = .none) (hcl : s.vm.findClass E0 = some ce.cls) (hc : cells ≤ rm.cells) (hs : slots ≤ rm.slots) :
    vx_W p l e R s m args below meth c H locs cells slots (BQ below args s rm g w post w1 XP) (F0 m pc ls rest) q9 := by
  obtain ⟨hK, hP, hD, hS, hA, hC⟩ := hw
  exact vx_out (fun x h => (hxt x h).elim) hlk hce hcv hcl (fun t ht hvm => ⟨hXP, rfl, by rw [ht]; exact hP, va_K.moved hvm hK, hD, hS.F ht⟩) hS.2.2 hc hs
theorem CtB.back {wc wr : va_W} {S : Type} {post : Option Value → S → Prop} {w1 : S → va_W} {XP : String → Prop} {mc ms : Nat} {a0 : Array Value} {st0 : List Value} (hw : Wd g A s H locs ws) (isC isR : List Nat) (hC : isC.map (fun i => ws[i]?) = wc.map some) (hR : isR.map (fun i => ws[i]?) = wr.map some) (hn : va_nd isR = true) (hdis : ∀ i ∈ isR, i ∉ isC)
    (hr : vx_Run p l e R s m args below meth c H locs cells slots mc ms (F0 m pc ls st0) rest (CQ g wc H.size post w1 a0) (BXC g wc H.size XP) (va_A wc H.size))
    (kk : ∀ (v : Option Value) (u : S) (H : Heap) (locs : List Loc), post v u → Wd g A s H locs (wr ++ w1 u) → W p l e R s m args below meth c H locs (cells + mc) (slots + ms) Q (F0 m (pc + 3) ls (v.toList ++ rest)))
    (kx : ∀ (E : String) (q9 : Addr) (ce : Cell) (H : Heap) (locs : List Loc), XP E → Wd g A s H locs (wr ++ wc) → H[q9]? = some ce → ce.vm = .none → s.vm.findClass E = some ce.cls → vx_W p l e R s m args below meth c H locs (cells + mc) (slots + ms) Q (F0 m pc ls rest) q9) : W p l e R s m args below meth c H locs cells slots Q (F0 m pc ls st0) := by
  obtain ⟨hK, hP, hD, hS, hA, hC9⟩ := hw
  have hFc := va_free (wc := wc) hD hS hA isC hC
  intro T hT X
  rcases hr T hT X with ⟨v, st₀, t, T', L, h0, X', hL, e1, e2, ⟨⟨v', u, hv, hp, hP1, hK1, hD1⟩, hz, hk⟩, st⟩ | ⟨q9, st₀, t, T', L, E, ce, h0, X', hL, e1, e2, ⟨hXP, -, hP1, hK1, hD1, hz, hk⟩, hce, hcv, hcl, st⟩
  · cases hv
    rw [h0] at hz hk
    have hz' : H.size ≤ T'.heap.size := by rw [e1]; exact hz
    have hk' : ∀ q : Nat, q < H.size → ¬ va_A wc H.size q → T'.heap[q]? = H[q]? := fun q h1 h2 => by rw [e1]; exact hk q h1 h2
    rw [← e1] at hP1
    obtain ⟨hP2, hD2⟩ := va_join (wr := wr) (w1 := w1 u) hP hD isC isR hC hR hn hdis hk' hFc hP1 hD1
    obtain ⟨t2, a1, b1⟩ := kk v u T'.heap (locs ++ L) hp ⟨hK, hP2, hD2, ⟨Nat.le_trans hS.1 hz', fun q h1 h2 => by
        rw [hk' q (Nat.lt_of_lt_of_le h1 hS.1) (fun z => h2 (hFc q z))]; exact hS.2.1 q h1 h2, fun q hq => by
        rcases List.mem_append.mp hq with h | h
        · exact hS.2.2 q h
        · exact hFc _ (hL q h)⟩, hA, hC9⟩ T' rfl X'
    exact ⟨t2, st t2 a1, b1⟩
  · rw [h0] at hz hk
    have hz' : H.size ≤ T'.heap.size := by rw [e1]; exact hz
    have hk' : ∀ q : Nat, q < H.size → ¬ va_A wc H.size q → T'.heap[q]? = H[q]? := fun q h1 h2 => by rw [e1]; exact hk q h1 h2
    rw [← e1] at hP1 hce
    obtain ⟨hP2, hD2⟩ := va_join (wr := wr) (w1 := wc) hP hD isC isR hC hR hn hdis hk' hFc hP1 hD1
    obtain ⟨t2, a1, b1⟩ := kx E q9 ce T'.heap (locs ++ L) hXP ⟨hK, hP2, hD2, ⟨Nat.le_trans hS.1 hz', fun q h1 h2 => by
        rw [hk' q (Nat.lt_of_lt_of_le h1 hS.1) (fun z => h2 (hFc q z))]; exact hS.2.1 q h1 h2, fun q hq => by
        rcases List.mem_append.mp hq with h | h
        · exact hS.2.2 q h
        · exact hFc _ (hL q h)⟩, hA, hC9⟩ hce hcv hcl T' rfl X'
    exact ⟨t2, st.trans a1, b1⟩
theorem CtB.callV {y : MethodName} {cc' : ByteArray} {nL' n index ci b N : Nat} {C : String} {T : u_T} {ret' : Option FieldType} {rm : Room} {As : List Value} {wc wr : va_W} {S : Type} {post : Option Value → S → Prop} {w1 : S → va_W} {XP : String → Prop} (hF : CallFix p m c cc nL s args TW own) (hw : Wd g A s H locs ws) (hM : CtB l y cc' nL' ret' rm g (.ref b :: As) wc post w1 XP) (mw : MWv own index C y cc' nL' ret' n)
    (isC isR : List Nat) (hC : isC.map (fun i => ws[i]?) = wc.map some) (hR : isR.map (fun i => ws[i]?) = wr.map some) (hnc : va_nd isC = true) (hnd : va_nd isR = true) (hdis : ∀ i ∈ isR, i ∉ isC) (q0 : Nat) {fs : List Value} (he : wc[q0]? = some (b, .inr (ci, fs))) (hc : vwCl[ci]? = some (C, T, N))
    (hroom : rm.frames + 1 ≤ R.frames ∧ 8 + (nL' + 11) + rm.locals ≤ R.locals) (hcs : cells + rm.cells ≤ R.cells ∧ slots + rm.slots ≤ R.slots) (hn : As.length = n) (hls : ls.size = nL) (hrest : (rest.map fun v => v.category).sum ≤ 8) {st0 : List Value} (hst : st0 = As.reverse ++ .ref b :: rest) (hdg : decode cc pc = .ok (.invokevirtual index, 3))
    (kk : ∀ (v : Option Value) (u : S) (H : Heap) (locs : List Loc), post v u → Wd g A s H locs (wr ++ w1 u) → W p l e R s m args below meth c H locs (cells + rm.cells) (slots + rm.slots) Q (F0 m (pc + 3) ls (v.toList ++ rest)))
    (kx : ∀ (E : String) (q9 : Addr) (ce : Cell) (H : Heap) (locs : List Loc), XP E → Wd g A s H locs (wr ++ wc) → H[q9]? = some ce → ce.vm = .none → s.vm.findClass E = some ce.cls → vx_W p l e R s m args below meth c H locs (cells + rm.cells) (slots + rm.slots) Q (F0 m pc ls rest) q9) : W p l e R s m args below meth c H locs cells slots Q (F0 m pc ls st0) := by
  obtain ⟨m1, m2, m3, m4, m5, m6, m7, m8⟩ := mw
  have hts := hF.2.2.2.2
  have hin : ∀ sig, parseMethodDescriptor y.desc = some sig → n = sig.parameters.length := fun sig h => by rw [h] at m8; exact (Option.some.inj m8).symm
  have hPc : va_P g.1 vwCl wc H := hw.2.1.sub isC (fm_of_map hC)
  have hDc : va_D A wc := hw.2.2.1.sub isC hnc hC
  have hini : (Cond.initialized y.cls).before args s = true := by rw [m6]; exact hts _ m4
  exact CtB.back (a0 := (Value.ref b :: As).toArray) hw isC isR hC hR hnd hdis (vx_runV (y := y) (ws := Cond.code y cc' nL' ret' :: TW) (rm := rm) (C := C) (n := n) (As := As) (b := b) hF (hM H.size)
    ⟨⟨rfl, rfl, hroom.1, hroom.2, tw_payc hts m5, List.mem_cons_self, hts _ m5, hini, m7, hin, hts _ m1⟩, hts _ m2, hts _ m3⟩
    ⟨CP.blind, va_recv hw.1 hPc hc he, CP.pre hw isC hC hPc hDc⟩ rfl hn hls hst (lv_room hrest) hdg hcs) kk kx
def MWh (own : String) (index : Nat) (y : MethodName) (cc : ByteArray) (nL : Nat) (ret : Option FieldType) (hh : List (Nat × Nat × Nat × Nat)) (n : Nat) : Prop :=
  Cond.methodLink own index y ∈ TW ∧ Cond.static y ∈ TW ∧ Cond.initialized y.cls ∈ TW ∧ Cond.codeWith y cc nL ret hh ∈ TW ∧ (y.cls ≠ "java/lang/invoke/MethodHandle" ∧ y.cls ≠ "java/lang/invoke/VarHandle") ∧ (parseMethodDescriptor y.desc).map (fun d => d.parameters.length) = some n
theorem CtH.callS {y : MethodName} {cc' : ByteArray} {nL' n index : Nat} {ret' : Option FieldType} {hh : List (Nat × Nat × Nat × Nat)} {rm : Room} {As : List Value} {wc wr : va_W} {S : Type} {post : Option Value → S → Prop} {w1 : S → va_W} (hF : CallFix p m c cc nL s args TW own) (hw : Wd g A s H locs ws) (hM : CtH l y cc' nL' ret' hh rm g As wc post w1) (mw : MWh own index y cc' nL' ret' hh n)
    (isC isR : List Nat) (hC : isC.map (fun i => ws[i]?) = wc.map some) (hR : isR.map (fun i => ws[i]?) = wr.map some) (hnc : va_nd isC = true) (hnd : va_nd isR = true) (hdis : ∀ i ∈ isR, i ∉ isC)
    (hroom : rm.frames + 1 ≤ R.frames ∧ 8 + (nL' + 11) + rm.locals ≤ R.locals) (hcs : cells + rm.cells ≤ R.cells ∧ slots + rm.slots ≤ R.slots) (hn : As.length = n) (hls : ls.size = nL) (hrest : (rest.map fun v => v.category).sum ≤ 8) {st0 : List Value} (hst : st0 = As.reverse ++ rest) (hdg : decode cc pc = .ok (.invokestatic index, 3))
    (kk : ∀ (v : Option Value) (u : S) (H : Heap) (locs : List Loc), post v u → Wd g A s H locs (wr ++ w1 u) → W p l e R s m args below meth c H locs (cells + rm.cells) (slots + rm.slots) Q (F0 m (pc + 3) ls (v.toList ++ rest))) : W p l e R s m args below meth c H locs cells slots Q (F0 m pc ls st0) := by
  obtain ⟨m1, m2, m3, m5, m7, m8⟩ := mw
  have hts := hF.2.2.2.2
  have hin : ∀ sig, parseMethodDescriptor y.desc = some sig → n = sig.parameters.length := fun sig h => by rw [h] at m8; exact (Option.some.inj m8).symm
  have hPc : va_P g.1 vwCl wc H := hw.2.1.sub isC (fm_of_map hC)
  have hDc : va_D A wc := hw.2.2.1.sub isC hnc hC
  exact Ct.back hw isC isR hC hR hnd hdis (vx_runSW (y := y) (ws := Cond.codeWith y cc' nL' ret' hh :: TW) (rm := rm) (n := n) (As := As) hF (hM H.size)
    ⟨⟨rfl, rfl, hroom.1, hroom.2, tw_payc hts m5, List.mem_cons_self⟩, hts _ m5, hts _ m3, m7, hin, hts _ m1, hts _ m2⟩
    ⟨CP.blind, CP.pre hw isC hC hPc hDc⟩ rfl hn hls hst (lv_room hrest) hdg hcs) kk
/-- caught by the row x -/
theorem wcatch {name E : String} {ce : Cell} {q : Addr} {hh : List (Nat × Nat × Nat × Nat)} (hF : CallFix p m c cc nL s args TW own) (htb : c.exceptionTable.toList = tableOf hh) (pre : List ExceptionTableEntry) (x : ExceptionTableEntry) (suf : List ExceptionTableEntry) (hsplit : tableOf hh = pre ++ x :: suf)
    (hpass : ∀ z ∈ pre, covers z pc = false ∨ (z.catchType ≠ 0 ∧ ∃ nm : String, Cond.classLink own z.catchType nm ∈ TW ∧ va_Nc E nm s)) (hx : covers x pc = true) (h0 : x.catchType ≠ 0)
    (hlink : Cond.classLink own x.catchType name ∈ TW) (hcast : Cond.castable E name ∈ TW) (hcell : H[q]? = some ce) (hv : ce.vm = .none) (hcl : s.vm.findClass E = some ce.cls)
    (kk : W p l e R s m args below meth c H locs cells slots Q (F0 m x.handlerPc ls [.ref q])) : vx_W p l e R s m args below meth c H locs cells slots Q (F0 m pc ls rest) q :=
  vx_catch hF.2.2.2.1 pre x suf (htb.trans hsplit) (fun z hz => (hpass z hz).imp id (fun ⟨a, nm, b, d⟩ => ⟨a, nm, hF.2.2.2.2 _ b, d⟩)) hx h0 (hF.2.2.2.2 _ hlink) (hF.2.2.2.2 _ hcast) hcell hv hcl kk
theorem r_last {a : Nat} {ws' : va_W} (hF : CallFix p m c cc nL s args TW own) (hw : Wd g A s H locs ws) (hdg : decode cc pc = .ok (.lastore, 1)) (q0 : Nat) {f : Nat → Int64} (ha : ws[q0]? = some (a, .inl (g.2.1 2, 1, .inr (.inl f)))) {x : Int64} (hs : ws.set q0 (a, .inl (g.2.1 2, 1, .inr (.inl (vp_updL f 0 x)))) = ws')
    (kk : ∀ (H : Heap) (locs : List Loc), Wd g A s H locs ws' → W p l e R s m args below meth c H locs cells slots Q (F0 m (pc + 1) ls rest)) : W p l e R s m args below meth c H locs cells slots Q (F0 m pc ls (.long x :: .int (nI 0) :: .ref a :: rest)) := by
  obtain ⟨hK, hP, hD, hS, hA, hC⟩ := hw
  refine va_last hF.1 hF.2.1 hK hP hD hS q0 2 ha rfl (vp_in_nI (show 0 < 1 by decide) (by decide)) hdg (fun H1 l1 hP hD hS => ?_)
  rw [show (nI 0).toNatClampNeg = 0 from rfl, hs] at hP hD
  exact kk H1 l1 ⟨hK, hP, hD, hS, hA, hC⟩
theorem r_lald {a : Nat} (hF : CallFix p m c cc nL s args TW own) (hw : Wd g A s H locs ws) (hdg : decode cc pc = .ok (.laload, 1)) (q0 : Nat) {f : Nat → Int64} (ha : ws[q0]? = some (a, .inl (g.2.1 2, 1, .inr (.inl f))))
    (kk : W p l e R s m args below meth c H locs cells slots Q (F0 m (pc + 1) ls (.long (f 0) :: rest))) : W p l e R s m args below meth c H locs cells slots Q (F0 m pc ls (.int (nI 0) :: .ref a :: rest)) := by
  obtain ⟨hK, hP, hD, hS, hA, hC⟩ := hw
  refine va_lald hF.1 hF.2.1 hK hP q0 2 ha rfl (vp_in_nI (show 0 < 1 by decide) (by decide)) hdg ?_
  rw [show (nI 0).toNatClampNeg = 0 from rfl]
  exact kk
theorem vp_updL_0 {f : Nat → Int64} {x : Int64} : vp_updL f 0 x 0 = x := if_pos rfl
end BaseB
