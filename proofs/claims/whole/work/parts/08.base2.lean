/-! constants, exceptions, makings -/
section BaseK
variable {p : Program} {l : Launch} {e : Env} {R : Room} {s : State} {m : MethodId} {args : Array Value} {below : List Frame} {meth : Method} {c : Code} {H : Heap} {locs : List Loc} {cells slots : Nat} {Q : State → Prop}
variable {cc : ByteArray} {nL pc : Nat} {ls : Array Slot} {rest : List Value} {g : GE} {A : Nat → Prop} {ws : va_W} {own : String}
theorem wgetE {index i : Nat} {nm : String} (hF : CallFix p m c cc nL s args TW own) (hw : Wd g A s H locs ws) (hi : i < 18) (hnm : evNm.getD i "" = nm) (hl : Cond.fieldLink own index "LineTalk$Event" nm "LLineTalk$Event;" ∈ TW) (hdg : decode cc pc = .ok (.getstatic index, 3))
    (kk : W p l e R s m args below meth c H locs cells slots Q (F0 m (pc + 3) ls (.ref (g.2.2 0 i) :: rest))) : W p l e R s m args below meth c H locs cells slots Q (F0 m pc ls rest) := by
  subst hnm
  exact va_gets hF.1 hF.2.1 (hw.2.2.2.2.2.1 i hi) hw.2.2.2.1 hF.2.2.2.1 (hF.2.2.2.2 _ hl) (fun _ h => h) hdg kk
theorem wgetK {index a : Nat} {o n d : String} {v : Value} (hF : CallFix p m c cc nL s args TW own) (hw : Wd g A s H locs ws) (hE : va_OF o n d v a A s s.heap) (hl : Cond.fieldLink own index o n d ∈ TW ∨ ∃ host, Cond.fieldLinkNest own index o n d host ∈ TW) (hdg : decode cc pc = .ok (.getfield index, 3))
    (kk : W p l e R s m args below meth c H locs cells slots Q (F0 m (pc + 3) ls (v :: rest))) : W p l e R s m args below meth c H locs cells slots Q (F0 m pc ls (.ref a :: rest)) := by
  obtain ⟨cf, k, fi, f, cell, h1, h2, h3, h4, h5, h6⟩ := hE.kept hw.2.2.2.1.2.1
  rcases hl with h | ⟨host, h⟩
  · exact vk_getf hF.1 hF.2.1 hE hw.2.2.2.1 hF.2.2.2.1 (hF.2.2.2.2 _ h) (fun _ h => h) hdg kk
  · exact va_Wgetf hF.1 hF.2.1 hF.2.2.2.1 (hF.2.2.2.2 _ h) h1 h2 h3 h4 h5 rfl rfl hdg kk
/-- a virtual call of a receiver that the constants name -/
theorem Ct.callVK {y : MethodName} {cc' : ByteArray} {nL' n index b : Nat} {C : String} {ret' : Option FieldType} {rm : Room} {As : List Value} {wc wr : va_W} {S : Type} {post : Option Value → S → Prop} {w1 : S → va_W} (hF : CallFix p m c cc nL s args TW own) (hw : Wd g A s H locs ws) (hM : Ct l y cc' nL' ret' rm g (.ref b :: As) wc post w1) (mw : MWv own index C y cc' nL' ret' n)
    (isC isR : List Nat) (hC : isC.map (fun i => ws[i]?) = wc.map some) (hR : isR.map (fun i => ws[i]?) = wr.map some) (hnc : va_nd isC = true) (hnd : va_nd isR = true) (hdis : ∀ i ∈ isR, i ∉ isC) (hrc : va_O C b A s s.heap)
    (hroom : rm.frames + 1 ≤ R.frames ∧ 8 + (nL' + 11) + rm.locals ≤ R.locals) (hcs : cells + rm.cells ≤ R.cells ∧ slots + rm.slots ≤ R.slots) (hn : As.length = n) (hls : ls.size = nL) (hrest : (rest.map fun v => v.category).sum ≤ 8) {st0 : List Value} (hst : st0 = As.reverse ++ .ref b :: rest) (hdg : decode cc pc = .ok (.invokevirtual index, 3))
    (kk : ∀ (v : Option Value) (u : S) (H : Heap) (locs : List Loc), post v u → Wd g A s H locs (wr ++ w1 u) → W p l e R s m args below meth c H locs (cells + rm.cells) (slots + rm.slots) Q (F0 m (pc + 3) ls (v.toList ++ rest))) : W p l e R s m args below meth c H locs cells slots Q (F0 m pc ls st0) := by
  obtain ⟨m1, m2, m3, m4, m5, m6, m7, m8⟩ := mw
  have hts := hF.2.2.2.2
  have hin : ∀ sig, parseMethodDescriptor y.desc = some sig → n = sig.parameters.length := fun sig h => by rw [h] at m8; exact (Option.some.inj m8).symm
  have hPc : va_P g.1 vwCl wc H := hw.2.1.sub isC (fm_of_map hC)
  have hDc : va_D A wc := hw.2.2.1.sub isC hnc hC
  have hini : (Cond.initialized y.cls).before args s = true := by rw [m6]; exact hts _ m4
  exact Ct.back hw isC isR hC hR hnd hdis (va_runV (y := y) (ws := Cond.code y cc' nL' ret' :: TW) (rm := rm) (C := C) (n := n) (As := As) (b := b) hF (hM H.size)
    ⟨⟨rfl, rfl, hroom.1, hroom.2, tw_payc hts m5, List.mem_cons_self, hts _ m5, hini, m7, hin, hts _ m1⟩, hts _ m2, hts _ m3⟩
    ⟨CP.blind, va_Orecv hrc hw.2.2.2.1, CP.pre hw isC hC hPc hDc⟩ rfl hn hls hst (lv_room hrest) hdg hcs) kk
/-- a method that throws E0 and leaves its world as it was -/
def XCT (g : GE) (w : va_W) (sz : Nat) (E0 : String) : String → State → State → Prop := fun E st t => E = E0 ∧ va_P g.1 vwCl w t.heap ∧ va_K g.1 vwCl (gty g) t ∧ va_D (va_A w sz) w ∧ va_F (va_A w sz) st t
def CtX (l : Launch) (y : MethodName) (cc : ByteArray) (nL : Nat) (ret : Option FieldType) (rm : Room) (g : GE) (av : List Value) (w : va_W) (E0 : String) : Prop :=
  ∀ sz : Nat, vx_Met l y (Cond.code y cc nL ret :: TW) rm (CP g w sz av) (fun _ _ _ _ => False) (XCT g w sz E0) rm.cells rm.slots (va_A w sz)
def XQ (below : List Frame) (a : Array Value) (s : State) (rm : Room) (g : GE) (w : va_W) (E0 : String) : State → Prop := vx_MQ below (fun _ _ _ _ => False) (XCT g w s.heap.size E0) a s rm.cells rm.slots (va_A w s.heap.size)
theorem CtX.of {l : Launch} {y : MethodName} {cc : ByteArray} {nL : Nat} {ret : Option FieldType} {rm : Room} {g : GE} {av : List Value} {w : va_W} {E0 own : String}
    (ho : y.cls = own) (hy : plainName y.cls = true) (hlen : (lg_sl av).length ≤ nL)
    (body : ∀ (p : Program) (e : Env) (s : State) (m : MethodId) (below : List Frame) (meth : Method) (c : Code) (ls : Array Slot), CallFix p m c cc nL s av.toArray TW own → (∀ x ∈ c.exceptionTable.toList, False) → meth.locks = false → meth.name = y.name →
      Wd g (va_A w s.heap.size) s s.heap [] w → lv_has ls nL (lv_args 0 av) → W p l e rm s m av.toArray below meth c s.heap [] 0 0 (XQ below av.toArray s rm g w E0) (F0 m 0 ls [])) :
    CtX l y cc nL ret rm g av w E0 := by
  intro sz
  refine vx_ofW (cc := cc) (maxL := nL) (ret := ret) hy rfl ?_
  intro p e s m args below meth c s₁ B hml hxt hv
  obtain ⟨rfl, hsz, hP, hK, hD0, hC⟩ := hv
  subst hsz
  have hts := atoms_spec (ws := Cond.code y cc nL ret :: TW) B.pre
  have hown : s.vm.findClass own = some m.cls := by rw [← ho]; exact findClass_of_methodNamed B.named
  have hl := lv_entry av (n := nL) hlen
  rw [lg_entry_eq]
  generalize (lg_sl av ++ List.replicate (nL - (lg_sl av).length) Slot.unset).toArray = ls at hl ⊢
  exact body p e s m below meth c ls ⟨B.exec, B.bytes, hml, hown, fun w h => hts w (List.mem_cons_of_mem _ h)⟩ hxt B.notSynchronized (name_of_methodNamed B.named B.method).1 ⟨hK, hP, hD0.self, va_S.rf, fun q h => Or.inr h, hC⟩ hl
/-- 'throw new E0()' -/
theorem XQ.throw0 {rm : Room} {w : va_W} {E0 : String} {ik ic : Nat} {names : List String} (hF : CallFix p m c cc nL s args TW own) (hst : l.stackTraces = false) (hxt : ∀ x ∈ c.exceptionTable.toList, False) (hlk : meth.locks = false) (hw : Wd g (va_A w s.heap.size) s H locs w)
    (hcls : Bundle.fit E0 = true) (hnames : ∀ n ∈ names, Bundle.fit n = true) (hk : Cond.classLink own ik E0 ∈ TW) (hini : Cond.initialized E0 ∈ TW) (hat : ∀ w ∈ vx_at0 own ic E0 names, w ∈ TW) (hgood : ∀ w ∈ Cond.classLink own ik E0 :: Cond.initialized E0 :: vx_at0 own ic E0 names, vx_ot w = true) (hls : ls.size = nL)
    (d0 : decode cc pc = .ok (.new ik, 3)) (d3 : decode cc (pc + 3) = .ok (.dup, 1)) (d4 : decode cc (pc + 4) = .ok (.invokespecial ic, 3)) (d7 : decode cc (pc + 7) = .ok (.athrow, 1))
    (hRf : names.length + 3 < R.frames) (hRl : (rest.map fun v => v.category).sum + (13 * (names.length + 1) + 42) ≤ R.locals) (hRc : cells + 1 ≤ R.cells) (hRs : slots + 6 ≤ R.slots) (hc : cells + 1 ≤ rm.cells) (hs : slots + 6 ≤ rm.slots) :
    W p l e R s m args below meth c H locs cells slots (XQ below args s rm g w E0) (F0 m pc ls rest) := by
  have hts := hF.2.2.2.2
  obtain ⟨hK, hP, hD, hS, hA, hC⟩ := hw
  refine vx_throw0 hF.1 hF.2.1 hst hF.2.2.2.1 hcls hnames (hts _ hk) (hts _ hini) (fun w h => hts w (hat w h)) hgood hC.2.2.2.2.2.1 hC.2.2.2.2.2.2.1 hS (hls.trans hF.2.2.1.symm) d0 d3 d4 d7 (fun x h => (hxt x h).elim) hRf hRl hRc hRs hlk ?_ hS.2.2 hc hs
  intro t hvm hz hk
  exact ⟨rfl, fun k q h => (hP k q h).kept (hk q.1 (hP k q h).lt), va_K.moved hvm hK, hD, ⟨Nat.le_trans hS.1 hz, fun q h1 h2 => by rw [hk q (Nat.lt_of_lt_of_le h1 hS.1)]; exact hS.2.1 q h1 h2⟩⟩
/-- behind a call that throws: the exception lies over this frame -/
theorem CtX.back {wc wr : va_W} {E0 : String} {mc ms : Nat} {a0 : Array Value} {st0 : List Value} (hw : Wd g A s H locs ws) (isC isR : List Nat) (hC : isC.map (fun i => ws[i]?) = wc.map some) (hR : isR.map (fun i => ws[i]?) = wr.map some) (hn : va_nd isR = true) (hdis : ∀ i ∈ isR, i ∉ isC)
    (hr : vx_Run p l e R s m args below meth c H locs cells slots mc ms (F0 m pc ls st0) rest ((fun _ _ _ _ => False : Array Value → State → Outcome → State → Prop) a0) (XCT g wc H.size E0) (va_A wc H.size))
    (kk : ∀ (q9 : Addr) (ce : Cell) (H : Heap) (locs : List Loc), Wd g A s H locs (wr ++ wc) → H[q9]? = some ce → ce.vm = .none → s.vm.findClass E0 = some ce.cls → vx_W p l e R s m args below meth c H locs (cells + mc) (slots + ms) Q (F0 m pc ls rest) q9) : W p l e R s m args below meth c H locs cells slots Q (F0 m pc ls st0) := by
  obtain ⟨hK, hP, hD, hS, hA, hC9⟩ := hw
  have hFc := va_free (wc := wc) hD hS hA isC hC
  intro T hT X
  rcases hr T hT X with ⟨v, st₀, t, T', L, h0, X', hL, e1, e2, hF9, st⟩ | ⟨q9, st₀, t, T', L, E, ce, h0, X', hL, e1, e2, ⟨rfl, hP1, hK1, hD1, hz, hk⟩, hce, hcv, hcl, st⟩
  · exact hF9.elim
  · rw [h0] at hz hk
    have hz' : H.size ≤ T'.heap.size := by rw [e1]; exact hz
    have hk' : ∀ q : Nat, q < H.size → ¬ va_A wc H.size q → T'.heap[q]? = H[q]? := fun q h1 h2 => by rw [e1]; exact hk q h1 h2
    rw [← e1] at hP1 hce
    obtain ⟨hP2, hD2⟩ := va_join (wr := wr) (w1 := wc) hP hD isC isR hC hR hn hdis hk' hFc hP1 hD1
    obtain ⟨t2, a1, b1⟩ := kk q9 ce T'.heap (locs ++ L) ⟨hK, hP2, hD2, ⟨Nat.le_trans hS.1 hz', fun q h1 h2 => by
        rw [hk' q (Nat.lt_of_lt_of_le h1 hS.1) (fun z => h2 (hFc q z))]; exact hS.2.1 q h1 h2, fun q hq => by
        rcases List.mem_append.mp hq with h | h
        · exact hS.2.2 q h
        · exact hFc _ (hL q h)⟩, hA, hC9⟩ hce hcv hcl T' rfl X'
    exact ⟨t2, st.trans a1, b1⟩
theorem CtX.callV {y : MethodName} {cc' : ByteArray} {nL' n index ci b N : Nat} {C E0 : String} {T : u_T} {ret' : Option FieldType} {rm : Room} {As : List Value} {wc wr : va_W} (hF : CallFix p m c cc nL s args TW own) (hw : Wd g A s H locs ws) (hM : CtX l y cc' nL' ret' rm g (.ref b :: As) wc E0) (mw : MWv own index C y cc' nL' ret' n)
    (isC isR : List Nat) (hC : isC.map (fun i => ws[i]?) = wc.map some) (hR : isR.map (fun i => ws[i]?) = wr.map some) (hnc : va_nd isC = true) (hnd : va_nd isR = true) (hdis : ∀ i ∈ isR, i ∉ isC) (q0 : Nat) {fs : List Value} (he : wc[q0]? = some (b, .inr (ci, fs))) (hc : vwCl[ci]? = some (C, T, N))
    (hroom : rm.frames + 1 ≤ R.frames ∧ 8 + (nL' + 11) + rm.locals ≤ R.locals) (hcs : cells + rm.cells ≤ R.cells ∧ slots + rm.slots ≤ R.slots) (hn : As.length = n) (hls : ls.size = nL) (hrest : (rest.map fun v => v.category).sum ≤ 8) {st0 : List Value} (hst : st0 = As.reverse ++ .ref b :: rest) (hdg : decode cc pc = .ok (.invokevirtual index, 3))
    (kk : ∀ (q9 : Addr) (ce : Cell) (H : Heap) (locs : List Loc), Wd g A s H locs (wr ++ wc) → H[q9]? = some ce → ce.vm = .none → s.vm.findClass E0 = some ce.cls → vx_W p l e R s m args below meth c H locs (cells + rm.cells) (slots + rm.slots) Q (F0 m pc ls rest) q9) : W p l e R s m args below meth c H locs cells slots Q (F0 m pc ls st0) := by
  obtain ⟨m1, m2, m3, m4, m5, m6, m7, m8⟩ := mw
  have hts := hF.2.2.2.2
  have hin : ∀ sig, parseMethodDescriptor y.desc = some sig → n = sig.parameters.length := fun sig h => by rw [h] at m8; exact (Option.some.inj m8).symm
  have hPc : va_P g.1 vwCl wc H := hw.2.1.sub isC (fm_of_map hC)
  have hDc : va_D A wc := hw.2.2.1.sub isC hnc hC
  have hini : (Cond.initialized y.cls).before args s = true := by rw [m6]; exact hts _ m4
  exact CtX.back (a0 := (Value.ref b :: As).toArray) hw isC isR hC hR hnd hdis (vx_runV (y := y) (ws := Cond.code y cc' nL' ret' :: TW) (rm := rm) (C := C) (n := n) (As := As) (b := b) hF (hM H.size)
    ⟨⟨rfl, rfl, hroom.1, hroom.2, tw_payc hts m5, List.mem_cons_self, hts _ m5, hini, m7, hin, hts _ m1⟩, hts _ m2, hts _ m3⟩
    ⟨CP.blind, va_recv hw.1 hPc hc he, CP.pre hw isC hC hPc hDc⟩ rfl hn hls hst (lv_room hrest) hdg hcs) kk
/-- it isn't caught here: it goes on, the world as it was -/
theorem XQ.out {rm : Room} {w : va_W} {E0 : String} {q9 : Addr} {ce : Cell} (hxt : ∀ x ∈ c.exceptionTable.toList, False) (hlk : meth.locks = false) (hw : Wd g (va_A w s.heap.size) s H locs w) (hce : H[q9]? = some ce) (hcv : ce.vm = .none) (hcl : s.vm.findClass E0 = some ce.cls) (hc : cells ≤ rm.cells) (hs : slots ≤ rm.slots) :
    vx_W p l e R s m args below meth c H locs cells slots (XQ below args s rm g w E0) (F0 m pc ls rest) q9 := by
  obtain ⟨hK, hP, hD, hS, hA, hC⟩ := hw
  exact vx_out (fun x h => (hxt x h).elim) hlk hce hcv hcl (fun t ht hvm => ⟨rfl, by rw [ht]; exact hP, va_K.moved hvm hK, hD, hS.F ht⟩) hS.2.2 hc hs
theorem wgetQ {index : Nat} {C n d : String} (hF : CallFix p m c cc nL s args TW own) (hw : Wd g A s H locs ws) (hZ : va_Zq C n d A s s.heap) (hl : Cond.fieldLink own index C n d ∈ TW) (hdg : decode cc pc = .ok (.getstatic index, 3))
    (kk : ∀ v : Value, v.category = 1 → W p l e R s m args below meth c H locs cells slots Q (F0 m (pc + 3) ls (v :: rest))) : W p l e R s m args below meth c H locs cells slots Q (F0 m pc ls rest) := by
  rcases hZ with h | ⟨t, h⟩
  · exact va_gets hF.1 hF.2.1 h hw.2.2.2.1 hF.2.2.2.1 (hF.2.2.2.2 _ hl) (fun _ h => h) hdg (kk _ rfl)
  · exact va_gets hF.1 hF.2.1 h hw.2.2.2.1 hF.2.2.2.1 (hF.2.2.2.2 _ hl) (fun _ h => h) hdg (kk _ rfl)
theorem wgetZ {index : Nat} {C n d : String} {v : Value} (hF : CallFix p m c cc nL s args TW own) (hw : Wd g A s H locs ws) (hZ : va_Z C n d v A s s.heap) (hl : Cond.fieldLink own index C n d ∈ TW) (hdg : decode cc pc = .ok (.getstatic index, 3))
    (kk : W p l e R s m args below meth c H locs cells slots Q (F0 m (pc + 3) ls (v :: rest))) : W p l e R s m args below meth c H locs cells slots Q (F0 m pc ls rest) :=
  va_gets hF.1 hF.2.1 hZ hw.2.2.2.1 hF.2.2.2.1 (hF.2.2.2.2 _ hl) (fun _ h => h) hdg kk
theorem r_i2c {a : Nat} (hx : p.tables.exec = Jvm.exec) (hb : c.code = cc) (hdg : decode cc pc = .ok (.i2c, 1)) (h1 : a < 65536) (k : W p l e R s m args below meth c H locs cells slots Q (F0 m (pc + 1) ls (.int (nI a) :: rest))) : W p l e R s m args below meth c H locs cells slots Q (F0 m pc ls (.int (nI a) :: rest)) := by
  refine lv_i2c hx hb (v := nI a) hdg ?_ k
  rw [pk_char, pk_tn (by omega), Nat.mod_eq_of_lt h1]
end BaseK
def evTxt : List (List Nat) := [[50, 32, 124, 32, 105, 32, 113, 32, 54, 32, 124, 32, 46, 32, 124, 32, 46, 32, 124, 32, 46, 32, 124, 32, 46, 32, 124, 32, 46, 32, 124, 32, 46, 32, 124, 32, 46, 32, 124, 32, 46], [46, 32, 124, 32, 46, 32, 124, 32, 48, 32, 124, 32, 49, 32, 124, 32, 48, 32, 124, 32, 49, 32, 124, 32, 49, 32, 124, 32, 49, 32, 124, 32, 49, 32, 124, 32, 100, 32, 49], [49, 32, 124, 32, 49, 32, 124, 32, 105, 32, 113, 32, 54, 32, 124, 32, 51, 32, 124, 32, 53, 32, 124, 32, 53, 32, 124, 32, 54, 32, 124, 32, 55, 32, 124, 32, 56, 32, 124, 32, 57], [48, 32, 124, 32, 48, 32, 124, 32, 50, 32, 124, 32, 50, 32, 124, 32, 52, 32, 124, 32, 52, 32, 124, 32, 105, 32, 101, 32, 52, 32, 124, 32, 105, 32, 101, 32, 52, 32, 124, 32, 105, 32, 101, 32, 52, 32, 124, 32, 100, 32, 105, 32, 101, 32, 52], [46, 32, 124, 32, 46, 32, 124, 32, 46, 32, 124, 32, 46, 32, 124, 32, 101, 32, 52, 32, 124, 32, 101, 32, 53, 32, 124, 32, 113, 32, 54, 32, 124, 32, 113, 32, 54, 32, 124, 32, 113, 32, 56, 32, 124, 32, 46], [46, 32, 124, 32, 46, 32, 124, 32, 46, 32, 124, 32, 46, 32, 124, 32, 50, 32, 124, 32, 51, 32, 124, 32, 51, 32, 124, 32, 51, 32, 124, 32, 51, 32, 124, 32, 46], [46, 32, 124, 32, 46, 32, 124, 32, 116, 32, 50, 32, 124, 32, 105, 32, 113, 32, 97, 32, 56, 32, 124, 32, 52, 32, 124, 32, 53, 32, 124, 32, 97, 32, 56, 32, 124, 32, 97, 32, 117, 32, 57, 32, 124, 32, 97, 32, 56, 32, 124, 32, 100, 32, 113, 32, 97, 32, 56], [46, 32, 124, 32, 46, 32, 124, 32, 116, 32, 50, 32, 124, 32, 105, 32, 113, 32, 110, 32, 54, 32, 124, 32, 52, 32, 124, 32, 53, 32, 124, 32, 110, 32, 54, 32, 124, 32, 110, 32, 55, 32, 124, 32, 110, 32, 54, 32, 124, 32, 100, 32, 113, 32, 110, 32, 54], [46, 32, 124, 32, 46, 32, 124, 32, 116, 32, 50, 32, 124, 32, 116, 32, 51, 32, 124, 32, 52, 32, 124, 32, 53, 32, 124, 32, 105, 32, 55, 32, 124, 32, 113, 32, 54, 32, 124, 32, 105, 32, 117, 32, 57, 32, 124, 32, 100, 32, 113, 32, 54], [46, 32, 124, 32, 46, 32, 124, 32, 116, 32, 50, 32, 124, 32, 116, 32, 51, 32, 124, 32, 52, 32, 124, 32, 53, 32, 124, 32, 105, 32, 113, 32, 54, 32, 124, 32, 113, 32, 54, 32, 124, 32, 105, 32, 113, 32, 56, 32, 124, 32, 100, 32, 113, 32, 54], [46, 32, 124, 32, 46, 32, 124, 32, 116, 32, 50, 32, 124, 32, 116, 32, 51, 32, 124, 32, 116, 32, 52, 32, 124, 32, 116, 32, 53, 32, 124, 32, 116, 32, 54, 32, 124, 32, 116, 32, 54, 32, 124, 32, 116, 32, 54, 32, 124, 32, 100, 32, 122, 32, 116, 32, 53], [46, 32, 124, 32, 46, 32, 124, 32, 50, 32, 124, 32, 51, 32, 124, 32, 50, 32, 124, 32, 51, 32, 124, 32, 54, 32, 124, 32, 54, 32, 124, 32, 56, 32, 124, 32, 100, 32, 113, 32, 54], [46, 32, 124, 32, 46, 32, 124, 32, 99, 32, 50, 32, 124, 32, 99, 32, 51, 32, 124, 32, 99, 32, 52, 32, 124, 32, 99, 32, 53, 32, 124, 32, 99, 32, 54, 32, 124, 32, 99, 32, 55, 32, 124, 32, 99, 32, 56, 32, 124, 32, 99, 32, 57], [46, 32, 124, 32, 46, 32, 124, 32, 50, 32, 124, 32, 51, 32, 124, 32, 50, 32, 124, 32, 51, 32, 124, 32, 51, 32, 124, 32, 51, 32, 124, 32, 51, 32, 124, 32, 100, 32, 105, 32, 101, 32, 53], [46, 32, 124, 32, 46, 32, 124, 32, 50, 32, 124, 32, 51, 32, 124, 32, 52, 32, 124, 32, 53, 32, 124, 32, 54, 32, 124, 32, 54, 32, 124, 32, 56, 32, 124, 32, 57], [46, 32, 124, 32, 46, 32, 124, 32, 50, 32, 124, 32, 51, 32, 124, 32, 52, 32, 124, 32, 53, 32, 124, 32, 54, 32, 124, 32, 55, 32, 124, 32, 56, 32, 124, 32, 114, 32, 57], [46, 32, 124, 32, 46, 32, 124, 32, 46, 32, 124, 32, 46, 32, 124, 32, 46, 32, 124, 32, 46, 32, 124, 32, 46, 32, 124, 32, 46, 32, 124, 32, 46, 32, 124, 32, 46], [46, 32, 124, 32, 46, 32, 124, 32, 46, 32, 124, 32, 46, 32, 124, 32, 46, 32, 124, 32, 46, 32, 124, 32, 46, 32, 124, 32, 46, 32, 124, 32, 46, 32, 124, 32, 107, 32, 57]]
def evC (i k : Nat) : Nat := (evTxt.getD i []).getD k 0
theorem ev_all : ∀ i, i < 18 → ∀ k, k < evLen.getD i 0 → (evByt.getD i []).getD k 0 = nI (evC i k) ∧ evC i k < 128 := by decide +kernel
theorem ev_len : ∀ i, i < 18 → evLen.getD i 0 < 100 := by decide +kernel
