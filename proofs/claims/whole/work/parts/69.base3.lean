/-! makings: new objects, new rows, constructors; floats -/
def MWi (own : String) (index : Nat) (y : MethodName) (cc : ByteArray) (nL n : Nat) : Prop :=
  (Cond.methodLink own index y ∈ TW ∨ ∃ host, Cond.methodLinkNest own index y host ∈ TW) ∧ Cond.instanceMethod y ∈ TW ∧ Cond.initialized y.cls ∈ TW ∧ Cond.code y cc nL none ∈ TW ∧ y.name = "<init>" ∧ (y.cls ≠ "java/lang/invoke/MethodHandle" ∧ y.cls ≠ "java/lang/invoke/VarHandle") ∧ (parseMethodDescriptor y.desc).map (fun d => d.parameters.length) = some n
section BaseN
variable {p : Program} {l : Launch} {e : Env} {R : Room} {s : State} {m : MethodId} {args : Array Value} {below : List Frame} {meth : Method} {c : Code} {H : Heap} {locs : List Loc} {cells slots : Nat} {Q : State → Prop}
variable {cc : ByteArray} {nL pc : Nat} {ls : Array Slot} {rest : List Value} {g : GE} {A : Nat → Prop} {ws : va_W} {own : String}
theorem wnew {ci N index : Nat} {C : String} {T : u_T} {ty0 : Nat → FieldType} (hF : CallFix p m c cc nL s args TW own) (hw : Wd g A s H locs ws) (hc : vwCl[ci]? = some (C, T, N)) (hin : ∀ w ∈ u_ws C T N, w ∈ TW) (ht : FTk C T N ty0) (hk1 : Cond.classLink own index C ∈ TW) (hk2 : Cond.instantiable C N ∈ TW) (hk3 : Cond.initialized C ∈ TW)
    {fs : List Value} (hfs : ∀ j, j < N → defaultValue (ty0 j) = vp_V fs j) (hcells : cells + 1 ≤ R.cells) (hslots : slots + N ≤ R.slots) (hdg : decode cc pc = .ok (.new index, 3))
    (kk : ∀ (q : Nat) (H : Heap), Wd g A s H locs (ws ++ [(q, .inr (ci, fs))]) → W p l e R s m args below meth c H locs (cells + 1) (slots + N) Q (F0 m (pc + 3) ls (.ref q :: rest))) : W p l e R s m args below meth c H locs cells slots Q (F0 m pc ls rest) := by
  obtain ⟨hK, hP, hD, hS, hA, hC⟩ := hw
  obtain ⟨hx, hb, -, hown, hts⟩ := hF
  exact va_new hx hb hts hin ty0 ht.1 hown (hts _ hk1) (hts _ hk2) (hts _ hk3) hK hP hD hS hA hc hfs hcells hslots hdg (fun q H1 hP hD hS => kk q H1 ⟨hK, hP, hD, hS, hA, hC⟩)
theorem wnewI {n : Nat} (hF : CallFix p m c cc nL s args TW own) (hw : Wd g A s H locs ws) (hk : Cond.arrayClass .int ∈ TW) (hn : n < 65536) (hcells : cells + 1 ≤ R.cells) (hslots : slots + n ≤ R.slots) (hdg : decode cc pc = .ok (.newarray .int, 2))
    (kk : ∀ (q : Nat) (H : Heap), Wd g A s H locs (ws ++ [(q, .inl (g.2.1 0, n, .inl (fun _ => 0)))]) → W p l e R s m args below meth c H locs (cells + 1) (slots + n) Q (F0 m (pc + 2) ls (.ref q :: rest))) : W p l e R s m args below meth c H locs cells slots Q (F0 m pc ls (.int (nI n) :: rest)) := by
  obtain ⟨hK, hP, hD, hS, hA, hC⟩ := hw
  obtain ⟨hx, hb, -, hown, hts⟩ := hF
  refine va_newa (atype := .int) (a0 := (n, .inl (fun _ => 0))) hx hb (hts _ hk) (ty := .int) rfl hK hP hD hS hA (fun cA => rfl) (Int32.not_lt.mpr (nI_pos' (show n < 2147483648 by omega))) (nI_clamp (show n < 2147483648 by omega)) (by show n * 4 ≤ _; omega) hcells hslots hdg (fun q cA H1 hK1 hP hD hS => ?_)
  have h1 : va_RA s cA .int := (hK1.2 3 (cA, .int) rfl).2
  have h2 : va_RA s (g.2.1 0) .int := (hK.2 0 (g.2.1 0, .int) rfl).2
  have h3 : cA = g.2.1 0 := Option.some.inj ((show s.vm.findClass _ = some cA from h1).symm.trans h2)
  subst h3
  exact kk q H1 ⟨hK, hP, hD, hS, hA, hC⟩
theorem wnewZ {n : Nat} (hF : CallFix p m c cc nL s args TW own) (hw : Wd g A s H locs ws) (hk : Cond.arrayClass .boolean ∈ TW) (hn : n < 65536) (hcells : cells + 1 ≤ R.cells) (hslots : slots + n ≤ R.slots) (hdg : decode cc pc = .ok (.newarray .boolean, 2))
    (kk : ∀ (q : Nat) (H : Heap), Wd g A s H locs (ws ++ [(q, .inl (g.2.1 1, n, .inl (fun _ => 0)))]) → W p l e R s m args below meth c H locs (cells + 1) (slots + n) Q (F0 m (pc + 2) ls (.ref q :: rest))) : W p l e R s m args below meth c H locs cells slots Q (F0 m pc ls (.int (nI n) :: rest)) := by
  obtain ⟨hK, hP, hD, hS, hA, hC⟩ := hw
  obtain ⟨hx, hb, -, hown, hts⟩ := hF
  refine va_newa (atype := .boolean) (a0 := (n, .inl (fun _ => 0))) hx hb (hts _ hk) (ty := .boolean) rfl hK hP hD hS hA (fun cA => rfl) (Int32.not_lt.mpr (nI_pos' (show n < 2147483648 by omega))) (nI_clamp (show n < 2147483648 by omega)) (by show n * 1 ≤ _; omega) hcells hslots hdg (fun q cA H1 hK1 hP hD hS => ?_)
  have h1 : va_RA s cA .boolean := (hK1.2 3 (cA, .boolean) rfl).2
  have h2 : va_RA s (g.2.1 1) .boolean := (hK.2 1 (g.2.1 1, .boolean) rfl).2
  have h3 : cA = g.2.1 1 := Option.some.inj ((show s.vm.findClass _ = some cA from h1).symm.trans h2)
  subst h3
  exact kk q H1 ⟨hK, hP, hD, hS, hA, hC⟩
theorem wobj {index a : Nat} (hF : CallFix p m c cc nL s args TW own) (hls : ls.size = nL) (h1 : Cond.methodLink own index ⟨"java/lang/Object", "<init>", "()V"⟩ ∈ TW) (h2 : Cond.instanceMethod ⟨"java/lang/Object", "<init>", "()V"⟩ ∈ TW) (h3 : Cond.code ⟨"java/lang/Object", "<init>", "()V"⟩ ⟨#[0xb1]⟩ 1 none ∈ TW) (hr : 1 ≤ R.frames ∧ (rest.map fun v => v.category).sum + 12 ≤ R.locals) (hdg : decode cc pc = .ok (.invokespecial index, 3))
    (kk : W p l e R s m args below meth c H locs cells slots Q (F0 m (pc + 3) ls rest)) : W p l e R s m args below meth c H locs cells slots Q (F0 m pc ls (.ref a :: rest)) := by
  obtain ⟨hx, hb, hml, hown, hts⟩ := hF
  exact W.objInit hx hb hown (hts _ h1) (hts _ h2) (hts _ h3) rfl (hls.trans hml.symm) rfl hdg hr.1 (by show 2 * 0 + _ + 12 ≤ _; omega) kk
theorem Ct.callI {y : MethodName} {cc' : ByteArray} {nL' n index b : Nat} {rm : Room} {As : List Value} {wc wr : va_W} {S : Type} {post : Option Value → S → Prop} {w1 : S → va_W} (hF : CallFix p m c cc nL s args TW own) (hw : Wd g A s H locs ws) (hM : Ct l y cc' nL' none rm g (.ref b :: As) wc post w1) (mw : MWi own index y cc' nL' n)
    (isC isR : List Nat) (hC : isC.map (fun i => ws[i]?) = wc.map some) (hR : isR.map (fun i => ws[i]?) = wr.map some) (hnc : va_nd isC = true) (hnd : va_nd isR = true) (hdis : ∀ i ∈ isR, i ∉ isC)
    (hroom : rm.frames + 1 ≤ R.frames ∧ 8 + (nL' + 11) + rm.locals ≤ R.locals) (hcs : cells + rm.cells ≤ R.cells ∧ slots + rm.slots ≤ R.slots) (hn : As.length = n) (hls : ls.size = nL) (hrest : (rest.map fun v => v.category).sum ≤ 8) {st0 : List Value} (hst : st0 = As.reverse ++ .ref b :: rest) (hdg : decode cc pc = .ok (.invokespecial index, 3))
    (kk : ∀ (v : Option Value) (u : S) (H : Heap) (locs : List Loc), post v u → Wd g A s H locs (wr ++ w1 u) → W p l e R s m args below meth c H locs (cells + rm.cells) (slots + rm.slots) Q (F0 m (pc + 3) ls (v.toList ++ rest))) : W p l e R s m args below meth c H locs cells slots Q (F0 m pc ls st0) := by
  obtain ⟨m1, m2, m3, m5, m6, m7, m8⟩ := mw
  have hts := hF.2.2.2.2
  have hin : ∀ sig, parseMethodDescriptor y.desc = some sig → n = sig.parameters.length := fun sig h => by rw [h] at m8; exact (Option.some.inj m8).symm
  have hPc : va_P g.1 vwCl wc H := hw.2.1.sub isC (fm_of_map hC)
  have hDc : va_D A wc := hw.2.2.1.sub isC hnc hC
  rcases m1 with m1 | ⟨host, m1⟩
  · exact Ct.back hw isC isR hC hR hnd hdis (va_runI (y := y) (ws := Cond.code y cc' nL' none :: TW) (rm := rm) (n := n) (As := As) (b := b) hF (hM H.size)
      ⟨⟨rfl, rfl, hroom.1, hroom.2, tw_payc hts m5, List.mem_cons_self, hts _ m5, hts _ m3, m7, hin, hts _ m1⟩, m6, hts _ m2⟩
      ⟨CP.blind, CP.pre hw isC hC hPc hDc⟩ rfl hn hls hst (lv_room hrest) hdg hcs) kk
  · exact Ct.back hw isC isR hC hR hnd hdis (va_runIN (y := y) (ws := Cond.code y cc' nL' none :: TW) (rm := rm) (n := n) (As := As) (b := b) hF (hM H.size)
      ⟨⟨⟨rfl, rfl, hroom.1, hroom.2, tw_payc hts m5, List.mem_cons_self⟩, hts _ m5, hts _ m3, m7, hin, hts _ m1⟩, m6, hts _ m2⟩
      ⟨CP.blind, CP.pre hw isC hC hPc hDc⟩ rfl hn hls hst (lv_room hrest) hdg hcs) kk
theorem wmin {index a b : Nat} (hF : CallFix p m c cc nL s args TW own) (hl1 : ls.size = nL) (mw : MWs own index yJ9_min_7cf53 cJ9_min_7cf53 2 (some .int) 2) (hr : 1 ≤ R.frames ∧ 21 ≤ R.locals) (hcs : cells ≤ R.cells ∧ slots ≤ R.slots) (hrest : (rest.map fun v => v.category).sum ≤ 8) (ha : a < 2147483648) (hb9 : b < 2147483648) (hdg : decode cc pc = .ok (.invokestatic index, 3))
    (kk : W p l e R s m args below meth c H locs cells slots Q (F0 m (pc + 3) ls (.int (nI (if a < b then a else b)) :: rest))) : W p l e R s m args below meth c H locs cells slots Q (F0 m pc ls (.int (nI b) :: .int (nI a) :: rest)) := by
  obtain ⟨m1, m2, m3, m5, m7, m8⟩ := mw
  obtain ⟨f1, f2, f3, f4, hts⟩ := hF
  refine va_mmin f1 f2 (f3.trans hl1.symm) f4 (hts _ m1) (hts _ m2) (hts _ m3) (hts _ m5) hr.1 (by omega) hcs.1 hcs.2 hdg ?_
  have hq : (if nI b < nI a then nI b else nI a) = nI (if a < b then a else b) := by
    by_cases q : b < a
    · have h1 : nI b < nI a := by rw [Int32.lt_iff_toInt_lt, nI_toInt hb9, nI_toInt ha]; omega
      rw [if_pos h1, if_neg (show ¬ a < b by omega)]
    · have h1 : ¬ nI b < nI a := by rw [Int32.lt_iff_toInt_lt, nI_toInt hb9, nI_toInt ha]; omega
      rw [if_neg h1]
      by_cases r : a < b
      · rw [if_pos r]
      · rw [if_neg r, show a = b by omega]
  rw [hq]
  exact kk
end BaseN
