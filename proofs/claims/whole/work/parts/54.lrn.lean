/-! a static method of the nest -/
def MWn (own : String) (index : Nat) (y : MethodName) (host : String) (cc : ByteArray) (nL : Nat) (ret : Option FieldType) (n : Nat) : Prop :=
  Cond.methodLinkNest own index y host ∈ TW ∧ Cond.static y ∈ TW ∧ Cond.initialized y.cls ∈ TW ∧ Cond.code y cc nL ret ∈ TW ∧ (y.cls ≠ "java/lang/invoke/MethodHandle" ∧ y.cls ≠ "java/lang/invoke/VarHandle") ∧ (parseMethodDescriptor y.desc).map (fun d => d.parameters.length) = some n
section CSN
variable {p : Program} {l : Launch} {e : Env} {R : Room} {s : State} {m : MethodId} {args : Array Value} {below : List Frame} {meth : Method} {c : Code} {H : Heap} {locs : List Loc} {cells slots : Nat} {Q : State → Prop}
variable {cc : ByteArray} {nL pc : Nat} {ls : Array Slot} {rest : List Value} {g : GE} {A : Nat → Prop} {ws : va_W} {own : String}
theorem Ct.callSN {host : String} {y : MethodName} {cc' : ByteArray} {nL' n index : Nat} {ret' : Option FieldType} {rm : Room} {As : List Value} {wc wr : va_W} {S : Type} {post : Option Value → S → Prop} {w1 : S → va_W} (hF : CallFix p m c cc nL s args TW own) (hw : Wd g A s H locs ws) (hM : Ct l y cc' nL' ret' rm g As wc post w1) (mw : MWn own index y host cc' nL' ret' n)
    (isC isR : List Nat) (hC : isC.map (fun i => ws[i]?) = wc.map some) (hR : isR.map (fun i => ws[i]?) = wr.map some) (hnc : va_nd isC = true) (hnd : va_nd isR = true) (hdis : ∀ i ∈ isR, i ∉ isC)
    (hroom : rm.frames + 1 ≤ R.frames ∧ 8 + (nL' + 11) + rm.locals ≤ R.locals) (hcs : cells + rm.cells ≤ R.cells ∧ slots + rm.slots ≤ R.slots) (hn : As.length = n) (hls : ls.size = nL) (hrest : (rest.map fun v => v.category).sum ≤ 8) {st0 : List Value} (hst : st0 = As.reverse ++ rest) (hdg : decode cc pc = .ok (.invokestatic index, 3))
    (kk : ∀ (v : Option Value) (u : S) (H : Heap) (locs : List Loc), post v u → Wd g A s H locs (wr ++ w1 u) → W p l e R s m args below meth c H locs (cells + rm.cells) (slots + rm.slots) Q (F0 m (pc + 3) ls (v.toList ++ rest))) : W p l e R s m args below meth c H locs cells slots Q (F0 m pc ls st0) := by
  obtain ⟨m1, m2, m3, m5, m7, m8⟩ := mw
  have hts := hF.2.2.2.2
  have hin : ∀ sig, parseMethodDescriptor y.desc = some sig → n = sig.parameters.length := fun sig h => by rw [h] at m8; exact (Option.some.inj m8).symm
  have hPc : va_P g.1 vwCl wc H := hw.2.1.sub isC (fm_of_map hC)
  have hDc : va_D A wc := hw.2.2.1.sub isC hnc hC
  exact Ct.back hw isC isR hC hR hnd hdis (va_runSN (y := y) (ws := Cond.code y cc' nL' ret' :: TW) (rm := rm) (n := n) (As := As) hF (hM H.size)
    ⟨⟨⟨rfl, rfl, hroom.1, hroom.2, tw_payc hts m5, List.mem_cons_self⟩, hts _ m5, hts _ m3, m7, hin, hts _ m1⟩, hts _ m2, trivial⟩
    ⟨CP.blind, CP.pre hw isC hC hPc hDc⟩ rfl hn hls hst (lv_room hrest) hdg hcs) kk
end CSN
theorem mnX0_186 : MWn RX0 186 yX5_isSize RX5 cX5_isSize 1 (some .boolean) 1 := ⟨tw580, tw305, tw52, tw306, by decide +kernel, by decide +kernel⟩
/-! what the component learns of a packet -/
def susC (E : AE) (w : Int32) : Nat → Int32 := if w = eNu E ∧ ¬ w = 0 then upd (eCf E) 3 (eCf E 3 + nI 1) else eCf E
def lszE (E : AE) (c t : Nat) : AE := if c = 3 ∧ 64 ≤ t ∧ t ≤ 1500 then wSz E t else if c = 4 then wAS E false else E
def lnuE (E : AE) (c : Nat) (w : Int32) : AE := if c = 1 then wCf E (susC E w) else if c = 3 then wNu E w else if c = 4 then wAN E false else E
def lrnO (c : Nat) (G : List Nat) (E : AE) (k : Nat) : AE := if G.getD k 0 = 1 then lszE E c (G.getD (k + 1) 0 * 256 + G.getD (k + 2) 0) else if G.getD k 0 = 5 then lnuE E c (n4 G (k + 1)) else E
section LR
variable {E : AE} {c t k : Nat} {w : Int32} {G : List Nat}
theorem ls_y (h : c = 3) (h2 : 64 ≤ t ∧ t ≤ 1500) : lszE E c t = wSz E t := if_pos ⟨h, h2⟩
theorem ls_r (h : c = 4) : lszE E c t = wAS E false := by unfold lszE; rw [if_neg (by omega), if_pos h]
theorem ls_n (h : ¬ (c = 3 ∧ 64 ≤ t ∧ t ≤ 1500)) (h4 : ¬ c = 4) : lszE E c t = E := by unfold lszE; rw [if_neg h, if_neg h4]
theorem ln_1 (h : c = 1) : lnuE E c w = wCf E (susC E w) := if_pos h
theorem ln_3 (h : c = 3) : lnuE E c w = wNu E w := by unfold lnuE; rw [if_neg (by omega), if_pos h]
theorem ln_4 (h : c = 4) : lnuE E c w = wAN E false := by unfold lnuE; rw [if_neg (by omega), if_neg (by omega), if_pos h]
theorem ln_n (h1 : ¬ c = 1) (h3 : ¬ c = 3) (h4 : ¬ c = 4) : lnuE E c w = E := by unfold lnuE; rw [if_neg h1, if_neg h3, if_neg h4]
theorem lr_1 (h : G.getD k 0 = 1) : lrnO c G E k = lszE E c (G.getD (k + 1) 0 * 256 + G.getD (k + 2) 0) := if_pos h
theorem lr_5 (h : G.getD k 0 = 5) : lrnO c G E k = lnuE E c (n4 G (k + 1)) := by unfold lrnO; rw [if_neg (by omega), if_pos h]
theorem lr_n (h1 : ¬ G.getD k 0 = 1) (h5 : ¬ G.getD k 0 = 5) : lrnO c G E k = E := by unfold lrnO; rw [if_neg h1, if_neg h5]
end LR
theorem lsz_cc {E : AE} {c t : Nat} {f : Nat → Int32} (h : CC f (eCf E)) : CC f (eCf (lszE E c t)) := by
  unfold lszE
  split
  · exact h
  split <;> exact h
