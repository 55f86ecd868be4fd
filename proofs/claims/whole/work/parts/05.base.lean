/-! one list of words for all methods; worlds, contracts and calls in one piece each -/
def twNest : Cond → Bool
  | .fieldLinkNest .. => true
  | .methodLinkNest .. => true
  | .declares .. => true
  | .castable .. => true
  | _ => false
def TW : List Cond := lw_tbl.filter (fun w => goodWord w || twNest w)
theorem tw_mem {w : Cond} (i : Nat) (h : lw_tbl[i]? = some w) (hg : (goodWord w || twNest w) = true) : w ∈ TW := List.mem_filter.mpr ⟨List.mem_of_getElem? h, hg⟩
theorem tw_pay {args : Array Value} {s : State} (ht : ∀ w ∈ TW, w.before args s = true) : ∀ w ∈ TW, ∀ (a' : Array Value) (U : State), s.WarmedH U.vm → w.before a' U = true := by
  intro w hw a' U hW
  have hb := ht w hw
  have h2 := (List.mem_filter.mp hw).2
  rcases (Bool.or_eq_true_iff.mp h2) with h | h
  · exact pay_in (big := TW) (ws := [w]) ht (fun x hx => by rw [List.mem_singleton.mp hx]; exact ⟨hw, good_of_word h⟩) w (List.mem_singleton.mpr rfl) a' U hW
  · cases w <;> first | (cases h; done) | exact va_Nw.use rfl (va_Nw.warmF hW (va_Nw.of rfl hb)) | exact va_Nw.use rfl (va_Nw.warmM hW (va_Nw.of rfl hb)) | exact va_Nw.use rfl (va_Nw.warmD hW (va_Nw.of rfl hb)) | exact va_Nw.use rfl (va_Nw.warmC hW (va_Nw.of rfl hb))
theorem tw_payc {args : Array Value} {s : State} {c : Cond} (ht : ∀ w ∈ TW, w.before args s = true) (hc : c ∈ TW) : ∀ w ∈ c :: TW, ∀ (a' : Array Value) (U : State), s.WarmedH U.vm → w.before a' U = true := fun w hw a' U hW => (List.mem_cons.mp hw).elim (fun e => tw_pay ht w (by rw [e]; exact hc) a' U hW) (fun h => tw_pay ht w h a' U hW)
abbrev GE : Type := va_G × (Nat → ClassId) × (Nat → Nat → Nat)
abbrev gty (g : GE) : List (ClassId × FieldType) := [(g.2.1 0, .int), (g.2.1 1, .boolean), (g.2.1 2, .long)]
/-- the events' constants and their rows, String's statics, Throwable's: what no method here writes -/
def evNm : List String := ["UP", "DOWN", "OPEN", "CLOSE", "OVER_MORE", "OVER_NONE", "GOOD_REQUEST", "BAD_REQUEST", "RIGHT_ACK", "RIGHT_NAK_OR_REJECT", "END_CAME", "ENDED_CAME", "OTHER_CODE", "UNKNOWN_1_TO_6", "UNKNOWN_CAME", "ECHO_CAME", "REPLY_CAME", "DATA_CAME"]
def evByt : List (List Int32) := [[50, 32, 124, 32, 105, 32, 113, 32, 54, 32, 124, 32, 46, 32, 124, 32, 46, 32, 124, 32, 46, 32, 124, 32, 46, 32, 124, 32, 46, 32, 124, 32, 46, 32, 124, 32, 46, 32, 124, 32, 46], [46, 32, 124, 32, 46, 32, 124, 32, 48, 32, 124, 32, 49, 32, 124, 32, 48, 32, 124, 32, 49, 32, 124, 32, 49, 32, 124, 32, 49, 32, 124, 32, 49, 32, 124, 32, 100, 32, 49], [49, 32, 124, 32, 49, 32, 124, 32, 105, 32, 113, 32, 54, 32, 124, 32, 51, 32, 124, 32, 53, 32, 124, 32, 53, 32, 124, 32, 54, 32, 124, 32, 55, 32, 124, 32, 56, 32, 124, 32, 57], [48, 32, 124, 32, 48, 32, 124, 32, 50, 32, 124, 32, 50, 32, 124, 32, 52, 32, 124, 32, 52, 32, 124, 32, 105, 32, 101, 32, 52, 32, 124, 32, 105, 32, 101, 32, 52, 32, 124, 32, 105, 32, 101, 32, 52, 32, 124, 32, 100, 32, 105, 32, 101, 32, 52], [46, 32, 124, 32, 46, 32, 124, 32, 46, 32, 124, 32, 46, 32, 124, 32, 101, 32, 52, 32, 124, 32, 101, 32, 53, 32, 124, 32, 113, 32, 54, 32, 124, 32, 113, 32, 54, 32, 124, 32, 113, 32, 56, 32, 124, 32, 46], [46, 32, 124, 32, 46, 32, 124, 32, 46, 32, 124, 32, 46, 32, 124, 32, 50, 32, 124, 32, 51, 32, 124, 32, 51, 32, 124, 32, 51, 32, 124, 32, 51, 32, 124, 32, 46], [46, 32, 124, 32, 46, 32, 124, 32, 116, 32, 50, 32, 124, 32, 105, 32, 113, 32, 97, 32, 56, 32, 124, 32, 52, 32, 124, 32, 53, 32, 124, 32, 97, 32, 56, 32, 124, 32, 97, 32, 117, 32, 57, 32, 124, 32, 97, 32, 56, 32, 124, 32, 100, 32, 113, 32, 97, 32, 56], [46, 32, 124, 32, 46, 32, 124, 32, 116, 32, 50, 32, 124, 32, 105, 32, 113, 32, 110, 32, 54, 32, 124, 32, 52, 32, 124, 32, 53, 32, 124, 32, 110, 32, 54, 32, 124, 32, 110, 32, 55, 32, 124, 32, 110, 32, 54, 32, 124, 32, 100, 32, 113, 32, 110, 32, 54], [46, 32, 124, 32, 46, 32, 124, 32, 116, 32, 50, 32, 124, 32, 116, 32, 51, 32, 124, 32, 52, 32, 124, 32, 53, 32, 124, 32, 105, 32, 55, 32, 124, 32, 113, 32, 54, 32, 124, 32, 105, 32, 117, 32, 57, 32, 124, 32, 100, 32, 113, 32, 54], [46, 32, 124, 32, 46, 32, 124, 32, 116, 32, 50, 32, 124, 32, 116, 32, 51, 32, 124, 32, 52, 32, 124, 32, 53, 32, 124, 32, 105, 32, 113, 32, 54, 32, 124, 32, 113, 32, 54, 32, 124, 32, 105, 32, 113, 32, 56, 32, 124, 32, 100, 32, 113, 32, 54], [46, 32, 124, 32, 46, 32, 124, 32, 116, 32, 50, 32, 124, 32, 116, 32, 51, 32, 124, 32, 116, 32, 52, 32, 124, 32, 116, 32, 53, 32, 124, 32, 116, 32, 54, 32, 124, 32, 116, 32, 54, 32, 124, 32, 116, 32, 54, 32, 124, 32, 100, 32, 122, 32, 116, 32, 53], [46, 32, 124, 32, 46, 32, 124, 32, 50, 32, 124, 32, 51, 32, 124, 32, 50, 32, 124, 32, 51, 32, 124, 32, 54, 32, 124, 32, 54, 32, 124, 32, 56, 32, 124, 32, 100, 32, 113, 32, 54], [46, 32, 124, 32, 46, 32, 124, 32, 99, 32, 50, 32, 124, 32, 99, 32, 51, 32, 124, 32, 99, 32, 52, 32, 124, 32, 99, 32, 53, 32, 124, 32, 99, 32, 54, 32, 124, 32, 99, 32, 55, 32, 124, 32, 99, 32, 56, 32, 124, 32, 99, 32, 57], [46, 32, 124, 32, 46, 32, 124, 32, 50, 32, 124, 32, 51, 32, 124, 32, 50, 32, 124, 32, 51, 32, 124, 32, 51, 32, 124, 32, 51, 32, 124, 32, 51, 32, 124, 32, 100, 32, 105, 32, 101, 32, 53], [46, 32, 124, 32, 46, 32, 124, 32, 50, 32, 124, 32, 51, 32, 124, 32, 52, 32, 124, 32, 53, 32, 124, 32, 54, 32, 124, 32, 54, 32, 124, 32, 56, 32, 124, 32, 57], [46, 32, 124, 32, 46, 32, 124, 32, 50, 32, 124, 32, 51, 32, 124, 32, 52, 32, 124, 32, 53, 32, 124, 32, 54, 32, 124, 32, 55, 32, 124, 32, 56, 32, 124, 32, 114, 32, 57], [46, 32, 124, 32, 46, 32, 124, 32, 46, 32, 124, 32, 46, 32, 124, 32, 46, 32, 124, 32, 46, 32, 124, 32, 46, 32, 124, 32, 46, 32, 124, 32, 46, 32, 124, 32, 46], [46, 32, 124, 32, 46, 32, 124, 32, 46, 32, 124, 32, 46, 32, 124, 32, 46, 32, 124, 32, 46, 32, 124, 32, 46, 32, 124, 32, 46, 32, 124, 32, 46, 32, 124, 32, 107, 32, 57]]
def evLen : List Nat := [41, 39, 41, 55, 47, 37, 59, 57, 53, 55, 57, 41, 53, 43, 37, 39, 37, 39]
def Kc (g : GE) (A : Nat → Prop) (U : State) (H : Heap) : Prop :=
  (∀ i, i < 18 → va_Z RX1 (evNm.getD i "") "LLineTalk$Event;" (.ref (g.2.2 0 i)) A U H) ∧
  (∀ i, i < 18 → va_OF RX1 "row" "Ljava/lang/String;" (.ref (g.2.2 1 i)) (g.2.2 0 i) A U H) ∧
  (∀ i, i < 18 → va_O RJ0 (g.2.2 1 i) A U H ∧ va_OF RJ0 "coder" "B" (.int 0) (g.2.2 1 i) A U H ∧ va_OF RJ0 "value" "[B" (.ref (g.2.2 2 i)) (g.2.2 1 i) A U H ∧ va_T .byte (g.2.2 2 i) (evLen.getD i 0) (fun j => .int ((evByt.getD i []).getD j 0)) A U H) ∧
  va_Z RJ0 "COMPACT_STRINGS" "Z" (.int 1) A U H ∧ va_Zq RJ3 "SIOOBE_FORMATTER" "Ljava/util/function/BiFunction;" A U H ∧
  vx_Zq Bundle.tN "UNASSIGNED_STACK" Bundle.steD A U H ∧ vx_Zq Bundle.tN "SUPPRESSED_SENTINEL" Bundle.listD A U H ∧
  va_Nc "java/lang/IllegalArgumentException" "java/lang/IndexOutOfBoundsException" U ∧ va_Nc "java/lang/IllegalStateException" "java/lang/IndexOutOfBoundsException" U ∧ va_Nc "java/lang/IllegalStateException" "java/lang/IllegalArgumentException" U
theorem Kc.moved {g : GE} {A : Nat → Prop} {u U : State} {H : Heap} (hvm : u.vm.Alike U.vm) (h : Kc g A u H) : Kc g A U H := by
  obtain ⟨h1, h2, h3, h4, h5, h6, h7, h8, h9, h10⟩ := h
  exact ⟨fun i hi => (h1 i hi).moved hvm, fun i hi => (h2 i hi).moved hvm, fun i hi => ⟨(h3 i hi).1.moved hvm, (h3 i hi).2.1.moved hvm, (h3 i hi).2.2.1.moved hvm, (h3 i hi).2.2.2.moved hvm⟩, h4.moved hvm, h5.moved hvm, h6.moved hvm, h7.moved hvm, h8.moved hvm, h9.moved hvm, h10.moved hvm⟩
theorem Kc.kept {g : GE} {A : Nat → Prop} {U : State} {H H1 : Heap} (h : Kc g A U H) (hq : ∀ a : Nat, a < H.size → ¬ A a → H1[a]? = H[a]?) : Kc g A U H1 := by
  obtain ⟨h1, h2, h3, h4, h5, h6, h7, h8, h9, h10⟩ := h
  exact ⟨fun i hi => (h1 i hi).kept hq, fun i hi => (h2 i hi).kept hq, fun i hi => ⟨(h3 i hi).1.kept hq, (h3 i hi).2.1.kept hq, (h3 i hi).2.2.1.kept hq, (h3 i hi).2.2.2.kept hq⟩, h4.kept hq, h5.kept hq, h6.kept hq, h7.kept hq, h8, h9, h10⟩
theorem Kc.narrow {g : GE} {A B : Nat → Prop} {U : State} {H : Heap} (h : Kc g A U H) (hAB : ∀ q, B q → A q) : Kc g B U H := by
  obtain ⟨h1, h2, h3, h4, h5, h6, h7, h8, h9, h10⟩ := h
  exact ⟨fun i hi => (h1 i hi).narrow hAB, fun i hi => (h2 i hi).narrow hAB, fun i hi => ⟨(h3 i hi).1.narrow hAB, (h3 i hi).2.1.narrow hAB, (h3 i hi).2.2.1.narrow hAB, (h3 i hi).2.2.2.narrow hAB⟩, h4.narrow hAB, h5.narrow hAB, h6.narrow hAB, h7.narrow hAB, h8, h9, h10⟩
/-- the world: tables, cells, apart, what was written, what is free -/
def Wd (g : GE) (A : Nat → Prop) (s : State) (H : Heap) (locs : List Loc) (ws : va_W) : Prop :=
  va_K g.1 vwCl (gty g) s ∧ va_P g.1 vwCl ws H ∧ va_D A ws ∧ va_S A s.heap H locs ∧ (∀ q, s.heap.size ≤ q → A q) ∧ Kc g A s s.heap
/-- what a method answers and leaves -/
def CQ (g : GE) (w : va_W) (sz : Nat) {S : Type} (post : Option Value → S → Prop) (w1 : S → va_W) : Array Value → State → Outcome → State → Prop := fun _ st oc t =>
  (∃ (v : Option Value) (u : S), oc = .returned v ∧ post v u ∧ va_P g.1 vwCl (w1 u) t.heap ∧ va_K g.1 vwCl (gty g) t ∧ va_D (va_A w sz) (w1 u)) ∧ va_F (va_A w sz) st t
def CP (g : GE) (w : va_W) (sz : Nat) (av : List Value) : Array Value → State → Prop := va_Pc av (fun U => U.heap.size = sz ∧ va_P g.1 vwCl w U.heap ∧ va_K g.1 vwCl (gty g) U ∧ va_D (fun _ => True) w ∧ Kc g (va_A w sz) U U.heap)
/-- a contract: from the world w, with the arguments av -/
def Ct (l : Launch) (y : MethodName) (cc : ByteArray) (nL : Nat) (ret : Option FieldType) (rm : Room) (g : GE) (av : List Value) (w : va_W) {S : Type} (post : Option Value → S → Prop) (w1 : S → va_W) : Prop :=
  ∀ sz : Nat, Met l y (Cond.code y cc nL ret :: TW) rm (CP g w sz av) (CQ g w sz post w1) rm.cells rm.slots (va_A w sz)
def RQ (below : List Frame) (a : Array Value) (s : State) (rm : Room) (g : GE) (w : va_W) {S : Type} (post : Option Value → S → Prop) (w1 : S → va_W) : State → Prop := MQ below (CQ g w s.heap.size post w1) a s rm.cells rm.slots (va_A w s.heap.size)
theorem Ct.of {l : Launch} {y : MethodName} {cc : ByteArray} {nL : Nat} {ret : Option FieldType} {rm : Room} {g : GE} {av : List Value} {w : va_W} {S : Type} {post : Option Value → S → Prop} {w1 : S → va_W} {own : String}
    (ho : y.cls = own) (hy : plainName y.cls = true) (hlen : (lg_sl av).length ≤ nL)
    (body : ∀ (p : Program) (e : Env) (s : State) (m : MethodId) (below : List Frame) (meth : Method) (c : Code) (ls : Array Slot), CallFix p m c cc nL s av.toArray TW own → meth.sig.returnType = ret → meth.locks = false → meth.name = y.name →
      Wd g (va_A w s.heap.size) s s.heap [] w → lv_has ls nL (lv_args 0 av) → W p l e rm s m av.toArray below meth c s.heap [] 0 0 (RQ below av.toArray s rm g w post w1) (F0 m 0 ls [])) :
    Ct l y cc nL ret rm g av w post w1 := by
  intro sz
  refine Met.ofW (cc := cc) (maxL := nL) (ret := ret) hy rfl ?_
  intro p e s m args below meth c s₁ B hml hv
  obtain ⟨rfl, hsz, hP, hK, hD0, hC⟩ := hv
  subst hsz
  have hts := atoms_spec (ws := Cond.code y cc nL ret :: TW) B.pre
  have hown : s.vm.findClass own = some m.cls := by rw [← ho]; exact findClass_of_methodNamed B.named
  have hl := lv_entry av (n := nL) hlen
  rw [lg_entry_eq]
  generalize (lg_sl av ++ List.replicate (nL - (lg_sl av).length) Slot.unset).toArray = ls at hl ⊢
  exact body p e s m below meth c ls ⟨B.exec, B.bytes, hml, hown, fun w h => hts w (List.mem_cons_of_mem _ h)⟩ B.returns B.notSynchronized (name_of_methodNamed B.named B.method).1 ⟨hK, hP, hD0.self, va_S.rf, fun q h => Or.inr h, hC⟩ hl
section BaseW
variable {p : Program} {l : Launch} {e : Env} {R : Room} {s : State} {m : MethodId} {args : Array Value} {below : List Frame} {meth : Method} {c : Code} {H : Heap} {locs : List Loc} {cells slots : Nat} {Q : State → Prop}
variable {cc : ByteArray} {nL pc : Nat} {ls : Array Slot} {rest : List Value} {g : GE} {A : Nat → Prop} {ws : va_W} {own : String}
theorem RQ.end {rm : Room} {w : va_W} {S : Type} {post : Option Value → S → Prop} {w1 : S → va_W} {v : Option Value} (hw : Wd g (va_A w s.heap.size) s H locs ws) (u : S) (hp : post v u) (hws : ws = w1 u) :
    ∀ t : State, t.heap = H → s.WarmedH t.vm → CQ g w s.heap.size post w1 args s (.returned v) t := by
  intro t ht hW
  obtain ⟨hK, hP, hD, hS, -, -⟩ := hw
  subst hws
  exact ⟨⟨v, u, rfl, hp, by rw [ht]; exact hP, va_K.moved hW.alike hK, hD⟩, hS.F ht⟩
theorem RQ.iret {rm : Room} {w : va_W} {S : Type} {post : Option Value → S → Prop} {w1 : S → va_W} {v : Int32} (hF : CallFix p m c cc nL s args TW own) (hr : meth.sig.returnType = some .int) (hlk : meth.locks = false) (hw : Wd g (va_A w s.heap.size) s H locs ws) (hdg : decode cc pc = .ok (.ireturn, 1)) (hcs : cells ≤ rm.cells ∧ slots ≤ rm.slots) (u : S) (hws : ws = w1 u) (hp : post (some (.int v)) u) :
    W p l e R s m args below meth c H locs cells slots (RQ below args s rm g w post w1) (F0 m pc ls [.int v]) :=
  W.widen hcs.1 hcs.2 (W.iret hF.1 hF.2.1 hr (RQ.end (rm := rm) hw u hp hws) hw.2.2.2.1.2.2 hdg hlk)
theorem RQ.zret {rm : Room} {w : va_W} {S : Type} {post : Option Value → S → Prop} {w1 : S → va_W} {v : Int32} {ty : FieldType} (hF : CallFix p m c cc nL s args TW own) (hr : meth.sig.returnType = some ty) (hlk : meth.locks = false) (hw : Wd g (va_A w s.heap.size) s H locs ws) (hdg : decode cc pc = .ok (.ireturn, 1)) (hn : narrow ty (.int v) = .int v) (hcs : cells ≤ rm.cells ∧ slots ≤ rm.slots) (u : S) (hws : ws = w1 u) (hp : post (some (.int v)) u) :
    W p l e R s m args below meth c H locs cells slots (RQ below args s rm g w post w1) (F0 m pc ls [.int v]) :=
  W.widen hcs.1 hcs.2 (W.zret hF.1 hF.2.1 hr hn (RQ.end (rm := rm) hw u hp hws) hw.2.2.2.1.2.2 hdg hlk)
theorem RQ.vret {rm : Room} {w : va_W} {S : Type} {post : Option Value → S → Prop} {w1 : S → va_W} (hF : CallFix p m c cc nL s args TW own) (hr : meth.sig.returnType = none) (hlk : meth.locks = false) (hw : Wd g (va_A w s.heap.size) s H locs ws) (hdg : decode cc pc = .ok (.return_, 1)) (hcs : cells ≤ rm.cells ∧ slots ≤ rm.slots) (u : S) (hws : ws = w1 u) (hp : post none u) :
    W p l e R s m args below meth c H locs cells slots (RQ below args s rm g w post w1) (F0 m pc ls []) :=
  W.widen hcs.1 hcs.2 (W.vret hF.1 hF.2.1 hr (RQ.end (rm := rm) hw u hp hws) hw.2.2.2.1.2.2 hdg hlk)
theorem RQ.aret {rm : Room} {w : va_W} {S : Type} {post : Option Value → S → Prop} {w1 : S → va_W} {v : Value} {rt : FieldType} (hF : CallFix p m c cc nL s args TW own) (hr : meth.sig.returnType = some rt) (hrt : (∃ n, rt = .object n) ∨ ∃ t, rt = .array t) (hv : v = .null ∨ ∃ a, v = .ref a) (hlk : meth.locks = false) (hw : Wd g (va_A w s.heap.size) s H locs ws) (hdg : decode cc pc = .ok (.areturn, 1)) (hcs : cells ≤ rm.cells ∧ slots ≤ rm.slots) (u : S) (hws : ws = w1 u) (hp : post (some v) u) :
    W p l e R s m args below meth c H locs cells slots (RQ below args s rm g w post w1) (F0 m pc ls [v]) :=
  W.widen hcs.1 hcs.2 (W.aret hF.1 hF.2.1 hr hrt hv (RQ.end (rm := rm) hw u hp hws) hw.2.2.2.1.2.2 hdg hlk)
theorem RQ.fret {rm : Room} {w : va_W} {S : Type} {post : Option Value → S → Prop} {w1 : S → va_W} {v : UInt32} (hF : CallFix p m c cc nL s args TW own) (hr : meth.sig.returnType = some .float) (hlk : meth.locks = false) (hw : Wd g (va_A w s.heap.size) s H locs ws) (hdg : decode cc pc = .ok (.freturn, 1)) (hcs : cells ≤ rm.cells ∧ slots ≤ rm.slots) (u : S) (hws : ws = w1 u) (hp : post (some (.float v)) u) :
    W p l e R s m args below meth c H locs cells slots (RQ below args s rm g w post w1) (F0 m pc ls [.float v]) :=
  W.widen hcs.1 hcs.2 (W.fret hF.1 hF.2.1 hr (RQ.end (rm := rm) hw u hp hws) hw.2.2.2.1.2.2 hdg hlk)
/-- a field's words: of class ci (C, T, N) its slot k, linked by own's entry index -/
def FLk (own : String) (index ci k : Nat) (C : String) (T : u_T) (N : Nat) : Prop := vwCl[ci]? = some (C, T, N) ∧ (∀ w ∈ u_ws C T N, w ∈ TW) ∧ k < N ∧ (Cond.fieldLink own index (T k).1 (T k).2.1 (T k).2.2.1 ∈ TW ∨ ∃ host, Cond.fieldLinkNest own index (T k).1 (T k).2.1 (T k).2.2.1 host ∈ TW)
theorem wget {ci k N index a : Nat} {C : String} {T : u_T} (hF : CallFix p m c cc nL s args TW own) (hw : Wd g A s H locs ws) (hl : FLk own index ci k C T N) (hdg : decode cc pc = .ok (.getfield index, 3)) (q0 : Nat) {fs : List Value} (he : ws[q0]? = some (a, .inr (ci, fs))) {v : Value} (hv : fs[k]? = some v)
    (kk : W p l e R s m args below meth c H locs cells slots Q (F0 m (pc + 3) ls (v :: rest))) : W p l e R s m args below meth c H locs cells slots Q (F0 m pc ls (.ref a :: rest)) := by
  obtain ⟨hx, hb, -, hown, hts⟩ := hF
  obtain ⟨hc, hin, hk, h | ⟨host, h⟩⟩ := hl
  · exact va_get hx hb hts hin hown hw.1 hw.2.1 q0 he hc k hk (hts _ h) (fun _ h9 => h9) hv hdg kk
  · exact va_getN hx hb hts hin hown hw.1 hw.2.1 q0 he hc k hk (hts _ h) (fun _ h9 => h9) hv hdg kk
def FTk (C : String) (T : u_T) (N : Nat) (ty0 : Nat → FieldType) : Prop := (∀ k, k < N → parseFieldDescriptor (T k).2.2.1 = some (ty0 k)) ∧ (∀ a, a < N → ∀ b, b < N → a ≠ b → (T a).2.1 ≠ (T b).2.1)
theorem wput {ci k N index a : Nat} {C : String} {T : u_T} {ty0 : Nat → FieldType} (hF : CallFix p m c cc nL s args TW own) (hw : Wd g A s H locs ws) (hl : FLk own index ci k C T N) (ht : FTk C T N ty0) (hdg : decode cc pc = .ok (.putfield index, 3)) (q0 : Nat) {fs : List Value} (he : ws[q0]? = some (a, .inr (ci, fs))) {v : Value} (hfin : (T k).2.2.2 = false) (hn : narrow (ty0 k) v = v) (hfit : fits (ty0 k) v = true) (hlen : k < fs.length)
    (kk : ∀ (H : Heap) (locs : List Loc), Wd g A s H locs (ws.set q0 (a, .inr (ci, fs.set k v))) → W p l e R s m args below meth c H locs cells slots Q (F0 m (pc + 3) ls rest)) : W p l e R s m args below meth c H locs cells slots Q (F0 m pc ls (v :: .ref a :: rest)) := by
  obtain ⟨hx, hb, -, hown, hts⟩ := hF
  obtain ⟨hK, hP, hD, hS, hA, hC⟩ := hw
  obtain ⟨hc, hin, hk, h | ⟨host, h⟩⟩ := hl
  · exact va_put hx hb hts hin ty0 ht.1 ht.2 hown hK hP hD hS q0 he hc k hk (hts _ h) (fun _ h9 => h9) hfin (ht.1 k hk) hn hfit hlen hdg (fun H1 l1 hP hD hS => kk H1 l1 ⟨hK, hP, hD, hS, hA, hC⟩)
  · exact va_putN hx hb hts hin ty0 ht.1 ht.2 hown hK hP hD hS q0 he hc k hk (hts _ h) (fun _ h9 => h9) hfin (ht.1 k hk) hn hfit hlen hdg (fun H1 l1 hP hD hS => kk H1 l1 ⟨hK, hP, hD, hS, hA, hC⟩)
theorem wputF {ci k N index a : Nat} {C : String} {T : u_T} {ty0 : Nat → FieldType} (hF : CallFix p m c cc nL s args TW own) (hw : Wd g A s H locs ws) (hl : FLk own index ci k C T N) (ht : FTk C T N ty0) (hni : twNest (Cond.fieldLink own index (T k).1 (T k).2.1 (T k).2.2.1) = false) (hlk : Cond.fieldLink own index (T k).1 (T k).2.1 (T k).2.2.1 ∈ TW) (hdg : decode cc pc = .ok (.putfield index, 3)) (q0 : Nat) {fs : List Value} (he : ws[q0]? = some (a, .inr (ci, fs))) {v : Value} (hfin : (T k).2.2.2 = true) (hin2 : meth.name = "<init>") (hdecl : (T k).1 = own) (hn : narrow (ty0 k) v = v) (hfit : fits (ty0 k) v = true) (hlen : k < fs.length)
    (kk : ∀ (H : Heap) (locs : List Loc), Wd g A s H locs (ws.set q0 (a, .inr (ci, fs.set k v))) → W p l e R s m args below meth c H locs cells slots Q (F0 m (pc + 3) ls rest)) : W p l e R s m args below meth c H locs cells slots Q (F0 m pc ls (v :: .ref a :: rest)) := by
  obtain ⟨hx, hb, -, hown, hts⟩ := hF
  obtain ⟨hK, hP, hD, hS, hA, hC⟩ := hw
  obtain ⟨hc, hin, hk, -⟩ := hl
  exact va_putF hx hb hts hin ty0 ht.1 ht.2 hown hK hP hD hS q0 he hc k hk (hts _ hlk) (fun _ h9 => h9) hfin hin2 hdecl (ht.1 k hk) hn hfit hlen hdg (fun H1 l1 hP hD hS => kk H1 l1 ⟨hK, hP, hD, hS, hA, hC⟩)
theorem wiald {a : Nat} (hF : CallFix p m c cc nL s args TW own) (hw : Wd g A s H locs ws) (hdg : decode cc pc = .ok (.iaload, 1)) (q0 : Nat) {n : Nat} {f : Nat → Int32} (ha : ws[q0]? = some (a, .inl (g.2.1 0, n, .inl f))) {i : Int32} (hin : vp_in i n)
    (kk : W p l e R s m args below meth c H locs cells slots Q (F0 m (pc + 1) ls (.int (f i.toNatClampNeg) :: rest))) : W p l e R s m args below meth c H locs cells slots Q (F0 m pc ls (.int i :: .ref a :: rest)) :=
  va_iald hF.1 hF.2.1 hw.1 hw.2.1 q0 0 ha rfl hin hdg kk
theorem wzald {a : Nat} (hF : CallFix p m c cc nL s args TW own) (hw : Wd g A s H locs ws) (hdg : decode cc pc = .ok (.baload, 1)) (q0 : Nat) {n : Nat} {f : Nat → Int32} (ha : ws[q0]? = some (a, .inl (g.2.1 1, n, .inl f))) {i : Int32} (hin : vp_in i n)
    (kk : W p l e R s m args below meth c H locs cells slots Q (F0 m (pc + 1) ls (.int (f i.toNatClampNeg) :: rest))) : W p l e R s m args below meth c H locs cells slots Q (F0 m pc ls (.int i :: .ref a :: rest)) :=
  va_zald hF.1 hF.2.1 hw.1 hw.2.1 q0 1 ha rfl hin hdg kk
theorem wiast {a : Nat} (hF : CallFix p m c cc nL s args TW own) (hw : Wd g A s H locs ws) (hdg : decode cc pc = .ok (.iastore, 1)) (q0 : Nat) {n : Nat} {f : Nat → Int32} (ha : ws[q0]? = some (a, .inl (g.2.1 0, n, .inl f))) {i x : Int32} (hin : vp_in i n)
    (kk : ∀ (H : Heap) (locs : List Loc), Wd g A s H locs (ws.set q0 (a, .inl (g.2.1 0, n, .inl (upd f i.toNatClampNeg x)))) → W p l e R s m args below meth c H locs cells slots Q (F0 m (pc + 1) ls rest)) : W p l e R s m args below meth c H locs cells slots Q (F0 m pc ls (.int x :: .int i :: .ref a :: rest)) := by
  obtain ⟨hK, hP, hD, hS, hA, hC⟩ := hw
  exact va_iast hF.1 hF.2.1 hK hP hD hS q0 0 ha rfl hin hdg (fun H1 l1 hP hD hS => kk H1 l1 ⟨hK, hP, hD, hS, hA, hC⟩)
theorem walen {a : Nat} (hF : CallFix p m c cc nL s args TW own) (hw : Wd g A s H locs ws) (hdg : decode cc pc = .ok (.arraylength, 1)) (q0 : Nat) {n : Nat} {f : Nat → Int32} (ha : ws[q0]? = some (a, .inl (g.2.1 0, n, .inl f)))
    (kk : W p l e R s m args below meth c H locs cells slots Q (F0 m (pc + 1) ls (.int (nI n) :: rest))) : W p l e R s m args below meth c H locs cells slots Q (F0 m pc ls (.ref a :: rest)) :=
  va_alen hF.1 hF.2.1 hw.1 hw.2.1 q0 0 ha (ty := .int) rfl rfl hdg kk
/-- a call's words -/
def MWv (own : String) (index : Nat) (C : String) (y : MethodName) (cc : ByteArray) (nL : Nat) (ret : Option FieldType) (n : Nat) : Prop :=
  Cond.methodLink own index y ∈ TW ∧ Cond.instanceMethod y ∈ TW ∧ Cond.selects C y y ∈ TW ∧ Cond.initialized C ∈ TW ∧ Cond.code y cc nL ret ∈ TW ∧ y.cls = C ∧ (y.cls ≠ "java/lang/invoke/MethodHandle" ∧ y.cls ≠ "java/lang/invoke/VarHandle") ∧ (parseMethodDescriptor y.desc).map (fun d => d.parameters.length) = some n
def MWs (own : String) (index : Nat) (y : MethodName) (cc : ByteArray) (nL : Nat) (ret : Option FieldType) (n : Nat) : Prop :=
  Cond.methodLink own index y ∈ TW ∧ Cond.static y ∈ TW ∧ Cond.initialized y.cls ∈ TW ∧ Cond.code y cc nL ret ∈ TW ∧ (y.cls ≠ "java/lang/invoke/MethodHandle" ∧ y.cls ≠ "java/lang/invoke/VarHandle") ∧ (parseMethodDescriptor y.desc).map (fun d => d.parameters.length) = some n
theorem CP.blind {g : GE} {w : va_W} {sz : Nat} {av : List Value} : FrameBlind (CP g w sz av) := fun a U g9 mk q => by
  obtain ⟨q0, q1, qP, qK, qD, qC⟩ := q
  exact ⟨q0, q1, qP, va_K.moved (u := U) (U := U.calling g9 mk a) (Vm.Alike.refl U.vm) qK, qD, Kc.moved (u := U) (U := U.calling g9 mk a) (Vm.Alike.refl U.vm) qC⟩
theorem CP.pre {wc : va_W} {av : List Value} (hw : Wd g A s H locs ws) (isC : List Nat) (hC : isC.map (fun i => ws[i]?) = wc.map some) (hP : va_P g.1 vwCl wc H) (hD : va_D A wc) : ∀ U : State, U.heap = H → s.WarmedH U.vm → CP g wc H.size av av.toArray U := fun U hU hW =>
  ⟨rfl, by rw [hU], by rw [hU]; exact hP, va_K.moved hW.alike hw.1, hD.weaken (fun _ _ _ _ => trivial), by rw [hU]; exact Kc.moved hW.alike ((hw.2.2.2.2.2.kept hw.2.2.2.1.2.1).narrow (va_free hw.2.2.1 hw.2.2.2.1 hw.2.2.2.2.1 isC hC))⟩
/-- behind a call: the rest and what came back -/
theorem Ct.back {wc wr : va_W} {S : Type} {post : Option Value → S → Prop} {w1 : S → va_W} {mc ms : Nat} {a0 : Array Value} {st0 : List Value} (hw : Wd g A s H locs ws) (isC isR : List Nat) (hC : isC.map (fun i => ws[i]?) = wc.map some) (hR : isR.map (fun i => ws[i]?) = wr.map some) (hn : va_nd isR = true) (hdis : ∀ i ∈ isR, i ∉ isC)
    (hr : va_Run p l e R s m args below meth c H locs cells slots mc ms (F0 m pc ls st0) rest (CQ g wc H.size post w1 a0) (va_A wc H.size))
    (kk : ∀ (v : Option Value) (u : S) (H : Heap) (locs : List Loc), post v u → Wd g A s H locs (wr ++ w1 u) → W p l e R s m args below meth c H locs (cells + mc) (slots + ms) Q (F0 m (pc + 3) ls (v.toList ++ rest))) : W p l e R s m args below meth c H locs cells slots Q (F0 m pc ls st0) := by
  obtain ⟨hK, hP, hD, hS, hA, hC9⟩ := hw
  have hFc := va_free (wc := wc) hD hS hA isC hC
  intro T hT X
  obtain ⟨v, st₀, t, T', L, h0, X', hL, e1, e2, ⟨⟨v', u, hv, hp, hP1, hK1, hD1⟩, hz, hk⟩, st⟩ := hr T hT X
  cases hv
  rw [h0] at hz hk
  have hz' : H.size ≤ T'.heap.size := by rw [e1]; exact hz
  have hk' : ∀ q : Nat, q < H.size → ¬ va_A wc H.size q → T'.heap[q]? = H[q]? := fun q h1 h2 => by rw [e1]; exact hk q h1 h2
  rw [← e1] at hP1
  obtain ⟨hP2, hD2⟩ := va_join (wr := wr) (w1 := w1 u) hP hD isC isR hC hR hn hdis hk' hFc hP1 hD1
  obtain ⟨t2, a1, b1⟩ := kk v u T'.heap (locs ++ L) hp ⟨hK, hP2, hD2, ⟨Nat.le_trans hS.1 hz', fun q h1 h2 => by
      rw [hk' q (Nat.lt_of_lt_of_le h1 hS.1) (fun z => h2 (hFc q z))]; exact hS.2.1 q h1 h2, fun q hq => by
      rcases List.mem_append.mp hq with h | h
      · exact hS.2.2 q h
      · exact hFc _ (hL q h)⟩, hA, hC9⟩ T' rfl X'
  exact ⟨t2, st t2 a1, b1⟩
theorem fm_of_map {α β : Type} {f : α → Option β} {is : List α} {w : List β} (h : is.map f = w.map some) : is.filterMap f = w := by
  induction is generalizing w with
  | nil =>
    cases w with
    | nil => rfl
    | cons b w => cases h
  | cons a is ih =>
    cases w with
    | nil => cases h
    | cons b w =>
      simp only [List.map_cons, List.cons.injEq] at h
      rw [List.filterMap_cons_some h.1, ih h.2]
theorem Ct.callV {y : MethodName} {cc' : ByteArray} {nL' n index ci b N : Nat} {C : String} {T : u_T} {ret' : Option FieldType} {rm : Room} {As : List Value} {wc wr : va_W} {S : Type} {post : Option Value → S → Prop} {w1 : S → va_W} (hF : CallFix p m c cc nL s args TW own) (hw : Wd g A s H locs ws) (hM : Ct l y cc' nL' ret' rm g (.ref b :: As) wc post w1) (mw : MWv own index C y cc' nL' ret' n)
    (isC isR : List Nat) (hC : isC.map (fun i => ws[i]?) = wc.map some) (hR : isR.map (fun i => ws[i]?) = wr.map some) (hnc : va_nd isC = true) (hnd : va_nd isR = true) (hdis : ∀ i ∈ isR, i ∉ isC) (q0 : Nat) {fs : List Value} (he : wc[q0]? = some (b, .inr (ci, fs))) (hc : vwCl[ci]? = some (C, T, N))
    (hroom : rm.frames + 1 ≤ R.frames ∧ 8 + (nL' + 11) + rm.locals ≤ R.locals) (hcs : cells + rm.cells ≤ R.cells ∧ slots + rm.slots ≤ R.slots) (hn : As.length = n) (hls : ls.size = nL) (hrest : (rest.map fun v => v.category).sum ≤ 8) {st0 : List Value} (hst : st0 = As.reverse ++ .ref b :: rest) (hdg : decode cc pc = .ok (.invokevirtual index, 3))
    (kk : ∀ (v : Option Value) (u : S) (H : Heap) (locs : List Loc), post v u → Wd g A s H locs (wr ++ w1 u) → W p l e R s m args below meth c H locs (cells + rm.cells) (slots + rm.slots) Q (F0 m (pc + 3) ls (v.toList ++ rest))) : W p l e R s m args below meth c H locs cells slots Q (F0 m pc ls st0) := by
  obtain ⟨m1, m2, m3, m4, m5, m6, m7, m8⟩ := mw
  have hts := hF.2.2.2.2
  have hin : ∀ sig, parseMethodDescriptor y.desc = some sig → n = sig.parameters.length := fun sig h => by rw [h] at m8; exact (Option.some.inj m8).symm
  have hPc : va_P g.1 vwCl wc H := hw.2.1.sub isC (fm_of_map hC)
  have hDc : va_D A wc := hw.2.2.1.sub isC hnc hC
  have hini : (Cond.initialized y.cls).before args s = true := by rw [m6]; exact hts _ m4
  exact Ct.back hw isC isR hC hR hnd hdis (va_runV (y := y) (ws := Cond.code y cc' nL' ret' :: TW) (rm := rm) (C := C) (n := n) (As := As) (b := b) hF (hM H.size)
    ⟨⟨rfl, rfl, hroom.1, hroom.2, tw_payc hts m5, List.mem_cons_self, hts _ m5, hini, m7, hin, hts _ m1⟩, hts _ m2, hts _ m3⟩
    ⟨CP.blind, va_recv hw.1 hPc hc he, CP.pre hw isC hC hPc hDc⟩ rfl hn hls hst (lv_room hrest) hdg hcs) kk
theorem Ct.callS {y : MethodName} {cc' : ByteArray} {nL' n index : Nat} {ret' : Option FieldType} {rm : Room} {As : List Value} {wc wr : va_W} {S : Type} {post : Option Value → S → Prop} {w1 : S → va_W} (hF : CallFix p m c cc nL s args TW own) (hw : Wd g A s H locs ws) (hM : Ct l y cc' nL' ret' rm g As wc post w1) (mw : MWs own index y cc' nL' ret' n)
    (isC isR : List Nat) (hC : isC.map (fun i => ws[i]?) = wc.map some) (hR : isR.map (fun i => ws[i]?) = wr.map some) (hnc : va_nd isC = true) (hnd : va_nd isR = true) (hdis : ∀ i ∈ isR, i ∉ isC)
    (hroom : rm.frames + 1 ≤ R.frames ∧ 8 + (nL' + 11) + rm.locals ≤ R.locals) (hcs : cells + rm.cells ≤ R.cells ∧ slots + rm.slots ≤ R.slots) (hn : As.length = n) (hls : ls.size = nL) (hrest : (rest.map fun v => v.category).sum ≤ 8) {st0 : List Value} (hst : st0 = As.reverse ++ rest) (hdg : decode cc pc = .ok (.invokestatic index, 3))
    (kk : ∀ (v : Option Value) (u : S) (H : Heap) (locs : List Loc), post v u → Wd g A s H locs (wr ++ w1 u) → W p l e R s m args below meth c H locs (cells + rm.cells) (slots + rm.slots) Q (F0 m (pc + 3) ls (v.toList ++ rest))) : W p l e R s m args below meth c H locs cells slots Q (F0 m pc ls st0) := by
  obtain ⟨m1, m2, m3, m5, m7, m8⟩ := mw
  have hts := hF.2.2.2.2
  have hin : ∀ sig, parseMethodDescriptor y.desc = some sig → n = sig.parameters.length := fun sig h => by rw [h] at m8; exact (Option.some.inj m8).symm
  have hPc : va_P g.1 vwCl wc H := hw.2.1.sub isC (fm_of_map hC)
  have hDc : va_D A wc := hw.2.2.1.sub isC hnc hC
  exact Ct.back hw isC isR hC hR hnd hdis (va_runS (y := y) (ws := Cond.code y cc' nL' ret' :: TW) (rm := rm) (n := n) (As := As) hF (hM H.size)
    ⟨⟨rfl, rfl, hroom.1, hroom.2, tw_payc hts m5, List.mem_cons_self, hts _ m5, hts _ m3, m7, hin, hts _ m1⟩, hts _ m2⟩
    ⟨CP.blind, CP.pre hw isC hC hPc hDc⟩ rfl hn hls hst (lv_room hrest) hdg hcs) kk
theorem nx_xorI (a b : Nat) : nI a ^^^ nI b = nI (a ^^^ b) := by
  apply Int32.toBitVec_inj.1
  show BitVec.ofNat 32 a ^^^ BitVec.ofNat 32 b = BitVec.ofNat 32 (a ^^^ b)
  apply BitVec.eq_of_getLsbD_eq
  intro i hi
  simp [hi]
theorem Wd.sub {ws' : va_W} (h : Wd g A s H locs ws) (is : List Nat) (hs : is.map (fun i => ws[i]?) = ws'.map some) (hn : va_nd is = true) : Wd g A s H locs ws' := ⟨h.1, h.2.1.sub is (fm_of_map hs), h.2.2.1.sub is hn hs, h.2.2.2.1, h.2.2.2.2.1, h.2.2.2.2.2⟩
theorem r_iadd {a b : Nat} (hx : p.tables.exec = Jvm.exec) (hb : c.code = cc) (hdg : decode cc pc = .ok (.iadd, 1)) (k : W p l e R s m args below meth c H locs cells slots Q (F0 m (pc + 1) ls (.int (nI (a + b)) :: rest))) : W p l e R s m args below meth c H locs cells slots Q (F0 m pc ls (.int (nI b) :: .int (nI a) :: rest)) :=
  lv_iadd hx hb hdg (by rw [nI_add]; exact k)
theorem r_isub {a b : Nat} (hx : p.tables.exec = Jvm.exec) (hb : c.code = cc) (hdg : decode cc pc = .ok (.isub, 1)) (h : b ≤ a) (k : W p l e R s m args below meth c H locs cells slots Q (F0 m (pc + 1) ls (.int (nI (a - b)) :: rest))) : W p l e R s m args below meth c H locs cells slots Q (F0 m pc ls (.int (nI b) :: .int (nI a) :: rest)) :=
  lv_isub hx hb hdg (by rw [pk_sub h]; exact k)
theorem r_imul {a b : Nat} (hx : p.tables.exec = Jvm.exec) (hb : c.code = cc) (hdg : decode cc pc = .ok (.imul, 1)) (k : W p l e R s m args below meth c H locs cells slots Q (F0 m (pc + 1) ls (.int (nI (a * b)) :: rest))) : W p l e R s m args below meth c H locs cells slots Q (F0 m pc ls (.int (nI b) :: .int (nI a) :: rest)) :=
  lv_imul hx hb hdg (by rw [pk_mul]; exact k)
theorem r_idiv {a b : Nat} (hx : p.tables.exec = Jvm.exec) (hb : c.code = cc) (hdg : decode cc pc = .ok (.idiv, 1)) (h1 : a < 2 ^ 31) (h2 : 0 < b) (h3 : b < 2 ^ 31) (k : W p l e R s m args below meth c H locs cells slots Q (F0 m (pc + 1) ls (.int (nI (a / b)) :: rest))) : W p l e R s m args below meth c H locs cells slots Q (F0 m pc ls (.int (nI b) :: .int (nI a) :: rest)) :=
  lv_idiv hx hb hdg (nI_ne0 h2 h3) (by rw [pk_div h1 h2 h3]; exact k)
theorem r_irem {a b : Nat} (hx : p.tables.exec = Jvm.exec) (hb : c.code = cc) (hdg : decode cc pc = .ok (.irem, 1)) (h1 : a < 2 ^ 31) (h2 : 0 < b) (h3 : b < 2 ^ 31) (k : W p l e R s m args below meth c H locs cells slots Q (F0 m (pc + 1) ls (.int (nI (a % b)) :: rest))) : W p l e R s m args below meth c H locs cells slots Q (F0 m pc ls (.int (nI b) :: .int (nI a) :: rest)) :=
  lv_irem hx hb hdg (nI_ne0 h2 h3) (by rw [pk_rem h1 h2 h3]; exact k)
theorem r_ixor {a b : Nat} (hx : p.tables.exec = Jvm.exec) (hb : c.code = cc) (hdg : decode cc pc = .ok (.ixor, 1)) (k : W p l e R s m args below meth c H locs cells slots Q (F0 m (pc + 1) ls (.int (nI (a ^^^ b)) :: rest))) : W p l e R s m args below meth c H locs cells slots Q (F0 m pc ls (.int (nI b) :: .int (nI a) :: rest)) :=
  lv_ixor hx hb hdg (by rw [nx_xorI]; exact k)
theorem r_ishr {a b : Nat} (hx : p.tables.exec = Jvm.exec) (hb : c.code = cc) (hdg : decode cc pc = .ok (.ishr, 1)) (h1 : a < 2 ^ 31) (hs : ((nI b &&& 31).toBitVec.smod 32).toNat = b) (k : W p l e R s m args below meth c H locs cells slots Q (F0 m (pc + 1) ls (.int (nI (a / 2 ^ b)) :: rest))) : W p l e R s m args below meth c H locs cells slots Q (F0 m pc ls (.int (nI b) :: .int (nI a) :: rest)) :=
  lv_ishr hx hb hdg (by rw [pk_shrN h1 _ b hs]; exact k)
theorem r_iand {a b : Nat} (hx : p.tables.exec = Jvm.exec) (hb : c.code = cc) (hdg : decode cc pc = .ok (.iand, 1)) (t : Nat) (h1 : a < 2 ^ 32) (hs : (nI b).toBitVec.toNat = 2 ^ t - 1) (k : W p l e R s m args below meth c H locs cells slots Q (F0 m (pc + 1) ls (.int (nI (a % 2 ^ t)) :: rest))) : W p l e R s m args below meth c H locs cells slots Q (F0 m pc ls (.int (nI b) :: .int (nI a) :: rest)) :=
  lv_iand hx hb hdg (by rw [pk_andN h1 t hs]; exact k)
theorem r_iandX {a : Int32} {b : Nat} (hx : p.tables.exec = Jvm.exec) (hb : c.code = cc) (hdg : decode cc pc = .ok (.iand, 1)) (t : Nat) (hs : (nI b).toBitVec.toNat = 2 ^ t - 1) (k : W p l e R s m args below meth c H locs cells slots Q (F0 m (pc + 1) ls (.int (nI (a.toBitVec.toNat % 2 ^ t)) :: rest))) : W p l e R s m args below meth c H locs cells slots Q (F0 m pc ls (.int (nI b) :: .int a :: rest)) :=
  lv_iand hx hb hdg (by rw [pk_and a t hs]; exact k)
theorem r_top {x : Int32} {n : Nat} (h : x = nI n) (k : W p l e R s m args below meth c H locs cells slots Q (F0 m pc ls (.int (nI n) :: rest))) : W p l e R s m args below meth c H locs cells slots Q (F0 m pc ls (.int x :: rest)) := by rw [h]; exact k
theorem r_topv {x y : Value} (h : x = y) (k : W p l e R s m args below meth c H locs cells slots Q (F0 m pc ls (y :: rest))) : W p l e R s m args below meth c H locs cells slots Q (F0 m pc ls (x :: rest)) := by rw [h]; exact k
theorem r_iinc {i n9 k : Nat} {n : Int} {a d : Nat} {lv lv' : List (Nat × Value)} (hx : p.tables.exec = Jvm.exec) (hb : c.code = cc) (hdg : decode cc pc = .ok (.iinc i n, 3)) (h : lv_has ls n9 lv) (hk : lv[k]? = some (i, .int (nI a))) (hd : Int32.ofInt n = nI d) (hn : i < n9) (hl : (i, Value.int (nI (a + d))) :: lv.filter (fun q => !(q.1 == i) && !(q.1 + 1 == i && q.2.category == 2)) = lv')
    (kk : ∀ ls' : Array Slot, lv_has ls' n9 lv' → W p l e R s m args below meth c H locs cells slots Q (F0 m (pc + 3) ls' rest)) : W p l e R s m args below meth c H locs cells slots Q (F0 m pc ls rest) :=
  lv_iinc (v := nI (a + d)) hx hb hdg h hk (by rw [hd, nI_add]) hn hl kk
theorem r_iald {a : Nat} (hF : CallFix p m c cc nL s args TW own) (hw : Wd g A s H locs ws) (hdg : decode cc pc = .ok (.iaload, 1)) (q0 : Nat) {n : Nat} {f : Nat → Int32} (ha : ws[q0]? = some (a, .inl (g.2.1 0, n, .inl f))) {k : Nat} (hk : k < n) (hn : n < 2 ^ 31)
    (kk : W p l e R s m args below meth c H locs cells slots Q (F0 m (pc + 1) ls (.int (f k) :: rest))) : W p l e R s m args below meth c H locs cells slots Q (F0 m pc ls (.int (nI k) :: .ref a :: rest)) :=
  wiald hF hw hdg q0 ha (vp_in_nI hk hn) (by rw [nI_clamp (by omega)]; exact kk)
theorem r_zald {a : Nat} (hF : CallFix p m c cc nL s args TW own) (hw : Wd g A s H locs ws) (hdg : decode cc pc = .ok (.baload, 1)) (q0 : Nat) {n : Nat} {f : Nat → Int32} (ha : ws[q0]? = some (a, .inl (g.2.1 1, n, .inl f))) {k : Nat} (hk : k < n) (hn : n < 2 ^ 31)
    (kk : W p l e R s m args below meth c H locs cells slots Q (F0 m (pc + 1) ls (.int (f k) :: rest))) : W p l e R s m args below meth c H locs cells slots Q (F0 m pc ls (.int (nI k) :: .ref a :: rest)) :=
  wzald hF hw hdg q0 ha (vp_in_nI hk hn) (by rw [nI_clamp (by omega)]; exact kk)
theorem r_iast {a : Nat} {ws' : va_W} (hF : CallFix p m c cc nL s args TW own) (hw : Wd g A s H locs ws) (hdg : decode cc pc = .ok (.iastore, 1)) (q0 : Nat) {n : Nat} {f : Nat → Int32} (ha : ws[q0]? = some (a, .inl (g.2.1 0, n, .inl f))) {k : Nat} {x : Int32} (hk : k < n) (hn : n < 2 ^ 31) (hs : ws.set q0 (a, .inl (g.2.1 0, n, .inl (upd f k x))) = ws')
    (kk : ∀ (H : Heap) (locs : List Loc), Wd g A s H locs ws' → W p l e R s m args below meth c H locs cells slots Q (F0 m (pc + 1) ls rest)) : W p l e R s m args below meth c H locs cells slots Q (F0 m pc ls (.int x :: .int (nI k) :: .ref a :: rest)) :=
  wiast hF hw hdg q0 ha (vp_in_nI hk hn) (fun H1 l1 h => kk H1 l1 (by rw [nI_clamp (by omega), hs] at h; exact h))
theorem r_zast {a : Nat} {ws' : va_W} (hF : CallFix p m c cc nL s args TW own) (hw : Wd g A s H locs ws) (hdg : decode cc pc = .ok (.bastore, 1)) (q0 : Nat) {n : Nat} {f : Nat → Int32} (ha : ws[q0]? = some (a, .inl (g.2.1 1, n, .inl f))) {k : Nat} {x : Int32} (hk : k < n) (hn : n < 2 ^ 31) (hz : vp_nar .boolean x = x) (hs : ws.set q0 (a, .inl (g.2.1 1, n, .inl (upd f k x))) = ws')
    (kk : ∀ (H : Heap) (locs : List Loc), Wd g A s H locs ws' → W p l e R s m args below meth c H locs cells slots Q (F0 m (pc + 1) ls rest)) : W p l e R s m args below meth c H locs cells slots Q (F0 m pc ls (.int x :: .int (nI k) :: .ref a :: rest)) := by
  obtain ⟨hK, hP, hD, hS, hA, hC⟩ := hw
  refine va_zast hF.1 hF.2.1 hK hP hD hS q0 1 ha rfl (vp_in_nI hk hn) hdg (fun H1 l1 hP hD hS => ?_)
  rw [nI_clamp (by omega), hz, hs] at hP hD
  exact kk H1 l1 ⟨hK, hP, hD, hS, hA, hC⟩
theorem r_put {ci k N index a : Nat} {ws' : va_W} {C : String} {T : u_T} {ty0 : Nat → FieldType} (hF : CallFix p m c cc nL s args TW own) (hw : Wd g A s H locs ws) (hl : FLk own index ci k C T N) (ht : FTk C T N ty0) (hdg : decode cc pc = .ok (.putfield index, 3)) (q0 : Nat) {fs : List Value} (he : ws[q0]? = some (a, .inr (ci, fs))) {v : Value} (hfin : (T k).2.2.2 = false) (hn : narrow (ty0 k) v = v) (hfit : fits (ty0 k) v = true) (hlen : k < fs.length) (hs : ws.set q0 (a, .inr (ci, fs.set k v)) = ws')
    (kk : ∀ (H : Heap) (locs : List Loc), Wd g A s H locs ws' → W p l e R s m args below meth c H locs cells slots Q (F0 m (pc + 3) ls rest)) : W p l e R s m args below meth c H locs cells slots Q (F0 m pc ls (v :: .ref a :: rest)) :=
  wput hF hw hl ht hdg q0 he hfin hn hfit hlen (fun H1 l1 h => kk H1 l1 (by rw [hs] at h; exact h))
theorem r_lt {a b : Nat} {off : Int} {tgt : Nat} (hx : p.tables.exec = Jvm.exec) (hb : c.code = cc) (hdg : decode cc pc = .ok (.if_icmp .lt off, 3)) (ht : (pc : Int) + off = (tgt : Int)) (h1 : a < 2 ^ 31) (h2 : b < 2 ^ 31)
    (kt : a < b → W p l e R s m args below meth c H locs cells slots Q (F0 m tgt ls rest)) (kf : b ≤ a → W p l e R s m args below meth c H locs cells slots Q (F0 m (pc + 3) ls rest)) : W p l e R s m args below meth c H locs cells slots Q (F0 m pc ls (.int (nI b) :: .int (nI a) :: rest)) :=
  lv_icmp_lt hx hb hdg ht (fun h => kt ((nI_ltI h1 h2).mp h)) (fun h => kf (Nat.le_of_not_lt fun q => h ((nI_ltI h1 h2).mpr q)))
theorem r_gt {a b : Nat} {off : Int} {tgt : Nat} (hx : p.tables.exec = Jvm.exec) (hb : c.code = cc) (hdg : decode cc pc = .ok (.if_icmp .gt off, 3)) (ht : (pc : Int) + off = (tgt : Int)) (h1 : a < 2 ^ 31) (h2 : b < 2 ^ 31)
    (kt : b < a → W p l e R s m args below meth c H locs cells slots Q (F0 m tgt ls rest)) (kf : a ≤ b → W p l e R s m args below meth c H locs cells slots Q (F0 m (pc + 3) ls rest)) : W p l e R s m args below meth c H locs cells slots Q (F0 m pc ls (.int (nI b) :: .int (nI a) :: rest)) :=
  lv_icmp_gt hx hb hdg ht (fun h => kt ((nI_ltI h2 h1).mp h)) (fun h => kf (Nat.le_of_not_lt fun q => h ((nI_ltI h2 h1).mpr q)))
theorem r_le {a b : Nat} {off : Int} {tgt : Nat} (hx : p.tables.exec = Jvm.exec) (hb : c.code = cc) (hdg : decode cc pc = .ok (.if_icmp .le off, 3)) (ht : (pc : Int) + off = (tgt : Int)) (h1 : a < 2 ^ 31) (h2 : b < 2 ^ 31)
    (kt : a ≤ b → W p l e R s m args below meth c H locs cells slots Q (F0 m tgt ls rest)) (kf : b < a → W p l e R s m args below meth c H locs cells slots Q (F0 m (pc + 3) ls rest)) : W p l e R s m args below meth c H locs cells slots Q (F0 m pc ls (.int (nI b) :: .int (nI a) :: rest)) :=
  lv_icmp_le hx hb hdg ht (fun h => kt ((nI_leI h1 h2).mp h)) (fun h => kf (Nat.lt_of_not_le fun q => h ((nI_leI h1 h2).mpr q)))
theorem r_ge {a b : Nat} {off : Int} {tgt : Nat} (hx : p.tables.exec = Jvm.exec) (hb : c.code = cc) (hdg : decode cc pc = .ok (.if_icmp .ge off, 3)) (ht : (pc : Int) + off = (tgt : Int)) (h1 : a < 2 ^ 31) (h2 : b < 2 ^ 31)
    (kt : b ≤ a → W p l e R s m args below meth c H locs cells slots Q (F0 m tgt ls rest)) (kf : a < b → W p l e R s m args below meth c H locs cells slots Q (F0 m (pc + 3) ls rest)) : W p l e R s m args below meth c H locs cells slots Q (F0 m pc ls (.int (nI b) :: .int (nI a) :: rest)) :=
  lv_icmp_ge hx hb hdg ht (fun h => kt ((nI_leI h2 h1).mp h)) (fun h => kf (Nat.lt_of_not_le fun q => h ((nI_leI h2 h1).mpr q)))
theorem r_eq {a b : Nat} {off : Int} {tgt : Nat} (hx : p.tables.exec = Jvm.exec) (hb : c.code = cc) (hdg : decode cc pc = .ok (.if_icmp .eq off, 3)) (ht : (pc : Int) + off = (tgt : Int)) (h1 : a < 2 ^ 31) (h2 : b < 2 ^ 31)
    (kt : a = b → W p l e R s m args below meth c H locs cells slots Q (F0 m tgt ls rest)) (kf : ¬ a = b → W p l e R s m args below meth c H locs cells slots Q (F0 m (pc + 3) ls rest)) : W p l e R s m args below meth c H locs cells slots Q (F0 m pc ls (.int (nI b) :: .int (nI a) :: rest)) :=
  lv_icmp_eq hx hb hdg ht (fun h => kt ((nI_eq h1 h2).mp h)) (fun h => kf (fun q => h ((nI_eq h1 h2).mpr q)))
theorem r_ne {a b : Nat} {off : Int} {tgt : Nat} (hx : p.tables.exec = Jvm.exec) (hb : c.code = cc) (hdg : decode cc pc = .ok (.if_icmp .ne off, 3)) (ht : (pc : Int) + off = (tgt : Int)) (h1 : a < 2 ^ 31) (h2 : b < 2 ^ 31)
    (kt : ¬ a = b → W p l e R s m args below meth c H locs cells slots Q (F0 m tgt ls rest)) (kf : a = b → W p l e R s m args below meth c H locs cells slots Q (F0 m (pc + 3) ls rest)) : W p l e R s m args below meth c H locs cells slots Q (F0 m pc ls (.int (nI b) :: .int (nI a) :: rest)) :=
  lv_icmp_ne hx hb hdg ht (fun h => kt (fun q => h ((nI_eq h1 h2).mpr q))) (fun h => kf ((nI_eq h1 h2).mp h))
theorem r_eq0 {a : Nat} {off : Int} {tgt : Nat} (hx : p.tables.exec = Jvm.exec) (hb : c.code = cc) (hdg : decode cc pc = .ok (.ifCond .eq off, 3)) (ht : (pc : Int) + off = (tgt : Int)) (h1 : a < 2 ^ 31)
    (kt : a = 0 → W p l e R s m args below meth c H locs cells slots Q (F0 m tgt ls rest)) (kf : ¬ a = 0 → W p l e R s m args below meth c H locs cells slots Q (F0 m (pc + 3) ls rest)) : W p l e R s m args below meth c H locs cells slots Q (F0 m pc ls (.int (nI a) :: rest)) :=
  lv_if_eq hx hb hdg ht (fun h => kt ((nI_eq h1 (by decide : 0 < 2 ^ 31)).mp h)) (fun h => kf (fun q => h ((nI_eq h1 (by decide : 0 < 2 ^ 31)).mpr q)))
theorem r_ne0 {a : Nat} {off : Int} {tgt : Nat} (hx : p.tables.exec = Jvm.exec) (hb : c.code = cc) (hdg : decode cc pc = .ok (.ifCond .ne off, 3)) (ht : (pc : Int) + off = (tgt : Int)) (h1 : a < 2 ^ 31)
    (kt : ¬ a = 0 → W p l e R s m args below meth c H locs cells slots Q (F0 m tgt ls rest)) (kf : a = 0 → W p l e R s m args below meth c H locs cells slots Q (F0 m (pc + 3) ls rest)) : W p l e R s m args below meth c H locs cells slots Q (F0 m pc ls (.int (nI a) :: rest)) :=
  lv_if_ne hx hb hdg ht (fun h => kt (fun q => h ((nI_eq h1 (by decide : 0 < 2 ^ 31)).mpr q))) (fun h => kf ((nI_eq h1 (by decide : 0 < 2 ^ 31)).mp h))
theorem r_gt0 {a : Nat} {off : Int} {tgt : Nat} (hx : p.tables.exec = Jvm.exec) (hb : c.code = cc) (hdg : decode cc pc = .ok (.ifCond .gt off, 3)) (ht : (pc : Int) + off = (tgt : Int)) (h1 : a < 2 ^ 31)
    (kt : 0 < a → W p l e R s m args below meth c H locs cells slots Q (F0 m tgt ls rest)) (kf : a = 0 → W p l e R s m args below meth c H locs cells slots Q (F0 m (pc + 3) ls rest)) : W p l e R s m args below meth c H locs cells slots Q (F0 m pc ls (.int (nI a) :: rest)) :=
  lv_if_gt hx hb hdg ht (fun h => kt ((nI_ltI (by decide : 0 < 2 ^ 31) h1).mp h)) (fun h => kf (Nat.eq_zero_of_not_pos fun q => h ((nI_ltI (by decide : 0 < 2 ^ 31) h1).mpr q)))
theorem r_le0 {a : Nat} {off : Int} {tgt : Nat} (hx : p.tables.exec = Jvm.exec) (hb : c.code = cc) (hdg : decode cc pc = .ok (.ifCond .le off, 3)) (ht : (pc : Int) + off = (tgt : Int)) (h1 : a < 2 ^ 31)
    (kt : a = 0 → W p l e R s m args below meth c H locs cells slots Q (F0 m tgt ls rest)) (kf : 0 < a → W p l e R s m args below meth c H locs cells slots Q (F0 m (pc + 3) ls rest)) : W p l e R s m args below meth c H locs cells slots Q (F0 m pc ls (.int (nI a) :: rest)) :=
  lv_if_le hx hb hdg ht (fun h => kt (Nat.le_zero.mp ((nI_leI h1 (by decide : 0 < 2 ^ 31)).mp h))) (fun h => kf (Nat.pos_of_ne_zero fun q => h ((nI_leI h1 (by decide : 0 < 2 ^ 31)).mpr (Nat.le_of_eq q))))
theorem r_lt0 {a : Nat} {off : Int} {tgt : Nat} (hx : p.tables.exec = Jvm.exec) (hb : c.code = cc) (hdg : decode cc pc = .ok (.ifCond .lt off, 3)) (ht : (pc : Int) + off = (tgt : Int)) (h1 : a < 2 ^ 31)
    (kt : False → W p l e R s m args below meth c H locs cells slots Q (F0 m tgt ls rest)) (kf : True → W p l e R s m args below meth c H locs cells slots Q (F0 m (pc + 3) ls rest)) : W p l e R s m args below meth c H locs cells slots Q (F0 m pc ls (.int (nI a) :: rest)) :=
  lv_if_lt hx hb hdg ht (fun h => kt (nI_pos h1 h)) (fun h => kf (trivial))
theorem r_ge0 {a : Nat} {off : Int} {tgt : Nat} (hx : p.tables.exec = Jvm.exec) (hb : c.code = cc) (hdg : decode cc pc = .ok (.ifCond .ge off, 3)) (ht : (pc : Int) + off = (tgt : Int)) (h1 : a < 2 ^ 31)
    (kt : True → W p l e R s m args below meth c H locs cells slots Q (F0 m tgt ls rest)) (kf : False → W p l e R s m args below meth c H locs cells slots Q (F0 m (pc + 3) ls rest)) : W p l e R s m args below meth c H locs cells slots Q (F0 m pc ls (.int (nI a) :: rest)) :=
  lv_if_ge hx hb hdg ht (fun h => kt (trivial)) (fun h => kf (h (nI_pos' h1)))
end BaseW
