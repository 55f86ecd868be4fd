/-! both ends; what each call answers and does -/
def tmF (p : Nat × Nat) (c : Nat) : Nat × Nat := (if 16 ≤ c then c - 16 else p.1, if c = 2 ∨ c = 3 ∨ c = 4 then 3 else p.2)
theorem doA_tm {cid ccd : Nat} {N : List Nat} {E : AE} {c : Nat} : (eSt (doA cid ccd N E c), eTi (doA cid ccd N E c)) = tmF (eSt E, eTi E) c := by
  by_cases h16 : 16 ≤ c
  · obtain ⟨x, rfl⟩ : ∃ x, c = 16 + x := ⟨c - 16, by omega⟩
    rw [doA_16]
    unfold tmF
    rw [if_pos h16, if_neg (by omega), Nat.add_sub_cancel_left]
  · have hs : eSt (doA cid ccd N E c) = eSt E := doA_st (by omega)
    unfold tmF
    rw [hs, if_neg h16]
    congr 1
    by_cases h2 : c = 2
    · subst h2; rfl
    by_cases h3 : c = 3
    · subst h3; show eTi (reqA E) = _; rw [reqA_eq]; rfl
    by_cases h4 : c = 4
    · subst h4; show eTi (endA E) = _; rw [endA_eq]; rfl
    rw [if_neg (by omega)]
    unfold doA
    rw [if_neg h2, if_neg h3, if_neg h4, if_neg h16]
    split
    · rfl
    split
    · exact xmit_ti _ _
    split
    · exact xmit_ti _ _
    split
    · exact xmit_ti _ _
    split
    · exact xmit_ti _ _
    split
    · rfl
    split
    · rfl
    · rfl
theorem fold_tm {cid ccd : Nat} {N : List Nat} : ∀ (cs : List Nat) (E : AE), (eSt (cs.foldl (doA cid ccd N) E), eTi (cs.foldl (doA cid ccd N) E)) = cs.foldl tmF (eSt E, eTi E) := by
  intro cs
  induction cs with
  | nil => intro E; rfl
  | cons c cs ih => intro E; rw [List.foldl_cons, List.foldl_cons, ih, doA_tm]
def tmOk (p : Nat × Nat) : Bool := decide (p.1 < 4) || decide (8 < p.1) || decide (1 ≤ p.2)
theorem tmOk_iff {p : Nat × Nat} : tmOk p = true ↔ (4 ≤ p.1 → p.1 ≤ 8 → 1 ≤ p.2) := by
  unfold tmOk
  rw [Bool.or_eq_true, Bool.or_eq_true, decide_eq_true_eq, decide_eq_true_eq, decide_eq_true_eq]
  omega
theorem tm_all : ∀ ev, ev < 18 → ∀ st, st < 10 → ∀ t, t < 4 → (tmOk (st, t) || decide (ev = 4) || decide (ev = 5)) = true → tmOk ((codes ev st).foldl tmF (st, t)) = true := by decide +kernel
theorem happenA_tm {cid ccd : Nat} {N : List Nat} {E : AE} {ev : Nat} (hev : ev < 18) (hi : InvE E) (h : TmE E ∨ ev = 4 ∨ ev = 5) : TmE (happenA cid ccd N E ev) := by
  have h1 := hi.2.2.1
  have h2 := hi.2.2.2.2.1
  have hh : (tmOk (eSt E, eTi E) || decide (ev = 4) || decide (ev = 5)) = true := by
    rw [Bool.or_eq_true, Bool.or_eq_true, decide_eq_true_eq, decide_eq_true_eq, tmOk_iff]
    rcases h with h | h | h
    · exact Or.inl (Or.inl h)
    · exact Or.inl (Or.inr h)
    · exact Or.inr h
  have k := tm_all ev hev (eSt E) (by omega) (eTi E) (by omega) hh
  rw [← fold_tm (cid := cid) (ccd := ccd) (N := N), tmOk_iff] at k
  exact k
def RM (a0 a1 a2 a3 a4 a5 a6 a7 a8 a9 a10 a11 a12 s le gt ga es dl db lp : Nat → Int32) (Z : Nat → AE) : Prop := ∀ e, e < 2 → RT a0 a1 a2 a3 a4 a5 a6 a7 a8 a9 a10 a11 a12 s le gt ga es dl db lp e (Z e) ∧ TmE (Z e)
abbrev up (Z : Nat → AE) (e : Nat) (X : AE) : Nat → AE := va_up Z e X
theorem up_eq {Z : Nat → AE} {e : Nat} {X : AE} : up Z e X e = X := if_pos rfl
theorem up_ne {Z : Nat → AE} {e o : Nat} {X : AE} (h : o ≠ e) : up Z e X o = Z o := if_neg h
theorem RM.up {a0 a1 a2 a3 a4 a5 a6 a7 a8 a9 a10 a11 a12 s le gt ga es dl db lp b0 b1 b2 b3 b4 b5 b6 b7 b8 b9 b10 b11 b12 s' le' gt' ga' es' dl' db' lp' : Nat → Int32} {Z : Nat → AE} {e : Nat} {X : AE} (h : RM a0 a1 a2 a3 a4 a5 a6 a7 a8 a9 a10 a11 a12 s le gt ga es dl db lp Z) (hX : RT b0 b1 b2 b3 b4 b5 b6 b7 b8 b9 b10 b11 b12 s' le' gt' ga' es' dl' db' lp' e X) (ht : TmE X) (hf : RTF a0 a1 a2 a3 a4 a5 a6 a7 a8 a9 a10 a11 a12 s le gt ga es dl db lp b0 b1 b2 b3 b4 b5 b6 b7 b8 b9 b10 b11 b12 s' le' gt' ga' es' dl' db' lp' e) : RM b0 b1 b2 b3 b4 b5 b6 b7 b8 b9 b10 b11 b12 s' le' gt' ga' es' dl' db' lp' (up Z e X) := by
  intro o ho
  by_cases q : o = e
  · subst q; rw [up_eq]; exact ⟨hX, ht⟩
  · rw [up_ne q]; exact ⟨hf o _ ho q (h o ho).1, (h o ho).2⟩
def okE (w : Int32) : Bool := inI w (nI 0) (nI 1)
abbrev ix (w : Int32) : Nat := w.toNatClampNeg
theorem in_of {w : Int32} {a b : Nat} (ha : a < 2147483648) (hb : b < 2147483648) (h : inI w (nI a) (nI b) = true) : a ≤ ix w ∧ ix w ≤ b ∧ w = nI (ix w) := by
  have h1 := of_decide_eq_true h
  have h0 : ¬ w < 0 := fun q => h1.1 (by
    have := nI_toInt ha
    rw [Int32.lt_iff_toInt_lt] at q ⊢
    have z : (0 : Int32).toInt = 0 := by decide
    omega)
  obtain ⟨j, hj, rfl⟩ := nI_of h0
  have e1 : ix (nI j) = j := nI_clamp hj
  rw [inI_nat hj ha hb] at h
  have h2 := of_decide_eq_true h
  rw [e1]
  exact ⟨h2.1, h2.2, rfl⟩
theorem okE_of {w : Int32} (h : okE w = true) : ix w < 2 ∧ w = nI (ix w) := by
  have := in_of (a := 0) (b := 1) (by decide) (by decide) h
  exact ⟨by omega, this.2.2⟩
def setT (Z : Nat → AE) (w a b : Int32) : Nat := if okE w = true then (if inI a (nI 64) (nI 1500) = true ∧ inI b (nI 64) (nI 1500) = true then (if eSt (Z (ix w)) = 0 ∨ eSt (Z (ix w)) = 2 then 0 else 3) else 2) else 1
def setZ (Z : Nat → AE) (w a b n : Int32) : Nat → AE := if setT Z w a b = 0 then up Z (ix w) (wNu (wLe (wSz (Z (ix w)) (ix a)) (ix b)) n) else Z
def evT (w k : Int32) : Nat := if okE w = true then (if inI k (nI 0) (nI 3) = true then 0 else 2) else 1
def evZ (Z : Nat → AE) (w k : Int32) : Nat → AE := if evT w k = 0 then up Z (ix w) (happenA 0 0 [] (Z (ix w)) (ix k)) else Z
def evR (Z : Nat → AE) (w k : Int32) : Int32 := if evT w k = 0 then nI (eSt (happenA 0 0 [] (Z (ix w)) (ix k))) else nI 0
theorem set_rt {a0 a1 a2 a3 a4 a5 a6 a7 a8 a9 a10 a11 a12 s le gt ga es dl db lp : Nat → Int32} {e x y : Nat} {n : Int32} {E : AE} (h : RT a0 a1 a2 a3 a4 a5 a6 a7 a8 a9 a10 a11 a12 s le gt ga es dl db lp e E) (hx : 64 ≤ x ∧ x ≤ 1500) (hy : 64 ≤ y ∧ y ≤ 1500) : RT (upd a0 e (nI x)) (upd a1 e n) a2 a3 a4 a5 a6 a7 a8 a9 a10 a11 a12 s (upd le e (nI y)) gt ga es dl db lp e (wNu (wLe (wSz E x) y) n) := by
  obtain ⟨h1, h2, h3, h4, h5, h6, h7⟩ := h
  obtain ⟨r1, r2, r3, r4, r5, r6, r7, r8, r9, r10, q1, q2, q3, q4, q5, q6, q7, q8, q9, q10⟩ := h1
  exact ⟨⟨upd_eq, upd_eq, r3, r4, r5, r6, r7, r8, r9, r10, hx, hy, q3, q4, q5, q6, q7, q8, q9, q10⟩, h2, upd_eq, h4, h5, h6, h7⟩
theorem set_rtf {a0 a1 a2 a3 a4 a5 a6 a7 a8 a9 a10 a11 a12 s le gt ga es dl db lp : Nat → Int32} {e : Nat} {x y n : Int32} : RTF a0 a1 a2 a3 a4 a5 a6 a7 a8 a9 a10 a11 a12 s le gt ga es dl db lp (upd a0 e x) (upd a1 e n) a2 a3 a4 a5 a6 a7 a8 a9 a10 a11 a12 s (upd le e y) gt ga es dl db lp e := by
  intro o E ho hne h
  obtain ⟨h1, h2, h3, h4, h5, h6, h7⟩ := h
  obtain ⟨r1, r2, r3⟩ := h1
  exact ⟨⟨by rw [upd_ne hne]; exact r1, by rw [upd_ne hne]; exact r2, r3⟩, h2, by rw [upd_ne hne]; exact h3, h4, h5, h6, h7⟩
