/-! the reference's actions, over an end -/
theorem xmit_inv {E : AE} {P : List Nat} (h : InvE E) (hP : Bt P) : InvE (xmit E P) := by
  unfold xmit
  by_cases q : (eB E).length + (frameL P).length ≤ 300
  · rw [if_pos q]
    obtain ⟨h1, h2, h3, h4, h5, h6, ⟨h7, h7b⟩, h8, h9, h10⟩ := h
    exact ⟨h1, h2, h3, h4, h5, h6, ⟨by show (eB E ++ frameL P).length ≤ 300; rw [List.length_append]; exact q, h7b.app (frameL_bt hP)⟩, h8, h9, h10⟩
  · rw [if_neg q]
    exact h
theorem nextI_inv {E : AE} (h : InvE E) : InvE (nextI E) := by
  obtain ⟨h1, h2, h3, h4, h5, h6, h7, h8, h9, h10⟩ := h
  exact ⟨h1, h2, h3, Nat.mod_lt _ (by decide), h5, h6, h7, h8, h9, h10⟩
theorem spend_inv {E : AE} (h : InvE E) : InvE (spend E) := by
  obtain ⟨h1, h2, h3, h4, h5, h6, h7, h8, h9, h10⟩ := h
  exact ⟨h1, h2, h3, h4, Nat.le_refl 3, trivial, h7, h8, h9, h10⟩
theorem optS_len (E : AE) : (optS E).length ≤ 3 := by unfold optS; split <;> simp
theorem optN_len (E : AE) : (optN E).length ≤ 5 := by unfold optN; split <;> simp [nbs]
theorem optS_bt {E : AE} (h : InvE E) : Bt (optS E) := by
  have h1 := h.1.2
  unfold optS
  split
  · intro x hx
    simp only [List.mem_cons, List.not_mem_nil, or_false] at hx
    rcases hx with rfl | rfl | rfl
    · decide
    · omega
    · omega
  · exact Bt.nil
theorem optN_bt (E : AE) : Bt (optN E) := by
  unfold optN
  split
  · intro x hx
    rcases List.mem_cons.mp hx with rfl | hx
    · decide
    · exact nbs_bt _ x hx
  · exact Bt.nil
theorem reqP_len (E : AE) : 3 ≤ (reqP E).length ∧ (reqP E).length ≤ 11 := by
  have h1 := optS_len E
  have h2 := optN_len E
  simp only [reqP, List.length_append, List.length_cons, List.length_nil]
  omega
theorem reqP_bt {E : AE} (h : InvE E) : Bt (reqP E) := by
  refine Bt.app (Bt.app ?_ (optS_bt h)) (optN_bt E)
  intro x hx
  have h4 := h.2.2.2.1
  simp only [List.mem_cons, List.not_mem_nil, or_false] at hx
  rcases hx with rfl | rfl | rfl
  · decide
  · decide
  · exact h4
theorem aq_inv {E : AE} {P : List Nat} (h : InvE E) (hP : Bt P) (h3 : 3 ≤ P.length) (h11 : P.length ≤ 11) : InvE (wAq E (sealL P)) := by
  obtain ⟨h1, h2, h3', h4, h5, h6, h7, h8, h9, h10⟩ := h
  have e := sealL_len P
  exact ⟨h1, h2, h3', h4, h5, h6, h7, ⟨sealL_bt hP, Or.inr (by show 5 ≤ (sealL P).length ∧ (sealL P).length ≤ 13; omega)⟩, h9, h10⟩
theorem reqA_inv {E : AE} (h : InvE E) : InvE (reqA E) := by
  have h1 := nextI_inv h
  have h2 := reqP_bt h1
  have h3 := reqP_len (nextI E)
  exact spend_inv (xmit_inv (aq_inv h1 h2 h3.1 h3.2) h2)
theorem bt3 {a b c : Nat} (ha : a < 256) (hb : b < 256) (hc : c < 256) : Bt [a, b, c] := by
  intro x hx
  simp only [List.mem_cons, List.not_mem_nil, or_false] at hx
  rcases hx with rfl | rfl | rfl <;> assumption
theorem endA_inv {E : AE} (h : InvE E) : InvE (endA E) := spend_inv (xmit_inv (nextI_inv h) (bt3 (by decide) (by decide) (nextI_inv h).2.2.2.1))
def AkO (fAk fAl fAo a2 l2 o2 : Nat → Int32) (e : Nat) : Prop := ∀ (o : Nat) (Q : List Nat), o < 2 → o ≠ e → Q.length ≤ 13 → AkM fAk fAl fAo o Q → AkM a2 l2 o2 o Q
/-- the other end stays -/
def RAO (fSz fNu fAS fAN fId fCn fTi fAk fAl fAo fOl fBy fCt d2 c2 t2 a2 l2 o2 n2 y2 k2 : Nat → Int32) (e : Nat) : Prop := ∀ (o : Nat) (E : AE), o < 2 → o ≠ e → RA fSz fNu fAS fAN fId fCn fTi fAk fAl fAo fOl fBy fCt o E → RA fSz fNu fAS fAN d2 c2 t2 a2 l2 o2 n2 y2 k2 o E
theorem RAO.of {fSz fNu fAS fAN fId fCn fTi fAk fAl fAo fOl fBy fCt d2 c2 t2 a2 l2 o2 n2 y2 k2 : Nat → Int32} {e : Nat} (hs : ∀ o, o ≠ e → d2 o = fId o ∧ c2 o = fCn o ∧ t2 o = fTi o) (hA : AkO fAk fAl fAo a2 l2 o2 e) (hL : LnO fBy fOl y2 n2 e) (hC : CtO fCt k2 e) : RAO fSz fNu fAS fAN fId fCn fTi fAk fAl fAo fOl fBy fCt d2 c2 t2 a2 l2 o2 n2 y2 k2 e := by
  intro o E ho hne h
  obtain ⟨h1, h2, h3, h4, h5, h6, h7, h8, h9, h10, h11⟩ := h
  obtain ⟨s1, s2, s3⟩ := hs o hne
  refine ⟨h1, h2, h3, h4, s1.trans h5, s2.trans h6, s3.trans h7, hA o _ ho hne ?_ h8, hL o _ ho hne h9, hC o _ ho hne h10, h11⟩
  rcases h11.2.2.2.2.2.2.2.1.2 with q | q
  · rw [q]; decide
  · exact q.2
theorem AkO.refl {a b c : Nat → Int32} {e : Nat} : AkO a b c a b c e := fun _ _ _ _ _ h => h
theorem RAO.trans {fSz fNu fAS fAN a1 a2 a3 a4 a5 a6 a7 a8 a9 b1 b2 b3 b4 b5 b6 b7 b8 b9 c1 c2 c3 c4 c5 c6 c7 c8 c9 : Nat → Int32} {e : Nat} (h : RAO fSz fNu fAS fAN a1 a2 a3 a4 a5 a6 a7 a8 a9 b1 b2 b3 b4 b5 b6 b7 b8 b9 e) (k : RAO fSz fNu fAS fAN b1 b2 b3 b4 b5 b6 b7 b8 b9 c1 c2 c3 c4 c5 c6 c7 c8 c9 e) : RAO fSz fNu fAS fAN a1 a2 a3 a4 a5 a6 a7 a8 a9 c1 c2 c3 c4 c5 c6 c7 c8 c9 e := fun o E ho hne q => k o E ho hne (h o E ho hne q)
theorem reqA_eq (E : AE) : reqA E = wTi (wTr (wB (wCf (wAq (nextI E) (sealL (reqP (nextI E)))) (shC (eB E) (eCf E) (reqP (nextI E)))) (shB (eB E) (reqP (nextI E)))) (eTr E - nI 1)) 3 := by
  unfold reqA spend
  rw [xmit_eq]
  rfl
theorem endA_eq (E : AE) : endA E = wTi (wTr (wB (wCf (nextI E) (shC (eB E) (eCf E) [1, 5, eId (nextI E)])) (shB (eB E) [1, 5, eId (nextI E)])) (eTr E - nI 1)) 3 := by
  unfold endA spend
  rw [xmit_eq]
  rfl
/-- the asked options behind a copy -/
theorem AkM.of {a2 l2 o2 : Nat → Int32} {e : Nat} {P : List Nat} (h3 : 3 ≤ P.length) (h1 : a2 e = nI (P.getD 2 0)) (h2 : l2 e = nI (P.length - 3)) (ho : ∀ i, i < P.length - 3 → o2 (8 * e + i) = nI (P.getD (3 + i) 0)) : AkM a2 l2 o2 e (sealL P) := by
  have hl := sealL_len P
  have hg : ∀ i, i < P.length → (sealL P).getD i 0 = P.getD i 0 := by
    intro i hi
    simp [sealL, List.getElem?_append_left (show i < P.length from hi)]
  refine ⟨fun q => ?_, fun _ => ⟨by rw [hg 2 (by omega)]; exact h1, by rw [h2, hl]; congr 1, fun i hi => ?_⟩⟩
  · rw [q] at hl; simp at hl
  · rw [hg _ (by omega)]; exact ho i (by omega)
theorem AkO.of {fAk fAl fAo f3 : Nat → Int32} {e : Nat} {x y : Int32} (he : e < 2) (h : ∀ q, (q < 8 * e ∨ 8 * e + 8 ≤ q) → f3 q = fAo q) : AkO fAk fAl fAo (upd fAk e x) (upd fAl e y) f3 e := by
  intro o Q ho hne hQ k
  refine ⟨fun q => by rw [upd_ne hne]; exact k.1 q, fun q => ?_⟩
  obtain ⟨k1, k2, k3⟩ := k.2 q
  refine ⟨by rw [upd_ne hne]; exact k1, by rw [upd_ne hne]; exact k2, fun i hi => ?_⟩
  rw [h _ (by omega)]
  exact k3 i hi
def nibF : Nat → Nat → List Nat
  | 0, _ => []
  | f + 1, n => if n = 0 then [] else n % 16 :: nibF f (n / 16)
theorem rul_all : ∀ ev, ev < 16 → ∀ st, st < 10 → (rulT.getD (10 * ev + st) 0 < 0 ∧ codes ev st = []) ∨ ((rulT.getD (10 * ev + st) 0).toNatClampNeg < 65536 ∧ rulT.getD (10 * ev + st) 0 = nI (rulT.getD (10 * ev + st) 0).toNatClampNeg ∧ (rulT.getD (10 * ev + st) 0).toNatClampNeg % 16 ≤ 9 ∧ codes ev st = nibF 4 ((rulT.getD (10 * ev + st) 0).toNatClampNeg / 16) ++ [16 + (rulT.getD (10 * ev + st) 0).toNatClampNeg % 16] ∧ ∀ c ∈ nibF 4 ((rulT.getD (10 * ev + st) 0).toNatClampNeg / 16), 1 ≤ c ∧ c ≤ 10) := by decide +kernel
theorem nibF_cons {f n : Nat} (h : 0 < n) : nibF (f + 1) n = n % 16 :: nibF f (n / 16) := by rw [nibF, if_neg (by omega)]
theorem nibF_nil {f n : Nat} (h : n = 0) : nibF f n = [] := by
  cases f with
  | zero => rfl
  | succ f => rw [nibF, if_pos h]
theorem doA_inv {cid ccd : Nat} {N : List Nat} {E : AE} {k : Nat} (h : InvE E) (hN : Bt N) (h1 : cid < 256) (h2 : ccd < 256) (hk : k ≤ 10) : InvE (doA cid ccd N E k) := by
  have i0 := h
  obtain ⟨q1, q2, q3, q4, q5, q6, q7, q8, q9, q10⟩ := id h
  unfold doA
  split
  · exact h
  split
  · exact ⟨q1, q2, q3, q4, Nat.le_refl 3, trivial, q7, q8, q9, q10⟩
  split
  · exact reqA_inv h
  split
  · exact endA_inv h
  split
  · exact xmit_inv h hN
  split
  · exact xmit_inv h (bt3 (by decide) (by decide) h1)
  split
  · refine xmit_inv (nextI_inv h) ?_
    have q := (nextI_inv h).2.2.2.1
    intro x hx
    simp only [List.mem_cons, List.not_mem_nil, or_false] at hx
    rcases hx with rfl | rfl | rfl | rfl
    · decide
    · decide
    · exact q
    · exact h2
  split
  · exact xmit_inv h ((bt3 (by decide) (by decide) h1).app (nbs_bt _))
  split
  · exact h
  split
  · omega
  split
  · omega
  · exact h
theorem RA.inv {fSz fNu fAS fAN fId fCn fTi fAk fAl fAo fOl fBy fCt : Nat → Int32} {e : Nat} {E : AE} (h : RA fSz fNu fAS fAN fId fCn fTi fAk fAl fAo fOl fBy fCt e E) : InvE E := h.2.2.2.2.2.2.2.2.2.2
theorem ak1 {f3 : Nat → Int32} {P : List Nat} {e i : Nat} (h : ∀ j, j < i - 3 → f3 (8 * e + j) = nI (P.getD (3 + j) 0)) (hi : 3 ≤ i) : ∀ j, j < i + 1 - 3 → upd f3 (8 * e + i - 3) (nI (P.getD i 0)) (8 * e + j) = nI (P.getD (3 + j) 0) := by
  intro j hj
  by_cases e9 : j = i - 3
  · rw [show 8 * e + j = 8 * e + i - 3 by omega, upd_eq, show 3 + j = i by omega]
  · rw [upd_ne (by omega)]
    exact h j (by omega)
theorem reqA_ra {fSz fNu fAS fAN fId fCn fTi fAk fAl fAo fOl fBy fCt f3 y2 n2 k2 : Nat → Int32} {e : Nat} {E : AE} {P : List Nat} (h : RA fSz fNu fAS fAN fId fCn fTi fAk fAl fAo fOl fBy fCt e E) (he : e < 2) (hP : P = reqP (nextI E)) (h3 : 3 ≤ P.length) (hP2 : P.getD 2 0 = (eId E + 1) % 256) (ho1 : ∀ j, j < P.length - 3 → f3 (8 * e + j) = nI (P.getD (3 + j) 0)) (ho2 : ∀ q, (q < 8 * e ∨ 8 * e + 8 ≤ q) → f3 q = fAo q)
    (hs : LnM y2 n2 e (shB (eB E) P) ∧ LnO fBy fOl y2 n2 e ∧ CtM k2 e (shC (eB E) (eCf E) P) ∧ CtO fCt k2 e) :
    RA fSz fNu fAS fAN (upd fId e (nI ((eId E + 1) % 256))) (upd fCn e (eTr E - nI 1)) (upd fTi e (nI 3)) (upd fAk e (nI ((eId E + 1) % 256))) (upd fAl e (nI (P.length - 3))) f3 n2 y2 k2 e (reqA E) ∧ RAO fSz fNu fAS fAN fId fCn fTi fAk fAl fAo fOl fBy fCt (upd fId e (nI ((eId E + 1) % 256))) (upd fCn e (eTr E - nI 1)) (upd fTi e (nI 3)) (upd fAk e (nI ((eId E + 1) % 256))) (upd fAl e (nI (P.length - 3))) f3 n2 y2 k2 e := by
  have hi := reqA_inv h.inv
  obtain ⟨h1, h2, h3', h4, h5, h6, h7, h8, h9, h10, h11⟩ := h
  obtain ⟨s1, s2, s3, s4⟩ := hs
  refine ⟨?_, RAO.of (fun o ho => ⟨upd_ne ho, upd_ne ho, upd_ne ho⟩) (AkO.of he ho2) s2 s4⟩
  rw [reqA_eq] at hi ⊢
  subst hP
  exact ⟨h1, h2, h3', h4, upd_eq, upd_eq, upd_eq, AkM.of h3 (by rw [upd_eq, hP2]) upd_eq ho1, s1, s3, hi⟩
theorem spend_xmit (E : AE) (P : List Nat) : spend (xmit E P) = xmit (spend E) P := by
  rw [xmit_eq, xmit_eq]
  rfl
section RAs
variable {fSz fNu fAS fAN fId fCn fTi fAk fAl fAo fOl fBy fCt y2 n2 k2 : Nat → Int32} {e : Nat} {E : AE} {P : List Nat}
theorem sh_ra (h : RA fSz fNu fAS fAN fId fCn fTi fAk fAl fAo fOl fBy fCt e E) (hP : Bt P) {fO fY fC : Nat → Int32} (hs : LnM y2 n2 e (shB (eB E) P) ∧ LnO fY fO y2 n2 e ∧ CtM k2 e (shC (eB E) (eCf E) P) ∧ CtO fC k2 e) : RA fSz fNu fAS fAN fId fCn fTi fAk fAl fAo n2 y2 k2 e (xmit E P) := by
  have hi := xmit_inv h.inv hP
  obtain ⟨h1, h2, h3, h4, h5, h6, h7, h8, h9, h10, h11⟩ := h
  rw [xmit_eq] at hi ⊢
  exact ⟨h1, h2, h3, h4, h5, h6, h7, h8, hs.1, hs.2.2.1, hi⟩
theorem RA.tr {x : Int32} (h : RA fSz fNu fAS fAN fId fCn fTi fAk fAl fAo fOl fBy fCt e E) : RA fSz fNu fAS fAN fId (upd fCn e x) fTi fAk fAl fAo fOl fBy fCt e (wTr E x) := by
  obtain ⟨h1, h2, h3, h4, h5, h6, h7, h8, h9, h10, h11⟩ := h
  exact ⟨h1, h2, h3, h4, h5, upd_eq, h7, h8, h9, h10, h11⟩
theorem RA.trti {x : Int32} (h : RA fSz fNu fAS fAN fId fCn fTi fAk fAl fAo fOl fBy fCt e E) : RA fSz fNu fAS fAN fId (upd fCn e x) (upd fTi e (nI 3)) fAk fAl fAo fOl fBy fCt e (wTi (wTr E x) 3) := by
  obtain ⟨h1, h2, h3, h4, h5, h6, h7, h8, h9, h10, h11⟩ := h
  obtain ⟨q1, q2, q3, q4, q5, q6, q7, q8, q9, q10⟩ := h11
  exact ⟨h1, h2, h3, h4, h5, upd_eq, upd_eq, h8, h9, h10, q1, q2, q3, q4, Nat.le_refl 3, trivial, q7, q8, q9, q10⟩
theorem RA.nid (h : RA fSz fNu fAS fAN fId fCn fTi fAk fAl fAo fOl fBy fCt e E) : RA fSz fNu fAS fAN (upd fId e (nI ((eId E + 1) % 256))) fCn fTi fAk fAl fAo fOl fBy fCt e (nextI E) := by
  obtain ⟨h1, h2, h3, h4, h5, h6, h7, h8, h9, h10, h11⟩ := h
  exact ⟨h1, h2, h3, h4, upd_eq, h6, h7, h8, h9, h10, nextI_inv h11⟩
theorem RA.spid (h : RA fSz fNu fAS fAN fId fCn fTi fAk fAl fAo fOl fBy fCt e E) : RA fSz fNu fAS fAN (upd fId e (nI ((eId E + 1) % 256))) (upd fCn e (eTr E - nI 1)) (upd fTi e (nI 3)) fAk fAl fAo fOl fBy fCt e (spend (nextI E)) := by
  obtain ⟨h1, h2, h3, h4, h5, h6, h7, h8, h9, h10, h11⟩ := h
  exact ⟨h1, h2, h3, h4, upd_eq, upd_eq, upd_eq, h8, h9, h10, spend_inv (nextI_inv h11)⟩
theorem RA.tal {k : Nat} (h : RA fSz fNu fAS fAN fId fCn fTi fAk fAl fAo fOl fBy fCt e E) (hk : k < 6) : RA fSz fNu fAS fAN fId fCn fTi fAk fAl fAo fOl fBy (upd fCt (6 * e + k) (fCt (6 * e + k) + nI 1)) e (tal E k) := by
  obtain ⟨h1, h2, h3, h4, h5, h6, h7, h8, h9, h10, h11⟩ := h
  exact ⟨h1, h2, h3, h4, h5, h6, h7, h8, h9, h10.tally hk, h11⟩
end RAs
theorem doA_16 {cid ccd : Nat} {N : List Nat} {E : AE} {x : Nat} : doA cid ccd N E (16 + x) = wSt E x := by
  unfold doA
  rw [if_neg (by omega), if_neg (by omega), if_neg (by omega), if_neg (by omega), if_neg (by omega), if_neg (by omega), if_neg (by omega), if_neg (by omega), if_neg (by omega), if_neg (by omega), if_pos (by omega), Nat.add_sub_cancel_left]
theorem xmit_st (E : AE) (P : List Nat) : eSt (xmit E P) = eSt E := by rw [xmit_eq]
theorem xmit_ti (E : AE) (P : List Nat) : eTi (xmit E P) = eTi E := by rw [xmit_eq]
theorem doA_st {cid ccd : Nat} {N : List Nat} {E : AE} {c : Nat} (h : c < 16) : eSt (doA cid ccd N E c) = eSt E := by
  unfold doA
  split
  · rfl
  split
  · rfl
  split
  · rw [reqA_eq]
    rfl
  split
  · rw [endA_eq]
    rfl
  split
  · exact xmit_st _ _
  split
  · exact xmit_st _ _
  split
  · exact xmit_st _ _
  split
  · exact xmit_st _ _
  split
  · rfl
  split
  · rfl
  split
  · omega
  · rfl
theorem st_inv {E : AE} {x : Nat} (h : InvE E) (hx : x ≤ 9) : InvE (wSt E x) := by
  obtain ⟨q1, q2, q3, q4, q5, q6, q7, q8, q9, q10⟩ := h
  exact ⟨q1, q2, hx, q4, q5, q6, q7, q8, q9, q10⟩
theorem RA.st {fSz fNu fAS fAN fId fCn fTi fAk fAl fAo fOl fBy fCt : Nat → Int32} {e : Nat} {E : AE} {x : Nat} (h : RA fSz fNu fAS fAN fId fCn fTi fAk fAl fAo fOl fBy fCt e E) (hx : x ≤ 9) : RA fSz fNu fAS fAN fId fCn fTi fAk fAl fAo fOl fBy fCt e (wSt E x) := by
  obtain ⟨h1, h2, h3, h4, h5, h6, h7, h8, h9, h10, h11⟩ := h
  exact ⟨h1, h2, h3, h4, h5, h6, h7, h8, h9, h10, st_inv h11 hx⟩
