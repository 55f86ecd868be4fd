/-! the reference at a mark: words -/
def kSame (E E' : AE) : Prop := eLe E' = eLe E ∧ eKl E' = eKl E ∧ eLp E' = eLp E ∧ eG E' = eG E ∧ eEs E' = eEs E ∧ eOv E' = eOv E
theorem kSame.refl {E : AE} : kSame E E := ⟨rfl, rfl, rfl, rfl, rfl, rfl⟩
theorem kSame.trans {E F G : AE} (h : kSame E F) (k : kSame F G) : kSame E G := ⟨k.1.trans h.1, k.2.1.trans h.2.1, k.2.2.1.trans h.2.2.1, k.2.2.2.1.trans h.2.2.2.1, k.2.2.2.2.1.trans h.2.2.2.2.1, k.2.2.2.2.2.trans h.2.2.2.2.2⟩
theorem xmit_k (E : AE) (P : List Nat) : kSame E (xmit E P) := by rw [xmit_eq]; exact kSame.refl
theorem doA_k {cid ccd : Nat} {N : List Nat} {E : AE} {c : Nat} (h : c ≠ 11) : kSame E (doA cid ccd N E c) := by
  unfold doA
  split
  · exact kSame.refl
  split
  · exact kSame.refl
  split
  · rw [reqA_eq]; exact kSame.refl
  split
  · rw [endA_eq]; exact kSame.refl
  split
  · exact xmit_k _ _
  split
  · exact xmit_k _ _
  split
  · exact (show kSame E (nextI E) from kSame.refl).trans (xmit_k _ _)
  split
  · exact xmit_k _ _
  split
  · exact kSame.refl
  split
  · exact kSame.refl
  · exact kSame.refl
theorem fold_k {cid ccd : Nat} {N : List Nat} : ∀ (cs : List Nat) (E : AE), 11 ∉ cs → kSame E (cs.foldl (doA cid ccd N) E) := by
  intro cs
  induction cs with
  | nil => intro E _; exact kSame.refl
  | cons c cs ih =>
    intro E h
    exact (doA_k (fun q => h (by rw [q]; exact List.mem_cons_self))).trans (ih _ (fun q => h (List.mem_cons_of_mem _ q)))
theorem codes_11 : ∀ ev, ev < 17 → ∀ st, st < 10 → 11 ∉ codes ev st := by decide +kernel
theorem happenA_k {cid ccd : Nat} {N : List Nat} {E : AE} {ev : Nat} (hev : ev < 17) (hst : eSt E ≤ 9) : kSame E (happenA cid ccd N E ev) := fold_k _ _ (codes_11 ev hev _ (by omega))
theorem chO_k {G : List Nat} {E : AE} {k : Nat} : kSame E (chO G E k) := by
  unfold chO
  split
  · split
    · exact kSame.refl
    · split <;> exact kSame.refl
  · split
    · split <;> exact kSame.refl
    · split <;> exact kSame.refl
theorem chF_k {G : List Nat} {E : AE} : kSame E (chF G E) := by
  obtain ⟨k', -, q⟩ := foldO_ind (f := chO G) (L := G) (to := toL G) (P := fun _ (E' : AE) => kSame E E') (fun k E' _ hE => hE.trans chO_k) (toL G) 3 E (by omega) kSame.refl
  exact q
theorem ctlA_k {E : AE} (h : InvE E) : kSame E (ctlA E) := by
  have hs : eSt E ≤ 9 := h.2.2.1
  have hc : eSt (chF (eG E) (tal E 0)) ≤ 9 := (chF_ok (G := eG E) (show InvE (tal E 0) from h)).1.2.2.1
  unfold ctlA
  split
  · exact kSame.refl
  split
  · refine kSame.trans (F := wCf (tal E 0) (suspF (eG E) (eNu E) (eCf (tal E 0)))) kSame.refl (happenA_k ?_ hs)
    split <;> decide
  split
  · exact kSame.trans (F := tal E 0) kSame.refl (happenA_k (by decide) hs)
  split
  · exact kSame.trans (F := tal E 0) kSame.refl (chF_k.trans (happenA_k (by decide) hc))
  split
  · exact kSame.trans (F := tal E 0) kSame.refl (happenA_k (by decide) hs)
  split
  · exact kSame.trans (F := tal E 0) kSame.refl (happenA_k (by decide) hs)
  split
  · refine kSame.trans (F := tal E 0) kSame.refl (happenA_k ?_ hs)
    split <;> decide
  split
  · split
    · exact kSame.trans (F := tal (tal E 0) 3) kSame.refl (happenA_k (by decide) hs)
    · exact kSame.trans (F := tal E 0) kSame.refl (happenA_k (by decide) hs)
  split
  · exact kSame.refl
  · exact kSame.trans (F := tal E 0) kSame.refl (happenA_k (by decide) hs)
section FR
variable {E : AE}
theorem fr_0 (h : eG E = [] ∧ eEs E = false) : frameA E = E := if_pos h
theorem fr_b (h : ¬ (eG E = [] ∧ eEs E = false)) (k : holdsP (eG E, eEs E, eOv E) = false) : frameA E = clr (tal E 1) := by unfold frameA; rw [if_neg h, k, if_neg (by simp), if_neg (by simp)]
theorem fr_d (h : ¬ (eG E = [] ∧ eEs E = false)) (k : holdsP (eG E, eEs E, eOv E) = true) (h2 : (eG E).getD 0 0 = 2) : frameA E = clr (dataA E) := by unfold frameA; rw [if_neg h, if_pos ⟨k, h2⟩]
theorem fr_s (h : ¬ (eG E = [] ∧ eEs E = false)) (k : holdsP (eG E, eEs E, eOv E) = true) (h1 : (eG E).getD 0 0 = 1) (hw : wfL (eG E) = true) (hs : eSt E < 2) : frameA E = clr (tal E 0) := by unfold frameA; rw [if_neg h, if_neg (by omega), if_pos ⟨k, h1, hw⟩, if_pos hs]
theorem fr_c (h : ¬ (eG E = [] ∧ eEs E = false)) (k : holdsP (eG E, eEs E, eOv E) = true) (h1 : (eG E).getD 0 0 = 1) (hw : wfL (eG E) = true) (hs : ¬ eSt E < 2) : frameA E = clr (ctlA E) := by unfold frameA; rw [if_neg h, if_neg (by omega), if_pos ⟨k, h1, hw⟩, if_neg hs]
theorem fr_w (h : ¬ (eG E = [] ∧ eEs E = false)) (h2 : ¬ (eG E).getD 0 0 = 2) (h1 : ¬ ((eG E).getD 0 0 = 1 ∧ wfL (eG E) = true)) : frameA E = clr (tal E 1) := by
  unfold frameA
  rw [if_neg h, if_neg (fun q => h2 q.2), if_neg (fun q => h1 q.2)]
end FR
theorem clr_inv {E : AE} (h : InvE E) : InvE (clr E) := by
  obtain ⟨q1, q2, q3, q4, q5, q6, q7, q8, q9, q10⟩ := h
  exact ⟨q1, q2, q3, q4, q5, q6, q7, q8, ⟨Nat.zero_le _, Bt.nil, fun q => by cases q⟩, q10⟩
def RT (a0 a1 a2 a3 a4 a5 a6 a7 a8 a9 a10 a11 a12 s le gt ga es dl db lp : Nat → Int32) (e : Nat) (E : AE) : Prop :=
  RA a0 a1 a2 a3 a4 a5 a6 a7 a8 a9 a10 a11 a12 e E ∧ s e = nI (eSt E) ∧ le e = nI (eLe E) ∧ GtM gt ga e (eG E) (eOv E) ∧ es e = nI (eEs E).toNat ∧ DtM dl db e (eKl E) ∧ lp e = nI (eLp E).toNat
def RTF (a0 a1 a2 a3 a4 a5 a6 a7 a8 a9 a10 a11 a12 s le gt ga es dl db lp b0 b1 b2 b3 b4 b5 b6 b7 b8 b9 b10 b11 b12 s' le' gt' ga' es' dl' db' lp' : Nat → Int32) (e : Nat) : Prop := ∀ (o : Nat) (E : AE), o < 2 → o ≠ e → RT a0 a1 a2 a3 a4 a5 a6 a7 a8 a9 a10 a11 a12 s le gt ga es dl db lp o E → RT b0 b1 b2 b3 b4 b5 b6 b7 b8 b9 b10 b11 b12 s' le' gt' ga' es' dl' db' lp' o E
section RTs
variable {a0 a1 a2 a3 a4 a5 a6 a7 a8 a9 a10 a11 a12 s le gt ga es dl db lp b0 b1 b2 b3 b4 b5 b6 b7 b8 b9 b10 b11 b12 s' gt' ga' es' dl' db' : Nat → Int32} {e : Nat} {E X : AE}
theorem RTF.of (hA : RAF a0 a1 a2 a3 a4 a5 a6 a7 a8 a9 a10 a11 a12 b0 b1 b2 b3 b4 b5 b6 b7 b8 b9 b10 b11 b12 e) (hs : ∀ o, o ≠ e → s' o = s o) (hg : ∀ o, o ≠ e → gt' o = gt o) (he : ∀ o, o ≠ e → es' o = es o) (hd : DtO dl db dl' db' e) : RTF a0 a1 a2 a3 a4 a5 a6 a7 a8 a9 a10 a11 a12 s le gt ga es dl db lp b0 b1 b2 b3 b4 b5 b6 b7 b8 b9 b10 b11 b12 s' le gt' ga es' dl' db' lp e := by
  intro o E ho hne h
  obtain ⟨h1, h2, h3, h4, h5, h6, h7⟩ := h
  exact ⟨hA o E ho hne h1, (hs o hne).trans h2, h3, ⟨(hg o hne).trans h4.1, h4.2⟩, (he o hne).trans h5, hd o _ ho hne h1.inv.2.2.2.2.2.2.2.2.2.2.1 h6, h7⟩
theorem rt_clr (hX : frameA E = clr X) (hk : kSame E X ∨ (eLe X = eLe E ∧ eLp X = eLp E)) (h : RA b0 b1 b2 b3 b4 b5 b6 b7 b8 b9 b10 b11 b12 e X) (hs : s' e = nI (eSt X)) (hle : le e = nI (eLe E)) (hlp : lp e = nI (eLp E).toNat) (hd : DtM dl' db' e (eKl X)) : RT b0 b1 b2 b3 b4 b5 b6 b7 b8 b9 b10 b11 b12 s' le (upd gt e (nI 0)) ga (upd es e (nI 0)) dl' db' lp e (frameA E) := by
  have hk2 : eLe X = eLe E ∧ eLp X = eLp E := hk.elim (fun q => ⟨q.1, q.2.2.1⟩) id
  rw [hX]
  have hi := clr_inv h.inv
  obtain ⟨h1, h2, h3, h4, h5, h6, h7, h8, h9, h10, h11⟩ := h
  refine ⟨⟨h1, h2, h3, h4, h5, h6, h7, h8, h9, h10, hi⟩, hs, by rw [hle, ← hk2.1]; rfl, ⟨upd_eq, ⟨Nat.zero_le _, fun i hi => absurd hi (Nat.not_lt_zero _)⟩⟩, upd_eq, hd, by rw [hlp, ← hk2.2]; rfl⟩
end RTs
theorem holds_no {z : GS} (h : z.2.1 = true ∨ z.2.2 = true ∨ isSeal z.1 = false) : holdsP z = false := by
  unfold holdsP
  rcases h with h | h | h <;> rw [h] <;> simp
theorem holds_yes {z : GS} (h1 : z.2.1 = false) (h2 : z.2.2 = false) (h3 : isSeal z.1 = true) : holdsP z = true := by
  unfold holdsP
  rw [h1, h2, h3]
  rfl
theorem seal_split {G : List Nat} (hB : Bt G) : crc (G.take (G.length - 2)) = G.getD (G.length - 2) 0 + G.getD (G.length - 1) 0 * 256 ↔ (G.getD (G.length - 2) 0 = crc (G.take (G.length - 2)) % 256 ∧ G.getD (G.length - 1) 0 = crc (G.take (G.length - 2)) / 256) := by
  have h1 := hB.get (G.length - 2)
  omega
theorem n_zero {G : List Nat} {ov : Bool} (h : ov = true → G.length = 40) (q : G = []) : G.length + ov.toNat = 0 := by
  subst q
  cases ov with
  | false => rfl
  | true => exact absurd (h rfl) (by decide)
theorem n_zero' {G : List Nat} {ov : Bool} (h : G.length + ov.toNat = 0) : G = [] ∧ ov = false := by
  refine ⟨List.length_eq_zero_iff.mp (by omega), ?_⟩
  exact bz (by omega)
theorem n_ov {G : List Nat} {ov : Bool} (h : ov = true → G.length = 40) (q : G.length + ov.toNat ≤ 40) : ov = false := by
  cases ov with
  | false => rfl
  | true =>
    have := h rfl
    have e : (true).toNat = 1 := rfl
    omega
theorem n_bad {G : List Nat} {es ov : Bool} (h : ov = true → G.length = 40) (hl : G.length ≤ 40) (q : ¬ (5 ≤ G.length + ov.toNat ∧ G.length + ov.toNat ≤ 40)) : holdsP (G, es, ov) = false := by
  cases ov with
  | true => exact holds_no (Or.inr (Or.inl rfl))
  | false =>
    have e : (false).toNat = 0 := rfl
    exact holds_no (Or.inr (Or.inr (isSeal_a (by show G.length < 5; omega))))
theorem RA.data {a0 a1 a2 a3 a4 a5 a6 a7 a8 a9 a10 a11 a12 b12 : Nat → Int32} {e : Nat} {E : AE} (h : RA a0 a1 a2 a3 a4 a5 a6 a7 a8 a9 a10 a11 a12 e E) (hc : CtM b12 e (eCf (dataA E))) (h5 : 5 ≤ (eG E).length) : RA a0 a1 a2 a3 a4 a5 a6 a7 a8 a9 a10 a11 b12 e (dataA E) := by
  obtain ⟨h1, h2, h3, h4, h5', h6, h7, h8, h9, h10, h11⟩ := h
  unfold dataA at hc ⊢
  by_cases q : eSt E = 9
  · rw [if_pos q] at hc ⊢
    obtain ⟨q1, q2, q3, q4, q5, q6, q7, q8, q9, q10⟩ := h11
    exact ⟨h1, h2, h3, h4, h5', h6, h7, h8, h9, hc, q1, q2, q3, q4, q5, q6, q7, q8, q9, ⟨q9.2.1, q9.1, Or.inr h5⟩⟩
  · rw [if_neg q] at hc ⊢
    exact ⟨h1, h2, h3, h4, h5', h6, h7, h8, h9, hc, h11⟩
theorem data_st {E : AE} : eSt (dataA E) = eSt E := by unfold dataA; split <;> rfl
theorem data_le {E : AE} : eLe (dataA E) = eLe E ∧ eLp (dataA E) = eLp E := by unfold dataA; split <;> exact ⟨rfl, rfl⟩
theorem rt_nil {a0 a1 a2 a3 a4 a5 a6 a7 a8 a9 a10 a11 a12 s le gt ga es dl db lp : Nat → Int32} {e : Nat} {E : AE} (h : RT a0 a1 a2 a3 a4 a5 a6 a7 a8 a9 a10 a11 a12 s le gt ga es dl db lp e E) (hn : eG E = []) (ho : eOv E = false) (he : eEs E = false) : RT a0 a1 a2 a3 a4 a5 a6 a7 a8 a9 a10 a11 a12 s le (upd gt e (nI 0)) ga (upd es e (nI 0)) dl db lp e (frameA E) := by
  rw [fr_0 ⟨hn, he⟩]
  obtain ⟨h1, h2, h3, h4, h5, h6, h7⟩ := h
  exact ⟨h1, h2, h3, ⟨by rw [upd_eq, hn, ho]; rfl, h4.2⟩, by rw [upd_eq, he]; rfl, h6, h7⟩
