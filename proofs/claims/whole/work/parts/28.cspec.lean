/-! the reference at a packet: words -/
def SQ (f : Nat → Int32) (ac : Nat) (Q : List Nat) (ci ck : Nat) : Prop := Hd f Q ∧ Q.length ≤ 35 ∧ Bt Q ∧ ac < 256 ∧ ci < 256 ∧ ck < 256
theorem SQ.bt {f : Nat → Int32} {ac : Nat} {Q : List Nat} {ci ck : Nat} (h : SQ f ac Q ci ck) : Bt ([1, ac, ci] ++ Q) := (bt3 (by decide) h.2.2.2.1 h.2.2.2.2.1).app h.2.2.1
/-- the other end stays, all rows of RA -/
def RAF (a0 a1 a2 a3 a4 a5 a6 a7 a8 a9 a10 a11 a12 b0 b1 b2 b3 b4 b5 b6 b7 b8 b9 b10 b11 b12 : Nat → Int32) (e : Nat) : Prop := ∀ (o : Nat) (E : AE), o < 2 → o ≠ e → RA a0 a1 a2 a3 a4 a5 a6 a7 a8 a9 a10 a11 a12 o E → RA b0 b1 b2 b3 b4 b5 b6 b7 b8 b9 b10 b11 b12 o E
theorem codes_5 : ∀ ev, ev < 18 → ∀ st, st < 10 → (ev = 6 ∨ ev = 7 ∨ 5 ∉ codes ev st) := by decide +kernel
theorem codes_678 : ∀ ev, ev < 6 → ∀ st, st < 10 → 5 ∉ codes ev st ∧ 6 ∉ codes ev st ∧ 7 ∉ codes ev st ∧ 8 ∉ codes ev st := by decide +kernel
theorem doA_N {cid ccd : Nat} {N N' : List Nat} {E : AE} {c : Nat} (h : c ≠ 5) : doA cid ccd N E c = doA cid ccd N' E c := by
  unfold doA
  rw [if_neg h, if_neg h]
theorem fold_N {cid ccd : Nat} {N N' : List Nat} : ∀ (cs : List Nat) (E : AE), 5 ∉ cs → cs.foldl (doA cid ccd N) E = cs.foldl (doA cid ccd N') E := by
  intro cs
  induction cs with
  | nil => intro E _; rfl
  | cons c cs ih =>
    intro E h
    rw [List.foldl_cons, List.foldl_cons, doA_N (N := N) (N' := N') (fun q => h (by rw [q]; exact List.mem_cons_self))]
    exact ih _ (fun q => h (List.mem_cons_of_mem _ q))
theorem happenA_N {cid ccd : Nat} {N N' : List Nat} {E : AE} {ev : Nat} (hev : ev < 18) (h6 : ev ≠ 6) (h7 : ev ≠ 7) (hst : eSt E ≤ 9) : happenA cid ccd N E ev = happenA cid ccd N' E ev := fold_N _ _ (((codes_5 ev hev _ (by omega)).resolve_left h6).resolve_left h7)
theorem doA_c {a b a' b' : Nat} {N N' : List Nat} {E : AE} {c : Nat} (h5 : c ≠ 5) (h6 : c ≠ 6) (h7 : c ≠ 7) (h8 : c ≠ 8) : doA a b N E c = doA a' b' N' E c := by
  unfold doA
  rw [if_neg h5, if_neg h5, if_neg h6, if_neg h6, if_neg h7, if_neg h7, if_neg h8, if_neg h8]
theorem fold_c {a b a' b' : Nat} {N N' : List Nat} : ∀ (cs : List Nat) (E : AE), 5 ∉ cs → 6 ∉ cs → 7 ∉ cs → 8 ∉ cs → cs.foldl (doA a b N) E = cs.foldl (doA a' b' N') E := by
  intro cs
  induction cs with
  | nil => intro E _ _ _ _; rfl
  | cons c cs ih =>
    intro E h5 h6 h7 h8
    have m : ∀ x, x ∉ c :: cs → c ≠ x := fun x h q => h (by rw [q]; exact List.mem_cons_self)
    have t : ∀ x, x ∉ c :: cs → x ∉ cs := fun x h q => h (List.mem_cons_of_mem _ q)
    rw [List.foldl_cons, List.foldl_cons, doA_c (a' := a') (b' := b') (N' := N') (m 5 h5) (m 6 h6) (m 7 h7) (m 8 h8)]
    exact ih _ (t 5 h5) (t 6 h6) (t 7 h7) (t 8 h8)
theorem happenA_c {a b a' b' : Nat} {N N' : List Nat} {E : AE} {ev : Nat} (hev : ev < 6) (hst : eSt E ≤ 9) : happenA a b N E ev = happenA a' b' N' E ev := by
  obtain ⟨h5, h6, h7, h8⟩ := codes_678 ev hev (eSt E) (by omega)
  exact fold_c _ _ h5 h6 h7 h8
theorem ansOpt_ok {G : List Nat} {le : Nat} {nu : Int32} {code : Nat} (hB : Bt G) (hl : G.length ≤ 40) (hle : le < 65536) (h5 : 5 ≤ G.length) (hwh : wholeW G (toL G) 3 = true) : (ansOpt G le nu code).length ≤ 35 ∧ Bt (ansOpt G le nu code) := by
  have key := foldO_ind (f := fun Q k => Q ++ optA G le nu code k) (L := G) (to := toL G) (P := fun k (Q : List Nat) => wholeW G (toL G) k = true ∧ 3 ≤ k ∧ k ≤ toL G ∧ Q.length ≤ k - 3 ∧ Bt Q) (by
    intro k Q hk ⟨hw, h3, hk2, hq, hb⟩
    obtain ⟨s1, s2, -⟩ := wholeW_step hk hw
    have ho := optLen_b (G.getD k 0)
    have hoa : (optA G le nu code k).length ≤ optLen (G.getD k 0) := optA_len
    refine ⟨s2, by omega, s1, by rw [List.length_append]; omega, hb.app ?_⟩
    unfold optA
    have hg := hB.get k
    split
    · split
      · exact bt3 hg (by omega) (by omega)
      · intro x hx
        rcases List.mem_cons.mp hx with rfl | hx
        · exact hg
        · exact nbs_bt _ x hx
    · split
      · exact fun x hx => hB x (List.mem_of_mem_drop (List.mem_of_mem_take hx))
      · exact Bt.nil) (toL G) 3 [] (by omega) ⟨hwh, by decide, by show 3 ≤ G.length - 2; omega, Nat.zero_le _, Bt.nil⟩
  obtain ⟨k', hk', -, -, hk2, hq, hb⟩ := key
  have : toL G = G.length - 2 := rfl
  have e9 : (ansOpt G le nu code).length ≤ k' - 3 := hq
  exact ⟨by omega, hb⟩
theorem ansCode_b {G : List Nat} {le : Nat} {nu : Int32} : 2 ≤ ansCode G le nu ∧ ansCode G le nu ≤ 4 := by
  obtain ⟨k', -, h⟩ := foldO_ind (f := maxO G le nu) (L := G) (to := toL G) (P := fun _ (a : Nat) => 2 ≤ a ∧ a ≤ 4) (fun k a _ ha => ⟨Nat.le_trans ha.1 maxO_ge, maxO_le ha.2⟩) (toL G) 3 2 (by omega) ⟨by decide, by decide⟩
  exact h
theorem chO_inv {G : List Nat} {E : AE} {k : Nat} (h : InvE E) : InvE (chO G E k) := by
  obtain ⟨q1, q2, q3, q4, q5, q6, q7, q8, q9, q10⟩ := id h
  unfold chO
  split
  · split
    · exact h
    · split <;> exact h
  · split
    · split
      · rename_i hv
        exact ⟨hv, q2, q3, q4, q5, q6, q7, q8, q9, q10⟩
      · exact h
    · split <;> exact h
/-- what chO leaves -/
def chSame (E E' : AE) : Prop := eId E' = eId E ∧ eTr E' = eTr E ∧ eTi E' = eTi E ∧ eAq E' = eAq E ∧ eB E' = eB E ∧ eCf E' = eCf E ∧ eSt E' = eSt E ∧ eLe E' = eLe E ∧ eG E' = eG E
theorem chO_same {G : List Nat} {E : AE} {k : Nat} : chSame E (chO G E k) := by
  unfold chO chSame
  split
  · split
    · exact ⟨rfl, rfl, rfl, rfl, rfl, rfl, rfl, rfl, rfl⟩
    · split <;> exact ⟨rfl, rfl, rfl, rfl, rfl, rfl, rfl, rfl, rfl⟩
  · split
    · split <;> exact ⟨rfl, rfl, rfl, rfl, rfl, rfl, rfl, rfl, rfl⟩
    · split <;> exact ⟨rfl, rfl, rfl, rfl, rfl, rfl, rfl, rfl, rfl⟩
theorem chF_ok {G : List Nat} {E : AE} (h : InvE E) : InvE (chF G E) ∧ chSame E (chF G E) := by
  obtain ⟨k', -, q⟩ := foldO_ind (f := chO G) (L := G) (to := toL G) (P := fun _ (E' : AE) => InvE E' ∧ chSame E E') (fun k E' _ hE => by
    obtain ⟨h1, h2⟩ := hE
    obtain ⟨a1, a2, a3, a4, a5, a6, a7, a8, a9⟩ := h2
    obtain ⟨b1, b2, b3, b4, b5, b6, b7, b8, b9⟩ := chO_same (G := G) (E := E') (k := k)
    exact ⟨chO_inv h1, b1.trans a1, b2.trans a2, b3.trans a3, b4.trans a4, b5.trans a5, b6.trans a6, b7.trans a7, b8.trans a8, b9.trans a9⟩) (toL G) 3 E (by omega) ⟨h, rfl, rfl, rfl, rfl, rfl, rfl, rfl, rfl, rfl⟩
  exact q
section CF
variable {a0 a1 a2 a3 a4 a5 a6 a7 a8 a9 a10 a11 a12 b0 b1 b2 b3 b4 b5 b6 b7 b8 b9 b10 b11 b12 s s2 f2 : Nat → Int32} {e ac ci ck : Nat} {E X : AE} {Q : List Nat}
theorem ct_fin (hX : ctlA E = X) (h : RA b0 b1 b2 b3 b4 b5 b6 b7 b8 b9 b10 b11 b12 e X) (hf : RAF a0 a1 a2 a3 a4 a5 a6 a7 a8 a9 a10 a11 a12 b0 b1 b2 b3 b4 b5 b6 b7 b8 b9 b10 b11 b12 e) (hs : s2 e = nI (eSt X)) (ho : ∀ o, o ≠ e → s2 o = s o) (hq : SQ f2 ac Q ci ck) :
    RA b0 b1 b2 b3 b4 b5 b6 b7 b8 b9 b10 b11 b12 e (ctlA E) ∧ RAF a0 a1 a2 a3 a4 a5 a6 a7 a8 a9 a10 a11 a12 b0 b1 b2 b3 b4 b5 b6 b7 b8 b9 b10 b11 b12 e ∧ s2 e = nI (eSt (ctlA E)) ∧ (∀ o, o ≠ e → s2 o = s o) ∧ SQ f2 ac Q ci ck := by
  rw [hX]
  exact ⟨h, hf, hs, ho, hq⟩
theorem RAF.of (h : RAO a0 a1 a2 a3 a4 a5 a6 a7 a8 a9 a10 a11 a12 b4 b5 b6 b7 b8 b9 b10 b11 b12 e) : RAF a0 a1 a2 a3 a4 a5 a6 a7 a8 a9 a10 a11 a12 a0 a1 a2 a3 b4 b5 b6 b7 b8 b9 b10 b11 b12 e := h
theorem RAF.trans {c0 c1 c2 c3 c4 c5 c6 c7 c8 c9 c10 c11 c12 : Nat → Int32} (h : RAF a0 a1 a2 a3 a4 a5 a6 a7 a8 a9 a10 a11 a12 b0 b1 b2 b3 b4 b5 b6 b7 b8 b9 b10 b11 b12 e) (k : RAF b0 b1 b2 b3 b4 b5 b6 b7 b8 b9 b10 b11 b12 c0 c1 c2 c3 c4 c5 c6 c7 c8 c9 c10 c11 c12 e) : RAF a0 a1 a2 a3 a4 a5 a6 a7 a8 a9 a10 a11 a12 c0 c1 c2 c3 c4 c5 c6 c7 c8 c9 c10 c11 c12 e := fun o E ho hne q => k o E ho hne (h o E ho hne q)
theorem RAO.tl (he : e < 2) {k : Nat} (hk : k < 6) {x : Int32} : RAO a0 a1 a2 a3 a4 a5 a6 a7 a8 a9 a10 a11 a12 a4 a5 a6 a7 a8 a9 a10 a11 (upd a12 (6 * e + k) x) e := RAO.of (fun _ _ => ⟨rfl, rfl, rfl⟩) AkO.refl LnO.refl (CtO.tally he hk)
theorem RAO.ct (h : CtO a12 b12 e) : RAO a0 a1 a2 a3 a4 a5 a6 a7 a8 a9 a10 a11 a12 a4 a5 a6 a7 a8 a9 a10 a11 b12 e := RAO.of (fun _ _ => ⟨rfl, rfl, rfl⟩) AkO.refl LnO.refl h
theorem RA.cf {cf : Nat → Int32} (h : RA a0 a1 a2 a3 a4 a5 a6 a7 a8 a9 a10 a11 a12 e E) (hc : CtM b12 e cf) : RA a0 a1 a2 a3 a4 a5 a6 a7 a8 a9 a10 a11 b12 e (wCf E cf) := by
  obtain ⟨h1, h2, h3, h4, h5, h6, h7, h8, h9, h10, h11⟩ := h
  exact ⟨h1, h2, h3, h4, h5, h6, h7, h8, h9, hc, h11⟩
theorem RA.ch {G : List Nat} (h : RA a0 a1 a2 a3 a4 a5 a6 a7 a8 a9 a10 a11 a12 e E) (hc : RCh b0 b1 b2 b3 e (chF G E)) : RA b0 b1 b2 b3 a4 a5 a6 a7 a8 a9 a10 a11 a12 e (chF G E) := by
  have k := chF_ok (G := G) h.inv
  obtain ⟨h1, h2, h3, h4, h5, h6, h7, h8, h9, h10, h11⟩ := h
  obtain ⟨q1, q2, q3, q4, q5, q6, q7, q8, q9⟩ := k.2
  exact ⟨hc.1, hc.2.1, hc.2.2.1, hc.2.2.2, by rw [q1]; exact h5, by rw [q2]; exact h6, by rw [q3]; exact h7, by rw [q4]; exact h8, by rw [q5]; exact h9, by rw [q6]; exact h10, k.1⟩
theorem RAF.ch (h : ∀ o, o ≠ e → b0 o = a0 o ∧ b1 o = a1 o ∧ b2 o = a2 o ∧ b3 o = a3 o) : RAF a0 a1 a2 a3 a4 a5 a6 a7 a8 a9 a10 a11 a12 b0 b1 b2 b3 a4 a5 a6 a7 a8 a9 a10 a11 a12 e := by
  intro o E ho hne q
  obtain ⟨h1, h2, h3, h4, h5, h6, h7, h8, h9, h10, h11⟩ := q
  obtain ⟨k1, k2, k3, k4⟩ := h o hne
  exact ⟨k1.trans h1, k2.trans h2, k3.trans h3, k4.trans h4, h5, h6, h7, h8, h9, h10, h11⟩
end CF
section CA
variable {E : AE}
theorem ctlA_bad (h : (2 ≤ (eG E).getD 1 0 ∧ (eG E).getD 1 0 ≤ 4) ∧ rightA E = false) : ctlA E = tal E 1 := if_pos h
theorem ctlA_1 (h : (eG E).getD 1 0 = 1) : ctlA E = happenA ((eG E).getD 2 0) 1 (ansL (eG E) (eLe E) (eNu E)) (wCf (tal E 0) (suspF (eG E) (eNu E) (eCf (tal E 0)))) (if ansCode (eG E) (eLe E) (eNu E) = 2 then 6 else 7) := by unfold ctlA; rw [if_neg (by omega), if_pos h]
theorem ctlA_2 (hg : ¬ ((2 ≤ (eG E).getD 1 0 ∧ (eG E).getD 1 0 ≤ 4) ∧ rightA E = false)) (h : (eG E).getD 1 0 = 2) : ctlA E = happenA ((eG E).getD 2 0) 2 [] (tal E 0) 8 := by unfold ctlA; rw [if_neg hg, if_neg (by omega), if_pos h]
theorem ctlA_34 (hg : ¬ ((2 ≤ (eG E).getD 1 0 ∧ (eG E).getD 1 0 ≤ 4) ∧ rightA E = false)) (h : (eG E).getD 1 0 = 3 ∨ (eG E).getD 1 0 = 4) : ctlA E = happenA ((eG E).getD 2 0) ((eG E).getD 1 0) [] (chF (eG E) (tal E 0)) 9 := by unfold ctlA; rw [if_neg hg, if_neg (by omega), if_neg (by omega), if_pos h]
theorem ctlA_5 (h : (eG E).getD 1 0 = 5) : ctlA E = happenA ((eG E).getD 2 0) 5 [] (tal E 0) 10 := by unfold ctlA; rw [if_neg (by omega), if_neg (by omega), if_neg (by omega), if_neg (by omega), if_pos h]
theorem ctlA_6 (h : (eG E).getD 1 0 = 6) : ctlA E = happenA ((eG E).getD 2 0) 6 [] (tal E 0) 11 := by unfold ctlA; rw [if_neg (by omega), if_neg (by omega), if_neg (by omega), if_neg (by omega), if_neg (by omega), if_pos h]
theorem ctlA_7 (h : (eG E).getD 1 0 = 7) : ctlA E = happenA ((eG E).getD 2 0) 7 [] (tal E 0) (if 1 ≤ (eG E).getD 3 0 ∧ (eG E).getD 3 0 ≤ 6 then 13 else 14) := by unfold ctlA; rw [if_neg (by omega), if_neg (by omega), if_neg (by omega), if_neg (by omega), if_neg (by omega), if_neg (by omega), if_pos h]
theorem ctlA_9 (h : (eG E).getD 1 0 = 9) : ctlA E = happenA ((eG E).getD 2 0) 9 [] (if n4 (eG E) 3 = eNu E ∧ ¬ eNu E = 0 then tal (tal E 0) 3 else tal E 0) 15 := by unfold ctlA; rw [if_neg (by omega), if_neg (by omega), if_neg (by omega), if_neg (by omega), if_neg (by omega), if_neg (by omega), if_neg (by omega), if_pos h]
theorem ctlA_10 (h : (eG E).getD 1 0 = 10) : ctlA E = tal E 0 := by unfold ctlA; rw [if_neg (by omega), if_neg (by omega), if_neg (by omega), if_neg (by omega), if_neg (by omega), if_neg (by omega), if_neg (by omega), if_neg (by omega), if_pos h]
theorem ctlA_x (h : (eG E).getD 1 0 = 0 ∨ (eG E).getD 1 0 = 8 ∨ 10 < (eG E).getD 1 0) : ctlA E = happenA ((eG E).getD 2 0) ((eG E).getD 1 0) [] (tal E 0) 12 := by unfold ctlA; rw [if_neg (by omega), if_neg (by omega), if_neg (by omega), if_neg (by omega), if_neg (by omega), if_neg (by omega), if_neg (by omega), if_neg (by omega), if_neg (by omega)]
end CA
