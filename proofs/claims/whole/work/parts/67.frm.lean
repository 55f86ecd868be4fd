/-! a packet that came: the component's way is the document's -/
theorem foldO_id {σ : Type} {f : σ → Nat → σ} {L : List Nat} {to : Nat} (h : ∀ s k, f s k = s) : ∀ (n k : Nat) (s : σ), to - k ≤ n → foldO f L to k s = s := by
  intro n
  induction n with
  | zero => intro k s hn; exact foldO_o (by omega)
  | succ n ih =>
    intro k s hn
    by_cases q : k < to
    · have := optLen_b (L.getD k 0)
      rw [foldO_t q, h]
      exact ih _ _ (by omega)
    · exact foldO_o (by omega)
theorem foldO_map {σ τ : Type} {f : σ → Nat → σ} {f' : τ → Nat → τ} {L : List Nat} {to : Nat} (φ : τ → σ) (h : ∀ t k, f (φ t) k = φ (f' t k)) : ∀ (n k : Nat) (t : τ), to - k ≤ n → foldO f L to k (φ t) = φ (foldO f' L to k t) := by
  intro n
  induction n with
  | zero => intro k t hn; rw [foldO_o (by omega), foldO_o (by omega)]
  | succ n ih =>
    intro k t hn
    by_cases q : k < to
    · have := optLen_b (L.getD k 0)
      rw [foldO_t q, foldO_t q, h]
      exact ih _ _ (by omega)
    · rw [foldO_o (by omega), foldO_o (by omega)]
theorem lrnO_1 {G : List Nat} {E : AE} {cf : Nat → Int32} {k : Nat} : lrnO 1 G (wCf E cf) k = wCf E (suspO G (eNu E) cf k) := by
  by_cases h1 : G.getD k 0 = 1
  · rw [lr_1 h1, ls_n (by omega) (by omega), suspO_b (fun q => by omega)]
  by_cases h5 : G.getD k 0 = 5
  · rw [lr_5 h5, ln_1 rfl]
    by_cases q : n4 G (k + 1) = eNu E ∧ ¬ eNu E = 0
    · rw [suspO_a h5 q.1 q.2]
      unfold susC
      rw [if_pos (show n4 G (k + 1) = eNu (wCf E cf) ∧ ¬ n4 G (k + 1) = 0 from ⟨q.1, by rw [q.1]; exact q.2⟩)]
    · rw [suspO_b (fun z => q ⟨z.2.1, z.2.2⟩)]
      unfold susC
      rw [if_neg (show ¬ (n4 G (k + 1) = eNu (wCf E cf) ∧ ¬ n4 G (k + 1) = 0) from fun z => q ⟨z.1, fun y => z.2 (z.1.trans y)⟩)]
  · rw [lr_n h1 h5, suspO_b (fun q => h5 q.1)]
theorem lrnO_2 {G : List Nat} {E : AE} {k : Nat} : lrnO 2 G E k = E := by
  by_cases h1 : G.getD k 0 = 1
  · rw [lr_1 h1, ls_n (by omega) (by omega)]
  by_cases h5 : G.getD k 0 = 5
  · rw [lr_5 h5, ln_n (by omega) (by omega) (by omega)]
  · rw [lr_n h1 h5]
theorem lrnO_34 {G : List Nat} {E : AE} {k : Nat} (h : G.getD 1 0 = 3 ∨ G.getD 1 0 = 4) : lrnO (G.getD 1 0) G E k = chO G E k := by
  unfold chO
  rcases h with h | h
  · rw [if_neg (by omega), h]
    by_cases h1 : G.getD k 0 = 1
    · rw [if_pos h1, lr_1 h1]
      by_cases q : 64 ≤ G.getD (k + 1) 0 * 256 + G.getD (k + 2) 0 ∧ G.getD (k + 1) 0 * 256 + G.getD (k + 2) 0 ≤ 1500
      · rw [if_pos q, ls_y rfl q]
      · rw [if_neg q, ls_n (fun z => q z.2) (by omega)]
    by_cases h5 : G.getD k 0 = 5
    · rw [if_neg h1, if_pos h5, lr_5 h5, ln_3 rfl]
    · rw [if_neg h1, if_neg h5, lr_n h1 h5]
  · rw [if_pos h, h]
    by_cases h1 : G.getD k 0 = 1
    · rw [if_pos h1, lr_1 h1, ls_r rfl]
    by_cases h5 : G.getD k 0 = 5
    · rw [if_neg h1, if_pos h5, lr_5 h5, ln_4 rfl]
    · rw [if_neg h1, if_neg h5, lr_n h1 h5]
/-- what learning leaves -/
def lSame (E E' : AE) : Prop := eB E' = eB E ∧ eKl E' = eKl E ∧ eAq E' = eAq E ∧ eG E' = eG E ∧ eEs E' = eEs E ∧ eOv E' = eOv E ∧ eLp E' = eLp E ∧ eLe E' = eLe E ∧ eSt E' = eSt E ∧ eCf E' 0 = eCf E 0
theorem lSame.refl {E : AE} : lSame E E := ⟨rfl, rfl, rfl, rfl, rfl, rfl, rfl, rfl, rfl, rfl⟩
theorem lSame.trans {E F G : AE} (h : lSame E F) (k : lSame F G) : lSame E G := by
  obtain ⟨a1, a2, a3, a4, a5, a6, a7, a8, a9, a10⟩ := h
  obtain ⟨b1, b2, b3, b4, b5, b6, b7, b8, b9, b10⟩ := k
  exact ⟨b1.trans a1, b2.trans a2, b3.trans a3, b4.trans a4, b5.trans a5, b6.trans a6, b7.trans a7, b8.trans a8, b9.trans a9, b10.trans a10⟩
theorem susC_0 {E : AE} {w : Int32} : susC E w 0 = eCf E 0 := by
  unfold susC
  split
  · exact upd_ne (by decide)
  · rfl
theorem lrnO_same {c k : Nat} {G : List Nat} {E : AE} : lSame E (lrnO c G E k) := by
  unfold lrnO
  split
  · unfold lszE
    split
    · exact lSame.refl
    split <;> exact lSame.refl
  split
  · unfold lnuE
    split
    · exact ⟨rfl, rfl, rfl, rfl, rfl, rfl, rfl, rfl, rfl, susC_0⟩
    split
    · exact lSame.refl
    split <;> exact lSame.refl
  · exact lSame.refl
theorem lrnO_inv {c k : Nat} {G : List Nat} {E : AE} (h : InvE E) : InvE (lrnO c G E k) := by
  obtain ⟨q1, q2, q3, q4, q5, q6, q7, q8, q9, q10⟩ := id h
  unfold lrnO
  split
  · unfold lszE
    split
    · rename_i hv
      exact ⟨hv.2, q2, q3, q4, q5, q6, q7, q8, q9, q10⟩
    split <;> exact h
  split
  · unfold lnuE
    split
    · exact h
    split
    · exact h
    split <;> exact h
  · exact h
theorem lrnA_ok {G : List Nat} {E : AE} (h : InvE E) : InvE (lrnA G E) ∧ lSame E (lrnA G E) := by
  unfold lrnA
  split
  · split
    · exact ⟨h, rfl, rfl, rfl, rfl, rfl, rfl, rfl, rfl, rfl, susC_0⟩
    split
    · obtain ⟨k', -, q⟩ := foldO_ind (f := lrnO (G.getD 1 0) G) (L := G) (to := G.length - 2) (P := fun _ (E' : AE) => InvE E' ∧ lSame E E') (fun k E' _ hE => ⟨lrnO_inv hE.1, hE.2.trans lrnO_same⟩) (G.length - 2) 3 E (by omega) ⟨h, lSame.refl⟩
      exact q
    · exact ⟨h, lSame.refl⟩
  · exact ⟨h, lSame.refl⟩
theorem evP_lt {G : List Nat} {le : Nat} {nu : Int32} : evP G le nu < 18 := by
  unfold evP
  repeat (first | omega | split)
theorem evP_5 {G : List Nat} {le st : Nat} {nu : Int32} (hs : st ≤ 9) (h : 5 ∈ codes (evP G le nu) st) : G.getD 0 0 = 1 ∧ G.getD 1 0 = 1 := by
  rcases codes_5 (evP G le nu) evP_lt st (by omega) with q | q | q
  · unfold evP at q
    revert q
    repeat (first | (intro q; omega) | split)
  · unfold evP at q
    revert q
    repeat (first | (intro q; omega) | split)
  · exact absurd h q
theorem codes_17 : ∀ st, st < 10 → (codes 17 st).any tcN = false := by decide +kernel
theorem codes_17n : ∀ st, st < 10 → (st = 9 ∨ codes 17 st = []) := by decide +kernel
theorem codes_16n : ∀ st, st < 10 → codes 16 st = [] := by decide +kernel
theorem evP_t {G : List Nat} {le st : Nat} {nu : Int32} (hs : st ≤ 9) (h : (codes (evP G le nu) st).any tcN = true) : G.getD 0 0 = 1 := by
  by_cases q : G.getD 0 0 = 1
  · exact q
  · rw [ep_d q, codes_17 st (by omega)] at h
    cases h
theorem wSt_of {E : AE} {x : Nat} (h : eSt E = x) : wSt E x = E := by subst h; rfl
theorem data_ev {E : AE} {ci ck : Nat} {N : List Nat} (h0 : ¬ (eG E).getD 0 0 = 1) (hI : eSt E ≤ 9) {le : Nat} {nu : Int32} : dataA E = happenA ci ck N (lrnA (eG E) (tal E 0)) (evP (eG E) le nu) := by
  rw [la_d h0, ep_d h0]
  unfold dataA happenA
  by_cases q : eSt E = 9
  · rw [if_pos q, show codes 17 (eSt (tal E 0)) = [11, 16 + 9] by rw [show eSt (tal E 0) = 9 from q]; rfl, List.foldl_cons, List.foldl_cons, List.foldl_nil, doA_16]
    exact (wSt_of (E := tal (wKl (tal E 0) (eG E)) 5) q).symm
  · rw [if_neg q, (codes_17n (eSt (tal E 0)) (show eSt E < 10 by omega)).resolve_left q]
    rfl
theorem ctl_ev {E : AE} {N : List Nat} (hI : InvE E) (h0 : (eG E).getD 0 0 = 1) (hr : ¬ ((2 ≤ (eG E).getD 1 0 ∧ (eG E).getD 1 0 ≤ 4) ∧ rightA E = false)) (hN : (eG E).getD 1 0 = 1 → N = ansL (eG E) (eLe (lrnA (eG E) (tal E 0))) (eNu (lrnA (eG E) (tal E 0)))) :
    ctlA E = happenA ((eG E).getD 2 0) ((eG E).getD 1 0) N (lrnA (eG E) (tal E 0)) (evP (eG E) (eLe (lrnA (eG E) (tal E 0))) (eNu (lrnA (eG E) (tal E 0)))) := by
  have hs : eSt E ≤ 9 := hI.2.2.1
  rcases (show (eG E).getD 1 0 = 1 ∨ (eG E).getD 1 0 = 2 ∨ ((eG E).getD 1 0 = 3 ∨ (eG E).getD 1 0 = 4) ∨ (eG E).getD 1 0 = 5 ∨ (eG E).getD 1 0 = 6 ∨ (eG E).getD 1 0 = 7 ∨ (eG E).getD 1 0 = 9 ∨ (eG E).getD 1 0 = 10 ∨ ((eG E).getD 1 0 = 0 ∨ (eG E).getD 1 0 = 8 ∨ 10 < (eG E).getD 1 0) by omega) with h | h | h | h | h | h | h | h | h
  · have hL : lrnA (eG E) (tal E 0) = wCf (tal E 0) (suspF (eG E) (eNu E) (eCf (tal E 0))) := by
      rw [la_o h0 (by omega), h]
      exact foldO_map (f := lrnO 1 (eG E)) (f' := suspO (eG E) (eNu E)) (fun cf => wCf (tal E 0) cf) (fun cf k => lrnO_1 (E := tal E 0)) _ 3 (eCf (tal E 0)) (Nat.le_refl _)
    rw [ctlA_1 h, hN h, hL, h]
    have he : evP (eG E) (eLe E) (eNu E) = if ansCode (eG E) (eLe E) (eNu E) = 2 then 6 else 7 := by
      by_cases k : ansCode (eG E) (eLe E) (eNu E) = 2
      · rw [if_pos k, ep_1y h0 h k]
      · rw [if_neg k, ep_1n h0 h k]
    rw [← he]
    rfl
  · have hL : lrnA (eG E) (tal E 0) = tal E 0 := by
      rw [la_o h0 (by omega), h]
      exact foldO_id (fun s k => lrnO_2) _ _ _ (Nat.le_refl _)
    rw [ctlA_2 hr h, hL, ep_2 h0 h, h]
    exact happenA_N (by decide) (by decide) (by decide) hs
  · have hL : lrnA (eG E) (tal E 0) = chF (eG E) (tal E 0) := by
      rw [la_o h0 (by omega)]
      exact foldO_map (f := lrnO ((eG E).getD 1 0) (eG E)) (f' := chO (eG E)) (fun x => x) (fun s k => lrnO_34 h) _ 3 (tal E 0) (Nat.le_refl _)
    have hc : eSt (chF (eG E) (tal E 0)) ≤ 9 := (chF_ok (G := eG E) (show InvE (tal E 0) from hI)).1.2.2.1
    rw [ctlA_34 hr h, hL, ep_34 h0 h]
    exact happenA_N (by decide) (by decide) (by decide) hc
  · have hL : lrnA (eG E) (tal E 0) = tal E 0 := la_n (by omega) (by omega)
    rw [ctlA_5 h, hL, ep_5 h0 h, h]
    exact happenA_N (by decide) (by decide) (by decide) hs
  · have hL : lrnA (eG E) (tal E 0) = tal E 0 := la_n (by omega) (by omega)
    rw [ctlA_6 h, hL, ep_6 h0 h, h]
    exact happenA_N (by decide) (by decide) (by decide) hs
  · have hL : lrnA (eG E) (tal E 0) = tal E 0 := la_n (by omega) (by omega)
    rw [ctlA_7 h, hL]
    by_cases k : 1 ≤ (eG E).getD 3 0 ∧ (eG E).getD 3 0 ≤ 6
    · rw [if_pos k, ep_7y h0 h k, h]
      exact happenA_N (by decide) (by decide) (by decide) hs
    · rw [if_neg k, ep_7n h0 h k, h]
      exact happenA_N (by decide) (by decide) (by decide) hs
  · have hL : lrnA (eG E) (tal E 0) = if n4 (eG E) 3 = eNu E ∧ ¬ eNu E = 0 then tal (tal E 0) 3 else tal E 0 := by
      rw [la_9 h0 h]
      unfold susC
      by_cases k : n4 (eG E) 3 = eNu E ∧ ¬ eNu E = 0
      · rw [if_pos k, if_pos (show n4 (eG E) 3 = eNu (tal E 0) ∧ ¬ n4 (eG E) 3 = 0 from ⟨k.1, by rw [k.1]; exact k.2⟩)]
        rfl
      · rw [if_neg k, if_neg (show ¬ (n4 (eG E) 3 = eNu (tal E 0) ∧ ¬ n4 (eG E) 3 = 0) from fun z => k ⟨z.1, fun y => z.2 (z.1.trans y)⟩)]
    rw [ctlA_9 h, ep_9 h0 h, hL, h]
    refine happenA_N (by decide) (by decide) (by decide) ?_
    split <;> exact hs
  · have hL : lrnA (eG E) (tal E 0) = tal E 0 := la_n (by omega) (by omega)
    rw [ctlA_10 h, hL, ep_10 h0 h]
    unfold happenA
    rw [codes_16n (eSt (tal E 0)) (show eSt E < 10 by omega)]
    rfl
  · have hL : lrnA (eG E) (tal E 0) = tal E 0 := la_n (by omega) (by omega)
    rw [ctlA_x h, hL, ep_x h0 h]
    exact happenA_N (by decide) (by decide) (by decide) hs
def frG (E : AE) : Bool := !decide (eG E = [] ∧ eEs E = false) && (holdsP (eG E, eEs E, eOv E) && (wfL (eG E) && rgtA (eSt E) (eG E) (eAq E)))
section FG
variable {E : AE}
theorem fg_0 (h : eG E = [] ∧ eEs E = false) : frG E = false := by unfold frG; rw [decide_eq_true h]; rfl
theorem fg_h (h : holdsP (eG E, eEs E, eOv E) = false) : frG E = false := by unfold frG; rw [h]; simp
theorem fg_w (h : wfL (eG E) = false) : frG E = false := by unfold frG; rw [h]; simp
theorem fg_r (h : rgtA (eSt E) (eG E) (eAq E) = false) : frG E = false := by unfold frG; rw [h]; simp
theorem fg_y (h : ¬ (eG E = [] ∧ eEs E = false)) (h2 : holdsP (eG E, eEs E, eOv E) = true) (h3 : wfL (eG E) = true) (h4 : rgtA (eSt E) (eG E) (eAq E) = true) : frG E = true := by unfold frG; rw [decide_eq_false h, h2, h3, h4]; rfl
theorem holds_5 {z : GS} (h : holdsP z = true) : 5 ≤ z.1.length := by
  rcases Nat.lt_or_ge z.1.length 5 with q | q
  · rw [holds_no (Or.inr (Or.inr (isSeal_a q)))] at h
    cases h
  · exact q
theorem wf_12 {G : List Nat} (h : wfL G = true) (h1 : ¬ G.getD 0 0 = 1) : G.getD 0 0 = 2 := by
  rw [wfL_d h1] at h
  exact of_decide_eq_true h
theorem fb_w (h : ¬ (eG E = [] ∧ eEs E = false)) (hw : wfL (eG E) = false) : frameA E = clr (tal E 1) := by
  refine fr_w h (fun q => ?_) (fun q => ?_)
  · rw [wfL_d (by omega), decide_eq_true q] at hw
    cases hw
  · rw [hw] at q
    exact absurd q.2 (by decide)
theorem rgt_no {st : Nat} {G M : List Nat} (h : rgtA st G M = false) : ¬ st < 2 ∧ (G.getD 0 0 = 1 ∧ 2 ≤ G.getD 1 0 ∧ G.getD 1 0 ≤ 4) ∧ rightG G M = false := by
  by_cases q : st < 2
  · rw [ri_s q] at h; cases h
  by_cases k : G.getD 0 0 = 1 ∧ 2 ≤ G.getD 1 0 ∧ G.getD 1 0 ≤ 4
  · unfold rgtA at h
    rw [if_neg q, if_pos k] at h
    exact ⟨q, k, h⟩
  · rw [ri_n k] at h; cases h
theorem fb_r (h : ¬ (eG E = [] ∧ eEs E = false)) (hh : holdsP (eG E, eEs E, eOv E) = true) (hw : wfL (eG E) = true) (hr : rgtA (eSt E) (eG E) (eAq E) = false) : frameA E = clr (tal E 1) := by
  obtain ⟨h1, ⟨h2, h3⟩, h4⟩ := rgt_no hr
  rw [fr_c h hh h2 hw h1, ctlA_bad ⟨h3, h4⟩]
theorem fg_s (h : ¬ (eG E = [] ∧ eEs E = false)) (hh : holdsP (eG E, eEs E, eOv E) = true) (hw : wfL (eG E) = true) (hs : eSt E < 2) : frameA E = clr (tal E 0) := by
  by_cases q : (eG E).getD 0 0 = 1
  · exact fr_s h hh q hw hs
  · rw [fr_d h hh (wf_12 hw q)]
    unfold dataA
    rw [if_neg (by omega)]
theorem fg_g {N : List Nat} (hI : InvE E) (h : ¬ (eG E = [] ∧ eEs E = false)) (hh : holdsP (eG E, eEs E, eOv E) = true) (hw : wfL (eG E) = true) (hr : rgtA (eSt E) (eG E) (eAq E) = true) (hs : ¬ eSt E < 2)
    (hN : (eG E).getD 0 0 = 1 → (eG E).getD 1 0 = 1 → N = ansL (eG E) (eLe (lrnA (eG E) (tal E 0))) (eNu (lrnA (eG E) (tal E 0)))) :
    frameA E = clr (happenA ((eG E).getD 2 0) ((eG E).getD 1 0) N (lrnA (eG E) (tal E 0)) (evP (eG E) (eLe (lrnA (eG E) (tal E 0))) (eNu (lrnA (eG E) (tal E 0))))) := by
  by_cases q : (eG E).getD 0 0 = 1
  · rw [fr_c h hh q hw hs, ctl_ev hI q (fun z => ?_) (hN q)]
    unfold rgtA at hr
    rw [if_neg hs, if_pos ⟨q, z.1⟩, show rightG (eG E) (eAq E) = false from z.2] at hr
    cases hr
  · rw [fr_d h hh (wf_12 hw q), data_ev q hI.2.2.1]
theorem shC_0 {B P : List Nat} {cf : Nat → Int32} : shC B cf P 0 = cf 0 := by
  unfold shC
  split
  · rfl
  · exact upd_ne (by decide)
theorem xmit_c0 (E : AE) (P : List Nat) : eCf (xmit E P) 0 = eCf E 0 := by
  rw [xmit_eq]
  exact shC_0
theorem doA_c0 {cid ccd : Nat} {N : List Nat} {E : AE} {c : Nat} : eCf (doA cid ccd N E c) 0 = eCf E 0 := by
  unfold doA
  split
  · rfl
  split
  · rfl
  split
  · rw [reqA_eq]
    exact shC_0
  split
  · rw [endA_eq]
    exact shC_0
  split
  · exact xmit_c0 _ _
  split
  · exact xmit_c0 _ _
  split
  · exact xmit_c0 _ _
  split
  · exact xmit_c0 _ _
  split
  · show upd (eCf E) 4 (eCf E 4 + nI 1) 0 = eCf E 0
    exact upd_ne (by decide)
  split
  · show upd (eCf E) 5 (eCf E 5 + nI 1) 0 = eCf E 0
    exact upd_ne (by decide)
  split
  · rfl
  · rfl
theorem fold_c0 {cid ccd : Nat} {N : List Nat} : ∀ (cs : List Nat) (E : AE), eCf (cs.foldl (doA cid ccd N) E) 0 = eCf E 0 := by
  intro cs
  induction cs with
  | nil => intro E; rfl
  | cons c cs ih => intro E; rw [List.foldl_cons, ih, doA_c0]
theorem cnt_bad {E : AE} (h : frameA E = clr (tal E 1)) (hg : frG E = false) : eCf (frameA E) 0 = eCf E 0 + nI (frG E).toNat := by
  rw [h, hg]
  show upd (eCf E) 1 (eCf E 1 + nI 1) 0 = eCf E 0 + 0
  rw [upd_ne (by decide), Int32.add_zero]
theorem frame_c0 (hI : InvE E) : eCf (frameA E) 0 = eCf E 0 + nI (frG E).toNat := by
  by_cases h : eG E = [] ∧ eEs E = false
  · rw [fr_0 h, fg_0 h]
    show eCf E 0 = eCf E 0 + 0
    rw [Int32.add_zero]
  cases hh : holdsP (eG E, eEs E, eOv E) with
  | false => exact cnt_bad (fr_b h hh) (fg_h hh)
  | true =>
    cases hw : wfL (eG E) with
    | false => exact cnt_bad (fb_w h hw) (fg_w hw)
    | true =>
      cases hr : rgtA (eSt E) (eG E) (eAq E) with
      | false => exact cnt_bad (fb_r h hh hw hr) (fg_r hr)
      | true =>
        rw [fg_y h hh hw hr]
        by_cases hs : eSt E < 2
        · rw [fg_s h hh hw hs]
          show upd (eCf E) 0 (eCf E 0 + nI 1) 0 = eCf E 0 + nI 1
          exact upd_eq
        · rw [fg_g (N := ansL (eG E) (eLe (lrnA (eG E) (tal E 0))) (eNu (lrnA (eG E) (tal E 0)))) hI h hh hw hr hs (fun _ _ => rfl)]
          have h9 : eCf (lrnA (eG E) (tal E 0)) 0 = eCf (tal E 0) 0 := (lrnA_ok (show InvE (tal E 0) from hI)).2.2.2.2.2.2.2.2.2.2
          have h8 : eCf (tal E 0) 0 = eCf E 0 + nI 1 := show upd (eCf E) 0 (eCf E 0 + nI 1) 0 = eCf E 0 + nI 1 from upd_eq
          have h7 : ∀ X : AE, eCf (clr X) 0 = eCf X 0 := fun _ => rfl
          rw [h7]
          unfold happenA
          rw [fold_c0, h9, h8]
          rfl
end FG
section CXs
variable {fr : Nat} {fB fG fK fQ fC : Nat → Int32} {E : AE}
theorem CX.tal {k : Nat} (h : CX fr fB fG fK fQ fC E) (hk : k < 6) : CX fr fB fG fK fQ (upd fC k (fC k + nI 1)) (tal E k) := ⟨h.1, h.2.1, h.2.2.1, h.2.2.2.1, h.2.2.2.2.1, h.2.2.2.2.2.tal hk⟩
theorem CX.clr {f' : Nat → Int32} (h : CX fr fB fG fK fQ fC E) : CX fr fB f' fK fQ fC (clr E) := ⟨clr_inv h.1, h.2.1, Hd.nil, h.2.2.2.1, h.2.2.2.2.1, h.2.2.2.2.2⟩
theorem CX.lrn {G : List Nat} {fC2 : Nat → Int32} (h : CX fr fB fG fK fQ fC E) (hc : CC fC2 (eCf (lrnA G E))) : CX fr fB fG fK fQ fC2 (lrnA G E) := by
  obtain ⟨q1, q2, q3, q4, q5, q6⟩ := h
  obtain ⟨i, a1, a2, a3, a4, -⟩ := lrnA_ok (G := G) q1
  exact ⟨i, by rw [a1]; exact q2, by rw [a4]; exact q3, by rw [a2]; exact q4, by rw [a3]; exact q5, hc⟩
end CXs
theorem Wd.cast {g : GE} {A : Nat → Prop} {s : State} {H : Heap} {locs : List Loc} {ws ws' : va_W} (h : Wd g A s H locs ws) (e : ws' = ws) : Wd g A s H locs ws' := by subst e; exact h
