/-! lists and lines for the public calls -/
theorem in1_of {i : Int32} {n : Nat} (hn : n ≤ 1000) (h : inI i (nI 0) (nI n - nI 1) = true) : ix i < n ∧ i = nI (ix i) := by
  cases n with
  | zero =>
    have h1 := of_decide_eq_true h
    have z : nI 0 - nI 1 = (-1 : Int32) := by decide
    rw [z] at h1
    have z0 : nI 0 = (0 : Int32) := by decide
    rw [z0] at h1
    rw [Int32.lt_iff_toInt_lt, Int32.lt_iff_toInt_lt] at h1
    have e1 : (0 : Int32).toInt = 0 := by decide
    have e2 : (-1 : Int32).toInt = -1 := by decide
    omega
  | succ n =>
    have z : nI (n + 1) - nI 1 = nI n := by
      have := pk_sub (show 1 ≤ n + 1 by omega)
      rw [this]; rfl
    rw [z] at h
    have := in_of (by decide) (by omega) h
    exact ⟨by omega, this.2.2⟩
theorem byI_of {Z : Nat → AE} {w i : Int32} (hb : ∀ e, e < 2 → (eB (Z e)).length ≤ 300) (h : byI Z w i = true) : (ix w < 2 ∧ w = nI (ix w)) ∧ ix i < (eB (Z (ix w))).length ∧ i = nI (ix i) := by
  have h2 := (Bool.and_eq_true _ _).mp h
  have h3 := okE_of h2.1
  exact ⟨h3, in1_of (by have := hb _ h3.1; omega) h2.2⟩
theorem ge_of {n : Int32} (h : ¬ n < 0) : n = nI (ix n) ∧ ix n < 2147483648 := by
  obtain ⟨j, hj, rfl⟩ := nI_of h
  rw [show ix (nI j) = j from nI_clamp hj]
  exact ⟨rfl, hj⟩
theorem drop1 (L : List Nat) (i : Nat) : (L.drop i).drop 1 = L.drop (i + 1) := by rw [List.drop_drop]
theorem Bt.drp {L : List Nat} (h : Bt L) (i : Nat) : Bt (L.drop i) := fun x hx => h x (List.mem_of_mem_drop hx)
theorem Bt.set {L : List Nat} (h : Bt L) {i x : Nat} (hx : x < 256) : Bt (L.set i x) := fun y hy => by
  rcases List.mem_or_eq_of_mem_set hy with q | q
  · exact h y q
  · rw [q]; exact hx
theorem LnM.set {fBy fOl : Nat → Int32} {e : Nat} {B : List Nat} {i x k : Nat} (h : LnM fBy fOl e B) (hi : i < B.length) (hk : k = 300 * e + i) : LnM (upd fBy k (nI x)) fOl e (B.set i x) := by
  subst hk
  refine ⟨by rw [List.length_set]; exact h.1, by rw [List.length_set]; exact h.2.1, fun j hj => ?_⟩
  rw [List.length_set] at hj
  by_cases q : j = i
  · subst q; rw [upd_eq]; simp [hj]
  · rw [upd_ne (by omega), h.2.2 j hj]
    simp [List.getElem?_set, Ne.symm q]
theorem LnO.set {fBy fOl : Nat → Int32} {e i k : Nat} {x : Int32} (he : e < 2) (hi : i < 300) (hk : k = 300 * e + i) : LnO fBy fOl (upd fBy k x) fOl e := by
  intro o C ho hne q
  refine ⟨q.1, q.2.1, fun j hj => ?_⟩
  have := q.2.1
  rw [upd_ne (by omega)]
  exact q.2.2 j hj
theorem RA.ln {a0 a1 a2 a3 a4 a5 a6 a7 a8 a9 a10 a11 a12 y2 n2 : Nat → Int32} {e : Nat} {E : AE} {B : List Nat} (h : RA a0 a1 a2 a3 a4 a5 a6 a7 a8 a9 a10 a11 a12 e E) (hL : LnM y2 n2 e B) (hB : Bt B) : RA a0 a1 a2 a3 a4 a5 a6 a7 a8 a9 n2 y2 a12 e (wB E B) := by
  obtain ⟨r1, r2, r3, r4, r5, r6, r7, r8, r9, r10, q1, q2, q3, q4, q5, q6, q7, q8, q9, q10⟩ := h
  exact ⟨r1, r2, r3, r4, r5, r6, r7, r8, hL, r10, q1, q2, q3, q4, q5, q6, ⟨hL.2.1, hB⟩, q8, q9, q10⟩
theorem rm_lp {a0 a1 a2 a3 a4 a5 a6 a7 a8 a9 a10 a11 a12 s le gt ga es dl db lp : Nat → Int32} {Z : Nat → AE} {e : Nat} {b : Bool} (h : RM a0 a1 a2 a3 a4 a5 a6 a7 a8 a9 a10 a11 a12 s le gt ga es dl db lp Z) (he : e < 2) : RM a0 a1 a2 a3 a4 a5 a6 a7 a8 a9 a10 a11 a12 s le gt ga es dl db (upd lp e (nI b.toNat)) (up Z e (wLp (Z e) b)) := by
  obtain ⟨h1, h2, h3, h4, h5, h6, h7⟩ := (h e he).1
  refine RM.up h ⟨h1, h2, h3, h4, h5, h6, upd_eq⟩ (h e he).2 ?_
  intro o E ho hne q
  obtain ⟨q1, q2, q3, q4, q5, q6, q7⟩ := q
  exact ⟨q1, q2, q3, q4, q5, q6, by rw [upd_ne hne]; exact q7⟩
theorem datL_succ (i f : Nat) : datL (i + 1) f = datL i f ++ [(f + i) % 256] := by
  unfold datL
  rw [List.range_succ, List.map_append]
  rfl
theorem datL_len (i f : Nat) : (datL i f).length = i := by unfold datL; rw [List.length_map, List.length_range]
theorem datL_bt (i f : Nat) : Bt (datL i f) := by
  intro x hx
  unfold datL at hx
  obtain ⟨j, _, rfl⟩ := List.mem_map.mp hx
  exact Nat.mod_lt _ (by decide)
theorem snd_step (i f : Nat) : [2] ++ datL i f ++ [(f + i) % 2 ^ 8] = [2] ++ datL (i + 1) f := by rw [datL_succ, List.append_assoc]
theorem snd_len (i f : Nat) : ([2] ++ datL i f).length = i + 1 := by rw [List.length_append, datL_len]; show 1 + i = _; omega
theorem pow_le {G : List Nat} {ov : Bool} (h : ov = true → G.length = 40) (q : 40 ≤ G.length + ov.toNat) (hl : G.length ≤ 40) : G.length = 40 := by
  have := ge40 h q
  omega
theorem xmit_tm {E : AE} {P : List Nat} (t : TmE E) : TmE (xmit E P) := by
  intro q1 q2
  rw [xmit_st] at q1 q2
  rw [xmit_ti]
  exact t q1 q2
theorem tikP_at {Z : Nat → AE} {o : Nat} : ∀ e, e ≤ o → tikP Z e o = Z o := by
  intro e
  induction e with
  | zero => intro _; rfl
  | succ e ih => intro h; show up (tikP Z e) e _ o = _; rw [up_ne (by omega)]; exact ih (by omega)
theorem RA.ti {a0 a1 a2 a3 a4 a5 a6 a7 a8 a9 a10 a11 a12 : Nat → Int32} {e x : Nat} {E : AE} (h : RA a0 a1 a2 a3 a4 a5 a6 a7 a8 a9 a10 a11 a12 e E) (hx : x ≤ 3) : RA a0 a1 a2 a3 a4 a5 (upd a6 e (nI x)) a7 a8 a9 a10 a11 a12 e (wTi E x) := by
  obtain ⟨r1, r2, r3, r4, r5, r6, r7, r8, r9, r10, q1, q2, q3, q4, q5, q6⟩ := h
  exact ⟨r1, r2, r3, r4, r5, r6, upd_eq, r8, r9, r10, q1, q2, q3, q4, hx, q6⟩
theorem tik_no {E : AE} (h : ¬ (4 ≤ eSt E ∧ eSt E ≤ 8)) : tikE E = E ∧ (tikB E).toNat = 0 := by
  refine ⟨if_neg h, ?_⟩
  unfold tikB
  rw [decide_eq_false (fun q => h q.1)]; rfl
theorem tik_go {E : AE} (h : 4 ≤ eSt E ∧ eSt E ≤ 8) (k : ¬ eTi E - 1 = 0) : tikE E = tik0 E ∧ (tikB E).toNat = 0 := by
  refine ⟨by unfold tikE; rw [if_pos h, if_neg k], ?_⟩
  unfold tikB
  rw [decide_eq_false (fun q => k q.2)]; rfl
theorem tik_ov {E : AE} (h : 4 ≤ eSt E ∧ eSt E ≤ 8) (k : eTi E - 1 = 0) {v : Nat} (hv : (if 0 < eTr E then 4 else 5) = v) : tikE E = happenA 0 0 [] (tik0 E) v ∧ (tikB E).toNat = 1 := by
  refine ⟨by unfold tikE; rw [if_pos h, if_pos k, hv], ?_⟩
  unfold tikB
  rw [decide_eq_true ⟨h, k⟩]; rfl
theorem pasN_nil {Z : Nat → AE} {e r : Nat} (h : eB (Z e) = []) : ∀ n, pasN n Z e r = Z
  | 0 => rfl
  | _ + 1 => if_pos h
theorem pasN_go {Z : Nat → AE} {e r n : Nat} (h : ¬ eB (Z e) = []) (hn : 0 < n) : pasN n Z e r = pasN (n - 1) (pas1 Z e r) e r := by
  cases n with
  | zero => exact absurd hn (by decide)
  | succ n => exact if_neg h
theorem toE_lt {Z : Nat → AE} {e : Nat} (h : e < 2) : toE Z e < 2 := by
  unfold toE
  split <;> omega
