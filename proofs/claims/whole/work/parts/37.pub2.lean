/-! both ends: the public calls -/
theorem ctlA_tm {E : AE} (h : InvE E) (t : TmE E) : TmE (ctlA E) := by
  have hc := chF_ok (G := eG E) (show InvE (tal E 0) from h)
  have ht : TmE (chF (eG E) (tal E 0)) := by
    intro q1 q2
    rw [hc.2.2.2.2.2.2.2.1] at q1 q2
    rw [hc.2.2.2.1]
    exact t q1 q2
  unfold ctlA
  split
  · exact t
  split
  · refine happenA_tm (E := wCf (tal E 0) (suspF (eG E) (eNu E) (eCf (tal E 0)))) ?_ h (Or.inl t)
    split <;> decide
  split
  · exact happenA_tm (E := tal E 0) (by decide) h (Or.inl t)
  split
  · exact happenA_tm (by decide) hc.1 (Or.inl ht)
  split
  · exact happenA_tm (E := tal E 0) (by decide) h (Or.inl t)
  split
  · exact happenA_tm (E := tal E 0) (by decide) h (Or.inl t)
  split
  · refine happenA_tm (E := tal E 0) ?_ h (Or.inl t)
    split <;> decide
  split
  · split
    · exact happenA_tm (E := tal (tal E 0) 3) (by decide) h (Or.inl t)
    · exact happenA_tm (E := tal E 0) (by decide) h (Or.inl t)
  split
  · exact t
  · exact happenA_tm (E := tal E 0) (by decide) h (Or.inl t)
theorem dataA_tm {E : AE} (t : TmE E) : TmE (dataA E) := by
  unfold dataA
  split <;> exact t
theorem frameA_tm {E : AE} (h : InvE E) (t : TmE E) : TmE (frameA E) := by
  unfold frameA
  split
  · exact t
  split
  · exact dataA_tm t
  split
  · split
    · exact t
    · exact ctlA_tm h t
  · exact t
theorem recvA_tm {E : AE} {b : Nat} (h : InvE E) (t : TmE E) : TmE (recvA E b) := by
  unfold recvA
  split
  · exact frameA_tm h t
  · exact t
theorem frameA_lp {E : AE} (h : InvE E) : eLp (frameA E) = eLp E := by
  unfold frameA
  split
  · rfl
  split
  · exact (data_le (E := E)).2
  split
  · split
    · rfl
    · exact (ctlA_k h).2.2.1
  · rfl
theorem recvA_lp {E : AE} {b : Nat} (h : InvE E) : eLp (recvA E b) = eLp E := by
  unfold recvA
  split
  · exact frameA_lp h
  · rfl
section RMs
variable {a0 a1 a2 a3 a4 a5 a6 a7 a8 a9 a10 a11 a12 s le gt ga es dl db lp b0 b1 b2 b3 b4 b5 b6 b7 b8 b9 b10 b11 b12 s' : Nat → Int32} {Z : Nat → AE} {e : Nat} {X : AE}
theorem rm_ra (h : RM a0 a1 a2 a3 a4 a5 a6 a7 a8 a9 a10 a11 a12 s le gt ga es dl db lp Z) (he : e < 2) (hRA : RA b0 b1 b2 b3 b4 b5 b6 b7 b8 b9 b10 b11 b12 e X) (hf : RAF a0 a1 a2 a3 a4 a5 a6 a7 a8 a9 a10 a11 a12 b0 b1 b2 b3 b4 b5 b6 b7 b8 b9 b10 b11 b12 e) (hs : s' e = nI (eSt X)) (ho : ∀ o, o ≠ e → s' o = s o) (hk : kSame (Z e) X) (ht : TmE X) : RM b0 b1 b2 b3 b4 b5 b6 b7 b8 b9 b10 b11 b12 s' le gt ga es dl db lp (up Z e X) := by
  obtain ⟨h1, h2, h3, h4, h5, h6, h7⟩ := (h e he).1
  obtain ⟨k1, k2, k3, k4, k5, k6⟩ := hk
  refine RM.up h ⟨hRA, hs, by rw [k1]; exact h3, by rw [k4, k6]; exact h4, by rw [k5]; exact h5, by rw [k2]; exact h6, by rw [k3]; exact h7⟩ ht (RTF.of hf ho (fun _ _ => rfl) (fun _ _ => rfl) DtO.refl)
end RMs
def byI (Z : Nat → AE) (w i : Int32) : Bool := okE w && inI i (nI 0) (nI ((eB (Z (ix w))).length) - nI 1)
def putT (Z : Nat → AE) (w x : Int32) : Nat := if okE w = true then (if inI x (nI 0) (nI 255) = true then (if (eB (Z (ix w))).length = 300 then 3 else 0) else 2) else 1
def putZ (Z : Nat → AE) (w x : Int32) : Nat → AE := if putT Z w x = 0 then up Z (ix w) (wB (Z (ix w)) (eB (Z (ix w)) ++ [ix x])) else Z
def putR (Z : Nat → AE) (w x : Int32) : Int32 := if putT Z w x = 0 then nI ((eB (Z (ix w))).length + 1) else nI 0
def dmgT (Z : Nat → AE) (w i m : Int32) : Nat := if byI Z w i = true then (if inI m (nI 0) (nI 255) = true then 0 else 2) else 1
def dmgZ (Z : Nat → AE) (w i m : Int32) : Nat → AE := if dmgT Z w i m = 0 then up Z (ix w) (wB (Z (ix w)) ((eB (Z (ix w))).set (ix i) ((eB (Z (ix w))).getD (ix i) 0 ^^^ ix m))) else Z
def dmgR (Z : Nat → AE) (w i m : Int32) : Int32 := if dmgT Z w i m = 0 then nI ((eB (Z (ix w))).getD (ix i) 0) else nI 0
def losT (w n : Int32) : Nat := if okE w = true then (if n < 0 then 2 else 0) else 1
def losK (Z : Nat → AE) (w n : Int32) : Nat := if ix n < (eB (Z (ix w))).length then ix n else (eB (Z (ix w))).length
def losZ (Z : Nat → AE) (w n : Int32) : Nat → AE := if losT w n = 0 then up Z (ix w) (wB (Z (ix w)) ((eB (Z (ix w))).drop (losK Z w n))) else Z
def losR (Z : Nat → AE) (w n : Int32) : Int32 := if losT w n = 0 then nI (losK Z w n) else nI 0
def oneT (w : Int32) : Nat := if okE w = true then 0 else 1
def lopZ (Z : Nat → AE) (w : Int32) (b : Bool) : Nat → AE := if oneT w = 0 then up Z (ix w) (wLp (Z (ix w)) b) else Z
def lopR (Z : Nat → AE) (w : Int32) : Int32 := if oneT w = 0 then nI (eLp (Z (ix w))).toNat else nI 0
def datL (n f : Nat) : List Nat := (List.range n).map (fun i => (f + i) % 256)
def sndT (Z : Nat → AE) (w n f : Int32) : Nat := if okE w = true then (if inI n (nI 2) (nI 20) = true ∧ inI f (nI 0) (nI 255) = true then (if eSt (Z (ix w)) = 9 then 0 else 3) else 2) else 1
def sndX (Z : Nat → AE) (w n f : Int32) : AE := xmit (Z (ix w)) (2 :: datL (ix n) (ix f))
def sndZ (Z : Nat → AE) (w n f : Int32) : Nat → AE := if sndT Z w n f = 0 then up Z (ix w) (sndX Z w n f) else Z
def sndR (Z : Nat → AE) (w n f : Int32) : Int32 := if sndT Z w n f = 0 then nI ((eB (sndX Z w n f)).length) else nI 0
def echT (Z : Nat → AE) (w : Int32) : Nat := if okE w = true then (if eSt (Z (ix w)) = 9 then 0 else 2) else 1
def echX (Z : Nat → AE) (w : Int32) : AE := xmit (nextI (Z (ix w))) ([1, 9, (eId (Z (ix w)) + 1) % 256] ++ nbs (eNu (Z (ix w))))
def echZ (Z : Nat → AE) (w : Int32) : Nat → AE := if echT Z w = 0 then up Z (ix w) (echX Z w) else Z
def echR (Z : Nat → AE) (w : Int32) : Int32 := if echT Z w = 0 then nI ((eId (Z (ix w)) + 1) % 256) else nI 0
def datR (Z : Nat → AE) (w i : Int32) : Int32 := if oneT w = 0 then (if inI i (nI 0) (nI ((eKl (Z (ix w))).length - 3) - nI 1) = true then nI ((eKl (Z (ix w))).getD (1 + ix i) 0) else -1) else nI 0
def lokT (Z : Nat → AE) (w i : Int32) : Nat := if byI Z w i = true then 0 else 1
def lokR (Z : Nat → AE) (w i : Int32) : Int32 := if lokT Z w i = 0 then nI ((eB (Z (ix w))).getD (ix i) 0) else nI 0
def abtT (w k : Int32) : Nat := if okE w = true then (if inI k (nI 0) (nI 8) = true then 0 else 2) else 1
def ask2 (E : AE) : Nat := (eAS E).toNat + 2 * (eAN E).toNat
def abtE (E : AE) (k : Nat) : Int32 := if k = 0 then nI (eSt E) else if k = 1 then nI (eSz E) else if k = 2 then eNu E else if k = 3 then nI (eId E) else if k = 4 then eTr E else if k = 5 then nI (eTi E) else if k = 6 then nI (ask2 E) else if k = 7 then nI (eB E).length else nI (eG E).length
def abtR (Z : Nat → AE) (w k : Int32) : Int32 := if abtT w k = 0 then abtE (Z (ix w)) (ix k) else nI 0
def cntT (w k : Int32) : Nat := if okE w = true then (if inI k (nI 0) (nI 5) = true then 0 else 2) else 1
def cntR (Z : Nat → AE) (w k : Int32) : Int32 := if cntT w k = 0 then eCf (Z (ix w)) (ix k) else nI 0
def pasT (w n : Int32) : Nat := if okE w = true then (if inI n (nI 1) (nI 300) = true then 0 else 2) else 1
def toE (Z : Nat → AE) (e : Nat) : Nat := if eLp (Z e) = true then e else 1 - e
def pas0 (Z : Nat → AE) (e : Nat) : Nat → AE := up Z e (wB (Z e) ((eB (Z e)).drop 1))
def pas1 (Z : Nat → AE) (e r : Nat) : Nat → AE := up (pas0 Z e) r (recvA (pas0 Z e r) ((eB (Z e)).getD 0 0))
def pasN : Nat → (Nat → AE) → Nat → Nat → Nat → AE
  | 0, Z, _, _ => Z
  | n + 1, Z, e, r => if eB (Z e) = [] then Z else pasN n (pas1 Z e r) e r
def pasZ (Z : Nat → AE) (w n : Int32) : Nat → AE := if pasT w n = 0 then pasN (ix n) Z (ix w) (toE Z (ix w)) else Z
def pasR (Z : Nat → AE) (w n : Int32) : Int32 := if pasT w n = 0 then eCf (pasN (ix n) Z (ix w) (toE Z (ix w)) (toE Z (ix w))) 0 - eCf (Z (toE Z (ix w))) 0 else nI 0
def tikT (n : Int32) : Nat := if inI n (nI 1) (nI 20) = true then 0 else 1
def tik0 (E : AE) : AE := wTi E (eTi E - 1)
def tikB (E : AE) : Bool := decide ((4 ≤ eSt E ∧ eSt E ≤ 8) ∧ eTi E - 1 = 0)
def tikE (E : AE) : AE := if 4 ≤ eSt E ∧ eSt E ≤ 8 then (if eTi E - 1 = 0 then happenA 0 0 [] (tik0 E) (if 0 < eTr E then 4 else 5) else tik0 E) else E
def tikP (Z : Nat → AE) : Nat → Nat → AE
  | 0 => Z
  | e + 1 => up (tikP Z e) e (tikE (Z e))
def tikD (Z : Nat → AE) : Nat → Nat
  | 0 => 0
  | e + 1 => tikD Z e + (tikB (Z e)).toNat
def tik2 (Z : Nat → AE) : Nat → AE := tikP Z 2
def tikC (Z : Nat → AE) : Nat := tikD Z 2
def tikN : Nat → (Nat → AE) → Nat → AE
  | 0, Z => Z
  | n + 1, Z => tik2 (tikN n Z)
def tikS : Nat → (Nat → AE) → Nat
  | 0, _ => 0
  | n + 1, Z => tikS n Z + tikC (tikN n Z)
def tikZ (Z : Nat → AE) (n : Int32) : Nat → AE := if tikT n = 0 then tikN (ix n) Z else Z
def tikR (Z : Nat → AE) (n : Int32) : Int32 := if tikT n = 0 then nI (tikS (ix n) Z) else nI 0
