/-! pass and tick: words -/
theorem ad_sub (a b : Int32) : a + b - a = b := by
  rw [Int32.add_comm, Int32.add_sub_cancel]
theorem ad_zero (a : Int32) : a = a + nI 0 := (Int32.add_zero a).symm
theorem nI_add1 (a : Int32) (k n : Nat) : a + nI k + nI n = a + nI (k + n) := by rw [Int32.add_assoc, nI_add]
theorem okE_nI {k : Nat} (h : k ≤ 1) : okE (nI k) = true := by
  unfold okE
  rw [inI_nat (by omega) (by decide) (by decide)]
  exact decide_eq_true ⟨Nat.zero_le _, h⟩
def gatA (E : AE) (b : Nat) : AE := wOv (wEs (wG E (rcv (eG E, eEs E, eOv E) b).1) (rcv (eG E, eEs E, eOv E) b).2.1) (rcv (eG E, eEs E, eOv E) b).2.2
theorem recvA_g {E : AE} {b : Nat} (h : ¬ b = 126) : recvA E b = gatA E b := if_neg h
theorem rcv_ok {z : GS} {b : Nat} (h1 : z.1.length ≤ 40) (h2 : Bt z.1) (h3 : z.2.2 = true → z.1.length = 40) (hb : b < 256) : (rcv z b).1.length ≤ 40 ∧ Bt (rcv z b).1 ∧ ((rcv z b).2.2 = true → (rcv z b).1.length = 40) := by
  unfold rcv
  have hx : b ^^^ 32 < 256 := Nat.xor_lt_two_pow (n := 8) hb (by decide)
  by_cases q : b = 125 ∧ z.2.1 = false
  · rw [if_pos q]; exact ⟨h1, h2, h3⟩
  · rw [if_neg q]
    by_cases r : 40 ≤ z.1.length
    · rw [if_pos r]; exact ⟨h1, h2, fun _ => by show z.1.length = 40; omega⟩
    · rw [if_neg r]
      refine ⟨?_, h2.app (Bt.one ?_), fun q => ?_⟩
      · show (z.1 ++ [_]).length ≤ 40
        rw [List.length_append, List.length_singleton]; omega
      · split <;> assumption
      · exfalso; have := h3 q; omega
theorem CX.gat {fr : Nat} {fB fG fK fQ fC fG2 : Nat → Int32} {E : AE} {b : Nat} (h : CX fr fB fG fK fQ fC E) (hb : b < 256) (hf : Hd fG2 (rcv (eG E, eEs E, eOv E) b).1) : CX fr fB fG2 fK fQ fC (gatA E b) := by
  obtain ⟨⟨q1, q2, q3, q4, q5, q6, q7, q8, q9, q10⟩, h2, h3, h4⟩ := h
  obtain ⟨r1, r2, r3⟩ := rcv_ok (z := (eG E, eEs E, eOv E)) (b := b) q9.1 q9.2.1 q9.2.2 hb
  exact ⟨⟨q1, q2, q3, q4, q5, q6, q7, q8, ⟨r1, r2, r3⟩, q10⟩, h2, hf, h4⟩
theorem CX.d1 {fr : Nat} {fB fG fK fQ fC : Nat → Int32} {E : AE} (h : CX fr fB fG fK fQ fC E) (hR : Rg ((fr + 1) % 300) fB ((eB E).drop 1)) : CX ((fr + 1) % 300) fB fG fK fQ fC (wB E ((eB E).drop 1)) := h.ln hR (h.1.2.2.2.2.2.2.1.2.drp 1)
section PS
variable {Z Zt : Nat → AE} {e r n i : Nat} {E X : AE}
theorem pas1_r (hne : r ≠ e) (he : Zt r = E) (hX : recvA E ((eB (Zt e)).getD 0 0) = X) : pas1 Zt e r r = X := by
  unfold pas1 pas0
  rw [up_eq, up_ne hne, he, hX]
theorem pas1_e (hne : r ≠ e) (he : Zt e = E) : pas1 Zt e r e = wB E ((eB E).drop 1) := by
  unfold pas1 pas0
  rw [up_ne (fun q => hne q.symm), up_eq, he]
theorem pas1_l (he : Zt e = E) (hX : recvA (wB E ((eB E).drop 1)) ((eB E).getD 0 0) = X) : pas1 Zt e e e = X := by
  unfold pas1 pas0
  rw [up_eq, up_eq, he, hX]
theorem pas_st (h : pasN n Z e r = pasN (n - i) Zt e r) (hn : ¬ eB (Zt e) = []) (hi : i < n) : pasN n Z e r = pasN (n - (i + 1)) (pas1 Zt e r) e r := by
  rw [h, pasN_go hn (by omega)]
  congr 1
theorem pas_fin (h : pasN n Z e r = pasN (n - i) Zt e r) (hf : n ≤ i ∨ eB (Zt e) = []) : pasN n Z e r = Zt := by
  rcases hf with q | q
  · rw [h, show n - i = 0 by omega]; rfl
  · rw [h]; exact pasN_nil q _
end PS
theorem tikE_tm {E : AE} (h : InvE E) (t : TmE E) : TmE (tikE E) := by
  unfold tikE
  by_cases q : 4 ≤ eSt E ∧ eSt E ≤ 8
  · rw [if_pos q]
    have t1 := t q.1 q.2
    by_cases k : eTi E - 1 = 0
    · rw [if_pos k]
      obtain ⟨q1, q2, q3, q4, q5, q6⟩ := h
      refine happenA_tm (E := tik0 E) ?_ ⟨q1, q2, q3, q4, Nat.le_trans (Nat.sub_le _ _) q5, q6⟩ (Or.inr ?_)
      · split <;> decide
      · split
        · exact Or.inl rfl
        · exact Or.inr rfl
    · rw [if_neg k]
      intro _ _
      show 1 ≤ eTi E - 1
      omega
  · rw [if_neg q]; exact t
theorem tikN_0 {Z : Nat → AE} {i : Nat} {E : AE} (h : tikN i Z 0 = E) : tikN (i + 1) Z 0 = tikE E := by
  show tikP (tikN i Z) 2 0 = _
  show up (up (tikN i Z) 0 (tikE (tikN i Z 0))) 1 (tikE (tikN i Z 1)) 0 = _
  rw [up_ne (by decide), up_eq, h]
theorem tikN_1 {Z : Nat → AE} {i : Nat} {E : AE} (h : tikN i Z 1 = E) : tikN (i + 1) Z 1 = tikE E := by
  show up (up (tikN i Z) 0 (tikE (tikN i Z 0))) 1 (tikE (tikN i Z 1)) 1 = _
  rw [up_eq, h]
theorem tikS_s {Z : Nat → AE} {i : Nat} {E F : AE} (h0 : tikN i Z 0 = E) (h1 : tikN i Z 1 = F) : tikS (i + 1) Z = tikS i Z + ((tikB E).toNat + (tikB F).toNat) := by
  show tikS i Z + (0 + (tikB (tikN i Z 0)).toNat + (tikB (tikN i Z 1)).toNat) = _
  rw [h0, h1]
  omega
