/-! the component's public calls: words -/
def exN (k : Nat) : String := if k = 1 then "java/lang/IndexOutOfBoundsException" else if k = 2 then "java/lang/IllegalArgumentException" else "java/lang/IllegalStateException"
theorem in_y {v lo hi : Int32} (h1 : ¬ v < lo) (h2 : ¬ hi < v) : inI v lo hi = true := decide_eq_true ⟨h1, h2⟩
theorem in_a {v lo hi : Int32} (h : v < lo) : inI v lo hi = false := decide_eq_false (fun q => q.1 h)
theorem in_b {v lo hi : Int32} (h : hi < v) : inI v lo hi = false := decide_eq_false (fun q => q.2 h)
theorem out_of {v : Int32} {a b : Nat} (ha : a < 2147483648) (hb : b < 2147483648) (h : inI v (nI a) (nI b) = false) : v.toInt < a ∨ (b : Int) < v.toInt := by
  have h1 := of_decide_eq_false h
  rw [Int32.lt_iff_toInt_lt, Int32.lt_iff_toInt_lt, nI_toInt ha, nI_toInt hb] at h1
  omega
theorem inN_y {v : Int32} {a b : Nat} (hv : v = nI (ix v)) (hl : ix v < 2147483648) (ha : a < 2147483648) (hb : b < 2147483648) (h : a ≤ ix v ∧ ix v ≤ b) : inI v (nI a) (nI b) = true := by
  have e := inI_nat (a := ix v) (b := a) (c := b) hl ha hb
  rw [← hv] at e
  rw [e]
  exact decide_eq_true h
theorem inN_n {v : Int32} {a b : Nat} (hv : v = nI (ix v)) (hl : ix v < 2147483648) (ha : a < 2147483648) (hb : b < 2147483648) (h : ¬ (a ≤ ix v ∧ ix v ≤ b)) : inI v (nI a) (nI b) = false := by
  have e := inI_nat (a := ix v) (b := a) (c := b) hl ha hb
  rw [← hv] at e
  rw [e]
  exact decide_eq_false h
theorem okE_no {w : Int32} (h0 : ¬ w = 0) (h1 : ¬ w = nI 1) : okE w = false := by
  cases e : okE w with
  | false => rfl
  | true =>
    obtain ⟨h2, h3⟩ := okE_of e
    exfalso
    rcases (show ix w = 0 ∨ ix w = 1 by omega) with q | q
    · rw [q] at h3; exact h0 h3
    · rw [q] at h3; exact h1 h3
theorem in1_y {i : Int32} {n : Nat} (hn : n ≤ 1000) (hi : i = nI (ix i)) (h : ix i < n) : inI i (nI 0) (nI n - nI 1) = true := by
  have e : nI n - nI 1 = nI (n - 1) := pk_sub (by omega)
  rw [e]
  exact inN_y hi (by omega) (by decide) (by omega) ⟨Nat.zero_le _, by omega⟩
theorem in1_n {i : Int32} {n : Nat} (hn : n ≤ 1000) (h : ¬ (¬ i < 0 ∧ ix i < n)) : inI i (nI 0) (nI n - nI 1) = false := by
  cases e : inI i (nI 0) (nI n - nI 1) with
  | false => rfl
  | true =>
    obtain ⟨h1, h2⟩ := in1_of hn e
    exfalso
    refine h ⟨fun q => ?_, h1⟩
    have h3 := of_decide_eq_true e
    exact h3.1 q
theorem by_y {Z : Nat → AE} {w i : Int32} {u : Nat} (hok : okE w = true) (hiw : ix w = u) (hn : (eB (Z u)).length ≤ 300) (hi : i = nI (ix i)) (h : ix i < (eB (Z u)).length) : byI Z w i = true := by
  unfold byI
  rw [hok, hiw, in1_y (by omega) hi h]
  rfl
theorem by_n {Z : Nat → AE} {w i : Int32} {u : Nat} (hiw : ix w = u) (hn : (eB (Z u)).length ≤ 300) (h : ¬ (¬ i < 0 ∧ ix i < (eB (Z u)).length)) : byI Z w i = false := by
  unfold byI
  rw [hiw, in1_n (by omega) h, Bool.and_false]
theorem by_0 {Z : Nat → AE} {w i : Int32} (h : okE w = false) : byI Z w i = false := by unfold byI; rw [h]; rfl
theorem losK_le {Z : Nat → AE} {w n : Int32} {u : Nat} (hiw : ix w = u) : losK Z w n ≤ (eB (Z u)).length := by
  unfold losK
  rw [hiw]
  split <;> omega
theorem dat_lt {i : Int32} {n : Nat} (hn : n = 0 ∨ 5 ≤ n) (h40 : n ≤ 40) (hi : i = nI (ix i)) (hl : ix i < 2147483648) : i < nI n - nI 2 - nI 1 ↔ ix i < n - 3 := by
  rcases hn with h | h
  · subst h
    constructor
    · intro q
      rw [hi, Int32.lt_iff_toInt_lt, nI_toInt hl] at q
      have : (nI 0 - nI 2 - nI 1).toInt = -3 := by decide
      omega
    · intro q; omega
  · have e1 : nI n - nI 2 = nI (n - 2) := pk_sub (by omega)
    have e2 : nI (n - 2) - nI 1 = nI (n - 2 - 1) := pk_sub (by omega)
    rw [e1, e2]
    constructor
    · intro q
      rw [hi] at q
      have := (nI_ltI hl (by omega)).mp q
      omega
    · intro q
      rw [hi]
      exact (nI_ltI hl (by omega)).mpr (by omega)
theorem xmit_id (E : AE) (P : List Nat) : eId (xmit E P) = eId E := by rw [xmit_eq]
theorem set_same {L : List Nat} {i : Nat} : L.set i (L.getD i 0 ^^^ 0) = L := by
  rw [Nat.xor_zero]
  apply List.ext_getElem?
  intro j
  by_cases e : i = j
  · subst e
    by_cases h : i < L.length
    · rw [List.getElem?_set_self h]; simp [h]
    · rw [List.getElem?_eq_none (by rw [List.length_set]; omega), List.getElem?_eq_none (by omega)]
  · rw [List.getElem?_set_ne e]
section CXs5
variable {fr fr' : Nat} {fB fG fK fQ fC fB' : Nat → Int32} {E : AE}
theorem CX.ln {B : List Nat} (h : CX fr fB fG fK fQ fC E) (hR : Rg fr' fB' B) (hB : Bt B) : CX fr' fB' fG fK fQ fC (wB E B) := by
  obtain ⟨⟨q1, q2, q3, q4, q5, q6, q7, q8, q9, q10⟩, h2, h3⟩ := h
  exact ⟨⟨q1, q2, q3, q4, q5, q6, ⟨hR.2.1, hB⟩, q8, q9, q10⟩, hR, h3⟩
theorem CX.sets {a b : Nat} {n : Int32} (h : CX fr fB fG fK fQ fC E) (ha : 64 ≤ a ∧ a ≤ 1500) (hb : 64 ≤ b ∧ b ≤ 1500) : CX fr fB fG fK fQ fC (wNu (wLe (wSz E a) b) n) := by
  obtain ⟨⟨q1, q2, q3, q4, q5, q6, q7, q8, q9, q10⟩, h2, h3⟩ := h
  exact ⟨⟨ha, hb, q3, q4, q5, q6, q7, q8, q9, q10⟩, h2, h3⟩
theorem CX.lp {b : Bool} (h : CX fr fB fG fK fQ fC E) : CX fr fB fG fK fQ fC (wLp E b) := h
theorem CX.rb {fB2 : Nat → Int32} (h : CX fr fB fG fK fQ fC E) (hR : Rg fr fB2 (eB E)) : CX fr fB2 fG fK fQ fC E := ⟨h.1, hR, h.2.2⟩
end CXs5
def exE (k : Nat) : String := if k = 1 then "java/lang/IndexOutOfBoundsException" else "java/lang/IllegalStateException"
