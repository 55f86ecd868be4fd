/-! what the component learns of a packet -/
def susC (E : AE) (w : Int32) : Nat → Int32 := if w = eNu E ∧ ¬ w = 0 then upd (eCf E) 3 (eCf E 3 + nI 1) else eCf E
def lszE (E : AE) (c t : Nat) : AE := if c = 3 ∧ 64 ≤ t ∧ t ≤ 1500 then wSz E t else if c = 4 then wAS E false else E
def lnuE (E : AE) (c : Nat) (w : Int32) : AE := if c = 1 then wCf E (susC E w) else if c = 3 then wNu E w else if c = 4 then wAN E false else E
def lrnO (c : Nat) (G : List Nat) (E : AE) (k : Nat) : AE := if G.getD k 0 = 1 then lszE E c (G.getD (k + 1) 0 * 256 + G.getD (k + 2) 0) else if G.getD k 0 = 5 then lnuE E c (n4 G (k + 1)) else E
section LR
variable {E : AE} {c t k : Nat} {w : Int32} {G : List Nat}
theorem ls_y (h : c = 3) (h2 : 64 ≤ t ∧ t ≤ 1500) : lszE E c t = wSz E t := if_pos ⟨h, h2⟩
theorem ls_r (h : c = 4) : lszE E c t = wAS E false := by unfold lszE; rw [if_neg (by omega), if_pos h]
theorem ls_n (h : ¬ (c = 3 ∧ 64 ≤ t ∧ t ≤ 1500)) (h4 : ¬ c = 4) : lszE E c t = E := by unfold lszE; rw [if_neg h, if_neg h4]
theorem ln_1 (h : c = 1) : lnuE E c w = wCf E (susC E w) := if_pos h
theorem ln_3 (h : c = 3) : lnuE E c w = wNu E w := by unfold lnuE; rw [if_neg (by omega), if_pos h]
theorem ln_4 (h : c = 4) : lnuE E c w = wAN E false := by unfold lnuE; rw [if_neg (by omega), if_neg (by omega), if_pos h]
theorem ln_n (h1 : ¬ c = 1) (h3 : ¬ c = 3) (h4 : ¬ c = 4) : lnuE E c w = E := by unfold lnuE; rw [if_neg h1, if_neg h3, if_neg h4]
theorem lr_1 (h : G.getD k 0 = 1) : lrnO c G E k = lszE E c (G.getD (k + 1) 0 * 256 + G.getD (k + 2) 0) := if_pos h
theorem lr_5 (h : G.getD k 0 = 5) : lrnO c G E k = lnuE E c (n4 G (k + 1)) := by unfold lrnO; rw [if_neg (by omega), if_pos h]
theorem lr_n (h1 : ¬ G.getD k 0 = 1) (h5 : ¬ G.getD k 0 = 5) : lrnO c G E k = E := by unfold lrnO; rw [if_neg h1, if_neg h5]
end LR
