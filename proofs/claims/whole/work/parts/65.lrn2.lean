/-! what a packet teaches, whether it is right, and its event -/
def lrnA (G : List Nat) (E : AE) : AE := if G.getD 0 0 = 1 then (if G.getD 1 0 = 9 then wCf E (susC E (n4 G 3)) else if 1 ≤ G.getD 1 0 ∧ G.getD 1 0 ≤ 4 then foldO (lrnO (G.getD 1 0) G) G (G.length - 2) 3 E else E) else E
section LA
variable {G M : List Nat} {E : AE} {st le : Nat} {nu : Int32}
theorem la_d (h : ¬ G.getD 0 0 = 1) : lrnA G E = E := if_neg h
theorem la_9 (h0 : G.getD 0 0 = 1) (h : G.getD 1 0 = 9) : lrnA G E = wCf E (susC E (n4 G 3)) := by unfold lrnA; rw [if_pos h0, if_pos h]
theorem la_o (h0 : G.getD 0 0 = 1) (h : 1 ≤ G.getD 1 0 ∧ G.getD 1 0 ≤ 4) : lrnA G E = foldO (lrnO (G.getD 1 0) G) G (G.length - 2) 3 E := by unfold lrnA; rw [if_pos h0, if_neg (by omega), if_pos h]
theorem la_n (h9 : ¬ G.getD 1 0 = 9) (h : ¬ (1 ≤ G.getD 1 0 ∧ G.getD 1 0 ≤ 4)) : lrnA G E = E := by
  unfold lrnA
  by_cases q : G.getD 0 0 = 1
  · rw [if_pos q, if_neg h9, if_neg h]
  · rw [if_neg q]
def rgtA (st : Nat) (G M : List Nat) : Bool := if st < 2 then true else if G.getD 0 0 = 1 ∧ 2 ≤ G.getD 1 0 ∧ G.getD 1 0 ≤ 4 then rightG G M else true
theorem ri_s (h : st < 2) : rgtA st G M = true := if_pos h
theorem ri_2 (h : ¬ st < 2) (h0 : G.getD 0 0 = 1) (h2 : G.getD 1 0 = 2) : rgtA st G M = sameP G M := by unfold rgtA; rw [if_neg h, if_pos ⟨h0, by omega, by omega⟩]; unfold rightG; rw [if_pos h2]
theorem ri_34 (h : ¬ st < 2) (h0 : G.getD 0 0 = 1) (hc : G.getD 1 0 = 3 ∨ G.getD 1 0 = 4) : rgtA st G M = decide (¬ M = [] ∧ G.getD 2 0 = M.getD 2 0) := by unfold rgtA; rw [if_neg h, if_pos ⟨h0, by omega, by omega⟩]; unfold rightG; rw [if_neg (by omega)]
theorem ri_n (h : ¬ (G.getD 0 0 = 1 ∧ 2 ≤ G.getD 1 0 ∧ G.getD 1 0 ≤ 4)) : rgtA st G M = true := by
  unfold rgtA
  by_cases q : st < 2
  · rw [if_pos q]
  · rw [if_neg q, if_neg h]
def evP (G : List Nat) (le : Nat) (nu : Int32) : Nat :=
  if G.getD 0 0 = 1 then (if G.getD 1 0 = 1 then (if ansCode G le nu = 2 then 6 else 7) else if G.getD 1 0 = 2 then 8 else if G.getD 1 0 = 3 ∨ G.getD 1 0 = 4 then 9 else if G.getD 1 0 = 5 then 10 else if G.getD 1 0 = 6 then 11
    else if G.getD 1 0 = 7 then (if 1 ≤ G.getD 3 0 ∧ G.getD 3 0 ≤ 6 then 13 else 14) else if G.getD 1 0 = 9 then 15 else if G.getD 1 0 = 10 then 16 else 12) else 17
theorem ep_d (h : ¬ G.getD 0 0 = 1) : evP G le nu = 17 := if_neg h
theorem ep_1y (h0 : G.getD 0 0 = 1) (h : G.getD 1 0 = 1) (k : ansCode G le nu = 2) : evP G le nu = 6 := by unfold evP; rw [if_pos h0, if_pos h, if_pos k]
theorem ep_1n (h0 : G.getD 0 0 = 1) (h : G.getD 1 0 = 1) (k : ¬ ansCode G le nu = 2) : evP G le nu = 7 := by unfold evP; rw [if_pos h0, if_pos h, if_neg k]
theorem ep_2 (h0 : G.getD 0 0 = 1) (h : G.getD 1 0 = 2) : evP G le nu = 8 := by unfold evP; rw [if_pos h0, if_neg (by omega), if_pos h]
theorem ep_34 (h0 : G.getD 0 0 = 1) (h : G.getD 1 0 = 3 ∨ G.getD 1 0 = 4) : evP G le nu = 9 := by unfold evP; rw [if_pos h0, if_neg (by omega), if_neg (by omega), if_pos h]
theorem ep_5 (h0 : G.getD 0 0 = 1) (h : G.getD 1 0 = 5) : evP G le nu = 10 := by unfold evP; rw [if_pos h0, if_neg (by omega), if_neg (by omega), if_neg (by omega), if_pos h]
theorem ep_6 (h0 : G.getD 0 0 = 1) (h : G.getD 1 0 = 6) : evP G le nu = 11 := by unfold evP; rw [if_pos h0, if_neg (by omega), if_neg (by omega), if_neg (by omega), if_neg (by omega), if_pos h]
theorem ep_7y (h0 : G.getD 0 0 = 1) (h : G.getD 1 0 = 7) (k : 1 ≤ G.getD 3 0 ∧ G.getD 3 0 ≤ 6) : evP G le nu = 13 := by unfold evP; rw [if_pos h0, if_neg (by omega), if_neg (by omega), if_neg (by omega), if_neg (by omega), if_neg (by omega), if_pos h, if_pos k]
theorem ep_7n (h0 : G.getD 0 0 = 1) (h : G.getD 1 0 = 7) (k : ¬ (1 ≤ G.getD 3 0 ∧ G.getD 3 0 ≤ 6)) : evP G le nu = 14 := by unfold evP; rw [if_pos h0, if_neg (by omega), if_neg (by omega), if_neg (by omega), if_neg (by omega), if_neg (by omega), if_pos h, if_neg k]
theorem ep_9 (h0 : G.getD 0 0 = 1) (h : G.getD 1 0 = 9) : evP G le nu = 15 := by unfold evP; rw [if_pos h0, if_neg (by omega), if_neg (by omega), if_neg (by omega), if_neg (by omega), if_neg (by omega), if_neg (by omega), if_pos h]
theorem ep_10 (h0 : G.getD 0 0 = 1) (h : G.getD 1 0 = 10) : evP G le nu = 16 := by unfold evP; rw [if_pos h0, if_neg (by omega), if_neg (by omega), if_neg (by omega), if_neg (by omega), if_neg (by omega), if_neg (by omega), if_neg (by omega), if_pos h]
theorem ep_x (h0 : G.getD 0 0 = 1) (h : G.getD 1 0 = 0 ∨ G.getD 1 0 = 8 ∨ 10 < G.getD 1 0) : evP G le nu = 12 := by unfold evP; rw [if_pos h0, if_neg (by omega), if_neg (by omega), if_neg (by omega), if_neg (by omega), if_neg (by omega), if_neg (by omega), if_neg (by omega), if_neg (by omega)]
theorem ansL_ok (hB : Bt G) (hl : G.length ≤ 40) (hle : le < 65536) (h5 : 5 ≤ G.length) (hwh : wholeW G (G.length - 2) 3 = true) : (ansL G le nu).length + 2 ≤ 40 ∧ 3 ≤ (ansL G le nu).length ∧ Bt (ansL G le nu) := by
  obtain ⟨h1, h2⟩ := ansOpt_ok (nu := nu) (code := ansCode G le nu) hB hl hle h5 hwh
  have h3 := ansCode_b (G := G) (le := le) (nu := nu)
  refine ⟨?_, ?_, (bt3 (by decide) (by omega) (hB.get 2)).app h2⟩
  · unfold ansL; rw [List.length_append]; show 3 + _ + 2 ≤ 40; omega
  · unfold ansL; rw [List.length_append]; show 3 ≤ 3 + _; omega
theorem ansL_code : codeL (ansL G le nu) = nI (ansCode G le nu) := by
  unfold codeL ansL
  rfl
end LA
