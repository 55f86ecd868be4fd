/-! the component's judgement of an option: 2, 3 or 4 -/
def oaN (G : List Nat) (le : Nat) (nu : Int32) (k : Nat) : Nat := if judgeN G le nu k = 0 then 2 else judgeN G le nu k
theorem oa_of {G : List Nat} {le k j : Nat} {nu : Int32} (h : judgeN G le nu k = j) : oaN G le nu k = if j = 0 then 2 else j := by unfold oaN; rw [h]
section OA
variable {G : List Nat} {le k : Nat} {nu : Int32}
theorem j_1y (h : G.getD k 0 = 1) (q : G.getD (k + 1) 0 * 256 + G.getD (k + 2) 0 < le) : judgeN G le nu k = 3 := by unfold judgeN; rw [if_pos h, if_pos q]
theorem j_1n (h : G.getD k 0 = 1) (q : ¬ G.getD (k + 1) 0 * 256 + G.getD (k + 2) 0 < le) : judgeN G le nu k = 0 := by unfold judgeN; rw [if_pos h, if_neg q]
theorem j_5y (h : G.getD k 0 = 5) (q : n4 G (k + 1) = 0 ∨ n4 G (k + 1) = nu) : judgeN G le nu k = 3 := by unfold judgeN; rw [if_neg (by omega), if_pos h, if_pos q]
theorem j_5n (h : G.getD k 0 = 5) (q : ¬ (n4 G (k + 1) = 0 ∨ n4 G (k + 1) = nu)) : judgeN G le nu k = 0 := by unfold judgeN; rw [if_neg (by omega), if_pos h, if_neg q]
theorem j_x (h : ¬ G.getD k 0 = 1) (q : ¬ G.getD k 0 = 5) : judgeN G le nu k = 4 := by unfold judgeN; rw [if_neg h, if_neg q]
end OA
