/-! the answer's code -/
def mxN (a b : Nat) : Nat := if a < b then b else a
theorem mx_o {G : List Nat} {le a k : Nat} {nu : Int32} (h : 2 ≤ a) : mxN a (oaN G le nu k) = maxO G le nu a k := by
  unfold mxN maxO oaN
  by_cases q : judgeN G le nu k = 0
  · rw [if_pos q, if_neg (by omega), if_neg (by omega)]
  · rw [if_neg q]
theorem oa_le {G : List Nat} {le k : Nat} {nu : Int32} : oaN G le nu k ≤ 4 := by
  have := judgeN_le G le nu k
  unfold oaN
  split <;> omega
