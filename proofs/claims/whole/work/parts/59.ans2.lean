/-! what the component lays for an option -/
def oaL (c : Nat) (G : List Nat) (le : Nat) (nu : Int32) (k : Nat) : List Nat := if c = 3 then (if G.getD k 0 = 1 then [1, le / 256, le % 256] else 5 :: nbs (nu * nI 1103515245 + nI 12345)) else (G.drop k).take (optLen (G.getD k 0))
section OL
variable {G : List Nat} {c le k : Nat} {nu : Int32}
theorem ol_1 (h : c = 3) (q : G.getD k 0 = 1) : oaL c G le nu k = [1, le / 256, le % 256] := by unfold oaL; rw [if_pos h, if_pos q]
theorem ol_5 (h : c = 3) (q : ¬ G.getD k 0 = 1) : oaL c G le nu k = 5 :: nbs (nu * nI 1103515245 + nI 12345) := by unfold oaL; rw [if_pos h, if_neg q]
theorem ol_x (h : ¬ c = 3) : oaL c G le nu k = (G.drop k).take (optLen (G.getD k 0)) := if_neg h
end OL
