/-! the answer -/
theorem foldM_ge {G : List Nat} {le to : Nat} {nu : Int32} : ∀ (n k a : Nat), to - k ≤ n → a ≤ foldO (maxO G le nu) G to k a := by
  intro n
  induction n with
  | zero => intro k a h; rw [foldO_o (by omega)]; exact Nat.le_refl a
  | succ n ih =>
    intro k a h
    by_cases q : k < to
    · rw [foldO_t q]
      have := optLen_b (G.getD k 0)
      exact Nat.le_trans maxO_ge (ih _ _ (by omega))
    · rw [foldO_o (by omega)]; exact Nat.le_refl a
theorem judge_le {G : List Nat} {le a k : Nat} {nu : Int32} : judgeN G le nu k ≤ maxO G le nu a k := by
  unfold maxO
  split <;> omega
theorem opt_oa {G : List Nat} {le c k : Nat} {nu : Int32} (hc : 2 ≤ c ∧ c ≤ 4) (hj : judgeN G le nu k ≤ c) : optA G le nu c k = if oaN G le nu k = c then oaL c G le nu k else [] := by
  have h4 := judgeN_le G le nu k
  by_cases h1 : G.getD k 0 = 1
  · by_cases q : G.getD (k + 1) 0 * 256 + G.getD (k + 2) 0 < le
    · have e := j_1y (nu := nu) h1 q
      unfold optA oaN oaL
      rw [e, h1]
      rcases (show c = 2 ∨ c = 3 ∨ c = 4 by omega) with r | r | r <;> subst r <;> first | (exfalso; omega) | simp
    · have e := j_1n (nu := nu) h1 q
      unfold optA oaN oaL
      rw [e, h1]
      rcases (show c = 2 ∨ c = 3 ∨ c = 4 by omega) with r | r | r <;> subst r <;> simp
  by_cases h5 : G.getD k 0 = 5
  · by_cases q : n4 G (k + 1) = 0 ∨ n4 G (k + 1) = nu
    · have e := j_5y (le := le) h5 q
      unfold optA oaN oaL
      rw [e, h5]
      rcases (show c = 2 ∨ c = 3 ∨ c = 4 by omega) with r | r | r <;> subst r <;> first | (exfalso; omega) | simp
    · have e := j_5n (le := le) h5 q
      unfold optA oaN oaL
      rw [e, h5]
      rcases (show c = 2 ∨ c = 3 ∨ c = 4 by omega) with r | r | r <;> subst r <;> simp
  · have e := j_x (le := le) (nu := nu) h1 h5
    unfold optA oaN oaL
    rw [e]
    rcases (show c = 2 ∨ c = 3 ∨ c = 4 by omega) with r | r | r <;> subst r <;> first | (exfalso; omega) | simp
theorem oaL_len {G : List Nat} {le c k : Nat} {nu : Int32} : (oaL c G le nu k).length ≤ 5 := by
  unfold oaL
  split
  · split
    · simp
    · simp [nbs]
  · have := optLen_b (G.getD k 0)
    rw [List.length_take]
    omega
theorem oa_35 {G : List Nat} {le k : Nat} {nu : Int32} (h : oaN G le nu k = 3) : G.getD k 0 = 1 ∨ G.getD k 0 = 5 := by
  by_cases h1 : G.getD k 0 = 1
  · exact Or.inl h1
  by_cases h5 : G.getD k 0 = 5
  · exact Or.inr h5
  · rw [oa_of (j_x h1 h5)] at h
    exact absurd h (by decide)
theorem oaL_lo {G : List Nat} {le c k : Nat} {nu : Int32} (h : c = 3 → G.getD k 0 = 1 ∨ G.getD k 0 = 5) : (oaL c G le nu k).length ≤ optLen (G.getD k 0) := by
  by_cases q : c = 3
  · by_cases h1 : G.getD k 0 = 1
    · rw [ol_1 q h1, optLen_1 h1]; exact Nat.le_refl 3
    · rw [ol_5 q h1, optLen_5 ((h q).resolve_left h1)]; exact Nat.le_refl 5
  · rw [ol_x q, List.length_take]
    omega
