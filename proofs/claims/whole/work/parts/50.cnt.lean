/-! counting letters -/
theorem getD_mem {L : List Nat} {i : Nat} (h : i < L.length) : L.getD i 0 ∈ L := by
  simp [h]
theorem any_hd {p : Nat → Bool} {c : Nat} {L : List Nat} (h : p c = true) : (c :: L).any p = true := by rw [List.any_cons, h]; rfl
theorem any_tl {p : Nat → Bool} {c : Nat} {L : List Nat} (h : L.any p = true) : (c :: L).any p = true := by rw [List.any_cons, h, Bool.or_true]
theorem anB_of {c : Nat} (h : c = 97 ∨ c = 110) : anB c = true := by
  rcases h with h | h <;> subst h <;> rfl
theorem tcB_of {c : Nat} (h : c = 116 ∨ c = 99 ∨ c = 114) : tcB c = true := by
  rcases h with h | h | h <;> subst h <;> rfl
theorem cnt_tl {p : Nat → Bool} {c : Nat} {L : List Nat} (h : (c :: L).countP p ≤ 1) : L.countP p ≤ 1 := by
  rw [List.countP_cons] at h
  omega
theorem cnt_no {p : Nat → Bool} {c : Nat} {L : List Nat} (h : (c :: L).countP p ≤ 1) (q : L.any p = true) : ¬ p c = true := by
  intro z
  rw [List.countP_cons, if_pos z] at h
  obtain ⟨x, hx, hp⟩ := List.any_eq_true.mp q
  have := List.countP_pos_iff.mpr ⟨x, hx, hp⟩
  omega
theorem spE_N {ci ck c : Nat} {N N' : List Nat} {E : AE} (h : ¬ (c = 97 ∨ c = 110)) : spE ci ck N E c = spE ci ck N' E c := by
  unfold spE
  rw [if_neg h, if_neg h]
