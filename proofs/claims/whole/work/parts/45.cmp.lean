/-! the component's end -/
def CC (f cf : Nat → Int32) : Prop := ∀ k, k < 6 → f k = cf k
theorem CC.tal {f cf : Nat → Int32} {k : Nat} (h : CC f cf) (hk : k < 6) : CC (upd f k (f k + nI 1)) (upd cf k (cf k + nI 1)) := by
  intro j hj
  by_cases q : j = k
  · subst q; rw [upd_eq, upd_eq, h j hj]
  · rw [upd_ne q, upd_ne q]; exact h j hj
theorem shB_a {B P : List Nat} (h : B.length + (frameL P).length ≤ 300) : shB B P = B ++ frameL P := if_pos h
theorem shB_b {B P : List Nat} (h : ¬ B.length + (frameL P).length ≤ 300) : shB B P = B := if_neg h
theorem shC_a {B P : List Nat} {cf : Nat → Int32} (h : B.length + (frameL P).length ≤ 300) : shC B cf P = cf := if_pos h
theorem shC_b {B P : List Nat} {cf : Nat → Int32} (h : ¬ B.length + (frameL P).length ≤ 300) : shC B cf P = upd cf 2 (cf 2 + nI 1) := if_neg h
