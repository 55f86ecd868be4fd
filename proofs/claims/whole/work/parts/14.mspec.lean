/-! the reference's rows: words on them -/
def inI (v lo hi : Int32) : Bool := decide (¬ v < lo ∧ ¬ hi < v)
theorem inI_nat {a b c : Nat} (ha : a < 2147483648) (hb : b < 2147483648) (hc : c < 2147483648) : inI (nI a) (nI b) (nI c) = decide (b ≤ a ∧ a ≤ c) := by
  unfold inI
  have h1 : nI a < nI b ↔ a < b := nI_ltI ha hb
  have h2 : nI c < nI a ↔ c < a := nI_ltI hc ha
  congr 1
  rw [h1, h2]
  apply propext
  omega
def LnM (fBy fOl : Nat → Int32) (e : Nat) (B : List Nat) : Prop := fOl e = nI B.length ∧ B.length ≤ 300 ∧ ∀ i, i < B.length → fBy (300 * e + i) = nI (B.getD i 0)
def LnO (fBy fOl fBy2 fOl2 : Nat → Int32) (e : Nat) : Prop := ∀ (o : Nat) (C : List Nat), o < 2 → o ≠ e → LnM fBy fOl o C → LnM fBy2 fOl2 o C
theorem LnO.refl {fBy fOl : Nat → Int32} {e : Nat} : LnO fBy fOl fBy fOl e := fun _ _ _ _ h => h
theorem LnO.trans {a b c d x y : Nat → Int32} {e : Nat} (h : LnO a b c d e) (k : LnO c d x y e) : LnO a b x y e := fun o C ho hne q => k o C ho hne (h o C ho hne q)
theorem upd_ne {f : Nat → Int32} {k j : Nat} {x : Int32} (h : j ≠ k) : upd f k x j = f j := if_neg h
theorem upd_eq {f : Nat → Int32} {k : Nat} {x : Int32} : upd f k x k = x := if_pos rfl
theorem LnM.snoc {fBy fOl : Nat → Int32} {e : Nat} {B : List Nat} {x : Nat} (h : LnM fBy fOl e B) (hl : B.length < 300) : LnM (upd fBy (300 * e + B.length) (nI x)) (upd fOl e (nI (B.length + 1))) e (B ++ [x]) := by
  obtain ⟨h1, h2, h3⟩ := h
  refine ⟨by rw [upd_eq, List.length_append]; rfl, by rw [List.length_append, List.length_singleton]; omega, fun i hi => ?_⟩
  rw [List.length_append, List.length_singleton] at hi
  by_cases e9 : i = B.length
  · subst e9; rw [upd_eq]; simp
  · rw [upd_ne (by omega), h3 i (by omega)]
    simp [List.getElem?_append_left (show i < B.length by omega)]
theorem LnO.lay {fBy fOl : Nat → Int32} {e n : Nat} {x y : Int32} (he : e < 2) (hn : n < 300) : LnO fBy fOl (upd fBy (300 * e + n) x) (upd fOl e y) e := by
  intro o C ho hne h
  obtain ⟨h1, h2, h3⟩ := h
  refine ⟨by rw [upd_ne hne]; exact h1, h2, fun i hi => ?_⟩
  rw [upd_ne (by omega)]
  exact h3 i hi
/-- gathered bytes of end e -/
def GaM (fGa : Nat → Int32) (e : Nat) (G : List Nat) : Prop := G.length ≤ 40 ∧ ∀ i, i < G.length → fGa (40 * e + i) = nI (G.getD i 0)
def judgeN (G : List Nat) (le : Nat) (nu : Int32) (k : Nat) : Nat :=
  if G.getD k 0 = 1 then (if G.getD (k + 1) 0 * 256 + G.getD (k + 2) 0 < le then 3 else 0)
  else if G.getD k 0 = 5 then (if n4 G (k + 1) = 0 ∨ n4 G (k + 1) = nu then 3 else 0) else 4
theorem LnM.took {fBy fOl f3 : Nat → Int32} {e : Nat} {B : List Nat} (h : LnM fBy fOl e B) (h0 : 0 < B.length) (h3 : ∀ j, j < B.length - 1 → f3 (300 * e + j) = nI (B.getD (j + 1) 0)) : LnM f3 (upd fOl e (nI (B.length - 1))) e (B.drop 1) := by
  obtain ⟨h1, h2, -⟩ := h
  refine ⟨by rw [upd_eq, List.length_drop], by rw [List.length_drop]; omega, fun i hi => ?_⟩
  rw [List.length_drop] at hi
  rw [h3 i hi]
  simp [Nat.add_comm]
theorem LnO.took {fBy fOl f3 : Nat → Int32} {e : Nat} {y : Int32} (he : e < 2) (h : ∀ q, (q < 300 * e ∨ 300 * e + 300 ≤ q) → f3 q = fBy q) : LnO fBy fOl f3 (upd fOl e y) e := by
  intro o C ho hne k
  obtain ⟨h1, h2, h3⟩ := k
  refine ⟨by rw [upd_ne hne]; exact h1, h2, fun i hi => ?_⟩
  rw [h _ (by omega)]
  exact h3 i hi
theorem tk1 {f3 : Nat → Int32} {B : List Nat} {e i : Nat} (h1 : ∀ j, j < i → f3 (300 * e + j) = nI (B.getD (j + 1) 0)) (h2 : ∀ j, i ≤ j → j < B.length → f3 (300 * e + j) = nI (B.getD j 0)) (hi : i + 1 < B.length) : ∀ j, j < i + 1 → upd f3 (300 * e + i) (f3 (300 * e + i + 1)) (300 * e + j) = nI (B.getD (j + 1) 0) := by
  intro j hj
  by_cases e9 : j = i
  · subst e9
    rw [upd_eq]
    exact h2 (j + 1) (by omega) hi
  · rw [upd_ne (by omega)]
    exact h1 j (by omega)
theorem optLen_1 {t : Nat} (h : t = 1) : optLen t = 3 := by subst h; rfl
theorem optLen_5 {t : Nat} (h : t = 5) : optLen t = 5 := by subst h; rfl
