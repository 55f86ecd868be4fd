/-! noise; the reference at its start: words -/
theorem fl_ok {x y : Int32} (h : ¬ y = 0) : vf_n32 (FP.fdiv (FP.i2f x) (FP.i2f y)) := Jvm.Free.Fl.fdiv_out (Jvm.Free.Fl.Fin32.noNaN (Jvm.Free.Fl.i2f_fin x)) (Jvm.Free.Fl.i2f_fin y) (Jvm.Free.Fl.i2f_nz h)
theorem f2d_ok {x : UInt32} (h : vf_n32 x) : vf_n64 (FP.f2d x) := Jvm.Free.Fl.f2d_out h
def badN (Z : Nat → AE) : Int32 := eCf (Z 0) 1 + eCf (Z 1) 1
def allN (Z : Nat → AE) : Int32 := badN Z + eCf (Z 0) 0 + eCf (Z 1) 0
def noiR (Z : Nat → AE) : UInt32 := if allN Z = 0 then FP.fconst0 else FP.fdiv (FP.i2f (badN Z)) (FP.i2f (allN Z))
theorem noi_ok {Z : Nat → AE} : vf_n32 (noiR Z) := by
  unfold noiR
  by_cases h : allN Z = 0
  · rw [if_pos h]; unfold vf_n32; decide
  · rw [if_neg h]; exact fl_ok h
def RuK (k : Nat) (f : Nat → Int32) : Prop := ∀ i, i < k → f i = rulT.getD i 0
theorem RuK.zero {f : Nat → Int32} : RuK 0 f := fun i h => absurd h (Nat.not_lt_zero _)
theorem RuK.put {k : Nat} {f f2 : Nat → Int32} {v : Int32} (h : RuK k f) (h2 : upd f k v = f2) (hv : rulT.getD k 0 = v) : RuK (k + 1) f2 := by
  intro i hi
  rw [← h2]
  by_cases q : i = k
  · subst q; rw [upd_eq, hv]
  · rw [upd_ne q]; exact h i (by omega)
theorem u2_at {e : Nat} {x : Int32} (h : e < 2) : upd (upd (fun _ => 0) 0 x) 1 x e = x := by
  rcases (show e = 0 ∨ e = 1 by omega) with q | q
  · subst q; rw [upd_ne (by decide), upd_eq]
  · subst q; rw [upd_eq]
abbrev d0 : Nat → Int32 := fun _ => 0
abbrev u2 (x : Int32) : Nat → Int32 := upd (upd (fun _ => 0) 0 x) 1 x
theorem rm_start : RM (u2 (nI 1500)) d0 (u2 (nI 1)) (u2 (nI 1)) d0 d0 d0 (u2 (-1)) d0 d0 d0 d0 d0 d0 (u2 (nI 64)) d0 d0 d0 d0 d0 d0 (fun _ => E00) := by
  intro e he
  refine ⟨⟨⟨u2_at he, rfl, u2_at he, u2_at he, rfl, rfl, rfl, ⟨fun _ => u2_at he, fun q => absurd rfl q⟩, ⟨rfl, Nat.zero_le _, fun i h => absurd h (Nat.not_lt_zero _)⟩, fun _ _ => rfl, E00_inv⟩, rfl, u2_at he, ⟨rfl, Nat.zero_le _, fun i h => absurd h (Nat.not_lt_zero _)⟩, rfl, ⟨rfl, fun i h => absurd h (Nat.not_lt_zero _)⟩, rfl⟩, fun q _ => absurd q (show ¬ 4 ≤ 0 by decide)⟩
theorem sq_start : SQ d0 0 [] 0 0 := ⟨Hd.nil, by decide, Bt.nil, by decide, by decide, by decide⟩
