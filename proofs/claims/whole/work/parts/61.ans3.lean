/-! the answer's code -/
def mxN (a b : Nat) : Nat := if a < b then b else a
theorem mx_o {G : List Nat} {le a k : Nat} {nu : Int32} (h : 2 ≤ a) : mxN a (oaN G le nu k) = maxO G le nu a k := by
  unfold mxN maxO oaN
  by_cases q : judgeN G le nu k = 0
  · rw [if_pos q, if_neg (by omega), if_neg (by omega)]
  · rw [if_neg q]
theorem oa_le {G : List Nat} {le k : Nat} {nu : Int32} : oaN G le nu k ≤ 4 := by
  have := judgeN_le G le nu k
  unfold oaN
  split <;> omega
section MX
variable {p : Program} {l : Launch} {e : Env} {R : Room} {s : State} {m : MethodId} {args : Array Value} {below : List Frame} {meth : Method} {c : Code} {H : Heap} {locs : List Loc} {cells slots : Nat} {Q : State → Prop}
variable {cc : ByteArray} {nL pc : Nat} {ls : Array Slot} {rest : List Value} {g : GE} {A : Nat → Prop} {ws : va_W} {own : String}
theorem wmax {index a b : Nat} (hF : CallFix p m c cc nL s args TW own) (hl1 : ls.size = nL) (mw : MWs own index yJ9_max_7cf53 cJ9_max_7cf53 2 (some .int) 2) (hr : 1 ≤ R.frames ∧ 21 ≤ R.locals) (hcs : cells ≤ R.cells ∧ slots ≤ R.slots) (hrest : (rest.map fun v => v.category).sum ≤ 8) (ha : a < 2147483648) (hb9 : b < 2147483648) (hdg : decode cc pc = .ok (.invokestatic index, 3))
    (kk : W p l e R s m args below meth c H locs cells slots Q (F0 m (pc + 3) ls (.int (nI (mxN a b)) :: rest))) : W p l e R s m args below meth c H locs cells slots Q (F0 m pc ls (.int (nI b) :: .int (nI a) :: rest)) := by
  obtain ⟨m1, m2, m3, m5, m7, m8⟩ := mw
  obtain ⟨f1, f2, f3, f4, hts⟩ := hF
  refine va_mmax f1 f2 (f3.trans hl1.symm) f4 (hts _ m1) (hts _ m2) (hts _ m3) (hts _ m5) hr.1 (by omega) hcs.1 hcs.2 hdg ?_
  have hq : (if nI a < nI b then nI b else nI a) = nI (mxN a b) := by
    unfold mxN
    by_cases q : a < b
    · rw [if_pos q, if_pos]
      rw [Int32.lt_iff_toInt_lt, nI_toInt ha, nI_toInt hb9]; omega
    · rw [if_neg q, if_neg]
      rw [Int32.lt_iff_toInt_lt, nI_toInt ha, nI_toInt hb9]; omega
  rw [hq]
  exact kk
end MX
