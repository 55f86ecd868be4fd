/-! events with no packet -/
theorem ev_plain : ∀ ev, ev < 6 → ∀ st, st < 10 → (decide (5 ∈ codes ev st) || (codes ev st).any tcN || decide (11 ∈ codes ev st)) = false := by decide +kernel
theorem ev_p5 {ev st : Nat} (h : ev < 6) (hs : st ≤ 9) {P : Prop} (q : 5 ∈ codes ev st) : P := by
  have := ev_plain ev h st (by omega)
  rw [decide_eq_true q] at this
  cases this
theorem ev_pt {ev st : Nat} (h : ev < 6) (hs : st ≤ 9) {P : Prop} (q : (codes ev st).any tcN = true) : P := by
  have := ev_plain ev h st (by omega)
  rw [q, Bool.or_true, Bool.true_or] at this
  cases this
theorem ev_pk {ev st : Nat} (h : ev < 6) (hs : st ≤ 9) {P : Prop} (q : 11 ∈ codes ev st) : P := by
  have := ev_plain ev h st (by omega)
  rw [decide_eq_true q, Bool.or_true] at this
  cases this
theorem CX.ti {fr : Nat} {fB fG fK fQ fC : Nat → Int32} {E : AE} (h : CX fr fB fG fK fQ fC E) : CX fr fB fG fK fQ fC (tik0 E) := by
  obtain ⟨⟨q1, q2, q3, q4, q5, q6⟩, h2⟩ := h
  exact ⟨⟨q1, q2, q3, q4, Nat.le_trans (Nat.sub_le _ _) q5, q6⟩, h2⟩
theorem snd_step2 (i f : Nat) : [2] ++ datL i f ++ [(f + i) % 256] = [2] ++ datL (i + 1) f := by rw [datL_succ, List.append_assoc]
