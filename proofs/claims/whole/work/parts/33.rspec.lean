/-! the reference at a byte; both ends -/
section RG2
variable {a0 a1 a2 a3 a4 a5 a6 a7 a8 a9 a10 a11 a12 s le gt ga es dl db lp gt' ga' es' : Nat → Int32} {e : Nat} {E : AE} {G' : List Nat} {es2 ov2 : Bool}
theorem rt_g (h : RT a0 a1 a2 a3 a4 a5 a6 a7 a8 a9 a10 a11 a12 s le gt ga es dl db lp e E) (hg : GtM gt' ga' e G' ov2) (hes : es' e = nI es2.toNat) (hB : Bt G') (ho : ov2 = true → G'.length = 40) : RT a0 a1 a2 a3 a4 a5 a6 a7 a8 a9 a10 a11 a12 s le gt' ga' es' dl db lp e (wOv (wEs (wG E G') es2) ov2) := by
  obtain ⟨h1, h2, h3, h4, h5, h6, h7⟩ := h
  obtain ⟨r1, r2, r3, r4, r5, r6, r7, r8, r9, r10, q1, q2, q3, q4, q5, q6, q7, q8, q9, q10⟩ := h1
  exact ⟨⟨r1, r2, r3, r4, r5, r6, r7, r8, r9, r10, q1, q2, q3, q4, q5, q6, q7, q8, ⟨hg.2.1, hB, ho⟩, q10⟩, h2, h3, hg, hes, h6, h7⟩
theorem rtf_g (hg : ∀ o, o ≠ e → gt' o = gt o) (hga : ∀ q, (q < 40 * e ∨ 40 * e + 40 ≤ q) → ga' q = ga q) (he : ∀ o, o ≠ e → es' o = es o) (h2 : e < 2) : RTF a0 a1 a2 a3 a4 a5 a6 a7 a8 a9 a10 a11 a12 s le gt ga es dl db lp a0 a1 a2 a3 a4 a5 a6 a7 a8 a9 a10 a11 a12 s le gt' ga' es' dl db lp e := by
  intro o E ho hne h
  obtain ⟨h1, h2', h3, h4, h5, h6, h7⟩ := h
  refine ⟨h1, h2', h3, ⟨(hg o hne).trans h4.1, h4.2.1, fun i hi => ?_⟩, (he o hne).trans h5, h6, h7⟩
  have := h4.2.1
  rw [hga _ (by omega)]
  exact h4.2.2 i hi
end RG2
theorem recvA_m {E : AE} {b : Nat} (h : b = 126) : recvA E b = frameA E := if_pos h
theorem recvA_n {E : AE} {b : Nat} (h : ¬ b = 126) {z : GS} (hz : rcv (eG E, eEs E, eOv E) b = z) : recvA E b = wOv (wEs (wG E z.1) z.2.1) z.2.2 := by unfold recvA; rw [if_neg h, hz]
theorem GtM.snoc {gt ga : Nat → Int32} {e x : Nat} {G : List Nat} (h : GaM ga e G) (hl : G.length < 40) {n : Nat} (hn : n = G.length + 1) {k : Nat} (hk : k = 40 * e + G.length) : GtM (upd gt e (nI n)) (upd ga k (nI x)) e (G ++ [x]) false := by
  subst hn hk
  refine ⟨by rw [upd_eq, List.length_append]; rfl, by rw [List.length_append, List.length_singleton]; omega, fun i hi => ?_⟩
  rw [List.length_append, List.length_singleton] at hi
  by_cases e9 : i = G.length
  · subst e9; rw [upd_eq]; simp
  · rw [upd_ne (by omega), h.2 i (by omega)]
    simp [List.getElem?_append_left (show i < G.length by omega)]
theorem GtM.full {gt ga : Nat → Int32} {e : Nat} {G : List Nat} (h : GaM ga e G) (hl : G.length = 40) : GtM (upd gt e (nI 41)) ga e G true := ⟨by rw [upd_eq, hl]; rfl, h⟩
/-- the timer runs: it is above 0 -/
def TmE (E : AE) : Prop := 4 ≤ eSt E → eSt E ≤ 8 → 1 ≤ eTi E
theorem ge40 {G : List Nat} {ov : Bool} (h : ov = true → G.length = 40) (q : 40 ≤ G.length + ov.toNat) : 40 ≤ G.length := by
  cases ov with
  | true => exact Nat.le_of_eq (h rfl).symm
  | false => exact q
section RV
variable {a0 a1 a2 a3 a4 a5 a6 a7 a8 a9 a10 a11 a12 s le gt ga es dl db lp : Nat → Int32} {e b : Nat} {E : AE}
theorem rv_esc (h : RT a0 a1 a2 a3 a4 a5 a6 a7 a8 a9 a10 a11 a12 s le gt ga es dl db lp e E) (he : e < 2) (h6 : ¬ b = 126) (h5 : b = 125) (hs : eEs E = false) : RT a0 a1 a2 a3 a4 a5 a6 a7 a8 a9 a10 a11 a12 s le gt ga (upd es e (nI 1)) dl db lp e (recvA E b) ∧ RTF a0 a1 a2 a3 a4 a5 a6 a7 a8 a9 a10 a11 a12 s le gt ga es dl db lp a0 a1 a2 a3 a4 a5 a6 a7 a8 a9 a10 a11 a12 s le gt ga (upd es e (nI 1)) dl db lp e := by
  refine ⟨?_, rtf_g (fun _ _ => rfl) (fun _ _ => rfl) (fun _ ho => upd_ne ho) he⟩
  rw [recvA_n h6 (rcv_a h5 hs)]
  exact rt_g h h.2.2.2.1 upd_eq h.1.inv.2.2.2.2.2.2.2.2.1.2.1 h.1.inv.2.2.2.2.2.2.2.2.1.2.2
theorem rv_add (h : RT a0 a1 a2 a3 a4 a5 a6 a7 a8 a9 a10 a11 a12 s le gt ga es dl db lp e E) (he : e < 2) (h6 : ¬ b = 126) {x n k : Nat} (hr : rcv (eG E, eEs E, eOv E) b = (eG E ++ [x], false, eOv E)) (ho : eOv E = false) (hl : (eG E).length < 40) (hx : x < 256) (hn : n = (eG E).length + 1) (hk : k = 40 * e + (eG E).length) : RT a0 a1 a2 a3 a4 a5 a6 a7 a8 a9 a10 a11 a12 s le (upd gt e (nI n)) (upd ga k (nI x)) (upd es e (nI 0)) dl db lp e (recvA E b) ∧ RTF a0 a1 a2 a3 a4 a5 a6 a7 a8 a9 a10 a11 a12 s le gt ga es dl db lp a0 a1 a2 a3 a4 a5 a6 a7 a8 a9 a10 a11 a12 s le (upd gt e (nI n)) (upd ga k (nI x)) (upd es e (nI 0)) dl db lp e := by
  refine ⟨?_, rtf_g (fun _ ho => upd_ne ho) (fun q hq => upd_ne (by omega)) (fun _ ho => upd_ne ho) he⟩
  rw [recvA_n h6 hr]
  exact rt_g h (by rw [ho]; exact GtM.snoc h.2.2.2.1.2 hl hn hk) upd_eq (h.1.inv.2.2.2.2.2.2.2.2.1.2.1.app (Bt.one hx)) (fun q => by rw [ho] at q; cases q)
theorem rv_full (h : RT a0 a1 a2 a3 a4 a5 a6 a7 a8 a9 a10 a11 a12 s le gt ga es dl db lp e E) (he : e < 2) (h6 : ¬ b = 126) {n : Nat} (hr : rcv (eG E, eEs E, eOv E) b = (eG E, false, true)) (hl : (eG E).length = 40) (hn : n = 41) : RT a0 a1 a2 a3 a4 a5 a6 a7 a8 a9 a10 a11 a12 s le (upd gt e (nI n)) ga (upd es e (nI 0)) dl db lp e (recvA E b) ∧ RTF a0 a1 a2 a3 a4 a5 a6 a7 a8 a9 a10 a11 a12 s le gt ga es dl db lp a0 a1 a2 a3 a4 a5 a6 a7 a8 a9 a10 a11 a12 s le (upd gt e (nI n)) ga (upd es e (nI 0)) dl db lp e := by
  refine ⟨?_, rtf_g (fun _ ho => upd_ne ho) (fun _ _ => rfl) (fun _ ho => upd_ne ho) he⟩
  rw [recvA_n h6 hr, hn]
  exact rt_g h (GtM.full h.2.2.2.1.2 hl) upd_eq h.1.inv.2.2.2.2.2.2.2.2.1.2.1 (fun _ => hl)
end RV
