/-! a row of the table, letter by letter -/
def runC (was : Nat) : List Nat → Nat → List Nat
  | [], _ => []
  | c :: cs, col => if was < col then [] else if c = 124 then runC was cs (col + 1) else if col = was then c :: runC was cs col else runC was cs col
def rowL (i : Nat) : List Nat := evTxt.getD i []
def chK (c : Nat) : List Nat := if c = 105 then [1] else if c = 122 then [2] else if c = 113 then [3] else if c = 101 then [4] else if c = 97 ∨ c = 110 then [5] else if c = 116 then [6] else if c = 99 then [7] else if c = 114 then [8] else if c = 117 then [9] else if c = 100 then [10] else if c = 107 then [11] else if 48 ≤ c ∧ c ≤ 57 then [16 + (c - 48)] else []
def anB (c : Nat) : Bool := c == 97 || c == 110
def tcB (c : Nat) : Bool := c == 116 || c == 99 || c == 114
def tcN (c : Nat) : Bool := c == 6 || c == 7 || c == 8
def chOk (c : Nat) : Bool := decide (c < 97) || decide (116 < c) || [97, 99, 100, 101, 105, 107, 110, 113, 114, 116].contains c
theorem run_codes : ∀ ev, ev < 18 → ∀ st, st < 10 → (runC st (rowL ev) 0).flatMap chK = codes ev st := by decide +kernel
theorem run_one : ∀ ev, ev < 18 → ∀ st, st < 10 → (runC st (rowL ev) 0).countP anB ≤ 1 := by decide +kernel
theorem run_an : ∀ ev, ev < 18 → ∀ st, st < 10 → (runC st (rowL ev) 0).any anB = true → 5 ∈ codes ev st := by decide +kernel
theorem run_tc : ∀ ev, ev < 18 → ∀ st, st < 10 → (runC st (rowL ev) 0).any tcB = true → (codes ev st).any tcN = true := by decide +kernel
theorem run_k : ∀ ev, ev < 18 → ∀ st, st < 10 → 107 ∈ runC st (rowL ev) 0 → 11 ∈ codes ev st := by decide +kernel
theorem row_len : ∀ ev, ev < 18 → (rowL ev).length = evLen.getD ev 0 := by decide +kernel
theorem row_ok : ∀ ev, ev < 18 → ∀ c ∈ rowL ev, chOk c = true ∧ c < 256 := by decide +kernel
theorem chOk_of {c : Nat} (h : chOk c = true) : c < 97 ∨ 116 < c ∨ c = 97 ∨ c = 99 ∨ c = 100 ∨ c = 101 ∨ c = 105 ∨ c = 107 ∨ c = 110 ∨ c = 113 ∨ c = 114 ∨ c = 116 := by
  unfold chOk at h
  simp at h
  omega
def stp (ci ck : Nat) (N : List Nat) (E : AE) (c : Nat) : AE := spE ci ck N (chE E c) c
theorem doA_1 {a b : Nat} {N : List Nat} {E : AE} : doA a b N E 1 = wTr E (nI 5) := rfl
theorem stp_do {ci ck c : Nat} {N : List Nat} {E : AE} : stp ci ck N E c = (chK c).foldl (doA ci ck N) E := by
  unfold stp chK
  by_cases h1 : c = 105
  · rw [if_pos h1, ch_i h1, sp_n (by omega)]; rfl
  rw [if_neg h1]
  by_cases h2 : c = 122
  · rw [if_pos h2, ch_z h2, sp_n (by omega)]; rfl
  rw [if_neg h2]
  by_cases h3 : c = 113
  · rw [if_pos h3, ch_no (by omega) (by omega) (by omega) (by omega) (by omega), sp_q h3]; rfl
  rw [if_neg h3]
  by_cases h4 : c = 101
  · rw [if_pos h4, ch_no (by omega) (by omega) (by omega) (by omega) (by omega), sp_e h4]; rfl
  rw [if_neg h4]
  by_cases h5 : c = 97 ∨ c = 110
  · rw [if_pos h5, ch_no (by omega) (by omega) (by omega) (by omega) (by omega), sp_a h5]; rfl
  rw [if_neg h5]
  by_cases h6 : c = 116
  · rw [if_pos h6, ch_no (by omega) (by omega) (by omega) (by omega) (by omega), sp_t h6]; rfl
  rw [if_neg h6]
  by_cases h7 : c = 99
  · rw [if_pos h7, ch_no (by omega) (by omega) (by omega) (by omega) (by omega), sp_c h7]; rfl
  rw [if_neg h7]
  by_cases h8 : c = 114
  · rw [if_pos h8, ch_no (by omega) (by omega) (by omega) (by omega) (by omega), sp_r h8]; rfl
  rw [if_neg h8]
  by_cases h9 : c = 117
  · rw [if_pos h9, ch_u h9, sp_n (by omega)]; rfl
  rw [if_neg h9]
  by_cases h10 : c = 100
  · rw [if_pos h10, ch_no (by omega) (by omega) (by omega) (by omega) (by omega), sp_n (by omega)]; rfl
  rw [if_neg h10]
  by_cases h11 : c = 107
  · rw [if_pos h11, ch_k h11, sp_n (by omega)]; rfl
  rw [if_neg h11]
  by_cases h12 : 48 ≤ c ∧ c ≤ 57
  · rw [if_pos h12, ch_d h12, sp_n (by omega), List.foldl_cons, List.foldl_nil, doA_16]
  rw [if_neg h12, ch_no (by omega) (by omega) (by omega) (by omega) h12, sp_n (by omega)]; rfl
theorem fold_stp {ci ck : Nat} {N : List Nat} : ∀ (L : List Nat) (E : AE), L.foldl (stp ci ck N) E = (L.flatMap chK).foldl (doA ci ck N) E := by
  intro L
  induction L with
  | nil => intro E; rfl
  | cons c L ih => intro E; rw [List.foldl_cons, ih, List.flatMap_cons, List.foldl_append, stp_do]
theorem run_hap {ci ck ev : Nat} {N : List Nat} {E : AE} (hev : ev < 18) (hs : eSt E ≤ 9) : (runC (eSt E) (rowL ev) 0).foldl (stp ci ck N) E = happenA ci ck N E ev := by
  rw [fold_stp, run_codes ev hev (eSt E) (by omega)]; rfl
theorem drop_cons {L : List Nat} {i : Nat} (h : i < L.length) : L.drop i = L.getD i 0 :: L.drop (i + 1) := by
  rw [List.drop_eq_getElem_cons h]
  simp [h]
theorem run_end {was col : Nat} {L : List Nat} (h : L = [] ∨ was < col) : runC was L col = [] := by
  cases L with
  | nil => rfl
  | cons c cs =>
    rcases h with h | h
    · cases h
    · exact if_pos h
theorem run_bar {was col c : Nat} {cs : List Nat} (h : ¬ was < col) (hc : c = 124) : runC was (c :: cs) col = runC was cs (col + 1) := by
  rw [runC, if_neg h, if_pos hc]
theorem run_do {was col c : Nat} {cs : List Nat} (h : ¬ was < col) (hc : ¬ c = 124) (he : col = was) : runC was (c :: cs) col = c :: runC was cs col := by
  rw [runC, if_neg h, if_neg hc, if_pos he]
theorem run_skip {was col c : Nat} {cs : List Nat} (h : ¬ was < col) (hc : ¬ c = 124) (he : ¬ col = was) : runC was (c :: cs) col = runC was cs col := by
  rw [runC, if_neg h, if_neg hc, if_neg he]
theorem chE_inv {E : AE} {c : Nat} (h : InvE E) (hk : c = 107 → 5 ≤ (eG E).length) : InvE (chE E c) := by
  obtain ⟨q1, q2, q3, q4, q5, q6, q7, q8, q9, q10⟩ := id h
  by_cases h1 : c = 105
  · rw [ch_i h1]; exact h
  by_cases h2 : c = 122
  · rw [ch_z h2]; exact ⟨q1, q2, q3, q4, Nat.le_refl 3, q6, q7, q8, q9, q10⟩
  by_cases h3 : c = 117
  · rw [ch_u h3]; exact h
  by_cases h4 : c = 107
  · rw [ch_k h4]; exact ⟨q1, q2, q3, q4, q5, q6, q7, q8, q9, q9.2.1, q9.1, Or.inr (hk h4)⟩
  by_cases h5 : 48 ≤ c ∧ c ≤ 57
  · rw [ch_d h5]; exact st_inv h (by omega)
  · rw [ch_no h1 h4 h3 h2 h5]; exact h
theorem spE_inv {E : AE} {c ci ck : Nat} {N : List Nat} (h : InvE E) (hN : (c = 97 ∨ c = 110) → Bt N) (hc : (c = 116 ∨ c = 99 ∨ c = 114) → ci < 256 ∧ ck < 256) : InvE (spE ci ck N E c) := by
  by_cases h1 : c = 113
  · rw [sp_q h1]; exact reqA_inv h
  by_cases h2 : c = 101
  · rw [sp_e h2]; exact endA_inv h
  by_cases h3 : c = 97 ∨ c = 110
  · rw [sp_a h3]; exact xmit_inv h (hN h3)
  by_cases h4 : c = 116
  · rw [sp_t h4]; exact xmit_inv h (bt3 (by decide) (by decide) (hc (by omega)).1)
  by_cases h5 : c = 99
  · rw [sp_c h5]; exact xmit_inv (nextI_inv h) ((bt3 (by decide) (by decide) (nextI_inv h).2.2.2.1).app (Bt.one (hc (by omega)).2))
  by_cases h6 : c = 114
  · rw [sp_r h6]; exact xmit_inv h ((bt3 (by decide) (by decide) (hc (by omega)).1).app (nbs_bt _))
  · rw [sp_n (by omega)]; exact h
theorem chE_g {E : AE} {c : Nat} : eG (chE E c) = eG E ∧ eB (chE E c) = eB E ∧ eAq (chE E c) = eAq E ∧ eLp (chE E c) = eLp E ∧ eEs (chE E c) = eEs E ∧ eOv (chE E c) = eOv E := by
  by_cases h1 : c = 105
  · rw [ch_i h1]; exact ⟨rfl, rfl, rfl, rfl, rfl, rfl⟩
  by_cases h2 : c = 122
  · rw [ch_z h2]; exact ⟨rfl, rfl, rfl, rfl, rfl, rfl⟩
  by_cases h3 : c = 117
  · rw [ch_u h3]; exact ⟨rfl, rfl, rfl, rfl, rfl, rfl⟩
  by_cases h4 : c = 107
  · rw [ch_k h4]; exact ⟨rfl, rfl, rfl, rfl, rfl, rfl⟩
  by_cases h5 : 48 ≤ c ∧ c ≤ 57
  · rw [ch_d h5]; exact ⟨rfl, rfl, rfl, rfl, rfl, rfl⟩
  · rw [ch_no h1 h4 h3 h2 h5]; exact ⟨rfl, rfl, rfl, rfl, rfl, rfl⟩
theorem spE_k {E : AE} {c ci ck : Nat} {N : List Nat} : eG (spE ci ck N E c) = eG E ∧ eKl (spE ci ck N E c) = eKl E ∧ eLp (spE ci ck N E c) = eLp E ∧ eEs (spE ci ck N E c) = eEs E ∧ eOv (spE ci ck N E c) = eOv E := by
  by_cases h1 : c = 113
  · rw [sp_q h1, reqA_eq]; exact ⟨rfl, rfl, rfl, rfl, rfl⟩
  by_cases h2 : c = 101
  · rw [sp_e h2, endA_eq]; exact ⟨rfl, rfl, rfl, rfl, rfl⟩
  by_cases h3 : c = 97 ∨ c = 110
  · rw [sp_a h3, xmit_eq]; exact ⟨rfl, rfl, rfl, rfl, rfl⟩
  by_cases h4 : c = 116
  · rw [sp_t h4, xmit_eq]; exact ⟨rfl, rfl, rfl, rfl, rfl⟩
  by_cases h5 : c = 99
  · rw [sp_c h5, xmit_eq]; exact ⟨rfl, rfl, rfl, rfl, rfl⟩
  by_cases h6 : c = 114
  · rw [sp_r h6, xmit_eq]; exact ⟨rfl, rfl, rfl, rfl, rfl⟩
  · rw [sp_n (by omega)]; exact ⟨rfl, rfl, rfl, rfl, rfl⟩
/-- the rows of the component's end -/
def CX (fr : Nat) (fB fG fK fQ fC : Nat → Int32) (E : AE) : Prop := InvE E ∧ Rg fr fB (eB E) ∧ Hd fG (eG E) ∧ Hd fK (eKl E) ∧ Hd fQ (eAq E) ∧ CC fC (eCf E)
