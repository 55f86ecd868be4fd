/-! what comes in a packet, over an end -/
def foldO {σ : Type} (f : σ → Nat → σ) (L : List Nat) (to k : Nat) (s : σ) : σ := if k < to then foldO f L to (k + optLen (L.getD k 0)) (f s k) else s
termination_by to - k
decreasing_by have := optLen_b (L.getD k 0); omega
theorem foldO_t {σ : Type} {f : σ → Nat → σ} {L : List Nat} {to k : Nat} {s : σ} (h : k < to) : foldO f L to k s = foldO f L to (k + optLen (L.getD k 0)) (f s k) := by rw [foldO, if_pos h]
theorem foldO_o {σ : Type} {f : σ → Nat → σ} {L : List Nat} {to k : Nat} {s : σ} (h : to ≤ k) : foldO f L to k s = s := by rw [foldO, if_neg (by omega)]
theorem wholeW_step {L : List Nat} {to k : Nat} (h : k < to) (hw : wholeW L to k = true) : k + optLen (L.getD k 0) ≤ to ∧ wholeW L to (k + optLen (L.getD k 0)) = true ∧ dupW L k 3 = false := by
  have hd : dupW L k 3 = false := by
    cases e : dupW L k 3 with
    | false => rfl
    | true => rw [wholeW_t h e] at hw; cases hw
  rw [wholeW_f h hd] at hw
  refine ⟨?_, hw, hd⟩
  rcases Nat.lt_or_ge to (k + optLen (L.getD k 0)) with q | q
  · rw [wholeW_o (by omega)] at hw
    have := of_decide_eq_true hw
    omega
  · exact q
abbrev toL (L : List Nat) : Nat := L.length - 2
/-- suspicions of a request's options -/
def susp (G : List Nat) (nu : Int32) (k : Nat) : Bool := decide (G.getD k 0 = 5) && (decide (n4 G (k + 1) = nu) && decide (¬ nu = 0))
def suspO (G : List Nat) (nu : Int32) (cf : Nat → Int32) (k : Nat) : Nat → Int32 := if susp G nu k = true then upd cf 3 (cf 3 + nI 1) else cf
def maxO (G : List Nat) (le : Nat) (nu : Int32) (a k : Nat) : Nat := if a < judgeN G le nu k then judgeN G le nu k else a
def optA (G : List Nat) (le : Nat) (nu : Int32) (code k : Nat) : List Nat :=
  if code = 3 ∧ judgeN G le nu k = 3 then (if G.getD k 0 = 1 then [G.getD k 0, le / 256, le % 256] else G.getD k 0 :: nbs (nu * nI 1103515245 + nI 12345))
  else if code = 2 ∨ (code = 4 ∧ judgeN G le nu k = 4) then (G.drop k).take (optLen (G.getD k 0)) else []
def ansCode (G : List Nat) (le : Nat) (nu : Int32) : Nat := foldO (maxO G le nu) G (toL G) 3 2
def ansOpt (G : List Nat) (le : Nat) (nu : Int32) (code : Nat) : List Nat := foldO (fun Q k => Q ++ optA G le nu code k) G (toL G) 3 []
def ansL (G : List Nat) (le : Nat) (nu : Int32) : List Nat := [1, ansCode G le nu, G.getD 2 0] ++ ansOpt G le nu (ansCode G le nu)
def suspF (G : List Nat) (nu : Int32) (cf : Nat → Int32) : Nat → Int32 := foldO (suspO G nu) G (toL G) 3 cf
/-- what a NAK or REJECT changes -/
def chO (G : List Nat) (E : AE) (k : Nat) : AE :=
  if G.getD 1 0 = 4 then (if G.getD k 0 = 1 then wAS E false else if G.getD k 0 = 5 then wAN E false else E)
  else if G.getD k 0 = 1 then (if 64 ≤ G.getD (k + 1) 0 * 256 + G.getD (k + 2) 0 ∧ G.getD (k + 1) 0 * 256 + G.getD (k + 2) 0 ≤ 1500 then wSz E (G.getD (k + 1) 0 * 256 + G.getD (k + 2) 0) else E)
  else if G.getD k 0 = 5 then wNu E (n4 G (k + 1)) else E
def chF (G : List Nat) (E : AE) : AE := foldO (chO G) G (toL G) 3 E
def rightA (E : AE) : Bool := if (eG E).getD 1 0 = 2 then sameP (eG E) (eAq E) else decide (¬ eAq E = [] ∧ (eG E).getD 2 0 = (eAq E).getD 2 0)
/-- a control packet in a state from 2 on -/
def ctlA (E : AE) : AE :=
  if (2 ≤ (eG E).getD 1 0 ∧ (eG E).getD 1 0 ≤ 4) ∧ rightA E = false then tal E 1
  else if (eG E).getD 1 0 = 1 then happenA ((eG E).getD 2 0) 1 (ansL (eG E) (eLe E) (eNu E)) (wCf (tal E 0) (suspF (eG E) (eNu E) (eCf (tal E 0)))) (if ansCode (eG E) (eLe E) (eNu E) = 2 then 6 else 7)
  else if (eG E).getD 1 0 = 2 then happenA ((eG E).getD 2 0) 2 [] (tal E 0) 8
  else if (eG E).getD 1 0 = 3 ∨ (eG E).getD 1 0 = 4 then happenA ((eG E).getD 2 0) ((eG E).getD 1 0) [] (chF (eG E) (tal E 0)) 9
  else if (eG E).getD 1 0 = 5 then happenA ((eG E).getD 2 0) 5 [] (tal E 0) 10
  else if (eG E).getD 1 0 = 6 then happenA ((eG E).getD 2 0) 6 [] (tal E 0) 11
  else if (eG E).getD 1 0 = 7 then happenA ((eG E).getD 2 0) 7 [] (tal E 0) (if 1 ≤ (eG E).getD 3 0 ∧ (eG E).getD 3 0 ≤ 6 then 13 else 14)
  else if (eG E).getD 1 0 = 9 then happenA ((eG E).getD 2 0) 9 [] (if n4 (eG E) 3 = eNu E ∧ ¬ eNu E = 0 then tal (tal E 0) 3 else tal E 0) 15
  else if (eG E).getD 1 0 = 10 then tal E 0
  else happenA ((eG E).getD 2 0) ((eG E).getD 1 0) [] (tal E 0) 12
def dataA (E : AE) : AE := if eSt E = 9 then tal (wKl (tal E 0) (eG E)) 5 else tal E 0
def clr (E : AE) : AE := wOv (wEs (wG E []) false) false
def badC (E : AE) : Bool := decide (2 ≤ (eG E).getD 1 0 ∧ (eG E).getD 1 0 ≤ 4) && !rightA E
/-- at a mark: what was gathered -/
def frameA (E : AE) : AE :=
  if eG E = [] ∧ eEs E = false then E
  else if holdsP (eG E, eEs E, eOv E) = true ∧ (eG E).getD 0 0 = 2 then clr (dataA E)
  else if holdsP (eG E, eEs E, eOv E) = true ∧ (eG E).getD 0 0 = 1 ∧ wfL (eG E) = true then clr (if eSt E < 2 then tal E 0 else ctlA E)
  else clr (tal E 1)
def recvA (E : AE) (b : Nat) : AE := if b = 126 then frameA E else wOv (wEs (wG E (rcv (eG E, eEs E, eOv E) b).1) (rcv (eG E, eEs E, eOv E) b).2.1) (rcv (eG E, eEs E, eOv E) b).2.2
theorem judgeN_le (G : List Nat) (le : Nat) (nu : Int32) (k : Nat) : judgeN G le nu k ≤ 4 := by unfold judgeN; split <;> (try split) <;> (try split) <;> omega
theorem maxO_le {G : List Nat} {le : Nat} {nu : Int32} {a k : Nat} (h : a ≤ 4) : maxO G le nu a k ≤ 4 := by
  have := judgeN_le G le nu k
  unfold maxO
  split <;> omega
theorem maxO_ge {G : List Nat} {le : Nat} {nu : Int32} {a k : Nat} : a ≤ maxO G le nu a k := by unfold maxO; split <;> omega
theorem drop_takeD {G : List Nat} {k i : Nat} (h : k + i < G.length) : (G.drop k).take (i + 1) = (G.drop k).take i ++ [G.getD (k + i) 0] := by
  rw [take_succD (by rw [List.length_drop]; omega)]
  congr 2
  simp
theorem foldO_ind {σ : Type} {f : σ → Nat → σ} {L : List Nat} {to : Nat} (P : Nat → σ → Prop) (hs : ∀ k s, k < to → P k s → P (k + optLen (L.getD k 0)) (f s k)) : ∀ (n k : Nat) (s : σ), to - k ≤ n → P k s → ∃ k', to ≤ k' ∧ P k' (foldO f L to k s) := by
  intro n
  induction n with
  | zero => intro k s hn h; rw [foldO_o (by omega)]; exact ⟨k, by omega, h⟩
  | succ n ih =>
    intro k s hn h
    by_cases q : k < to
    · rw [foldO_t q]
      have := optLen_b (L.getD k 0)
      exact ih _ _ (by omega) (hs k s q h)
    · rw [foldO_o (by omega)]; exact ⟨k, by omega, h⟩
theorem wfl_dup {L : List Nat} {to k : Nat} {g2 : Bool} (h : k < to) (h1 : g2 = true → dupW L k 3 = false) (h2 : g2 = false → dupW L k 3 = true) : wholeW L to k = (g2 && wholeW L to (k + optLen (L.getD k 0))) := by
  cases g2 with
  | true => rw [wholeW_f h (h1 rfl)]; rfl
  | false => rw [wholeW_t h (h2 rfl)]; rfl
theorem wfl_big {L : List Nat} {to k : Nat} (h : to < k) : wholeW L to k = false := by rw [wholeW_o (by omega)]; exact decide_eq_false (by omega)
theorem rbv {a b : Bool} (h : a = b) : some (Value.int (nI a.toNat)) = some (Value.int (nI b.toNat)) := by rw [h]
theorem ao_a {G : List Nat} {to k : Nat} {gd : Bool} (h : to ≤ k) (hgk : gd = true → k ≤ to) (hinv : wholeW G to 3 = (gd && wholeW G to k)) : gd = wholeW G to 3 := by
  rw [hinv]
  cases gd with
  | false => rfl
  | true =>
    have := hgk rfl
    rw [wholeW_o h, decide_eq_true (by omega)]
    rfl
theorem ao_b {G : List Nat} {to k : Nat} {gd : Bool} (h : gd.toNat = 0) (hinv : wholeW G to 3 = (gd && wholeW G to k)) : gd = wholeW G to 3 := by
  rw [hinv, bz h]
  rfl
theorem ao_s {G : List Nat} {to k : Nat} {gd g2 : Bool} (h : k < to) (hg : ¬ gd.toNat = 0) (hinv : wholeW G to 3 = (gd && wholeW G to k)) {j : Nat} (hj : k ≤ j) (hg2 : (g2 = true → dupW G k 3 = dupW G k j) ∧ (g2 = false → dupW G k 3 = true)) : wholeW G to 3 = (g2 && wholeW G to (k + optLen (G.getD k 0))) := by
  rw [hinv, bnz hg, Bool.true_and]
  exact wfl_dup h (fun q => by rw [hg2.1 q]; exact dupW_o hj) hg2.2
theorem ao_t {G : List Nat} {to k : Nat} {g2 : Bool} (h : wholeW G to 3 = (g2 && wholeW G to k)) (q : ¬ g2.toNat = 0) : wholeW G to 3 = (true && wholeW G to k) := by rw [h, bnz q]
theorem ao_f {G : List Nat} {to k : Nat} {g2 : Bool} (h : wholeW G to 3 = (g2 && wholeW G to k)) (q : g2.toNat = 0) : wholeW G to 3 = (false && wholeW G to k) := by rw [h, bz q]
theorem ao_g {G : List Nat} {to k : Nat} {g2 : Bool} (h : wholeW G to 3 = (g2 && wholeW G to k)) (q : to < k) : wholeW G to 3 = (false && wholeW G to k) := by rw [h, wfl_big q, Bool.and_false, Bool.and_false]
section AI
variable {G : List Nat} {k j j2 : Nat} {g2 : Bool}
theorem ai_a (hg2 : (g2 = true → dupW G k 3 = dupW G k j) ∧ (g2 = false → dupW G k 3 = true)) (c : g2.toNat = 0) : (false = true → dupW G k 3 = dupW G k j2) ∧ (false = false → dupW G k 3 = true) := ⟨fun q => absurd q (by decide), fun _ => hg2.2 (bz c)⟩
theorem ai_b (hg2 : (g2 = true → dupW G k 3 = dupW G k j) ∧ (g2 = false → dupW G k 3 = true)) (c : ¬ g2.toNat = 0) (h : j < k) (e : G.getD j 0 = G.getD k 0) : (false = true → dupW G k 3 = dupW G k j2) ∧ (false = false → dupW G k 3 = true) := ⟨fun q => absurd q (by decide), fun _ => by rw [hg2.1 (bnz c)]; exact dupW_t h e⟩
theorem ai_c (hg2 : (g2 = true → dupW G k 3 = dupW G k j) ∧ (g2 = false → dupW G k 3 = true)) (c : ¬ g2.toNat = 0) (h : j < k) (e : ¬ G.getD j 0 = G.getD k 0) : (true = true → dupW G k 3 = dupW G k (j + optLen (G.getD j 0))) ∧ (true = false → dupW G k 3 = true) := ⟨fun _ => by rw [hg2.1 (bnz c)]; exact dupW_f h e, fun q => absurd q (by decide)⟩
end AI
def rightG (G Aq : List Nat) : Bool := if G.getD 1 0 = 2 then sameP G Aq else decide (¬ Aq = [] ∧ G.getD 2 0 = Aq.getD 2 0)
section RG
variable {G Aq : List Nat} {fAk fAl fAo : Nat → Int32} {e : Nat}
theorem ak_at (hA : AkM fAk fAl fAo e Aq) (hl : Aq = [] ∨ (5 ≤ Aq.length ∧ Aq.length ≤ 13)) : fAk e = atL Aq 2 := by
  rcases hl with h | h
  · rw [hA.1 h, h]; rfl
  · rw [(hA.2 (fun q => by rw [q] at h; simp at h)).1, atL_in (by omega)]
theorem at_eq (hb : G.getD 2 0 < 256) (hba : Aq.getD 2 0 < 256) (hl : Aq = [] ∨ (5 ≤ Aq.length ∧ Aq.length ≤ 13)) : nI (G.getD 2 0) = atL Aq 2 ↔ (¬ Aq = [] ∧ G.getD 2 0 = Aq.getD 2 0) := by
  rcases hl with h | h
  · subst h
    constructor
    · intro q
      have q2 : nI (G.getD 2 0) = -1 := q
      have q3 := congrArg Int32.toInt q2
      rw [nI_toInt (by omega)] at q3
      have : ((-1 : Int32)).toInt = -1 := by decide
      omega
    · intro q; exact absurd rfl q.1
  · rw [atL_in (by omega), nI_eq (by omega) (by omega)]
    have : ¬ Aq = [] := fun q => by rw [q] at h; simp at h
    exact ⟨fun q => ⟨this, q⟩, fun q => q.2⟩
theorem rg_a (h : ¬ G.getD 1 0 = 2) (q : ¬ Aq = [] ∧ G.getD 2 0 = Aq.getD 2 0) : rightG G Aq = true := by unfold rightG; rw [if_neg h]; exact decide_eq_true q
theorem rg_b (h : ¬ G.getD 1 0 = 2) (q : ¬ (¬ Aq = [] ∧ G.getD 2 0 = Aq.getD 2 0)) : rightG G Aq = false := by unfold rightG; rw [if_neg h]; exact decide_eq_false q
theorem rg_c (h : G.getD 1 0 = 2) (h5 : 5 ≤ G.length) (q : ¬ (¬ Aq = [] ∧ G.getD 2 0 = Aq.getD 2 0)) : rightG G Aq = false := by
  unfold rightG sameP
  rw [if_pos h]
  by_cases e1 : G.length = Aq.length
  · rw [eqW_f (by omega) (fun z => q ⟨fun y => by subst y; have e2 : G.length = 0 := e1; omega, z⟩), Bool.and_false]
  · rw [decide_eq_false e1]; rfl
theorem rg_d (h : G.getD 1 0 = 2) (q : ¬ G.length = Aq.length) : rightG G Aq = false := by unfold rightG sameP; rw [if_pos h, decide_eq_false q]; rfl
theorem rg_e {k : Nat} (h : G.getD 1 0 = 2) (q : G.length = Aq.length) (h2 : G.getD 2 0 = Aq.getD 2 0) (h5 : 5 ≤ G.length) (hk : eqW G Aq (G.length - 2) 3 = eqW G Aq (G.length - 2) k) : rightG G Aq = eqW G Aq (G.length - 2) k := by
  unfold rightG sameP
  rw [if_pos h, decide_eq_true q, eqW_t (by omega) h2, hk]
  rfl
end RG
def RCh (s n a b : Nat → Int32) (e : Nat) (E : AE) : Prop := s e = nI (eSz E) ∧ n e = eNu E ∧ a e = nI (eAS E).toNat ∧ b e = nI (eAN E).toNat
theorem nb0 {b : Bool} {p : Prop} [Decidable p] (h : b.toNat = 0) : nI 0 = nI (b && decide p).toNat := by rw [bz h]; rfl
theorem nb1 {b : Bool} {p : Prop} [Decidable p] (h : ¬ p) : nI 0 = nI (b && decide p).toNat := by rw [decide_eq_false h, Bool.and_false]; rfl
theorem nb2 {b : Bool} {p : Prop} [Decidable p] (hb : ¬ b.toNat = 0) (hp : p) : nI 1 = nI (b && decide p).toNat := by rw [bnz hb, decide_eq_true hp]; rfl
section CH
variable {G : List Nat} {E : AE} {k e : Nat} {s n a b : Nat → Int32} {x y : Int32}
theorem ch_r (h : RCh s n a b e E) (h4 : G.getD 1 0 = 4) (hx : x = nI (eAS E && decide (¬ G.getD k 0 = 1)).toNat) (hy : y = nI (eAN E && decide (¬ G.getD k 0 = 5)).toNat) : RCh s n (upd a e x) (upd b e y) e (chO G E k) := by
  obtain ⟨h1, h2, h3, h4'⟩ := h
  unfold chO
  rw [if_pos h4]
  by_cases t1 : G.getD k 0 = 1
  · rw [if_pos t1]
    rw [decide_eq_false (by omega), Bool.and_false] at hx
    rw [decide_eq_true (by omega), Bool.and_true] at hy
    exact ⟨h1, h2, by rw [upd_eq]; exact hx, by rw [upd_eq]; exact hy⟩
  · rw [if_neg t1]
    rw [decide_eq_true t1, Bool.and_true] at hx
    by_cases t5 : G.getD k 0 = 5
    · rw [if_pos t5]
      rw [decide_eq_false (by omega), Bool.and_false] at hy
      exact ⟨h1, h2, by rw [upd_eq]; exact hx, by rw [upd_eq]; exact hy⟩
    · rw [if_neg t5]
      rw [decide_eq_true t5, Bool.and_true] at hy
      exact ⟨h1, h2, by rw [upd_eq]; exact hx, by rw [upd_eq]; exact hy⟩
theorem ch_s1 (h : RCh s n a b e E) (h4 : ¬ G.getD 1 0 = 4) (t : G.getD k 0 = 1) (hv : 64 ≤ G.getD (k + 1) 0 * 256 + G.getD (k + 2) 0 ∧ G.getD (k + 1) 0 * 256 + G.getD (k + 2) 0 ≤ 1500) : RCh (upd s e (nI (G.getD (k + 1) 0 * 256 + G.getD (k + 2) 0))) n a b e (chO G E k) := by
  unfold chO
  rw [if_neg h4, if_pos t, if_pos hv]
  exact ⟨upd_eq, h.2.1, h.2.2.1, h.2.2.2⟩
theorem ch_s0 (h : RCh s n a b e E) (h4 : ¬ G.getD 1 0 = 4) (t : G.getD k 0 = 1) (hv : ¬ (64 ≤ G.getD (k + 1) 0 * 256 + G.getD (k + 2) 0 ∧ G.getD (k + 1) 0 * 256 + G.getD (k + 2) 0 ≤ 1500)) : RCh (upd s e (nI (eSz E))) n a b e (chO G E k) := by
  unfold chO
  rw [if_neg h4, if_pos t, if_neg hv]
  exact ⟨upd_eq, h.2.1, h.2.2.1, h.2.2.2⟩
theorem ch_n (h : RCh s n a b e E) (h4 : ¬ G.getD 1 0 = 4) (t : ¬ G.getD k 0 = 1) (t5 : G.getD k 0 = 5) : RCh s (upd n e (n4 G (k + 1))) a b e (chO G E k) := by
  unfold chO
  rw [if_neg h4, if_neg t, if_pos t5]
  exact ⟨h.1, upd_eq, h.2.2.1, h.2.2.2⟩
theorem ch_x (h : RCh s n a b e E) (h4 : ¬ G.getD 1 0 = 4) (t : ¬ G.getD k 0 = 1) (t5 : ¬ G.getD k 0 = 5) : RCh s n a b e (chO G E k) := by
  unfold chO
  rw [if_neg h4, if_neg t, if_neg t5]
  exact h
end CH
theorem updo {f g : Nat → Int32} {e o : Nat} {x : Int32} (h : o ≠ e) (k : f o = g o) : upd f e x o = g o := by rw [upd_ne h]; exact k
theorem maxO_a {G : List Nat} {le : Nat} {nu : Int32} {a k : Nat} (h : a < judgeN G le nu k) : maxO G le nu a k = judgeN G le nu k := if_pos h
theorem maxO_b {G : List Nat} {le : Nat} {nu : Int32} {a k : Nat} (h : judgeN G le nu k ≤ a) : maxO G le nu a k = a := if_neg (by omega)
theorem suspO_a {G : List Nat} {nu : Int32} {cf : Nat → Int32} {k : Nat} (h1 : G.getD k 0 = 5) (h2 : n4 G (k + 1) = nu) (h3 : ¬ nu = 0) : suspO G nu cf k = upd cf 3 (cf 3 + nI 1) := by
  unfold suspO susp
  rw [decide_eq_true h1, decide_eq_true h2, decide_eq_true h3]
  rfl
theorem suspO_b {G : List Nat} {nu : Int32} {cf : Nat → Int32} {k : Nat} (h1 : ¬ (G.getD k 0 = 5 ∧ n4 G (k + 1) = nu ∧ ¬ nu = 0)) : suspO G nu cf k = cf := by
  unfold suspO
  rw [if_neg]
  intro q
  unfold susp at q
  simp only [Bool.and_eq_true, decide_eq_true_eq] at q
  exact h1 q
theorem optA_n1 {G : List Nat} {le : Nat} {nu : Int32} {code k : Nat} (h : code = 3) (hj : judgeN G le nu k = 3) (t : G.getD k 0 = 1) : optA G le nu code k = [G.getD k 0, le / 256, le % 256] := by unfold optA; rw [if_pos ⟨h, hj⟩, if_pos t]
theorem optA_n5 {G : List Nat} {le : Nat} {nu : Int32} {code k : Nat} (h : code = 3) (hj : judgeN G le nu k = 3) (t : ¬ G.getD k 0 = 1) : optA G le nu code k = G.getD k 0 :: nbs (nu * nI 1103515245 + nI 12345) := by unfold optA; rw [if_pos ⟨h, hj⟩, if_neg t]
theorem optA_c {G : List Nat} {le : Nat} {nu : Int32} {code k : Nat} (h : ¬ (code = 3 ∧ judgeN G le nu k = 3)) (hj : code = 2 ∨ (code = 4 ∧ judgeN G le nu k = 4)) : optA G le nu code k = (G.drop k).take (optLen (G.getD k 0)) := by unfold optA; rw [if_neg h, if_pos hj]
theorem optA_0 {G : List Nat} {le : Nat} {nu : Int32} {code k : Nat} (h : ¬ (code = 3 ∧ judgeN G le nu k = 3)) (hj : ¬ (code = 2 ∨ (code = 4 ∧ judgeN G le nu k = 4))) : optA G le nu code k = [] := by unfold optA; rw [if_neg h, if_neg hj]
theorem judge3 {G : List Nat} {le : Nat} {nu : Int32} {k : Nat} (h : judgeN G le nu k = 3) (t : ¬ G.getD k 0 = 1) : G.getD k 0 = 5 := by
  unfold judgeN at h
  rw [if_neg t] at h
  by_cases q : G.getD k 0 = 5
  · exact q
  · rw [if_neg q] at h; omega
def DtO (fDl fDb l2 b2 : Nat → Int32) (e : Nat) : Prop := ∀ (o : Nat) (K : List Nat), o < 2 → o ≠ e → K.length ≤ 40 → DtM fDl fDb o K → DtM l2 b2 o K
theorem optA_len {G : List Nat} {le : Nat} {nu : Int32} {code k : Nat} : (optA G le nu code k).length ≤ optLen (G.getD k 0) := by
  unfold optA
  by_cases h : code = 3 ∧ judgeN G le nu k = 3
  · rw [if_pos h]
    by_cases t : G.getD k 0 = 1
    · rw [if_pos t, optLen_1 t]; simp
    · rw [if_neg t, optLen_5 (judge3 h.2 t)]; simp [nbs]
  · rw [if_neg h]
    split
    · rw [List.length_take]; omega
    · simp
theorem DtM.keep {l2 b2 : Nat → Int32} {e : Nat} {K : List Nat} (h1 : l2 e = nI (K.length - 3)) (h2 : ∀ j, j < K.length - 3 → b2 (40 * e + j) = nI (K.getD (1 + j) 0)) : DtM l2 b2 e K := ⟨h1, h2⟩
theorem DtO.keep {fDl fDb b3 : Nat → Int32} {e : Nat} {x : Int32} (he : e < 2) (h : ∀ q, (q < 40 * e ∨ 40 * e + 40 ≤ q) → b3 q = fDb q) : DtO fDl fDb (upd fDl e x) b3 e := by
  intro o K ho hne hK k
  refine ⟨by rw [upd_ne hne]; exact k.1, fun i hi => ?_⟩
  rw [h _ (by omega)]
  exact k.2 i hi
theorem DtO.refl {a b : Nat → Int32} {e : Nat} : DtO a b a b e := fun _ _ _ _ _ h => h
theorem kd1 {b3 : Nat → Int32} {G : List Nat} {e k : Nat} (h : ∀ j, j < k - 1 → b3 (40 * e + j) = nI (G.getD (1 + j) 0)) (hk : 1 ≤ k) : ∀ j, j < k + 1 - 1 → upd b3 (40 * e + k - 1) (nI (G.getD k 0)) (40 * e + j) = nI (G.getD (1 + j) 0) := by
  intro j hj
  by_cases e9 : j = k - 1
  · rw [show 40 * e + j = 40 * e + k - 1 by omega, upd_eq, show 1 + j = k by omega]
  · rw [upd_ne (by omega)]
    exact h j (by omega)
