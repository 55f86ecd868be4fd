/-! pure words: bytes held in rows, the check, frames -/
def Hd (f : Nat → Int32) (L : List Nat) : Prop := ∀ i, i < L.length → f i = nI (L.getD i 0)
def Bt (L : List Nat) : Prop := ∀ x ∈ L, x < 256
theorem Hd.nil {f : Nat → Int32} : Hd f [] := fun i h => absurd h (Nat.not_lt_zero _)
theorem Hd.snoc {f : Nat → Int32} {L : List Nat} {x : Nat} (h : Hd f L) : Hd (upd f L.length (nI x)) (L ++ [x]) := by
  intro i hi
  rw [List.length_append, List.length_singleton] at hi
  unfold upd
  by_cases e : i = L.length
  · rw [if_pos e, e]; simp
  · rw [if_neg e, h i (by omega)]
    simp [List.getElem?_append_left (show i < L.length by omega)]
theorem Hd.take {f : Nat → Int32} {L : List Nat} (h : Hd f L) (k : Nat) : Hd f (L.take k) := by
  intro i hi
  rw [List.length_take] at hi
  rw [h i (by omega)]
  simp [List.getElem?_take, show i < k by omega]
theorem Bt.nil : Bt [] := fun x h => by cases h
theorem Bt.app {L M : List Nat} (h : Bt L) (k : Bt M) : Bt (L ++ M) := fun x hx => (List.mem_append.mp hx).elim (h x) (k x)
theorem Bt.one {x : Nat} (h : x < 256) : Bt [x] := fun y hy => by rw [List.mem_singleton.mp hy]; exact h
theorem Bt.get {L : List Nat} (h : Bt L) (i : Nat) : L.getD i 0 < 256 := by
  rw [List.getD_eq_getElem?_getD]
  cases e : L[i]? with
  | none => decide
  | some x => exact h x (List.mem_of_getElem? e)
theorem Bt.take {L : List Nat} (h : Bt L) (k : Nat) : Bt (L.take k) := fun x hx => h x (List.mem_of_mem_take hx)
theorem take_succD {L : List Nat} {i : Nat} (h : i < L.length) : L.take (i + 1) = L.take i ++ [L.getD i 0] := by
  rw [List.take_succ]
  simp [List.getElem?_eq_getElem h]
def atL (L : List Nat) (k : Nat) : Int32 := if k < L.length then nI (L.getD k 0) else -1
theorem atL_in {L : List Nat} {k : Nat} (h : k < L.length) : atL L k = nI (L.getD k 0) := if_pos h
theorem atL_out {L : List Nat} {k : Nat} (h : L.length ≤ k) : atL L k = -1 := if_neg (Nat.not_lt.mpr h)
/-- the check: a bit, eight bits, a byte, a row of bytes -/
def crcB (c : Nat) : Nat := if c % 2 = 1 then c / 2 ^^^ 33800 else c / 2
def crcN : Nat → Nat → Nat
  | 0, c => c
  | k + 1, c => crcB (crcN k c)
def crcS (c b : Nat) : Nat := crcN 8 (c ^^^ b)
def crcF (L : List Nat) : Nat := L.foldl crcS 65535
def crc (L : List Nat) : Nat := crcF L ^^^ 65535
theorem crcB_lt {c : Nat} (h : c < 65536) : crcB c < 65536 := by
  unfold crcB
  split
  · exact Nat.xor_lt_two_pow (n := 16) (by omega) (by decide)
  · omega
theorem crcN_lt {c : Nat} (h : c < 65536) : ∀ k, crcN k c < 65536
  | 0 => h
  | k + 1 => crcB_lt (crcN_lt h k)
theorem crcS_lt {c b : Nat} (h : c < 65536) (hb : b < 256) : crcS c b < 65536 := crcN_lt (Nat.xor_lt_two_pow (n := 16) h (by omega)) 8
theorem crcF_snoc (L : List Nat) (b : Nat) : crcF (L ++ [b]) = crcS (crcF L) b := by simp [crcF]
theorem crcF_lt {L : List Nat} (h : Bt L) : crcF L < 65536 := by
  unfold crcF
  suffices ∀ (L : List Nat) (c : Nat), c < 65536 → (∀ x ∈ L, x < 256) → L.foldl crcS c < 65536 from this L 65535 (by decide) h
  intro L
  induction L with
  | nil => intro c h _; exact h
  | cons a L ih => intro c h hb; exact ih _ (crcS_lt h (hb a List.mem_cons_self)) (fun x hx => hb x (List.mem_cons_of_mem _ hx))
theorem crc_lt {L : List Nat} (h : Bt L) : crc L < 65536 := Nat.xor_lt_two_pow (n := 16) (crcF_lt h) (by decide)
def sealL (L : List Nat) : List Nat := L ++ [crc L % 256] ++ [crc L / 256]
theorem sealL_len (L : List Nat) : (sealL L).length = L.length + 2 := by simp [sealL]
theorem sealL_bt {L : List Nat} (h : Bt L) : Bt (sealL L) := (h.app (Bt.one (by omega))).app (Bt.one (by have := crc_lt h; omega))
def escB (b : Nat) : List Nat := if b = 125 ∨ b = 126 then [125, b ^^^ 32] else [b]
def escL (L : List Nat) : List Nat := L.flatMap escB
def frameL (L : List Nat) : List Nat := [126] ++ escL (sealL L) ++ [126]
theorem escL_snoc (L : List Nat) (b : Nat) : escL (L ++ [b]) = escL L ++ escB b := by simp [escL]
theorem escB_len_t {b : Nat} (h : b = 125 ∨ b = 126) : escB b = [125, b ^^^ 32] := if_pos h
theorem escB_len_f {b : Nat} (h : ¬ (b = 125 ∨ b = 126)) : escB b = [b] := if_neg h
def isSeal (L : List Nat) : Bool := decide (5 ≤ L.length) && decide (crc (L.take (L.length - 2)) = L.getD (L.length - 2) 0 + L.getD (L.length - 1) 0 * 256)
/-- a number of four bytes, and its bytes -/
def n4 (L : List Nat) (k : Nat) : Int32 := ((nI (L.getD k 0) <<< (nI 24 &&& 31) ||| nI (L.getD (k + 1) 0) <<< (nI 16 &&& 31)) ||| nI (L.getD (k + 2) 0) <<< (nI 8 &&& 31)) ||| nI (L.getD (k + 3) 0)
def lowb (v : Int32) : Nat := v.toBitVec.toNat % 2 ^ 8
theorem lowb_lt (v : Int32) : lowb v < 256 := Nat.mod_lt _ (by decide)
theorem lowb_nI {n : Nat} (h : n < 2 ^ 32) : lowb (nI n) = n % 2 ^ 8 := by rw [lowb, pk_tn h]
def nbs (v : Int32) : List Nat := [lowb (v >>> (nI 24 &&& 31)), lowb (v >>> (nI 16 &&& 31)), lowb (v >>> (nI 8 &&& 31)), lowb v]
def codeL (L : List Nat) : Int32 := if L.getD 0 0 = 1 then nI (L.getD 1 0) else -1
def optLen (t : Nat) : Nat := if t = 1 then 3 else if t = 5 then 5 else 2
theorem optLen_b (t : Nat) : 2 ≤ optLen t ∧ optLen t ≤ 5 := by unfold optLen; split <;> (try split) <;> omega
theorem dz {p : Prop} [Decidable p] (h : (decide p).toNat = 0) : ¬ p := fun q => by rw [decide_eq_true q] at h; exact absurd h (by decide)
theorem dnz {p : Prop} [Decidable p] (h : ¬ (decide p).toNat = 0) : p := by
  by_cases q : p
  · exact q
  · rw [decide_eq_false q] at h; exact absurd rfl h
theorem bz {b : Bool} (h : b.toNat = 0) : b = false := by cases b <;> first | rfl | cases h
theorem bnz {b : Bool} (h : ¬ b.toNat = 0) : b = true := by cases b <;> first | rfl | exact absurd rfl h
theorem b_lt (b : Bool) : b.toNat ≤ 1 := by cases b <;> decide
theorem escL_le (L : List Nat) : L.length ≤ (escL L).length ∧ (escL L).length ≤ 2 * L.length := by
  induction L with
  | nil => simp [escL]
  | cons a L ih =>
    have e : escL (a :: L) = escB a ++ escL L := by simp [escL]
    have h1 : 1 ≤ (escB a).length ∧ (escB a).length ≤ 2 := by unfold escB; split <;> simp
    rw [e, List.length_append, List.length_cons]
    omega
/-- a type that came ahead of place k; whole options from k to 'to'; equal from i to 'to' -/
def dupW (L : List Nat) (k j : Nat) : Bool := if j < k then (if L.getD j 0 = L.getD k 0 then true else dupW L k (j + optLen (L.getD j 0))) else false
termination_by k - j
decreasing_by have := optLen_b (L.getD j 0); omega
theorem dupW_t {L : List Nat} {k j : Nat} (h : j < k) (e : L.getD j 0 = L.getD k 0) : dupW L k j = true := by rw [dupW, if_pos h, if_pos e]
theorem dupW_f {L : List Nat} {k j : Nat} (h : j < k) (e : ¬ L.getD j 0 = L.getD k 0) : dupW L k j = dupW L k (j + optLen (L.getD j 0)) := by rw [dupW, if_pos h, if_neg e]
theorem dupW_o {L : List Nat} {k j : Nat} (h : k ≤ j) : dupW L k j = false := by rw [dupW, if_neg (by omega)]
def wholeW (L : List Nat) (to k : Nat) : Bool := if k < to then (if dupW L k 3 = true then false else wholeW L to (k + optLen (L.getD k 0))) else decide (k = to)
termination_by to - k
decreasing_by have := optLen_b (L.getD k 0); omega
theorem wholeW_t {L : List Nat} {to k : Nat} (h : k < to) (e : dupW L k 3 = true) : wholeW L to k = false := by rw [wholeW, if_pos h, if_pos e]
theorem wholeW_f {L : List Nat} {to k : Nat} (h : k < to) (e : dupW L k 3 = false) : wholeW L to k = wholeW L to (k + optLen (L.getD k 0)) := by rw [wholeW, if_pos h, if_neg (by rw [e]; decide)]
theorem wholeW_o {L : List Nat} {to k : Nat} (h : to ≤ k) : wholeW L to k = decide (k = to) := by rw [wholeW, if_neg (by omega)]
def eqW (L M : List Nat) (to i : Nat) : Bool := if i < to then (if L.getD i 0 = M.getD i 0 then eqW L M to (i + 1) else false) else true
termination_by to - i
theorem eqW_t {L M : List Nat} {to i : Nat} (h : i < to) (e : L.getD i 0 = M.getD i 0) : eqW L M to i = eqW L M to (i + 1) := by rw [eqW, if_pos h, if_pos e]
theorem eqW_f {L M : List Nat} {to i : Nat} (h : i < to) (e : ¬ L.getD i 0 = M.getD i 0) : eqW L M to i = false := by rw [eqW, if_pos h, if_neg e]
theorem eqW_o {L M : List Nat} {to i : Nat} (h : to ≤ i) : eqW L M to i = true := by rw [eqW, if_neg (by omega)]
def sameP (L M : List Nat) : Bool := decide (L.length = M.length) && eqW L M (L.length - 2) 2
def wfL (L : List Nat) : Bool :=
  if L.getD 0 0 = 1 then
    (if L.getD 1 0 = 1 ∨ L.getD 1 0 = 2 ∨ L.getD 1 0 = 3 ∨ L.getD 1 0 = 4 then wholeW L (L.length - 2) 3
     else if L.getD 1 0 = 5 ∨ L.getD 1 0 = 6 then decide (L.length - 2 - 3 = 0)
     else if L.getD 1 0 = 7 then decide (L.length - 2 - 3 = 1)
     else if L.getD 1 0 = 9 ∨ L.getD 1 0 = 10 then decide (L.length - 2 - 3 = 4) else true)
  else decide (L.getD 0 0 = 2)
/-- a ring of 300 -/
def Rg (fr : Nat) (f : Nat → Int32) (B : List Nat) : Prop := fr < 300 ∧ B.length ≤ 300 ∧ ∀ i, i < B.length → f ((fr + i) % 300) = nI (B.getD i 0)
theorem Rg.snoc {fr : Nat} {f : Nat → Int32} {B : List Nat} {x : Nat} (h : Rg fr f B) (hl : B.length < 300) : Rg fr (upd f ((fr + B.length) % 300) (nI x)) (B ++ [x]) := by
  obtain ⟨h1, h2, h3⟩ := h
  refine ⟨h1, by rw [List.length_append, List.length_singleton]; omega, fun i hi => ?_⟩
  rw [List.length_append, List.length_singleton] at hi
  unfold upd
  by_cases e : i = B.length
  · subst e; rw [if_pos rfl]; simp
  · rw [if_neg (by omega), h3 i (by omega)]
    simp [List.getElem?_append_left (show i < B.length by omega)]
theorem Rg.drop {fr : Nat} {f : Nat → Int32} {B : List Nat} (h : Rg fr f B) {k : Nat} (hk : k ≤ B.length) : Rg ((fr + k) % 300) f (B.drop k) := by
  obtain ⟨h1, h2, h3⟩ := h
  refine ⟨Nat.mod_lt _ (by decide), by rw [List.length_drop]; omega, fun i hi => ?_⟩
  rw [List.length_drop] at hi
  rw [show ((fr + k) % 300 + i) % 300 = (fr + (k + i)) % 300 by omega, h3 (k + i) (by omega)]
  simp
theorem Rg.set {fr : Nat} {f : Nat → Int32} {B : List Nat} (h : Rg fr f B) {k x : Nat} (hk : k < B.length) : Rg fr (upd f ((fr + k) % 300) (nI x)) (B.set k x) := by
  obtain ⟨h1, h2, h3⟩ := h
  refine ⟨h1, by rw [List.length_set]; omega, fun i hi => ?_⟩
  rw [List.length_set] at hi
  unfold upd
  by_cases e : i = k
  · subst e; rw [if_pos rfl]; simp [hk]
  · rw [if_neg (by omega), h3 i hi]
    simp [List.getElem?_set_ne (show k ≠ i by omega)]
/-- what an end has gathered: the bytes, a 125 stands, too many -/
abbrev GS : Type := List Nat × Bool × Bool
def rcv (z : GS) (b : Nat) : GS := if b = 125 ∧ z.2.1 = false then (z.1, true, z.2.2) else if 40 ≤ z.1.length then (z.1, false, true) else (z.1 ++ [if z.2.1 = true then b ^^^ 32 else b], false, z.2.2)
def holdsP (z : GS) : Bool := !z.2.2 && (!z.2.1 && isSeal z.1)
theorem rbt {b : Bool} (h : b = true) : some (Value.int (nI 1)) = some (Value.int (nI b.toNat)) := by rw [h]; rfl
theorem rbf {b : Bool} (h : b = false) : some (Value.int (nI 0)) = some (Value.int (nI b.toNat)) := by rw [h]; rfl
theorem isSeal_a {L : List Nat} (h : L.length < 5) : isSeal L = false := by unfold isSeal; rw [decide_eq_false (by omega)]; rfl
theorem isSeal_b {L : List Nat} (h : ¬ crc (L.take (L.length - 2)) = L.getD (L.length - 2) 0 + L.getD (L.length - 1) 0 * 256) : isSeal L = false := by unfold isSeal; rw [decide_eq_false h]; exact Bool.and_false _
theorem isSeal_c {L : List Nat} (h5 : 5 ≤ L.length) (h : crc (L.take (L.length - 2)) = L.getD (L.length - 2) 0 + L.getD (L.length - 1) 0 * 256) : isSeal L = true := by unfold isSeal; rw [decide_eq_true h, decide_eq_true h5]; rfl
theorem wfL_o {L : List Nat} (h0 : L.getD 0 0 = 1) (h : L.getD 1 0 = 1 ∨ L.getD 1 0 = 2 ∨ L.getD 1 0 = 3 ∨ L.getD 1 0 = 4) : wfL L = wholeW L (L.length - 2) 3 := by unfold wfL; rw [if_pos h0, if_pos h]
theorem wfL_e {L : List Nat} (h0 : L.getD 0 0 = 1) (h : L.getD 1 0 = 5 ∨ L.getD 1 0 = 6) : wfL L = decide (L.length - 2 - 3 = 0) := by unfold wfL; rw [if_pos h0, if_neg (by omega), if_pos h]
theorem wfL_u {L : List Nat} (h0 : L.getD 0 0 = 1) (h : L.getD 1 0 = 7) : wfL L = decide (L.length - 2 - 3 = 1) := by unfold wfL; rw [if_pos h0, if_neg (by omega), if_neg (by omega), if_pos h]
theorem wfL_n {L : List Nat} (h0 : L.getD 0 0 = 1) (h : L.getD 1 0 = 9 ∨ L.getD 1 0 = 10) : wfL L = decide (L.length - 2 - 3 = 4) := by unfold wfL; rw [if_pos h0, if_neg (by omega), if_neg (by omega), if_neg (by omega), if_pos h]
theorem wfL_x {L : List Nat} (h0 : L.getD 0 0 = 1) (h : L.getD 1 0 = 0 ∨ L.getD 1 0 = 8 ∨ 10 < L.getD 1 0) : wfL L = true := by unfold wfL; rw [if_pos h0, if_neg (by omega), if_neg (by omega), if_neg (by omega), if_neg (by omega)]
theorem wfL_d {L : List Nat} (h0 : ¬ L.getD 0 0 = 1) : wfL L = decide (L.getD 0 0 = 2) := by unfold wfL; rw [if_neg h0]
theorem rcv_a {z : GS} {b : Nat} (h : b = 125) (e : z.2.1 = false) : rcv z b = (z.1, true, z.2.2) := by unfold rcv; rw [if_pos ⟨h, e⟩]
theorem rcv_b {z : GS} {b : Nat} (h : b = 125 → z.2.1 = true) (e : 40 ≤ z.1.length) : rcv z b = (z.1, false, true) := by
  unfold rcv; rw [if_neg (fun q => by have := h q.1; rw [q.2] at this; cases this), if_pos e]
theorem rcv_c {z : GS} {b : Nat} (h : b = 125 → z.2.1 = true) (e : z.1.length < 40) (t : z.2.1 = true) : rcv z b = (z.1 ++ [b ^^^ 32], false, z.2.2) := by
  unfold rcv; rw [if_neg (fun q => by have := h q.1; rw [q.2] at this; cases this), if_neg (by omega), if_pos t]
theorem rcv_d {z : GS} {b : Nat} (h : ¬ b = 125) (e : z.1.length < 40) (t : z.2.1 = false) : rcv z b = (z.1 ++ [b], false, z.2.2) := by
  unfold rcv; rw [if_neg (fun q => h q.1), if_neg (by omega), if_neg (by rw [t]; decide)]
theorem escL_dropc {M : List Nat} {i : Nat} (h : i < M.length) : (escL (M.drop i)).length = (escB (M.getD i 0)).length + (escL (M.drop (i + 1))).length := by
  have e : M.drop i = M.getD i 0 :: M.drop (i + 1) := by
    rw [List.drop_eq_getElem_cons h]
    simp [List.getElem?_eq_getElem h]
  rw [e, show escL (M.getD i 0 :: M.drop (i + 1)) = escB (M.getD i 0) ++ escL (M.drop (i + 1)) by simp [escL], List.length_append]
