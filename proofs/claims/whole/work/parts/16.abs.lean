/-! an end, as the document has it; what its actions do to it -/
abbrev AE : Type := Nat × Nat × Int32 × Bool × Bool × Nat × Nat × Int32 × Nat × (Nat → Int32) × (List Nat) × (List Nat) × (List Nat) × Bool × Bool × (List Nat) × Bool
abbrev eSz (E : AE) : Nat := E.1
abbrev eLe (E : AE) : Nat := E.2.1
abbrev eNu (E : AE) : Int32 := E.2.2.1
abbrev eAS (E : AE) : Bool := E.2.2.2.1
abbrev eAN (E : AE) : Bool := E.2.2.2.2.1
abbrev eSt (E : AE) : Nat := E.2.2.2.2.2.1
abbrev eId (E : AE) : Nat := E.2.2.2.2.2.2.1
abbrev eTr (E : AE) : Int32 := E.2.2.2.2.2.2.2.1
abbrev eTi (E : AE) : Nat := E.2.2.2.2.2.2.2.2.1
abbrev eCf (E : AE) : Nat → Int32 := E.2.2.2.2.2.2.2.2.2.1
abbrev eB (E : AE) : List Nat := E.2.2.2.2.2.2.2.2.2.2.1
abbrev eAq (E : AE) : List Nat := E.2.2.2.2.2.2.2.2.2.2.2.1
abbrev eG (E : AE) : List Nat := E.2.2.2.2.2.2.2.2.2.2.2.2.1
abbrev eEs (E : AE) : Bool := E.2.2.2.2.2.2.2.2.2.2.2.2.2.1
abbrev eOv (E : AE) : Bool := E.2.2.2.2.2.2.2.2.2.2.2.2.2.2.1
abbrev eKl (E : AE) : List Nat := E.2.2.2.2.2.2.2.2.2.2.2.2.2.2.2.1
abbrev eLp (E : AE) : Bool := E.2.2.2.2.2.2.2.2.2.2.2.2.2.2.2.2
abbrev wSz (E : AE) (v : Nat) : AE := (v, E.2.1, E.2.2.1, E.2.2.2.1, E.2.2.2.2.1, E.2.2.2.2.2.1, E.2.2.2.2.2.2.1, E.2.2.2.2.2.2.2.1, E.2.2.2.2.2.2.2.2.1, E.2.2.2.2.2.2.2.2.2.1, E.2.2.2.2.2.2.2.2.2.2.1, E.2.2.2.2.2.2.2.2.2.2.2.1, E.2.2.2.2.2.2.2.2.2.2.2.2.1, E.2.2.2.2.2.2.2.2.2.2.2.2.2.1, E.2.2.2.2.2.2.2.2.2.2.2.2.2.2.1, E.2.2.2.2.2.2.2.2.2.2.2.2.2.2.2.1, E.2.2.2.2.2.2.2.2.2.2.2.2.2.2.2.2)
abbrev wLe (E : AE) (v : Nat) : AE := (E.1, v, E.2.2.1, E.2.2.2.1, E.2.2.2.2.1, E.2.2.2.2.2.1, E.2.2.2.2.2.2.1, E.2.2.2.2.2.2.2.1, E.2.2.2.2.2.2.2.2.1, E.2.2.2.2.2.2.2.2.2.1, E.2.2.2.2.2.2.2.2.2.2.1, E.2.2.2.2.2.2.2.2.2.2.2.1, E.2.2.2.2.2.2.2.2.2.2.2.2.1, E.2.2.2.2.2.2.2.2.2.2.2.2.2.1, E.2.2.2.2.2.2.2.2.2.2.2.2.2.2.1, E.2.2.2.2.2.2.2.2.2.2.2.2.2.2.2.1, E.2.2.2.2.2.2.2.2.2.2.2.2.2.2.2.2)
abbrev wNu (E : AE) (v : Int32) : AE := (E.1, E.2.1, v, E.2.2.2.1, E.2.2.2.2.1, E.2.2.2.2.2.1, E.2.2.2.2.2.2.1, E.2.2.2.2.2.2.2.1, E.2.2.2.2.2.2.2.2.1, E.2.2.2.2.2.2.2.2.2.1, E.2.2.2.2.2.2.2.2.2.2.1, E.2.2.2.2.2.2.2.2.2.2.2.1, E.2.2.2.2.2.2.2.2.2.2.2.2.1, E.2.2.2.2.2.2.2.2.2.2.2.2.2.1, E.2.2.2.2.2.2.2.2.2.2.2.2.2.2.1, E.2.2.2.2.2.2.2.2.2.2.2.2.2.2.2.1, E.2.2.2.2.2.2.2.2.2.2.2.2.2.2.2.2)
abbrev wAS (E : AE) (v : Bool) : AE := (E.1, E.2.1, E.2.2.1, v, E.2.2.2.2.1, E.2.2.2.2.2.1, E.2.2.2.2.2.2.1, E.2.2.2.2.2.2.2.1, E.2.2.2.2.2.2.2.2.1, E.2.2.2.2.2.2.2.2.2.1, E.2.2.2.2.2.2.2.2.2.2.1, E.2.2.2.2.2.2.2.2.2.2.2.1, E.2.2.2.2.2.2.2.2.2.2.2.2.1, E.2.2.2.2.2.2.2.2.2.2.2.2.2.1, E.2.2.2.2.2.2.2.2.2.2.2.2.2.2.1, E.2.2.2.2.2.2.2.2.2.2.2.2.2.2.2.1, E.2.2.2.2.2.2.2.2.2.2.2.2.2.2.2.2)
abbrev wAN (E : AE) (v : Bool) : AE := (E.1, E.2.1, E.2.2.1, E.2.2.2.1, v, E.2.2.2.2.2.1, E.2.2.2.2.2.2.1, E.2.2.2.2.2.2.2.1, E.2.2.2.2.2.2.2.2.1, E.2.2.2.2.2.2.2.2.2.1, E.2.2.2.2.2.2.2.2.2.2.1, E.2.2.2.2.2.2.2.2.2.2.2.1, E.2.2.2.2.2.2.2.2.2.2.2.2.1, E.2.2.2.2.2.2.2.2.2.2.2.2.2.1, E.2.2.2.2.2.2.2.2.2.2.2.2.2.2.1, E.2.2.2.2.2.2.2.2.2.2.2.2.2.2.2.1, E.2.2.2.2.2.2.2.2.2.2.2.2.2.2.2.2)
abbrev wSt (E : AE) (v : Nat) : AE := (E.1, E.2.1, E.2.2.1, E.2.2.2.1, E.2.2.2.2.1, v, E.2.2.2.2.2.2.1, E.2.2.2.2.2.2.2.1, E.2.2.2.2.2.2.2.2.1, E.2.2.2.2.2.2.2.2.2.1, E.2.2.2.2.2.2.2.2.2.2.1, E.2.2.2.2.2.2.2.2.2.2.2.1, E.2.2.2.2.2.2.2.2.2.2.2.2.1, E.2.2.2.2.2.2.2.2.2.2.2.2.2.1, E.2.2.2.2.2.2.2.2.2.2.2.2.2.2.1, E.2.2.2.2.2.2.2.2.2.2.2.2.2.2.2.1, E.2.2.2.2.2.2.2.2.2.2.2.2.2.2.2.2)
abbrev wId (E : AE) (v : Nat) : AE := (E.1, E.2.1, E.2.2.1, E.2.2.2.1, E.2.2.2.2.1, E.2.2.2.2.2.1, v, E.2.2.2.2.2.2.2.1, E.2.2.2.2.2.2.2.2.1, E.2.2.2.2.2.2.2.2.2.1, E.2.2.2.2.2.2.2.2.2.2.1, E.2.2.2.2.2.2.2.2.2.2.2.1, E.2.2.2.2.2.2.2.2.2.2.2.2.1, E.2.2.2.2.2.2.2.2.2.2.2.2.2.1, E.2.2.2.2.2.2.2.2.2.2.2.2.2.2.1, E.2.2.2.2.2.2.2.2.2.2.2.2.2.2.2.1, E.2.2.2.2.2.2.2.2.2.2.2.2.2.2.2.2)
abbrev wTr (E : AE) (v : Int32) : AE := (E.1, E.2.1, E.2.2.1, E.2.2.2.1, E.2.2.2.2.1, E.2.2.2.2.2.1, E.2.2.2.2.2.2.1, v, E.2.2.2.2.2.2.2.2.1, E.2.2.2.2.2.2.2.2.2.1, E.2.2.2.2.2.2.2.2.2.2.1, E.2.2.2.2.2.2.2.2.2.2.2.1, E.2.2.2.2.2.2.2.2.2.2.2.2.1, E.2.2.2.2.2.2.2.2.2.2.2.2.2.1, E.2.2.2.2.2.2.2.2.2.2.2.2.2.2.1, E.2.2.2.2.2.2.2.2.2.2.2.2.2.2.2.1, E.2.2.2.2.2.2.2.2.2.2.2.2.2.2.2.2)
abbrev wTi (E : AE) (v : Nat) : AE := (E.1, E.2.1, E.2.2.1, E.2.2.2.1, E.2.2.2.2.1, E.2.2.2.2.2.1, E.2.2.2.2.2.2.1, E.2.2.2.2.2.2.2.1, v, E.2.2.2.2.2.2.2.2.2.1, E.2.2.2.2.2.2.2.2.2.2.1, E.2.2.2.2.2.2.2.2.2.2.2.1, E.2.2.2.2.2.2.2.2.2.2.2.2.1, E.2.2.2.2.2.2.2.2.2.2.2.2.2.1, E.2.2.2.2.2.2.2.2.2.2.2.2.2.2.1, E.2.2.2.2.2.2.2.2.2.2.2.2.2.2.2.1, E.2.2.2.2.2.2.2.2.2.2.2.2.2.2.2.2)
abbrev wCf (E : AE) (v : Nat → Int32) : AE := (E.1, E.2.1, E.2.2.1, E.2.2.2.1, E.2.2.2.2.1, E.2.2.2.2.2.1, E.2.2.2.2.2.2.1, E.2.2.2.2.2.2.2.1, E.2.2.2.2.2.2.2.2.1, v, E.2.2.2.2.2.2.2.2.2.2.1, E.2.2.2.2.2.2.2.2.2.2.2.1, E.2.2.2.2.2.2.2.2.2.2.2.2.1, E.2.2.2.2.2.2.2.2.2.2.2.2.2.1, E.2.2.2.2.2.2.2.2.2.2.2.2.2.2.1, E.2.2.2.2.2.2.2.2.2.2.2.2.2.2.2.1, E.2.2.2.2.2.2.2.2.2.2.2.2.2.2.2.2)
abbrev wB (E : AE) (v : List Nat) : AE := (E.1, E.2.1, E.2.2.1, E.2.2.2.1, E.2.2.2.2.1, E.2.2.2.2.2.1, E.2.2.2.2.2.2.1, E.2.2.2.2.2.2.2.1, E.2.2.2.2.2.2.2.2.1, E.2.2.2.2.2.2.2.2.2.1, v, E.2.2.2.2.2.2.2.2.2.2.2.1, E.2.2.2.2.2.2.2.2.2.2.2.2.1, E.2.2.2.2.2.2.2.2.2.2.2.2.2.1, E.2.2.2.2.2.2.2.2.2.2.2.2.2.2.1, E.2.2.2.2.2.2.2.2.2.2.2.2.2.2.2.1, E.2.2.2.2.2.2.2.2.2.2.2.2.2.2.2.2)
abbrev wAq (E : AE) (v : List Nat) : AE := (E.1, E.2.1, E.2.2.1, E.2.2.2.1, E.2.2.2.2.1, E.2.2.2.2.2.1, E.2.2.2.2.2.2.1, E.2.2.2.2.2.2.2.1, E.2.2.2.2.2.2.2.2.1, E.2.2.2.2.2.2.2.2.2.1, E.2.2.2.2.2.2.2.2.2.2.1, v, E.2.2.2.2.2.2.2.2.2.2.2.2.1, E.2.2.2.2.2.2.2.2.2.2.2.2.2.1, E.2.2.2.2.2.2.2.2.2.2.2.2.2.2.1, E.2.2.2.2.2.2.2.2.2.2.2.2.2.2.2.1, E.2.2.2.2.2.2.2.2.2.2.2.2.2.2.2.2)
abbrev wG (E : AE) (v : List Nat) : AE := (E.1, E.2.1, E.2.2.1, E.2.2.2.1, E.2.2.2.2.1, E.2.2.2.2.2.1, E.2.2.2.2.2.2.1, E.2.2.2.2.2.2.2.1, E.2.2.2.2.2.2.2.2.1, E.2.2.2.2.2.2.2.2.2.1, E.2.2.2.2.2.2.2.2.2.2.1, E.2.2.2.2.2.2.2.2.2.2.2.1, v, E.2.2.2.2.2.2.2.2.2.2.2.2.2.1, E.2.2.2.2.2.2.2.2.2.2.2.2.2.2.1, E.2.2.2.2.2.2.2.2.2.2.2.2.2.2.2.1, E.2.2.2.2.2.2.2.2.2.2.2.2.2.2.2.2)
abbrev wEs (E : AE) (v : Bool) : AE := (E.1, E.2.1, E.2.2.1, E.2.2.2.1, E.2.2.2.2.1, E.2.2.2.2.2.1, E.2.2.2.2.2.2.1, E.2.2.2.2.2.2.2.1, E.2.2.2.2.2.2.2.2.1, E.2.2.2.2.2.2.2.2.2.1, E.2.2.2.2.2.2.2.2.2.2.1, E.2.2.2.2.2.2.2.2.2.2.2.1, E.2.2.2.2.2.2.2.2.2.2.2.2.1, v, E.2.2.2.2.2.2.2.2.2.2.2.2.2.2.1, E.2.2.2.2.2.2.2.2.2.2.2.2.2.2.2.1, E.2.2.2.2.2.2.2.2.2.2.2.2.2.2.2.2)
abbrev wOv (E : AE) (v : Bool) : AE := (E.1, E.2.1, E.2.2.1, E.2.2.2.1, E.2.2.2.2.1, E.2.2.2.2.2.1, E.2.2.2.2.2.2.1, E.2.2.2.2.2.2.2.1, E.2.2.2.2.2.2.2.2.1, E.2.2.2.2.2.2.2.2.2.1, E.2.2.2.2.2.2.2.2.2.2.1, E.2.2.2.2.2.2.2.2.2.2.2.1, E.2.2.2.2.2.2.2.2.2.2.2.2.1, E.2.2.2.2.2.2.2.2.2.2.2.2.2.1, v, E.2.2.2.2.2.2.2.2.2.2.2.2.2.2.2.1, E.2.2.2.2.2.2.2.2.2.2.2.2.2.2.2.2)
abbrev wKl (E : AE) (v : List Nat) : AE := (E.1, E.2.1, E.2.2.1, E.2.2.2.1, E.2.2.2.2.1, E.2.2.2.2.2.1, E.2.2.2.2.2.2.1, E.2.2.2.2.2.2.2.1, E.2.2.2.2.2.2.2.2.1, E.2.2.2.2.2.2.2.2.2.1, E.2.2.2.2.2.2.2.2.2.2.1, E.2.2.2.2.2.2.2.2.2.2.2.1, E.2.2.2.2.2.2.2.2.2.2.2.2.1, E.2.2.2.2.2.2.2.2.2.2.2.2.2.1, E.2.2.2.2.2.2.2.2.2.2.2.2.2.2.1, v, E.2.2.2.2.2.2.2.2.2.2.2.2.2.2.2.2)
abbrev wLp (E : AE) (v : Bool) : AE := (E.1, E.2.1, E.2.2.1, E.2.2.2.1, E.2.2.2.2.1, E.2.2.2.2.2.1, E.2.2.2.2.2.2.1, E.2.2.2.2.2.2.2.1, E.2.2.2.2.2.2.2.2.1, E.2.2.2.2.2.2.2.2.2.1, E.2.2.2.2.2.2.2.2.2.2.1, E.2.2.2.2.2.2.2.2.2.2.2.1, E.2.2.2.2.2.2.2.2.2.2.2.2.1, E.2.2.2.2.2.2.2.2.2.2.2.2.2.1, E.2.2.2.2.2.2.2.2.2.2.2.2.2.2.1, E.2.2.2.2.2.2.2.2.2.2.2.2.2.2.2.1, v)
def rulT : List Int32 := [2, 790, (-1), (-1), (-1), (-1), (-1), (-1), (-1), (-1), (-1), (-1), 0, 1, 0, 1, 1, 1, 1, 161, 1, 1, 790, 3, 5, 5, 6, 7, 8, 9, 0, 0, 2, 2, 4, 4, 1044, 1044, 1044, 16804, (-1), (-1), (-1), (-1), 68, 69, 54, 54, 56, (-1), (-1), (-1), (-1), (-1), 2, 3, 3, 3, 3, (-1), (-1), (-1), 98, 21272, 4, 5, 88, 2393, 88, 21416, (-1), (-1), 98, 21270, 4, 5, 86, 87, 86, 21414, (-1), (-1), 98, 99, 4, 5, 23, 54, 2329, 934, (-1), (-1), 98, 99, 4, 5, 790, 54, 792, 934, (-1), (-1), 98, 99, 100, 101, 102, 102, 102, 25253, (-1), (-1), 2, 3, 2, 3, 6, 6, 8, 934, (-1), (-1), 114, 115, 116, 117, 118, 119, 120, 121, (-1), (-1), 2, 3, 2, 3, 3, 3, 3, 16805, (-1), (-1), 2, 3, 4, 5, 6, 6, 8, 9, (-1), (-1), 2, 3, 4, 5, 6, 7, 8, 137]
def codT : List (List (List Nat)) := [[[18], [1, 3, 22], [], [], [], [], [], [], [], []], [[], [], [16], [17], [16], [17], [17], [17], [17], [10, 17]], [[17], [17], [1, 3, 22], [19], [21], [21], [22], [23], [24], [25]], [[16], [16], [18], [18], [20], [20], [1, 4, 20], [1, 4, 20], [1, 4, 20], [10, 1, 4, 20]], [[], [], [], [], [4, 20], [4, 21], [3, 22], [3, 22], [3, 24], []], [[], [], [], [], [18], [19], [19], [19], [19], []], [[], [], [6, 18], [1, 3, 5, 24], [20], [21], [5, 24], [5, 9, 25], [5, 24], [10, 3, 5, 24]], [[], [], [6, 18], [1, 3, 5, 22], [20], [21], [5, 22], [5, 23], [5, 22], [10, 3, 5, 22]], [[], [], [6, 18], [6, 19], [20], [21], [1, 23], [3, 22], [1, 9, 25], [10, 3, 22]], [[], [], [6, 18], [6, 19], [20], [21], [1, 3, 22], [3, 22], [1, 3, 24], [10, 3, 22]], [[], [], [6, 18], [6, 19], [6, 20], [6, 21], [6, 22], [6, 22], [6, 22], [10, 2, 6, 21]], [[], [], [18], [19], [18], [19], [22], [22], [24], [10, 3, 22]], [[], [], [7, 18], [7, 19], [7, 20], [7, 21], [7, 22], [7, 23], [7, 24], [7, 25]], [[], [], [18], [19], [18], [19], [19], [19], [19], [10, 1, 4, 21]], [[], [], [18], [19], [20], [21], [22], [22], [24], [25]], [[], [], [18], [19], [20], [21], [22], [23], [24], [8, 25]], [[], [], [], [], [], [], [], [], [], []], [[], [], [], [], [], [], [], [], [], [11, 25]]]
def codes (ev st : Nat) : List Nat := (codT.getD ev []).getD st []
def xmit (E : AE) (P : List Nat) : AE := if (eB E).length + (frameL P).length ≤ 300 then wB E (eB E ++ frameL P) else wCf E (upd (eCf E) 2 (eCf E 2 + nI 1))
def nextI (E : AE) : AE := wId E ((eId E + 1) % 256)
def optS (E : AE) : List Nat := if eAS E = true ∧ ¬ eSz E = 1500 then [1, eSz E / 256, eSz E % 256] else []
def optN (E : AE) : List Nat := if eAN E = true ∧ ¬ eNu E = 0 then 5 :: nbs (eNu E) else []
def reqP (E : AE) : List Nat := [1, 1, eId E] ++ optS E ++ optN E
def spend (E : AE) : AE := wTi (wTr E (eTr E - nI 1)) 3
def reqA (E : AE) : AE := spend (xmit (wAq (nextI E) (sealL (reqP (nextI E)))) (reqP (nextI E)))
def endA (E : AE) : AE := spend (xmit (nextI E) [1, 5, eId (nextI E)])
def tal (E : AE) (k : Nat) : AE := wCf E (upd (eCf E) k (eCf E k + nI 1))
/-- an action by its number; cid, ccd: id and code of what came; N: the answer -/
def doA (cid ccd : Nat) (N : List Nat) (E : AE) (c : Nat) : AE :=
  if c = 1 then wTr E (nI 5) else if c = 2 then wTi (wTr E (nI 0)) 3 else if c = 3 then reqA E else if c = 4 then endA E
  else if c = 5 then xmit E N else if c = 6 then xmit E [1, 6, cid] else if c = 7 then xmit (nextI E) [1, 7, eId (nextI E), ccd]
  else if c = 8 then xmit E ([1, 10, cid] ++ nbs (eNu E)) else if c = 9 then tal E 4 else if c = 11 then tal (wKl E (eG E)) 5
  else if 16 ≤ c then wSt E (c - 16) else E
def happenA (cid ccd : Nat) (N : List Nat) (E : AE) (ev : Nat) : AE := (codes ev (eSt E)).foldl (doA cid ccd N) E
theorem xmit_a {E : AE} {P : List Nat} (h : (eB E).length + (frameL P).length ≤ 300) : xmit E P = wB E (eB E ++ frameL P) := if_pos h
theorem xmit_b {E : AE} {P : List Nat} (h : ¬ (eB E).length + (frameL P).length ≤ 300) : xmit E P = wCf E (upd (eCf E) 2 (eCf E 2 + nI 1)) := if_neg h
theorem frameL_len (P : List Nat) : (frameL P).length = (escL (sealL P)).length + 2 := by simp [frameL]
theorem escB_bt {b : Nat} (h : b < 256) : Bt (escB b) := by
  unfold escB
  split
  · intro x hx
    have h32 : b ^^^ 32 < 256 := Nat.xor_lt_two_pow (n := 8) h (by decide)
    simp at hx
    rcases hx with rfl | rfl
    · decide
    · exact h32
  · exact Bt.one h
theorem escL_bt {L : List Nat} (h : Bt L) : Bt (escL L) := by
  intro x hx
  obtain ⟨b, hb, hx⟩ := List.mem_flatMap.mp hx
  exact escB_bt (h b hb) x hx
theorem frameL_bt {P : List Nat} (h : Bt P) : Bt (frameL P) := ((Bt.one (by decide)).app (escL_bt (sealL_bt h))).app (Bt.one (by decide))
theorem nbs_bt (v : Int32) : Bt (nbs v) := by
  intro x hx
  simp only [nbs, List.mem_cons, List.not_mem_nil, or_false] at hx
  rcases hx with rfl | rfl | rfl | rfl <;> exact lowb_lt _
/-- what always holds of an end -/
def InvE (E : AE) : Prop := (64 ≤ eSz E ∧ eSz E ≤ 1500) ∧ (64 ≤ eLe E ∧ eLe E ≤ 1500) ∧ eSt E ≤ 9 ∧ eId E < 256 ∧ eTi E ≤ 3 ∧ True ∧ ((eB E).length ≤ 300 ∧ Bt (eB E)) ∧ (Bt (eAq E) ∧ (eAq E = [] ∨ (5 ≤ (eAq E).length ∧ (eAq E).length ≤ 13))) ∧ ((eG E).length ≤ 40 ∧ Bt (eG E) ∧ (eOv E = true → (eG E).length = 40)) ∧ (Bt (eKl E) ∧ (eKl E).length ≤ 40 ∧ (eKl E = [] ∨ 5 ≤ (eKl E).length))
def shB (B P : List Nat) : List Nat := if B.length + (frameL P).length ≤ 300 then B ++ frameL P else B
def shC (B : List Nat) (cf : Nat → Int32) (P : List Nat) : Nat → Int32 := if B.length + (frameL P).length ≤ 300 then cf else upd cf 2 (cf 2 + nI 1)
theorem xmit_eq (E : AE) (P : List Nat) : xmit E P = wB (wCf E (shC (eB E) (eCf E) P)) (shB (eB E) P) := by
  unfold xmit shB shC
  by_cases h : (eB E).length + (frameL P).length ≤ 300
  · rw [if_pos h, if_pos h, if_pos h]
  · rw [if_neg h, if_neg h, if_neg h]
def CtM (fCt : Nat → Int32) (e : Nat) (cf : Nat → Int32) : Prop := ∀ k, k < 6 → fCt (6 * e + k) = cf k
def CtO (fCt t2 : Nat → Int32) (e : Nat) : Prop := ∀ (o : Nat) (cf : Nat → Int32), o < 2 → o ≠ e → CtM fCt o cf → CtM t2 o cf
theorem CtO.refl {a : Nat → Int32} {e : Nat} : CtO a a e := fun _ _ _ _ h => h
theorem CtO.trans {a b c : Nat → Int32} {e : Nat} (h : CtO a b e) (k : CtO b c e) : CtO a c e := fun o C ho hne q => k o C ho hne (h o C ho hne q)
theorem CtM.tally {fCt cf : Nat → Int32} {e k : Nat} (h : CtM fCt e cf) (hk : k < 6) : CtM (upd fCt (6 * e + k) (fCt (6 * e + k) + nI 1)) e (upd cf k (cf k + nI 1)) := by
  intro j hj
  by_cases e9 : j = k
  · subst e9; rw [upd_eq, upd_eq, h j hj]
  · rw [upd_ne (by omega), upd_ne e9, h j hj]
theorem CtO.tally {fCt : Nat → Int32} {e k : Nat} {x : Int32} (he : e < 2) (hk : k < 6) : CtO fCt (upd fCt (6 * e + k) x) e := by
  intro o cf ho hne h j hj
  rw [upd_ne (by omega)]
  exact h j hj
def AkM (fAk fAl fAo : Nat → Int32) (e : Nat) (Aq : List Nat) : Prop := (Aq = [] → fAk e = -1) ∧ (Aq ≠ [] → fAk e = nI (Aq.getD 2 0) ∧ fAl e = nI (Aq.length - 5) ∧ ∀ i, i < Aq.length - 5 → fAo (8 * e + i) = nI (Aq.getD (3 + i) 0))
def GtM (fGt fGa : Nat → Int32) (e : Nat) (G : List Nat) (ov : Bool) : Prop := fGt e = nI (G.length + ov.toNat) ∧ GaM fGa e G
def DtM (fDl fDb : Nat → Int32) (e : Nat) (Kl : List Nat) : Prop := fDl e = nI (Kl.length - 3) ∧ ∀ i, i < Kl.length - 3 → fDb (40 * e + i) = nI (Kl.getD (1 + i) 0)
/-- the rows of end e that its actions touch -/
def RA (fSz fNu fAS fAN fId fCn fTi fAk fAl fAo fOl fBy fCt : Nat → Int32) (e : Nat) (E : AE) : Prop :=
  fSz e = nI (eSz E) ∧ fNu e = eNu E ∧ fAS e = nI (eAS E).toNat ∧ fAN e = nI (eAN E).toNat ∧ fId e = nI (eId E) ∧ fCn e = eTr E ∧ fTi e = nI (eTi E) ∧ AkM fAk fAl fAo e (eAq E) ∧ LnM fBy fOl e (eB E) ∧ CtM fCt e (eCf E) ∧ InvE E

