/-! the constants at the start, out of what the Statement gives -/
abbrev nfl : List Cond := flatC narrow_1
theorem nf_el {b N : Nat} {f : Nat → Cond} (h : (nfl.drop b).take N = (List.range N).map f) : ∀ j, j < N → f j ∈ nfl := by
  intro j hj
  have h1 : f j ∈ (List.range N).map f := List.mem_map.mpr ⟨j, List.mem_range.mpr hj, rfl⟩
  rw [← h] at h1
  exact List.mem_of_mem_drop (List.mem_of_mem_take h1)
def KP (nm : String) (N : Nat) (f : Nat → Int32) (q : Nat × Nat × Nat) (A : Nat → Prop) (s : State) : Prop :=
  va_Z RX1 nm "LLineTalk$Event;" (.ref q.1) A s s.heap ∧ va_OF RX1 "row" "Ljava/lang/String;" (.ref q.2.1) q.1 A s s.heap ∧ va_O RJ0 q.2.1 A s s.heap ∧ va_OF RJ0 "coder" "B" (.int 0) q.2.1 A s s.heap ∧ va_OF RJ0 "value" "[B" (.ref q.2.2) q.2.1 A s s.heap ∧ va_T .byte q.2.2 N (fun j => .int (f j)) A s s.heap
theorem kc_one {args : Array Value} {s : State} {A : Nat → Prop} {nm : String} {k N : Nat} {f : Nat → Int32} (hn : ∀ w ∈ nfl, w.before args s = true) (hN : N < 2 ^ 31) (h1 : (Cond.laysStatic RX1 nm "LLineTalk$Event;").before args s = true) (h2 : (Cond.initialized RX1).before args s = true)
    (h3 : Cond.exactly (.static RX1 nm "LLineTalk$Event;") RX1 ∈ nfl) (h4 : Cond.eq (.field (.static RX1 nm "LLineTalk$Event;") RX1 "row" "Ljava/lang/String;") (.string RX1 k) ∈ nfl) (h5 : Cond.exactly (.string RX1 k) RJ0 ∈ nfl) (h6 : Cond.eq (.field (.string RX1 k) RJ0 "coder" "B") (.int 0) ∈ nfl) (h7 : Cond.arrayOf (.field (.string RX1 k) RJ0 "value" "[B") .byte ∈ nfl)
    (h8 : Cond.eq (.length (.field (.string RX1 k) RJ0 "value" "[B")) (.int (Int32.ofNat N)) ∈ nfl) (h9 : ∀ j, j < N → Cond.eq (.elem (.field (.string RX1 k) RJ0 "value" "[B") (.int (Int32.ofNat j))) (.int (f j)) ∈ nfl) (hA : ∀ a : Nat, a < s.heap.size → ¬ A a) : ∃ q : Nat × Nat × Nat, KP nm N f q A s := by
  obtain ⟨b, c0, cB, kB, e1, -⟩ := Cond.exactly_spec (args := args) (first := s) (o := none) (s := s) (idx := []) (t := .static RX1 nm "LLineTalk$Event;") (cls := RX1) (hn _ h3)
  obtain ⟨a, c, cA, kA, q1, q2, q3, q4, q5, q6, -⟩ := Cond.exactly_spec (args := args) (first := s) (o := none) (s := s) (idx := []) (t := .string RX1 k) (cls := RJ0) (hn _ h5)
  obtain ⟨t, ht, hT⟩ := va_Tof (f := fun j => .int (f j)) (A := A) hN (hn _ h7) (va_eqt (hn _ h8)) (fun j hj => va_eqt (hn _ (h9 j hj))) hA
  exact ⟨(b, a, t), va_Zref h1 h2 e1 hA, vk_OFof e1 (va_eqv (hn _ h4) q1) hA, ⟨cA, q3, q5, by rw [q6]; exact q2, hA a (Array.getElem?_eq_some_iff.mp q3).1⟩, vk_OFof q1 (va_eqt (hn _ h6)) hA, vk_OFof q1 ht hA, hT⟩
set_option maxRecDepth 100000 in
theorem kc_b0 : ∀ j, j < 41 → Cond.eq (.elem (.field (.string RX1 82) RJ0 "value" "[B") (.int (Int32.ofNat j))) (.int ((evByt.getD 0 []).getD j 0)) ∈ nfl := nf_el (b := 94) (N := 41) rfl
set_option maxRecDepth 100000 in
theorem kc_e0 {args : Array Value} {s : State} {A : Nat → Prop} (hn : ∀ w ∈ nfl, w.before args s = true) (ht : ∀ w ∈ lw_tbl, w.before args s = true) (hA : ∀ a : Nat, a < s.heap.size → ¬ A a) : ∃ q : Nat × Nat × Nat, KP (evNm.getD 0 "") (evLen.getD 0 0) (fun j => (evByt.getD 0 []).getD j 0) q A s := kc_one (nm := "UP") (k := 82) (N := 41) (f := fun j => (evByt.getD 0 []).getD j 0) hn (by decide) (ht _ (List.mem_of_getElem? (i := 345) rfl)) (ht _ (List.mem_of_getElem? (i := 65) rfl)) (List.mem_of_getElem? (i := 4) rfl) (List.mem_of_getElem? (i := 6) rfl) (List.mem_of_getElem? (i := 90) rfl) (List.mem_of_getElem? (i := 91) rfl) (List.mem_of_getElem? (i := 92) rfl) (List.mem_of_getElem? (i := 93) rfl) kc_b0 hA
set_option maxRecDepth 100000 in
theorem kc_b1 : ∀ j, j < 39 → Cond.eq (.elem (.field (.string RX1 88) RJ0 "value" "[B") (.int (Int32.ofNat j))) (.int ((evByt.getD 1 []).getD j 0)) ∈ nfl := nf_el (b := 139) (N := 39) rfl
set_option maxRecDepth 100000 in
theorem kc_e1 {args : Array Value} {s : State} {A : Nat → Prop} (hn : ∀ w ∈ nfl, w.before args s = true) (ht : ∀ w ∈ lw_tbl, w.before args s = true) (hA : ∀ a : Nat, a < s.heap.size → ¬ A a) : ∃ q : Nat × Nat × Nat, KP (evNm.getD 1 "") (evLen.getD 1 0) (fun j => (evByt.getD 1 []).getD j 0) q A s := kc_one (nm := "DOWN") (k := 88) (N := 39) (f := fun j => (evByt.getD 1 []).getD j 0) hn (by decide) (ht _ (List.mem_of_getElem? (i := 482) rfl)) (ht _ (List.mem_of_getElem? (i := 65) rfl)) (List.mem_of_getElem? (i := 12) rfl) (List.mem_of_getElem? (i := 14) rfl) (List.mem_of_getElem? (i := 135) rfl) (List.mem_of_getElem? (i := 136) rfl) (List.mem_of_getElem? (i := 137) rfl) (List.mem_of_getElem? (i := 138) rfl) kc_b1 hA
set_option maxRecDepth 100000 in
theorem kc_b2 : ∀ j, j < 41 → Cond.eq (.elem (.field (.string RX1 91) RJ0 "value" "[B") (.int (Int32.ofNat j))) (.int ((evByt.getD 2 []).getD j 0)) ∈ nfl := nf_el (b := 182) (N := 41) rfl
set_option maxRecDepth 100000 in
theorem kc_e2 {args : Array Value} {s : State} {A : Nat → Prop} (hn : ∀ w ∈ nfl, w.before args s = true) (ht : ∀ w ∈ lw_tbl, w.before args s = true) (hA : ∀ a : Nat, a < s.heap.size → ¬ A a) : ∃ q : Nat × Nat × Nat, KP (evNm.getD 2 "") (evLen.getD 2 0) (fun j => (evByt.getD 2 []).getD j 0) q A s := kc_one (nm := "OPEN") (k := 91) (N := 41) (f := fun j => (evByt.getD 2 []).getD j 0) hn (by decide) (ht _ (List.mem_of_getElem? (i := 484) rfl)) (ht _ (List.mem_of_getElem? (i := 65) rfl)) (List.mem_of_getElem? (i := 15) rfl) (List.mem_of_getElem? (i := 17) rfl) (List.mem_of_getElem? (i := 178) rfl) (List.mem_of_getElem? (i := 179) rfl) (List.mem_of_getElem? (i := 180) rfl) (List.mem_of_getElem? (i := 181) rfl) kc_b2 hA
set_option maxRecDepth 100000 in
theorem kc_b3 : ∀ j, j < 55 → Cond.eq (.elem (.field (.string RX1 94) RJ0 "value" "[B") (.int (Int32.ofNat j))) (.int ((evByt.getD 3 []).getD j 0)) ∈ nfl := nf_el (b := 227) (N := 55) rfl
set_option maxRecDepth 100000 in
theorem kc_e3 {args : Array Value} {s : State} {A : Nat → Prop} (hn : ∀ w ∈ nfl, w.before args s = true) (ht : ∀ w ∈ lw_tbl, w.before args s = true) (hA : ∀ a : Nat, a < s.heap.size → ¬ A a) : ∃ q : Nat × Nat × Nat, KP (evNm.getD 3 "") (evLen.getD 3 0) (fun j => (evByt.getD 3 []).getD j 0) q A s := kc_one (nm := "CLOSE") (k := 94) (N := 55) (f := fun j => (evByt.getD 3 []).getD j 0) hn (by decide) (ht _ (List.mem_of_getElem? (i := 486) rfl)) (ht _ (List.mem_of_getElem? (i := 65) rfl)) (List.mem_of_getElem? (i := 18) rfl) (List.mem_of_getElem? (i := 20) rfl) (List.mem_of_getElem? (i := 223) rfl) (List.mem_of_getElem? (i := 224) rfl) (List.mem_of_getElem? (i := 225) rfl) (List.mem_of_getElem? (i := 226) rfl) kc_b3 hA
set_option maxRecDepth 100000 in
theorem kc_b4 : ∀ j, j < 47 → Cond.eq (.elem (.field (.string RX1 97) RJ0 "value" "[B") (.int (Int32.ofNat j))) (.int ((evByt.getD 4 []).getD j 0)) ∈ nfl := nf_el (b := 904) (N := 47) rfl
set_option maxRecDepth 100000 in
theorem kc_e4 {args : Array Value} {s : State} {A : Nat → Prop} (hn : ∀ w ∈ nfl, w.before args s = true) (ht : ∀ w ∈ lw_tbl, w.before args s = true) (hA : ∀ a : Nat, a < s.heap.size → ¬ A a) : ∃ q : Nat × Nat × Nat, KP (evNm.getD 4 "") (evLen.getD 4 0) (fun j => (evByt.getD 4 []).getD j 0) q A s := kc_one (nm := "OVER_MORE") (k := 97) (N := 47) (f := fun j => (evByt.getD 4 []).getD j 0) hn (by decide) (ht _ (List.mem_of_getElem? (i := 655) rfl)) (ht _ (List.mem_of_getElem? (i := 65) rfl)) (List.mem_of_getElem? (i := 57) rfl) (List.mem_of_getElem? (i := 59) rfl) (List.mem_of_getElem? (i := 900) rfl) (List.mem_of_getElem? (i := 901) rfl) (List.mem_of_getElem? (i := 902) rfl) (List.mem_of_getElem? (i := 903) rfl) kc_b4 hA
set_option maxRecDepth 100000 in
theorem kc_b5 : ∀ j, j < 37 → Cond.eq (.elem (.field (.string RX1 100) RJ0 "value" "[B") (.int (Int32.ofNat j))) (.int ((evByt.getD 5 []).getD j 0)) ∈ nfl := nf_el (b := 955) (N := 37) rfl
set_option maxRecDepth 100000 in
theorem kc_e5 {args : Array Value} {s : State} {A : Nat → Prop} (hn : ∀ w ∈ nfl, w.before args s = true) (ht : ∀ w ∈ lw_tbl, w.before args s = true) (hA : ∀ a : Nat, a < s.heap.size → ¬ A a) : ∃ q : Nat × Nat × Nat, KP (evNm.getD 5 "") (evLen.getD 5 0) (fun j => (evByt.getD 5 []).getD j 0) q A s := kc_one (nm := "OVER_NONE") (k := 100) (N := 37) (f := fun j => (evByt.getD 5 []).getD j 0) hn (by decide) (ht _ (List.mem_of_getElem? (i := 657) rfl)) (ht _ (List.mem_of_getElem? (i := 65) rfl)) (List.mem_of_getElem? (i := 60) rfl) (List.mem_of_getElem? (i := 62) rfl) (List.mem_of_getElem? (i := 951) rfl) (List.mem_of_getElem? (i := 952) rfl) (List.mem_of_getElem? (i := 953) rfl) (List.mem_of_getElem? (i := 954) rfl) kc_b5 hA
set_option maxRecDepth 100000 in
theorem kc_b6 : ∀ j, j < 59 → Cond.eq (.elem (.field (.string RX1 103) RJ0 "value" "[B") (.int (Int32.ofNat j))) (.int ((evByt.getD 6 []).getD j 0)) ∈ nfl := nf_el (b := 329) (N := 59) rfl
set_option maxRecDepth 100000 in
theorem kc_e6 {args : Array Value} {s : State} {A : Nat → Prop} (hn : ∀ w ∈ nfl, w.before args s = true) (ht : ∀ w ∈ lw_tbl, w.before args s = true) (hA : ∀ a : Nat, a < s.heap.size → ¬ A a) : ∃ q : Nat × Nat × Nat, KP (evNm.getD 6 "") (evLen.getD 6 0) (fun j => (evByt.getD 6 []).getD j 0) q A s := kc_one (nm := "GOOD_REQUEST") (k := 103) (N := 59) (f := fun j => (evByt.getD 6 []).getD j 0) hn (by decide) (ht _ (List.mem_of_getElem? (i := 613) rfl)) (ht _ (List.mem_of_getElem? (i := 65) rfl)) (List.mem_of_getElem? (i := 24) rfl) (List.mem_of_getElem? (i := 26) rfl) (List.mem_of_getElem? (i := 325) rfl) (List.mem_of_getElem? (i := 326) rfl) (List.mem_of_getElem? (i := 327) rfl) (List.mem_of_getElem? (i := 328) rfl) kc_b6 hA
set_option maxRecDepth 100000 in
theorem kc_b7 : ∀ j, j < 57 → Cond.eq (.elem (.field (.string RX1 106) RJ0 "value" "[B") (.int (Int32.ofNat j))) (.int ((evByt.getD 7 []).getD j 0)) ∈ nfl := nf_el (b := 392) (N := 57) rfl
set_option maxRecDepth 100000 in
theorem kc_e7 {args : Array Value} {s : State} {A : Nat → Prop} (hn : ∀ w ∈ nfl, w.before args s = true) (ht : ∀ w ∈ lw_tbl, w.before args s = true) (hA : ∀ a : Nat, a < s.heap.size → ¬ A a) : ∃ q : Nat × Nat × Nat, KP (evNm.getD 7 "") (evLen.getD 7 0) (fun j => (evByt.getD 7 []).getD j 0) q A s := kc_one (nm := "BAD_REQUEST") (k := 106) (N := 57) (f := fun j => (evByt.getD 7 []).getD j 0) hn (by decide) (ht _ (List.mem_of_getElem? (i := 615) rfl)) (ht _ (List.mem_of_getElem? (i := 65) rfl)) (List.mem_of_getElem? (i := 27) rfl) (List.mem_of_getElem? (i := 29) rfl) (List.mem_of_getElem? (i := 388) rfl) (List.mem_of_getElem? (i := 389) rfl) (List.mem_of_getElem? (i := 390) rfl) (List.mem_of_getElem? (i := 391) rfl) kc_b7 hA
set_option maxRecDepth 100000 in
theorem kc_b8 : ∀ j, j < 53 → Cond.eq (.elem (.field (.string RX1 109) RJ0 "value" "[B") (.int (Int32.ofNat j))) (.int ((evByt.getD 8 []).getD j 0)) ∈ nfl := nf_el (b := 453) (N := 53) rfl
set_option maxRecDepth 100000 in
theorem kc_e8 {args : Array Value} {s : State} {A : Nat → Prop} (hn : ∀ w ∈ nfl, w.before args s = true) (ht : ∀ w ∈ lw_tbl, w.before args s = true) (hA : ∀ a : Nat, a < s.heap.size → ¬ A a) : ∃ q : Nat × Nat × Nat, KP (evNm.getD 8 "") (evLen.getD 8 0) (fun j => (evByt.getD 8 []).getD j 0) q A s := kc_one (nm := "RIGHT_ACK") (k := 109) (N := 53) (f := fun j => (evByt.getD 8 []).getD j 0) hn (by decide) (ht _ (List.mem_of_getElem? (i := 617) rfl)) (ht _ (List.mem_of_getElem? (i := 65) rfl)) (List.mem_of_getElem? (i := 30) rfl) (List.mem_of_getElem? (i := 32) rfl) (List.mem_of_getElem? (i := 449) rfl) (List.mem_of_getElem? (i := 450) rfl) (List.mem_of_getElem? (i := 451) rfl) (List.mem_of_getElem? (i := 452) rfl) kc_b8 hA
set_option maxRecDepth 100000 in
theorem kc_b9 : ∀ j, j < 55 → Cond.eq (.elem (.field (.string RX1 112) RJ0 "value" "[B") (.int (Int32.ofNat j))) (.int ((evByt.getD 9 []).getD j 0)) ∈ nfl := nf_el (b := 510) (N := 55) rfl
set_option maxRecDepth 100000 in
theorem kc_e9 {args : Array Value} {s : State} {A : Nat → Prop} (hn : ∀ w ∈ nfl, w.before args s = true) (ht : ∀ w ∈ lw_tbl, w.before args s = true) (hA : ∀ a : Nat, a < s.heap.size → ¬ A a) : ∃ q : Nat × Nat × Nat, KP (evNm.getD 9 "") (evLen.getD 9 0) (fun j => (evByt.getD 9 []).getD j 0) q A s := kc_one (nm := "RIGHT_NAK_OR_REJECT") (k := 112) (N := 55) (f := fun j => (evByt.getD 9 []).getD j 0) hn (by decide) (ht _ (List.mem_of_getElem? (i := 619) rfl)) (ht _ (List.mem_of_getElem? (i := 65) rfl)) (List.mem_of_getElem? (i := 33) rfl) (List.mem_of_getElem? (i := 35) rfl) (List.mem_of_getElem? (i := 506) rfl) (List.mem_of_getElem? (i := 507) rfl) (List.mem_of_getElem? (i := 508) rfl) (List.mem_of_getElem? (i := 509) rfl) kc_b9 hA
set_option maxRecDepth 100000 in
theorem kc_b10 : ∀ j, j < 57 → Cond.eq (.elem (.field (.string RX1 115) RJ0 "value" "[B") (.int (Int32.ofNat j))) (.int ((evByt.getD 10 []).getD j 0)) ∈ nfl := nf_el (b := 569) (N := 57) rfl
set_option maxRecDepth 100000 in
theorem kc_e10 {args : Array Value} {s : State} {A : Nat → Prop} (hn : ∀ w ∈ nfl, w.before args s = true) (ht : ∀ w ∈ lw_tbl, w.before args s = true) (hA : ∀ a : Nat, a < s.heap.size → ¬ A a) : ∃ q : Nat × Nat × Nat, KP (evNm.getD 10 "") (evLen.getD 10 0) (fun j => (evByt.getD 10 []).getD j 0) q A s := kc_one (nm := "END_CAME") (k := 115) (N := 57) (f := fun j => (evByt.getD 10 []).getD j 0) hn (by decide) (ht _ (List.mem_of_getElem? (i := 621) rfl)) (ht _ (List.mem_of_getElem? (i := 65) rfl)) (List.mem_of_getElem? (i := 36) rfl) (List.mem_of_getElem? (i := 38) rfl) (List.mem_of_getElem? (i := 565) rfl) (List.mem_of_getElem? (i := 566) rfl) (List.mem_of_getElem? (i := 567) rfl) (List.mem_of_getElem? (i := 568) rfl) kc_b10 hA
set_option maxRecDepth 100000 in
theorem kc_b11 : ∀ j, j < 41 → Cond.eq (.elem (.field (.string RX1 118) RJ0 "value" "[B") (.int (Int32.ofNat j))) (.int ((evByt.getD 11 []).getD j 0)) ∈ nfl := nf_el (b := 630) (N := 41) rfl
set_option maxRecDepth 100000 in
theorem kc_e11 {args : Array Value} {s : State} {A : Nat → Prop} (hn : ∀ w ∈ nfl, w.before args s = true) (ht : ∀ w ∈ lw_tbl, w.before args s = true) (hA : ∀ a : Nat, a < s.heap.size → ¬ A a) : ∃ q : Nat × Nat × Nat, KP (evNm.getD 11 "") (evLen.getD 11 0) (fun j => (evByt.getD 11 []).getD j 0) q A s := kc_one (nm := "ENDED_CAME") (k := 118) (N := 41) (f := fun j => (evByt.getD 11 []).getD j 0) hn (by decide) (ht _ (List.mem_of_getElem? (i := 623) rfl)) (ht _ (List.mem_of_getElem? (i := 65) rfl)) (List.mem_of_getElem? (i := 39) rfl) (List.mem_of_getElem? (i := 41) rfl) (List.mem_of_getElem? (i := 626) rfl) (List.mem_of_getElem? (i := 627) rfl) (List.mem_of_getElem? (i := 628) rfl) (List.mem_of_getElem? (i := 629) rfl) kc_b11 hA
set_option maxRecDepth 100000 in
theorem kc_b12 : ∀ j, j < 53 → Cond.eq (.elem (.field (.string RX1 121) RJ0 "value" "[B") (.int (Int32.ofNat j))) (.int ((evByt.getD 12 []).getD j 0)) ∈ nfl := nf_el (b := 847) (N := 53) rfl
set_option maxRecDepth 100000 in
theorem kc_e12 {args : Array Value} {s : State} {A : Nat → Prop} (hn : ∀ w ∈ nfl, w.before args s = true) (ht : ∀ w ∈ lw_tbl, w.before args s = true) (hA : ∀ a : Nat, a < s.heap.size → ¬ A a) : ∃ q : Nat × Nat × Nat, KP (evNm.getD 12 "") (evLen.getD 12 0) (fun j => (evByt.getD 12 []).getD j 0) q A s := kc_one (nm := "OTHER_CODE") (k := 121) (N := 53) (f := fun j => (evByt.getD 12 []).getD j 0) hn (by decide) (ht _ (List.mem_of_getElem? (i := 637) rfl)) (ht _ (List.mem_of_getElem? (i := 65) rfl)) (List.mem_of_getElem? (i := 54) rfl) (List.mem_of_getElem? (i := 56) rfl) (List.mem_of_getElem? (i := 843) rfl) (List.mem_of_getElem? (i := 844) rfl) (List.mem_of_getElem? (i := 845) rfl) (List.mem_of_getElem? (i := 846) rfl) kc_b12 hA
set_option maxRecDepth 100000 in
theorem kc_b13 : ∀ j, j < 43 → Cond.eq (.elem (.field (.string RX1 124) RJ0 "value" "[B") (.int (Int32.ofNat j))) (.int ((evByt.getD 13 []).getD j 0)) ∈ nfl := nf_el (b := 675) (N := 43) rfl
set_option maxRecDepth 100000 in
theorem kc_e13 {args : Array Value} {s : State} {A : Nat → Prop} (hn : ∀ w ∈ nfl, w.before args s = true) (ht : ∀ w ∈ lw_tbl, w.before args s = true) (hA : ∀ a : Nat, a < s.heap.size → ¬ A a) : ∃ q : Nat × Nat × Nat, KP (evNm.getD 13 "") (evLen.getD 13 0) (fun j => (evByt.getD 13 []).getD j 0) q A s := kc_one (nm := "UNKNOWN_1_TO_6") (k := 124) (N := 43) (f := fun j => (evByt.getD 13 []).getD j 0) hn (by decide) (ht _ (List.mem_of_getElem? (i := 629) rfl)) (ht _ (List.mem_of_getElem? (i := 65) rfl)) (List.mem_of_getElem? (i := 42) rfl) (List.mem_of_getElem? (i := 44) rfl) (List.mem_of_getElem? (i := 671) rfl) (List.mem_of_getElem? (i := 672) rfl) (List.mem_of_getElem? (i := 673) rfl) (List.mem_of_getElem? (i := 674) rfl) kc_b13 hA
set_option maxRecDepth 100000 in
theorem kc_b14 : ∀ j, j < 37 → Cond.eq (.elem (.field (.string RX1 127) RJ0 "value" "[B") (.int (Int32.ofNat j))) (.int ((evByt.getD 14 []).getD j 0)) ∈ nfl := nf_el (b := 722) (N := 37) rfl
set_option maxRecDepth 100000 in
theorem kc_e14 {args : Array Value} {s : State} {A : Nat → Prop} (hn : ∀ w ∈ nfl, w.before args s = true) (ht : ∀ w ∈ lw_tbl, w.before args s = true) (hA : ∀ a : Nat, a < s.heap.size → ¬ A a) : ∃ q : Nat × Nat × Nat, KP (evNm.getD 14 "") (evLen.getD 14 0) (fun j => (evByt.getD 14 []).getD j 0) q A s := kc_one (nm := "UNKNOWN_CAME") (k := 127) (N := 37) (f := fun j => (evByt.getD 14 []).getD j 0) hn (by decide) (ht _ (List.mem_of_getElem? (i := 631) rfl)) (ht _ (List.mem_of_getElem? (i := 65) rfl)) (List.mem_of_getElem? (i := 45) rfl) (List.mem_of_getElem? (i := 47) rfl) (List.mem_of_getElem? (i := 718) rfl) (List.mem_of_getElem? (i := 719) rfl) (List.mem_of_getElem? (i := 720) rfl) (List.mem_of_getElem? (i := 721) rfl) kc_b14 hA
set_option maxRecDepth 100000 in
theorem kc_b15 : ∀ j, j < 39 → Cond.eq (.elem (.field (.string RX1 130) RJ0 "value" "[B") (.int (Int32.ofNat j))) (.int ((evByt.getD 15 []).getD j 0)) ∈ nfl := nf_el (b := 763) (N := 39) rfl
set_option maxRecDepth 100000 in
theorem kc_e15 {args : Array Value} {s : State} {A : Nat → Prop} (hn : ∀ w ∈ nfl, w.before args s = true) (ht : ∀ w ∈ lw_tbl, w.before args s = true) (hA : ∀ a : Nat, a < s.heap.size → ¬ A a) : ∃ q : Nat × Nat × Nat, KP (evNm.getD 15 "") (evLen.getD 15 0) (fun j => (evByt.getD 15 []).getD j 0) q A s := kc_one (nm := "ECHO_CAME") (k := 130) (N := 39) (f := fun j => (evByt.getD 15 []).getD j 0) hn (by decide) (ht _ (List.mem_of_getElem? (i := 633) rfl)) (ht _ (List.mem_of_getElem? (i := 65) rfl)) (List.mem_of_getElem? (i := 48) rfl) (List.mem_of_getElem? (i := 50) rfl) (List.mem_of_getElem? (i := 759) rfl) (List.mem_of_getElem? (i := 760) rfl) (List.mem_of_getElem? (i := 761) rfl) (List.mem_of_getElem? (i := 762) rfl) kc_b15 hA
set_option maxRecDepth 100000 in
theorem kc_b16 : ∀ j, j < 37 → Cond.eq (.elem (.field (.string RX1 133) RJ0 "value" "[B") (.int (Int32.ofNat j))) (.int ((evByt.getD 16 []).getD j 0)) ∈ nfl := nf_el (b := 806) (N := 37) rfl
set_option maxRecDepth 100000 in
theorem kc_e16 {args : Array Value} {s : State} {A : Nat → Prop} (hn : ∀ w ∈ nfl, w.before args s = true) (ht : ∀ w ∈ lw_tbl, w.before args s = true) (hA : ∀ a : Nat, a < s.heap.size → ¬ A a) : ∃ q : Nat × Nat × Nat, KP (evNm.getD 16 "") (evLen.getD 16 0) (fun j => (evByt.getD 16 []).getD j 0) q A s := kc_one (nm := "REPLY_CAME") (k := 133) (N := 37) (f := fun j => (evByt.getD 16 []).getD j 0) hn (by decide) (ht _ (List.mem_of_getElem? (i := 635) rfl)) (ht _ (List.mem_of_getElem? (i := 65) rfl)) (List.mem_of_getElem? (i := 51) rfl) (List.mem_of_getElem? (i := 53) rfl) (List.mem_of_getElem? (i := 802) rfl) (List.mem_of_getElem? (i := 803) rfl) (List.mem_of_getElem? (i := 804) rfl) (List.mem_of_getElem? (i := 805) rfl) kc_b16 hA
set_option maxRecDepth 100000 in
theorem kc_b17 : ∀ j, j < 39 → Cond.eq (.elem (.field (.string RX1 136) RJ0 "value" "[B") (.int (Int32.ofNat j))) (.int ((evByt.getD 17 []).getD j 0)) ∈ nfl := nf_el (b := 286) (N := 39) rfl
set_option maxRecDepth 100000 in
theorem kc_e17 {args : Array Value} {s : State} {A : Nat → Prop} (hn : ∀ w ∈ nfl, w.before args s = true) (ht : ∀ w ∈ lw_tbl, w.before args s = true) (hA : ∀ a : Nat, a < s.heap.size → ¬ A a) : ∃ q : Nat × Nat × Nat, KP (evNm.getD 17 "") (evLen.getD 17 0) (fun j => (evByt.getD 17 []).getD j 0) q A s := kc_one (nm := "DATA_CAME") (k := 136) (N := 39) (f := fun j => (evByt.getD 17 []).getD j 0) hn (by decide) (ht _ (List.mem_of_getElem? (i := 591) rfl)) (ht _ (List.mem_of_getElem? (i := 65) rfl)) (List.mem_of_getElem? (i := 21) rfl) (List.mem_of_getElem? (i := 23) rfl) (List.mem_of_getElem? (i := 282) rfl) (List.mem_of_getElem? (i := 283) rfl) (List.mem_of_getElem? (i := 284) rfl) (List.mem_of_getElem? (i := 285) rfl) kc_b17 hA
set_option maxRecDepth 100000 in
theorem kc_start {args : Array Value} {s : State} {A : Nat → Prop} (hn : ∀ w ∈ nfl, w.before args s = true) (ht : ∀ w ∈ lw_tbl, w.before args s = true) (hA : ∀ a : Nat, a < s.heap.size → ¬ A a) : ∃ ad : Nat → Nat → Nat, ∀ (D : va_G) (ac : Nat → ClassId), Kc (D, ac, ad) A s s.heap := by
  have h0 : ∀ i : Nat, ∃ q : Nat × Nat × Nat, i < 18 → KP (evNm.getD i "") (evLen.getD i 0) (fun j => (evByt.getD i []).getD j 0) q A s := by
    intro i
    by_cases hi : i < 18
    · rcases (show i = 0 ∨ i = 1 ∨ i = 2 ∨ i = 3 ∨ i = 4 ∨ i = 5 ∨ i = 6 ∨ i = 7 ∨ i = 8 ∨ i = 9 ∨ i = 10 ∨ i = 11 ∨ i = 12 ∨ i = 13 ∨ i = 14 ∨ i = 15 ∨ i = 16 ∨ i = 17 by omega) with rfl | rfl | rfl | rfl | rfl | rfl | rfl | rfl | rfl | rfl | rfl | rfl | rfl | rfl | rfl | rfl | rfl | rfl
      · obtain ⟨q, h⟩ := kc_e0 hn ht hA
        exact ⟨q, fun _ => h⟩
      · obtain ⟨q, h⟩ := kc_e1 hn ht hA
        exact ⟨q, fun _ => h⟩
      · obtain ⟨q, h⟩ := kc_e2 hn ht hA
        exact ⟨q, fun _ => h⟩
      · obtain ⟨q, h⟩ := kc_e3 hn ht hA
        exact ⟨q, fun _ => h⟩
      · obtain ⟨q, h⟩ := kc_e4 hn ht hA
        exact ⟨q, fun _ => h⟩
      · obtain ⟨q, h⟩ := kc_e5 hn ht hA
        exact ⟨q, fun _ => h⟩
      · obtain ⟨q, h⟩ := kc_e6 hn ht hA
        exact ⟨q, fun _ => h⟩
      · obtain ⟨q, h⟩ := kc_e7 hn ht hA
        exact ⟨q, fun _ => h⟩
      · obtain ⟨q, h⟩ := kc_e8 hn ht hA
        exact ⟨q, fun _ => h⟩
      · obtain ⟨q, h⟩ := kc_e9 hn ht hA
        exact ⟨q, fun _ => h⟩
      · obtain ⟨q, h⟩ := kc_e10 hn ht hA
        exact ⟨q, fun _ => h⟩
      · obtain ⟨q, h⟩ := kc_e11 hn ht hA
        exact ⟨q, fun _ => h⟩
      · obtain ⟨q, h⟩ := kc_e12 hn ht hA
        exact ⟨q, fun _ => h⟩
      · obtain ⟨q, h⟩ := kc_e13 hn ht hA
        exact ⟨q, fun _ => h⟩
      · obtain ⟨q, h⟩ := kc_e14 hn ht hA
        exact ⟨q, fun _ => h⟩
      · obtain ⟨q, h⟩ := kc_e15 hn ht hA
        exact ⟨q, fun _ => h⟩
      · obtain ⟨q, h⟩ := kc_e16 hn ht hA
        exact ⟨q, fun _ => h⟩
      · obtain ⟨q, h⟩ := kc_e17 hn ht hA
        exact ⟨q, fun _ => h⟩
    · exact ⟨(0, 0, 0), fun h => absurd h hi⟩
  obtain ⟨ad, had⟩ := Classical.axiomOfChoice h0
  refine ⟨fun k i => if k = 0 then (ad i).1 else if k = 1 then (ad i).2.1 else (ad i).2.2, fun D ac => ⟨fun i hi => (had i hi).1, fun i hi => (had i hi).2.1, fun i hi => (had i hi).2.2, va_Zof (ht _ (List.mem_of_getElem? (i := 359) rfl)) (ht _ (List.mem_of_getElem? (i := 66) rfl)) (va_eqi (hn _ (List.mem_of_getElem? (i := 7) rfl))) hA, va_Zqof (ht _ (List.mem_of_getElem? (i := 375) rfl)) (ht _ (List.mem_of_getElem? (i := 68) rfl)) (hn _ (List.mem_of_getElem? (i := 8) rfl)) hA, vx_Zqof (ht _ (List.mem_of_getElem? (i := 268) rfl)) (ht _ (List.mem_of_getElem? (i := 58) rfl)) (hn _ (List.mem_of_getElem? (i := 2) rfl)) hA, vx_Zqof (ht _ (List.mem_of_getElem? (i := 270) rfl)) (ht _ (List.mem_of_getElem? (i := 58) rfl)) (hn _ (List.mem_of_getElem? (i := 3) rfl)) hA, va_Nc.of (hn _ (List.mem_of_getElem? (i := 69) rfl)), va_Nc.of (hn _ (List.mem_of_getElem? (i := 70) rfl)), va_Nc.of (hn _ (List.mem_of_getElem? (i := 79) rfl))⟩⟩
