/-! the component's actions, by their letters -/
theorem lk4 {a b c e oa ob oc oe d k : Int} (h1 : a ≠ k) (h2 : b ≠ k) (h3 : c ≠ k) (h4 : e ≠ k) : Jvm.Op.lookupswitch.offset [(a, oa), (b, ob), (c, oc), (e, oe)] d k = d := by
  rw [Jvm.Op.lookupswitch.offset_cons, if_neg h1, Jvm.Op.lookupswitch.offset_cons, if_neg h2, Jvm.Op.lookupswitch.offset_cons, if_neg h3, Jvm.Op.lookupswitch.offset_cons, if_neg h4, Jvm.Op.lookupswitch.offset_nil]
def chE (E : AE) (c : Nat) : AE := if c = 105 then wTr E (nI 5) else if c = 122 then wTi (wTr E (nI 0)) 3 else if c = 117 then tal E 4 else if c = 107 then tal (wKl E (eG E)) 5 else if 48 ≤ c ∧ c ≤ 57 then wSt E (c - 48) else E
def spE (cid ccd : Nat) (N : List Nat) (E : AE) (c : Nat) : AE := if c = 113 then reqA E else if c = 101 then endA E else if c = 97 ∨ c = 110 then xmit E N else if c = 116 then xmit E [1, 6, cid] else if c = 99 then xmit (nextI E) [1, 7, eId (nextI E), ccd] else if c = 114 then xmit E ([1, 10, cid] ++ nbs (eNu E)) else E
section CH
variable {E : AE} {c cid ccd : Nat} {N : List Nat}
theorem ch_i (h : c = 105) : chE E c = wTr E (nI 5) := if_pos h
theorem ch_z (h : c = 122) : chE E c = wTi (wTr E (nI 0)) 3 := by unfold chE; rw [if_neg (by omega), if_pos h]
theorem ch_u (h : c = 117) : chE E c = tal E 4 := by unfold chE; rw [if_neg (by omega), if_neg (by omega), if_pos h]
theorem ch_k (h : c = 107) : chE E c = tal (wKl E (eG E)) 5 := by unfold chE; rw [if_neg (by omega), if_neg (by omega), if_neg (by omega), if_pos h]
theorem ch_d (h : 48 ≤ c ∧ c ≤ 57) : chE E c = wSt E (c - 48) := by unfold chE; rw [if_neg (by omega), if_neg (by omega), if_neg (by omega), if_neg (by omega), if_pos h]
theorem ch_no (h1 : c ≠ 105) (h2 : c ≠ 107) (h3 : c ≠ 117) (h4 : c ≠ 122) (h : ¬ (48 ≤ c ∧ c ≤ 57)) : chE E c = E := by unfold chE; rw [if_neg h1, if_neg h4, if_neg h3, if_neg h2, if_neg h]
theorem sp_q (h : c = 113) : spE cid ccd N E c = reqA E := if_pos h
theorem sp_e (h : c = 101) : spE cid ccd N E c = endA E := by unfold spE; rw [if_neg (by omega), if_pos h]
theorem sp_a (h : c = 97 ∨ c = 110) : spE cid ccd N E c = xmit E N := by unfold spE; rw [if_neg (by omega), if_neg (by omega), if_pos h]
theorem sp_t (h : c = 116) : spE cid ccd N E c = xmit E [1, 6, cid] := by unfold spE; rw [if_neg (by omega), if_neg (by omega), if_neg (by omega), if_pos h]
theorem sp_c (h : c = 99) : spE cid ccd N E c = xmit (nextI E) [1, 7, eId (nextI E), ccd] := by unfold spE; rw [if_neg (by omega), if_neg (by omega), if_neg (by omega), if_neg (by omega), if_pos h]
theorem sp_r (h : c = 114) : spE cid ccd N E c = xmit E ([1, 10, cid] ++ nbs (eNu E)) := by unfold spE; rw [if_neg (by omega), if_neg (by omega), if_neg (by omega), if_neg (by omega), if_neg (by omega), if_pos h]
theorem sp_n (h : c ≠ 113 ∧ c ≠ 101 ∧ c ≠ 97 ∧ c ≠ 110 ∧ c ≠ 116 ∧ c ≠ 99 ∧ c ≠ 114) : spE cid ccd N E c = E := by unfold spE; rw [if_neg (by omega), if_neg (by omega), if_neg (by omega), if_neg (by omega), if_neg (by omega), if_neg (by omega)]
end CH
