/-! the law's loop -/
theorem LInv.S {g : GE} {A : Nat → Prop} {s : State} {H : Heap} {locs : List Loc} {lt oa : Nat} {ad : Nat → Nat → Nat} {md : Nat → Nat} {Z : Nat → AE} (h : LInv g A s H locs lt ad oa md Z) : va_S A s.heap H locs := by
  exact h.elim (fun _ _ _ _ _ _ _ _ _ _ _ _ _ _ _ _ _ _ _ _ _ _ _ _ _ _ _ _ _ _ _ _ _ _ _ _ _ _ _ _ _ _ _ _ _ _ _ _ _ _ _ _ _ _ _ _ hw => hw.2.2.2.1)
theorem sub5 {L i : Nat} (hL : L ≤ 2560) (hi : i ≤ 2560) (h : ¬ (nI L - nI 5 < nI i)) : i + 5 ≤ L := by
  by_cases q : 5 ≤ L
  · rw [show nI L - nI 5 = nI (L - 5) from pk_sub q] at h
    have h2 : ¬ (L - 5 < i) := fun z => h ((nI_ltI (by omega) (by omega)).mpr z)
    omega
  · exfalso
    apply h
    rw [Int32.lt_iff_toInt_lt, nI_toInt (show i < 2147483648 by omega)]
    have h0 : (nI L - nI 5).toInt < 0 := by
      rcases (show L = 0 ∨ L = 1 ∨ L = 2 ∨ L = 3 ∨ L = 4 by omega) with r | r | r | r | r <;> subst r <;> decide
    omega
set_option maxHeartbeats 4000000 in
set_option maxRecDepth 100000 in
theorem law_loop {p : Program} {l : Launch} {e : Env} {s : State} {m : MethodId} {args : Array Value} {below : List Frame} {meth : Method} {c : Code} {QQ : State → Prop} {g : GE} {sb L lt oa : Nat} {xs : Nat → Int32} {ad : Nat → Nat → Nat} {md : Nat → Nat} (hsT : l.stackTraces = false) (hF : CallFix p m c cL_law 9 s args TW RL) (hX0 : va_X sb L xs s s.heap) (hbl : sb < s.heap.size) (hL : L ≤ 2560)
    (hend : ∀ (H : Heap) (locs : List Loc) (cells slots : Nat) (ls : Array Slot), (∀ q ∈ locs, s.heap.size ≤ q.base) → cells ≤ 601024 → slots ≤ 7293034 → W p l e room_1 s m args below meth c H locs cells slots QQ (F0 m 1140 ls [])) :
    ∀ (n i : Nat) (Z : Nat → AE) (H : Heap) (locs : List Loc) (cells slots : Nat) (ls : Array Slot), L + 1 ≤ i + n → i ≤ L → cells + 2 * (L + 5 - i) ≤ 600000 → slots + 12 * (L + 5 - i) ≤ 7000000 → LInv g (fun q => s.heap.size ≤ q) s H locs lt ad oa md Z → lv_has ls 9 [(0, .ref sb), (1, .ref lt), (2, .ref (md 0)), (3, .ref oa), (4, .int (nI i))] → W p l e room_1 s m args below meth c H locs cells slots QQ (F0 m 23 ls []) := by
  have hx := hF.1
  have hb := hF.2.1
  have hbA : ¬ (fun q => s.heap.size ≤ q) sb := Nat.not_le.mpr hbl
  intro n
  induction n with
  | zero => intro i Z H locs cells slots ls h1 h2; exact absurd h1 (by omega)
  | succ n ih =>
    intro i Z H locs cells slots ls hin hiL hc hs hinv hl
    have hS := hinv.S
    refine lv_iload hx hb dL_law_23 (lv_at hl 4 rfl) ?_
    refine lv_aload_n hx hb dL_law_25 rfl (lv_at hl 0 rfl) ?_
    refine va_slen hx hb hX0 hbl hbA hS dL_law_26 ?_
    refine lv_iconst (v := nI 5) hx hb dL_law_27 (by decide) ?_
    refine lv_isub hx hb dL_law_28 ?_
    refine lv_icmp_gt (tgt := 1140) hx hb dL_law_29 (by decide) (fun c29 => ?_) (fun c29 => ?_)
    · exact hend _ _ _ _ _ (fun q hq => hS.2.2 q hq) (by omega) (by omega)
    · have hi5 : i + 5 ≤ L := sub5 hL (by omega) c29
      have hcs : cells + 2 ≤ room_1.cells ∧ slots + 12 ≤ room_1.slots := ⟨show cells + 2 ≤ 601024 by omega, show slots + 12 ≤ 7293034 by omega⟩
      refine lv_aload_n hx hb dL_law_32 rfl (lv_at hl 0 rfl) ?_
      refine lv_iload hx hb dL_law_33 (lv_at hl 4 rfl) ?_
      refine va_sld hx hb hX0 hbl hbA hS (vp_in_nI (show i < L by omega) (by omega)) dL_law_35 ?_
      rw [nI_clamp (show i < 2147483648 by omega)]
      refine lv_bipush (v := nI 15) hx hb dL_law_36 (by decide) ?_
      refine r_iandX hx hb dL_law_38 4 (by decide) ?_
      have hv : (xs i).toBitVec.toNat % 2 ^ 4 < 16 := Nat.mod_lt _ (by decide)
      generalize (xs i).toBitVec.toNat % 2 ^ 4 = v at hv ⊢
      have tail : ∀ (Z : Nat → AE) (H : Heap) (locs : List Loc) (ls : Array Slot), LInv g (fun q => s.heap.size ≤ q) s H locs lt ad oa md Z → lv_has ls 9 [(0, .ref sb), (1, .ref lt), (2, .ref (md 0)), (3, .ref oa), (4, .int (nI i))] → W p l e room_1 s m args below meth c H locs (cells + 2) (slots + 12) QQ (F0 m 1134 ls []) := by
        intro Z H locs ls hinv hl
        refine r_iinc (k := 4) (d := 5) (lv' := [(4, .int (nI (i + 5))), (0, .ref sb), (1, .ref lt), (2, .ref (md 0)), (3, .ref oa)]) hx hb dL_law_1134 hl rfl (by decide) (by decide) rfl (fun ls hl => ?_)
        refine lv_goto (tgt := 23) hx hb dL_law_1137 (by decide) ?_
        exact ih (i + 5) Z H locs (cells + 2) (slots + 12) ls (by omega) hi5 (by omega) (by omega) hinv (lv_sub hl [1, 2, 3, 4, 0] rfl)
      rcases (show v = 0 ∨ v = 1 ∨ v = 2 ∨ v = 3 ∨ v = 4 ∨ v = 5 ∨ v = 6 ∨ v = 7 ∨ v = 8 ∨ v = 9 ∨ v = 10 ∨ v = 11 ∨ v = 12 ∨ v = 13 ∨ v = 14 ∨ v = 15 by omega) with rfl | rfl | rfl | rfl | rfl | rfl | rfl | rfl | rfl | rfl | rfl | rfl | rfl | rfl | rfl | rfl
      · refine lv_tableIn (tgt := 112) hx hb dL_law_39 (by decide) (by decide) rfl (by decide) ?_
        exact law_0 hsT hF hX0 hbl hL hi5 hcs hl hinv tail
      · refine lv_tableIn (tgt := 184) hx hb dL_law_39 (by decide) (by decide) rfl (by decide) ?_
        exact law_1 hsT hF hX0 hbl hL hi5 hcs hl hinv tail
      · refine lv_tableIn (tgt := 252) hx hb dL_law_39 (by decide) (by decide) rfl (by decide) ?_
        exact law_2 hsT hF hX0 hbl hL hi5 hcs hl hinv tail
      · refine lv_tableIn (tgt := 320) hx hb dL_law_39 (by decide) (by decide) rfl (by decide) ?_
        exact law_3 hsT hF hX0 hbl hL hi5 hcs hl hinv tail
      · refine lv_tableIn (tgt := 376) hx hb dL_law_39 (by decide) (by decide) rfl (by decide) ?_
        exact law_4 hsT hF hX0 hbl hL hi5 hcs hl hinv tail
      · refine lv_tableIn (tgt := 444) hx hb dL_law_39 (by decide) (by decide) rfl (by decide) ?_
        exact law_5 hsT hF hX0 hbl hL hi5 hcs hl hinv tail
      · refine lv_tableIn (tgt := 524) hx hb dL_law_39 (by decide) (by decide) rfl (by decide) ?_
        exact law_6 hsT hF hX0 hbl hL hi5 hcs hl hinv tail
      · refine lv_tableIn (tgt := 592) hx hb dL_law_39 (by decide) (by decide) rfl (by decide) ?_
        exact law_7 hsT hF hX0 hbl hL hi5 hcs hl hinv tail
      · refine lv_tableIn (tgt := 683) hx hb dL_law_39 (by decide) (by decide) rfl (by decide) ?_
        exact law_8 hsT hF hX0 hbl hL hi5 hcs hl hinv tail
      · refine lv_tableIn (tgt := 763) hx hb dL_law_39 (by decide) (by decide) rfl (by decide) ?_
        exact law_9 hsT hF hX0 hbl hL hi5 hcs hl hinv tail
      · refine lv_tableIn (tgt := 819) hx hb dL_law_39 (by decide) (by decide) rfl (by decide) ?_
        exact law_10 hsT hF hX0 hbl hL hi5 hcs hl hinv tail
      · refine lv_tableIn (tgt := 887) hx hb dL_law_39 (by decide) (by decide) rfl (by decide) ?_
        exact law_11 hsT hF hX0 hbl hL hi5 hcs hl hinv tail
      · refine lv_tableIn (tgt := 955) hx hb dL_law_39 (by decide) (by decide) rfl (by decide) ?_
        exact law_12 hsT hF hX0 hbl hL hi5 hcs hl hinv tail
      · refine lv_tableIn (tgt := 1023) hx hb dL_law_39 (by decide) (by decide) rfl (by decide) ?_
        exact law_13 hsT hF hX0 hbl hL hi5 hcs hl hinv tail
      · refine lv_tableIn (tgt := 1091) hx hb dL_law_39 (by decide) (by decide) rfl (by decide) ?_
        exact law_14 hsT hF hX0 hbl hL hi5 hcs hl hinv tail
      · refine lv_tableOut (tgt := 1134) hx hb dL_law_39 (by decide) (by decide) ?_
        refine W.widen (k := cells + 2) (n := slots + 12) (Nat.le_add_right _ _) (Nat.le_add_right _ _) ?_
        exact tail Z H locs ls hinv hl
