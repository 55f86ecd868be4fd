set_option maxHeartbeats 4000000 in
set_option maxRecDepth 100000 in
theorem c_X6_in (l : Launch) (g : GE) (w : Int32) (lo : Int32) (hi : Int32)  : Ct l yX6_in cX6_in 3 (some .boolean) { frames := 0, cells := 0, slots := 0, locals := 0 } g [.int w, .int lo, .int hi] [] (fun (v : Option Value) (u : Unit) => v = some (.int (nI (inI w lo hi).toNat)) ∧ True) (fun u : Unit => []) := by
  refine Ct.of (own := RX6) rfl rfl (Nat.le_of_ble_eq_true rfl) ?_
  intro P0 e0 s m below meth c ls hF hr hlk hnm hw hl
  have hx := hF.1
  have hb := hF.2.1
  have hl : lv_has ls 3 [(0, .int w), (1, .int lo), (2, .int hi)] := hl
  refine lv_iload_n hx hb dX6_in_0 rfl (lv_at hl 0 rfl) ?_
  refine lv_iload_n hx hb dX6_in_1 rfl (lv_at hl 1 rfl) ?_
  refine lv_icmp_lt (tgt := 14) hx hb dX6_in_2 (by decide) (fun c_2 => ?_) (fun c_2 => ?_)
  · refine lv_iconst (v := nI 0) hx hb dX6_in_14 (by decide) ?_
    exact RQ.zret hF hr hlk hw dX6_in_15 (rfl) ⟨by decide, by decide⟩ (()) (rfl) ⟨by first | exact rbt (decide_eq_true ⟨c_2, c_7⟩) | exact rbf (decide_eq_false (fun q => q.1 c_2)) | exact rbf (decide_eq_false (fun q => q.2 c_7)), trivial⟩
  · refine lv_iload_n hx hb dX6_in_5 rfl (lv_at hl 0 rfl) ?_
    refine lv_iload_n hx hb dX6_in_6 rfl (lv_at hl 2 rfl) ?_
    refine lv_icmp_gt (tgt := 14) hx hb dX6_in_7 (by decide) (fun c_7 => ?_) (fun c_7 => ?_)
    · refine lv_iconst (v := nI 0) hx hb dX6_in_14 (by decide) ?_
      exact RQ.zret hF hr hlk hw dX6_in_15 (rfl) ⟨by decide, by decide⟩ (()) (rfl) ⟨by first | exact rbt (decide_eq_true ⟨c_2, c_7⟩) | exact rbf (decide_eq_false (fun q => q.1 c_2)) | exact rbf (decide_eq_false (fun q => q.2 c_7)), trivial⟩
    · refine lv_iconst (v := nI 1) hx hb dX6_in_10 (by decide) ?_
      refine lv_goto (tgt := 15) hx hb dX6_in_11 (by decide) ?_
      exact RQ.zret hF hr hlk hw dX6_in_15 (rfl) ⟨by decide, by decide⟩ (()) (rfl) ⟨by first | exact rbt (decide_eq_true ⟨c_2, c_7⟩) | exact rbf (decide_eq_false (fun q => q.1 c_2)) | exact rbf (decide_eq_false (fun q => q.2 c_7)), trivial⟩

set_option maxHeartbeats 4000000 in
set_option maxRecDepth 100000 in
theorem c_X6_isEnd (l : Launch) (g : GE) (w : Int32)  : Ct l yX6_isEnd cX6_isEnd 1 (some .boolean) { frames := 1, cells := 0, slots := 0, locals := 22 } g [.int w] [] (fun (v : Option Value) (u : Unit) => v = some (.int (nI (inI w (nI 0) (nI 1)).toNat)) ∧ True) (fun u : Unit => []) := by
  refine Ct.of (own := RX6) rfl rfl (Nat.le_of_ble_eq_true rfl) ?_
  intro P0 e0 s m below meth c ls hF hr hlk hnm hw hl
  have hx := hF.1
  have hb := hF.2.1
  have hl : lv_has ls 1 [(0, .int w)] := hl
  refine lv_iload_n hx hb dX6_isEnd_0 rfl (lv_at hl 0 rfl) ?_
  refine lv_iconst (v := nI 0) hx hb dX6_isEnd_1 (by decide) ?_
  refine lv_iconst (v := nI 1) hx hb dX6_isEnd_2 (by decide) ?_
  refine Ct.callS (wr := []) hF hw (c_X6_in l g w (nI 0) (nI 1) ) mwX6_87 [] [] rfl rfl rfl rfl (by decide) ⟨by decide, by decide⟩ ⟨by decide, by decide⟩ rfl hl.1 (Nat.le_of_ble_eq_true rfl) rfl dX6_isEnd_3 (fun v u H locs hp hw => ?_)
  obtain ⟨rfl, hp_3⟩ := hp
  refine W.eq (g2 := F0 m 6 ls [.int (nI (inI w (nI 0) (nI 1)).toNat)]) rfl ?_
  exact RQ.zret hF hr hlk hw dX6_isEnd_6 (by cases inI w (nI 0) (nI 1) <;> rfl) ⟨by decide, by decide⟩ (()) (rfl) ⟨rfl, trivial⟩

set_option maxHeartbeats 4000000 in
set_option maxRecDepth 100000 in
theorem c_X6_tally (l : Launch) (g : GE) (md : Nat → Nat) (th : Int32) (pn : Nat) (ac : Nat) (an : Nat) (ci : Nat) (ck : Nat) (fCt : Nat → Int32) (e : Nat) (k : Nat) (he : e < 2) (hk : k < 6) : Ct l yX6_tally cX6_tally 3 none { frames := 0, cells := 0, slots := 0, locals := 0 } g [.ref (md 0), .int (nI e), .int (nI k)] [(md 0, .inr (5, [.ref (md 1), .int th, .ref (md 2), .ref (md 3), .ref (md 4), .ref (md 5), .ref (md 6), .ref (md 7), .ref (md 8), .ref (md 9), .ref (md 10), .ref (md 11), .ref (md 12), .ref (md 13), .ref (md 14), .ref (md 15), .ref (md 16), .ref (md 17), .ref (md 18), .ref (md 19), .ref (md 20), .ref (md 21), .ref (md 22), .int (nI pn), .ref (md 23), .int (nI ac), .int (nI an), .ref (md 24), .int (nI ci), .int (nI ck)])), (md 22, .inl (g.2.1 0, 12, .inl fCt))] (fun (v : Option Value) (u : Unit) => v = none ∧ True) (fun u : Unit => [(md 0, .inr (5, [.ref (md 1), .int th, .ref (md 2), .ref (md 3), .ref (md 4), .ref (md 5), .ref (md 6), .ref (md 7), .ref (md 8), .ref (md 9), .ref (md 10), .ref (md 11), .ref (md 12), .ref (md 13), .ref (md 14), .ref (md 15), .ref (md 16), .ref (md 17), .ref (md 18), .ref (md 19), .ref (md 20), .ref (md 21), .ref (md 22), .int (nI pn), .ref (md 23), .int (nI ac), .int (nI an), .ref (md 24), .int (nI ci), .int (nI ck)])), (md 22, .inl (g.2.1 0, 12, .inl (upd fCt (6 * e + k) (fCt (6 * e + k) + nI 1))))]) := by
  refine Ct.of (own := RX6) rfl rfl (Nat.le_of_ble_eq_true rfl) ?_
  intro P0 e0 s m below meth c ls hF hr hlk hnm hw hl
  have hx := hF.1
  have hb := hF.2.1
  have hl : lv_has ls 3 [(0, .ref (md 0)), (1, .int (nI e)), (2, .int (nI k))] := hl
  refine lv_aload_n hx hb dX6_tally_0 rfl (lv_at hl 0 rfl) ?_
  refine wget hF hw flX6_74 dX6_tally_1 0 rfl rfl ?_
  refine lv_bipush (v := nI 6) hx hb dX6_tally_4 (by decide) ?_
  refine lv_iload_n hx hb dX6_tally_6 rfl (lv_at hl 1 rfl) ?_
  refine r_imul hx hb dX6_tally_7 ?_
  refine lv_iload_n hx hb dX6_tally_8 rfl (lv_at hl 2 rfl) ?_
  refine r_iadd hx hb dX6_tally_9 ?_
  refine lv_dup2_11 hx hb dX6_tally_10 rfl rfl ?_
  refine r_iald hF hw dX6_tally_11 1 rfl (by omega) (by omega) ?_
  refine lv_iconst (v := nI 1) hx hb dX6_tally_12 (by decide) ?_
  refine lv_iadd hx hb dX6_tally_13 ?_
  refine r_iast (ws' := [(md 0, .inr (5, [.ref (md 1), .int th, .ref (md 2), .ref (md 3), .ref (md 4), .ref (md 5), .ref (md 6), .ref (md 7), .ref (md 8), .ref (md 9), .ref (md 10), .ref (md 11), .ref (md 12), .ref (md 13), .ref (md 14), .ref (md 15), .ref (md 16), .ref (md 17), .ref (md 18), .ref (md 19), .ref (md 20), .ref (md 21), .ref (md 22), .int (nI pn), .ref (md 23), .int (nI ac), .int (nI an), .ref (md 24), .int (nI ci), .int (nI ck)])), (md 22, .inl (g.2.1 0, 12, .inl (upd fCt ((6 * e) + k) ((fCt ((6 * e) + k)) + (nI 1)))))]) hF hw dX6_tally_14 1 rfl (by omega) (by omega) rfl (fun H locs hw => ?_)
  exact RQ.vret hF hr hlk hw dX6_tally_15 ⟨by decide, by decide⟩ (()) (rfl) ⟨rfl, trivial⟩

set_option maxHeartbeats 4000000 in
set_option maxRecDepth 100000 in
theorem c_X6_check (l : Launch) (g : GE) (cv : Nat) (b : Nat) (hc : cv < 65536) (hb8 : b < 256) : Ct l yX6_check cX6_check 4 (some .int) { frames := 0, cells := 0, slots := 0, locals := 0 } g [.int (nI cv), .int (nI b)] [] (fun (v : Option Value) (u : Unit) => v = some (.int (nI (crcS cv b))) ∧ True) (fun u : Unit => []) := by
  refine Ct.of (own := RX6) rfl rfl (Nat.le_of_ble_eq_true rfl) ?_
  intro P0 e0 s m below meth c ls hF hr hlk hnm hw hl
  have hx := hF.1
  have hb := hF.2.1
  have hl : lv_has ls 4 [(0, .int (nI cv)), (1, .int (nI b))] := hl
  have hxl : cv ^^^ b < 65536 := Nat.xor_lt_two_pow (n := 16) hc (by omega)
  refine lv_iload_n hx hb dX6_check_0 rfl (lv_at hl 0 rfl) ?_
  refine lv_iload_n hx hb dX6_check_1 rfl (lv_at hl 1 rfl) ?_
  refine r_ixor hx hb dX6_check_2 ?_
  refine lv_istore_n (lv' := [(2, .int (nI (cv ^^^ b))), (0, .int (nI cv)), (1, .int (nI b))]) hx hb dX6_check_3 rfl hl (by decide) rfl (fun ls hl => ?_)
  refine lv_iconst (v := nI 0) hx hb dX6_check_4 (by decide) ?_
  refine lv_istore_n (lv' := [(3, .int (nI 0)), (2, .int (nI (cv ^^^ b))), (0, .int (nI cv)), (1, .int (nI b))]) hx hb dX6_check_5 rfl hl (by decide) rfl (fun ls hl => ?_)
  have lp_6 : ∀ (fuel_6 : Nat) (j : Nat) (d : Nat) (H : Heap) (locs : List Loc) (ls : Array Slot), (8 - j) < fuel_6 → (j ≤ 8) → (d = crcN j (cv ^^^ b)) → Wd g (va_A [] s.heap.size) s H locs [] → lv_has ls 4 [(0, .int (nI cv)), (1, .int (nI b)), (2, .int (nI d)), (3, .int (nI j))] → W P0 l e0 { frames := 0, cells := 0, slots := 0, locals := 0 } s m ([.int (nI cv), .int (nI b)] : List Value).toArray below meth c H locs 0 0 (RQ below ([.int (nI cv), .int (nI b)] : List Value).toArray s { frames := 0, cells := 0, slots := 0, locals := 0 } g [] (fun (v : Option Value) (u : Unit) => v = some (.int (nI (crcS cv b))) ∧ True) (fun u : Unit => [])) (F0 m 6 ls []) := by
    intro fuel_6
    induction fuel_6 with
    | zero => intro j d H locs ls hm_6; exact absurd hm_6 (Nat.not_lt_zero _)
    | succ fuel_6 ih_6 =>
      intro j d H locs ls hm_6 hj hd hw hl
      have hdl : d < 65536 := by rw [hd]; exact crcN_lt hxl j
      refine lv_iload_n hx hb dX6_check_6 rfl (lv_at hl 3 rfl) ?_
      refine lv_bipush (v := nI 8) hx hb dX6_check_7 (by decide) ?_
      refine r_ge (tgt := 38) hx hb dX6_check_9 (by decide) (by omega) (by omega) (fun c_9 => ?_) (fun c_9 => ?_)
      · refine lv_iload_n hx hb dX6_check_38 rfl (lv_at hl 2 rfl) ?_
        exact RQ.iret hF hr hlk hw dX6_check_39 ⟨by decide, by decide⟩ (()) (rfl) ⟨by rw [hd, show j = 8 by omega]; rfl, trivial⟩
      · refine lv_iload_n hx hb dX6_check_12 rfl (lv_at hl 2 rfl) ?_
        refine lv_iconst (v := nI 2) hx hb dX6_check_13 (by decide) ?_
        refine r_irem hx hb dX6_check_14 (by omega) (by omega) (by omega) ?_
        refine lv_iconst (v := nI 1) hx hb dX6_check_15 (by decide) ?_
        refine r_ne (tgt := 28) hx hb dX6_check_16 (by decide) (by omega) (by omega) (fun c_16 => ?_) (fun c_16 => ?_)
        · refine lv_iload_n hx hb dX6_check_28 rfl (lv_at hl 2 rfl) ?_
          refine lv_iconst (v := nI 2) hx hb dX6_check_29 (by decide) ?_
          refine r_idiv hx hb dX6_check_30 (by omega) (by omega) (by omega) ?_
          refine lv_istore_n (lv' := [(2, .int (nI (d / 2))), (0, .int (nI cv)), (1, .int (nI b)), (3, .int (nI j))]) hx hb dX6_check_31 rfl hl (by decide) rfl (fun ls hl => ?_)
          refine r_iinc (k := 3) (d := 1) (lv' := [(3, .int (nI (j + 1))), (2, .int (nI (d / 2))), (0, .int (nI cv)), (1, .int (nI b))]) hx hb dX6_check_32 hl rfl (by decide) (by decide) rfl (fun ls hl => ?_)
          refine lv_goto (tgt := 6) hx hb dX6_check_35 (by decide) ?_
          exact ih_6 (j + 1) (d / 2) _ _ _ (by omega) (by omega) (by rw [crcN, ← hd, crcB]; first | exact (if_pos (by omega)).symm | exact (if_neg (by omega)).symm) hw (lv_sub hl [2, 3, 1, 0] rfl)
        · refine lv_iload_n hx hb dX6_check_19 rfl (lv_at hl 2 rfl) ?_
          refine lv_iconst (v := nI 2) hx hb dX6_check_20 (by decide) ?_
          refine r_idiv hx hb dX6_check_21 (by omega) (by omega) (by omega) ?_
          refine lv_ldc hx hb hF.2.2.2.1 (hF.2.2.2.2 _ tw906) dX6_check_22 ?_
          refine r_top (n := 33800) rfl ?_
          refine r_ixor hx hb dX6_check_24 ?_
          refine lv_goto (tgt := 31) hx hb dX6_check_25 (by decide) ?_
          refine lv_istore_n (lv' := [(2, .int (nI ((d / 2) ^^^ 33800))), (0, .int (nI cv)), (1, .int (nI b)), (3, .int (nI j))]) hx hb dX6_check_31 rfl hl (by decide) rfl (fun ls hl => ?_)
          refine r_iinc (k := 3) (d := 1) (lv' := [(3, .int (nI (j + 1))), (2, .int (nI ((d / 2) ^^^ 33800))), (0, .int (nI cv)), (1, .int (nI b))]) hx hb dX6_check_32 hl rfl (by decide) (by decide) rfl (fun ls hl => ?_)
          refine lv_goto (tgt := 6) hx hb dX6_check_35 (by decide) ?_
          exact ih_6 (j + 1) ((d / 2) ^^^ 33800) _ _ _ (by omega) (by omega) (by rw [crcN, ← hd, crcB]; first | exact (if_pos (by omega)).symm | exact (if_neg (by omega)).symm) hw (lv_sub hl [2, 3, 1, 0] rfl)
  exact lp_6 _ 0 (cv ^^^ b) _ _ _ (Nat.lt_succ_self _) (Nat.zero_le _) (rfl) hw (lv_sub hl [2, 3, 1, 0] rfl)

set_option maxHeartbeats 4000000 in
set_option maxRecDepth 100000 in
theorem c_X6_add (l : Launch) (g : GE) (md : Nat → Nat) (th : Int32) (ac : Nat) (an : Nat) (ci : Nat) (ck : Nat) (fPk : Nat → Int32) (P : List Nat) (x : Nat) (hP : Hd fPk P) (hl64 : P.length < 64) : Ct l yX6_add cX6_add 2 none { frames := 0, cells := 0, slots := 0, locals := 0 } g [.ref (md 0), .int (nI x)] [(md 0, .inr (5, [.ref (md 1), .int th, .ref (md 2), .ref (md 3), .ref (md 4), .ref (md 5), .ref (md 6), .ref (md 7), .ref (md 8), .ref (md 9), .ref (md 10), .ref (md 11), .ref (md 12), .ref (md 13), .ref (md 14), .ref (md 15), .ref (md 16), .ref (md 17), .ref (md 18), .ref (md 19), .ref (md 20), .ref (md 21), .ref (md 22), .int (nI P.length), .ref (md 23), .int (nI ac), .int (nI an), .ref (md 24), .int (nI ci), .int (nI ck)])), (md 23, .inl (g.2.1 0, 64, .inl fPk))] (fun (v : Option Value) (u : (Nat → Int32)) => v = none ∧ Hd u (P ++ [x])) (fun u : (Nat → Int32) => [(md 0, .inr (5, [.ref (md 1), .int th, .ref (md 2), .ref (md 3), .ref (md 4), .ref (md 5), .ref (md 6), .ref (md 7), .ref (md 8), .ref (md 9), .ref (md 10), .ref (md 11), .ref (md 12), .ref (md 13), .ref (md 14), .ref (md 15), .ref (md 16), .ref (md 17), .ref (md 18), .ref (md 19), .ref (md 20), .ref (md 21), .ref (md 22), .int (nI (P ++ [x]).length), .ref (md 23), .int (nI ac), .int (nI an), .ref (md 24), .int (nI ci), .int (nI ck)])), (md 23, .inl (g.2.1 0, 64, .inl u))]) := by
  refine Ct.of (own := RX6) rfl rfl (Nat.le_of_ble_eq_true rfl) ?_
  intro P0 e0 s m below meth c ls hF hr hlk hnm hw hl
  have hx := hF.1
  have hb := hF.2.1
  have hl : lv_has ls 2 [(0, .ref (md 0)), (1, .int (nI x))] := hl
  refine lv_aload_n hx hb dX6_add_0 rfl (lv_at hl 0 rfl) ?_
  refine wget hF hw flX6_77 dX6_add_1 0 rfl rfl ?_
  refine lv_aload_n hx hb dX6_add_4 rfl (lv_at hl 0 rfl) ?_
  refine wget hF hw flX6_92 dX6_add_5 0 rfl rfl ?_
  refine lv_iload_n hx hb dX6_add_8 rfl (lv_at hl 1 rfl) ?_
  refine r_iast (ws' := [(md 0, .inr (5, [.ref (md 1), .int th, .ref (md 2), .ref (md 3), .ref (md 4), .ref (md 5), .ref (md 6), .ref (md 7), .ref (md 8), .ref (md 9), .ref (md 10), .ref (md 11), .ref (md 12), .ref (md 13), .ref (md 14), .ref (md 15), .ref (md 16), .ref (md 17), .ref (md 18), .ref (md 19), .ref (md 20), .ref (md 21), .ref (md 22), .int (nI P.length), .ref (md 23), .int (nI ac), .int (nI an), .ref (md 24), .int (nI ci), .int (nI ck)])), (md 23, .inl (g.2.1 0, 64, .inl (upd fPk P.length (nI x))))]) hF hw dX6_add_9 1 rfl (by omega) (by omega) rfl (fun H locs hw => ?_)
  refine lv_aload_n hx hb dX6_add_10 rfl (lv_at hl 0 rfl) ?_
  refine lv_dup hx hb dX6_add_11 rfl ?_
  refine wget hF hw flX6_92 dX6_add_12 0 rfl rfl ?_
  refine lv_iconst (v := nI 1) hx hb dX6_add_15 (by decide) ?_
  refine r_iadd hx hb dX6_add_16 ?_
  refine r_put (ws' := [(md 0, .inr (5, [.ref (md 1), .int th, .ref (md 2), .ref (md 3), .ref (md 4), .ref (md 5), .ref (md 6), .ref (md 7), .ref (md 8), .ref (md 9), .ref (md 10), .ref (md 11), .ref (md 12), .ref (md 13), .ref (md 14), .ref (md 15), .ref (md 16), .ref (md 17), .ref (md 18), .ref (md 19), .ref (md 20), .ref (md 21), .ref (md 22), .int (nI (P.length + 1)), .ref (md 23), .int (nI ac), .int (nI an), .ref (md 24), .int (nI ci), .int (nI ck)])), (md 23, .inl (g.2.1 0, 64, .inl (upd fPk P.length (nI x))))]) hF hw flX6_92 ftX6 dX6_add_17 0 rfl rfl rfl rfl (Nat.le_of_ble_eq_true rfl) rfl (fun H locs hw => ?_)
  exact RQ.vret hF hr hlk hw dX6_add_20 ⟨by decide, by decide⟩ ((upd fPk P.length (nI x))) (by rw [List.length_append]; rfl) ⟨rfl, hP.snoc⟩

set_option maxHeartbeats 4000000 in
set_option maxRecDepth 100000 in
theorem c_X6_addInt (l : Launch) (g : GE) (md : Nat → Nat) (th : Int32) (ac : Nat) (an : Nat) (ci : Nat) (ck : Nat) (fPk : Nat → Int32) (P : List Nat) (w : Int32) (hP : Hd fPk P) (hl64 : P.length + 4 ≤ 64) : Ct l yX6_addInt cX6_addInt 3 none { frames := 1, cells := 0, slots := 0, locals := 21 } g [.ref (md 0), .int w] [(md 0, .inr (5, [.ref (md 1), .int th, .ref (md 2), .ref (md 3), .ref (md 4), .ref (md 5), .ref (md 6), .ref (md 7), .ref (md 8), .ref (md 9), .ref (md 10), .ref (md 11), .ref (md 12), .ref (md 13), .ref (md 14), .ref (md 15), .ref (md 16), .ref (md 17), .ref (md 18), .ref (md 19), .ref (md 20), .ref (md 21), .ref (md 22), .int (nI P.length), .ref (md 23), .int (nI ac), .int (nI an), .ref (md 24), .int (nI ci), .int (nI ck)])), (md 23, .inl (g.2.1 0, 64, .inl fPk))] (fun (v : Option Value) (u : (Nat → Int32)) => v = none ∧ Hd u (P ++ nbs w)) (fun u : (Nat → Int32) => [(md 0, .inr (5, [.ref (md 1), .int th, .ref (md 2), .ref (md 3), .ref (md 4), .ref (md 5), .ref (md 6), .ref (md 7), .ref (md 8), .ref (md 9), .ref (md 10), .ref (md 11), .ref (md 12), .ref (md 13), .ref (md 14), .ref (md 15), .ref (md 16), .ref (md 17), .ref (md 18), .ref (md 19), .ref (md 20), .ref (md 21), .ref (md 22), .int (nI (P ++ nbs w).length), .ref (md 23), .int (nI ac), .int (nI an), .ref (md 24), .int (nI ci), .int (nI ck)])), (md 23, .inl (g.2.1 0, 64, .inl u))]) := by
  refine Ct.of (own := RX6) rfl rfl (Nat.le_of_ble_eq_true rfl) ?_
  intro P0 e0 s m below meth c ls hF hr hlk hnm hw hl
  have hx := hF.1
  have hb := hF.2.1
  have hl : lv_has ls 3 [(0, .ref (md 0)), (1, .int w)] := hl
  refine lv_bipush (v := nI 24) hx hb dX6_addInt_0 (by decide) ?_
  refine lv_istore_n (lv' := [(2, .int (nI 24)), (0, .ref (md 0)), (1, .int w)]) hx hb dX6_addInt_2 rfl hl (by decide) rfl (fun ls hl => ?_)
  refine lv_iload_n hx hb dX6_addInt_3 rfl (lv_at hl 0 rfl) ?_
  refine r_lt0 (tgt := 24) hx hb dX6_addInt_4 (by decide) (by omega) (fun c_4 => ?_) (fun c_4 => ?_)
  · exact absurd c_4 id
  · refine lv_aload_n hx hb dX6_addInt_7 rfl (lv_at hl 1 rfl) ?_
    refine lv_iload_n hx hb dX6_addInt_8 rfl (lv_at hl 2 rfl) ?_
    refine lv_iload_n hx hb dX6_addInt_9 rfl (lv_at hl 0 rfl) ?_
    refine lv_ishr hx hb dX6_addInt_10 ?_
    refine lv_sipush (v := nI 255) hx hb dX6_addInt_11 (by decide) ?_
    refine r_iandX hx hb dX6_addInt_14 8 (by decide) ?_
    refine Ct.callV (wr := []) hF hw (c_X6_add l g md th ac an ci ck fPk P (lowb (w >>> (nI 24 &&& 31))) (hP) (by (try simp only [List.length_append, List.length_cons, List.length_nil]); omega)) mwX6_95 [0, 1] [] rfl rfl rfl rfl (by decide) 0 rfl rfl ⟨by decide, by decide⟩ ⟨by decide, by decide⟩ rfl hl.1 (Nat.le_of_ble_eq_true rfl) rfl dX6_addInt_15 (fun v u H locs hp hw => ?_)
    obtain ⟨f2_24, rfl⟩ : ∃ z, z = u := ⟨_, rfl⟩
    obtain ⟨rfl, hp_24⟩ := hp
    try dsimp only at hp_24
    have hw := Wd.sub (ws' := [(md 0, .inr (5, [.ref (md 1), .int th, .ref (md 2), .ref (md 3), .ref (md 4), .ref (md 5), .ref (md 6), .ref (md 7), .ref (md 8), .ref (md 9), .ref (md 10), .ref (md 11), .ref (md 12), .ref (md 13), .ref (md 14), .ref (md 15), .ref (md 16), .ref (md 17), .ref (md 18), .ref (md 19), .ref (md 20), .ref (md 21), .ref (md 22), .int (nI (P ++ [(lowb (w >>> (nI 24 &&& 31)))]).length), .ref (md 23), .int (nI ac), .int (nI an), .ref (md 24), .int (nI ci), .int (nI ck)])), (md 23, .inl (g.2.1 0, 64, .inl f2_24))]) hw [0, 1] rfl rfl
    refine W.eq (g2 := F0 m 18 ls []) rfl ?_
    refine lv_iinc (v := nI 16) (lv' := [(2, .int (nI 16)), (0, .ref (md 0)), (1, .int w)]) hx hb dX6_addInt_18 hl (k := 0) rfl (by decide) (by decide) rfl (fun ls hl => ?_)
    refine lv_goto (tgt := 3) hx hb dX6_addInt_21 (by decide) ?_
    refine lv_iload_n hx hb dX6_addInt_3 rfl (lv_at hl 0 rfl) ?_
    refine r_lt0 (tgt := 24) hx hb dX6_addInt_4 (by decide) (by omega) (fun c_4 => ?_) (fun c_4 => ?_)
    · exact absurd c_4 id
    · refine lv_aload_n hx hb dX6_addInt_7 rfl (lv_at hl 1 rfl) ?_
      refine lv_iload_n hx hb dX6_addInt_8 rfl (lv_at hl 2 rfl) ?_
      refine lv_iload_n hx hb dX6_addInt_9 rfl (lv_at hl 0 rfl) ?_
      refine lv_ishr hx hb dX6_addInt_10 ?_
      refine lv_sipush (v := nI 255) hx hb dX6_addInt_11 (by decide) ?_
      refine r_iandX hx hb dX6_addInt_14 8 (by decide) ?_
      refine Ct.callV (wr := []) hF hw (c_X6_add l g md th ac an ci ck f2_24 (P ++ [(lowb (w >>> (nI 24 &&& 31)))]) (lowb (w >>> (nI 16 &&& 31))) (hp_24) (by (try simp only [List.length_append, List.length_cons, List.length_nil]); omega)) mwX6_95 [0, 1] [] rfl rfl rfl rfl (by decide) 0 rfl rfl ⟨by decide, by decide⟩ ⟨by decide, by decide⟩ rfl hl.1 (Nat.le_of_ble_eq_true rfl) rfl dX6_addInt_15 (fun v u H locs hp hw => ?_)
      obtain ⟨f2_16, rfl⟩ : ∃ z, z = u := ⟨_, rfl⟩
      obtain ⟨rfl, hp_16⟩ := hp
      try dsimp only at hp_16
      have hw := Wd.sub (ws' := [(md 0, .inr (5, [.ref (md 1), .int th, .ref (md 2), .ref (md 3), .ref (md 4), .ref (md 5), .ref (md 6), .ref (md 7), .ref (md 8), .ref (md 9), .ref (md 10), .ref (md 11), .ref (md 12), .ref (md 13), .ref (md 14), .ref (md 15), .ref (md 16), .ref (md 17), .ref (md 18), .ref (md 19), .ref (md 20), .ref (md 21), .ref (md 22), .int (nI ((P ++ [(lowb (w >>> (nI 24 &&& 31)))]) ++ [(lowb (w >>> (nI 16 &&& 31)))]).length), .ref (md 23), .int (nI ac), .int (nI an), .ref (md 24), .int (nI ci), .int (nI ck)])), (md 23, .inl (g.2.1 0, 64, .inl f2_16))]) hw [0, 1] rfl rfl
      refine W.eq (g2 := F0 m 18 ls []) rfl ?_
      refine lv_iinc (v := nI 8) (lv' := [(2, .int (nI 8)), (0, .ref (md 0)), (1, .int w)]) hx hb dX6_addInt_18 hl (k := 0) rfl (by decide) (by decide) rfl (fun ls hl => ?_)
      refine lv_goto (tgt := 3) hx hb dX6_addInt_21 (by decide) ?_
      refine lv_iload_n hx hb dX6_addInt_3 rfl (lv_at hl 0 rfl) ?_
      refine r_lt0 (tgt := 24) hx hb dX6_addInt_4 (by decide) (by omega) (fun c_4 => ?_) (fun c_4 => ?_)
      · exact absurd c_4 id
      · refine lv_aload_n hx hb dX6_addInt_7 rfl (lv_at hl 1 rfl) ?_
        refine lv_iload_n hx hb dX6_addInt_8 rfl (lv_at hl 2 rfl) ?_
        refine lv_iload_n hx hb dX6_addInt_9 rfl (lv_at hl 0 rfl) ?_
        refine lv_ishr hx hb dX6_addInt_10 ?_
        refine lv_sipush (v := nI 255) hx hb dX6_addInt_11 (by decide) ?_
        refine r_iandX hx hb dX6_addInt_14 8 (by decide) ?_
        refine Ct.callV (wr := []) hF hw (c_X6_add l g md th ac an ci ck f2_16 ((P ++ [(lowb (w >>> (nI 24 &&& 31)))]) ++ [(lowb (w >>> (nI 16 &&& 31)))]) (lowb (w >>> (nI 8 &&& 31))) (hp_16) (by (try simp only [List.length_append, List.length_cons, List.length_nil]); omega)) mwX6_95 [0, 1] [] rfl rfl rfl rfl (by decide) 0 rfl rfl ⟨by decide, by decide⟩ ⟨by decide, by decide⟩ rfl hl.1 (Nat.le_of_ble_eq_true rfl) rfl dX6_addInt_15 (fun v u H locs hp hw => ?_)
        obtain ⟨f2_8, rfl⟩ : ∃ z, z = u := ⟨_, rfl⟩
        obtain ⟨rfl, hp_8⟩ := hp
        try dsimp only at hp_8
        have hw := Wd.sub (ws' := [(md 0, .inr (5, [.ref (md 1), .int th, .ref (md 2), .ref (md 3), .ref (md 4), .ref (md 5), .ref (md 6), .ref (md 7), .ref (md 8), .ref (md 9), .ref (md 10), .ref (md 11), .ref (md 12), .ref (md 13), .ref (md 14), .ref (md 15), .ref (md 16), .ref (md 17), .ref (md 18), .ref (md 19), .ref (md 20), .ref (md 21), .ref (md 22), .int (nI (((P ++ [(lowb (w >>> (nI 24 &&& 31)))]) ++ [(lowb (w >>> (nI 16 &&& 31)))]) ++ [(lowb (w >>> (nI 8 &&& 31)))]).length), .ref (md 23), .int (nI ac), .int (nI an), .ref (md 24), .int (nI ci), .int (nI ck)])), (md 23, .inl (g.2.1 0, 64, .inl f2_8))]) hw [0, 1] rfl rfl
        refine W.eq (g2 := F0 m 18 ls []) rfl ?_
        refine lv_iinc (v := nI 0) (lv' := [(2, .int (nI 0)), (0, .ref (md 0)), (1, .int w)]) hx hb dX6_addInt_18 hl (k := 0) rfl (by decide) (by decide) rfl (fun ls hl => ?_)
        refine lv_goto (tgt := 3) hx hb dX6_addInt_21 (by decide) ?_
        refine lv_iload_n hx hb dX6_addInt_3 rfl (lv_at hl 0 rfl) ?_
        refine r_lt0 (tgt := 24) hx hb dX6_addInt_4 (by decide) (by omega) (fun c_4 => ?_) (fun c_4 => ?_)
        · exact absurd c_4 id
        · refine lv_aload_n hx hb dX6_addInt_7 rfl (lv_at hl 1 rfl) ?_
          refine lv_iload_n hx hb dX6_addInt_8 rfl (lv_at hl 2 rfl) ?_
          refine lv_iload_n hx hb dX6_addInt_9 rfl (lv_at hl 0 rfl) ?_
          refine lv_ishr hx hb dX6_addInt_10 ?_
          refine lv_sipush (v := nI 255) hx hb dX6_addInt_11 (by decide) ?_
          refine r_iandX hx hb dX6_addInt_14 8 (by decide) ?_
          refine Ct.callV (wr := []) hF hw (c_X6_add l g md th ac an ci ck f2_8 (((P ++ [(lowb (w >>> (nI 24 &&& 31)))]) ++ [(lowb (w >>> (nI 16 &&& 31)))]) ++ [(lowb (w >>> (nI 8 &&& 31)))]) (lowb (w >>> (nI 0 &&& 31))) (hp_8) (by (try simp only [List.length_append, List.length_cons, List.length_nil]); omega)) mwX6_95 [0, 1] [] rfl rfl rfl rfl (by decide) 0 rfl rfl ⟨by decide, by decide⟩ ⟨by decide, by decide⟩ rfl hl.1 (Nat.le_of_ble_eq_true rfl) rfl dX6_addInt_15 (fun v u H locs hp hw => ?_)
          obtain ⟨f2_0, rfl⟩ : ∃ z, z = u := ⟨_, rfl⟩
          obtain ⟨rfl, hp_0⟩ := hp
          try dsimp only at hp_0
          have hw := Wd.sub (ws' := [(md 0, .inr (5, [.ref (md 1), .int th, .ref (md 2), .ref (md 3), .ref (md 4), .ref (md 5), .ref (md 6), .ref (md 7), .ref (md 8), .ref (md 9), .ref (md 10), .ref (md 11), .ref (md 12), .ref (md 13), .ref (md 14), .ref (md 15), .ref (md 16), .ref (md 17), .ref (md 18), .ref (md 19), .ref (md 20), .ref (md 21), .ref (md 22), .int (nI ((((P ++ [(lowb (w >>> (nI 24 &&& 31)))]) ++ [(lowb (w >>> (nI 16 &&& 31)))]) ++ [(lowb (w >>> (nI 8 &&& 31)))]) ++ [(lowb (w >>> (nI 0 &&& 31)))]).length), .ref (md 23), .int (nI ac), .int (nI an), .ref (md 24), .int (nI ci), .int (nI ck)])), (md 23, .inl (g.2.1 0, 64, .inl f2_0))]) hw [0, 1] rfl rfl
          refine W.eq (g2 := F0 m 18 ls []) rfl ?_
          refine lv_iinc (v := -8) (lv' := [(2, .int (-8)), (0, .ref (md 0)), (1, .int w)]) hx hb dX6_addInt_18 hl (k := 0) rfl (by decide) (by decide) rfl (fun ls hl => ?_)
          refine lv_goto (tgt := 3) hx hb dX6_addInt_21 (by decide) ?_
          refine lv_iload_n hx hb dX6_addInt_3 rfl (lv_at hl 0 rfl) ?_
          refine lv_if_lt (tgt := 24) hx hb dX6_addInt_4 (by decide) (fun c_4 => ?_) (fun c_4 => ?_)
          · have e9 : P ++ [lowb (w >>> (nI 24 &&& 31))] ++ [lowb (w >>> (nI 16 &&& 31))] ++ [lowb (w >>> (nI 8 &&& 31))] ++ [lowb (w >>> (nI 0 &&& 31))] = P ++ nbs w := by rw [show w >>> (nI 0 &&& 31) = w from sb_shr0 w]; simp [nbs]
            rw [e9] at hw hp_0
            exact RQ.vret hF hr hlk hw dX6_addInt_24 ⟨by decide, by decide⟩ ((f2_0)) (rfl) ⟨rfl, hp_0⟩
          · exact absurd (by decide) c_4

set_option maxHeartbeats 4000000 in
set_option maxRecDepth 100000 in
theorem c_X6_begin (l : Launch) (g : GE) (md : Nat → Nat) (th : Int32) (pn : Nat) (ac : Nat) (an : Nat) (ci : Nat) (ck : Nat) (fPk : Nat → Int32) (cd : Nat) (id : Nat)  : Ct l yX6_begin cX6_begin 3 none { frames := 1, cells := 0, slots := 0, locals := 21 } g [.ref (md 0), .int (nI cd), .int (nI id)] [(md 0, .inr (5, [.ref (md 1), .int th, .ref (md 2), .ref (md 3), .ref (md 4), .ref (md 5), .ref (md 6), .ref (md 7), .ref (md 8), .ref (md 9), .ref (md 10), .ref (md 11), .ref (md 12), .ref (md 13), .ref (md 14), .ref (md 15), .ref (md 16), .ref (md 17), .ref (md 18), .ref (md 19), .ref (md 20), .ref (md 21), .ref (md 22), .int (nI pn), .ref (md 23), .int (nI ac), .int (nI an), .ref (md 24), .int (nI ci), .int (nI ck)])), (md 23, .inl (g.2.1 0, 64, .inl fPk))] (fun (v : Option Value) (u : (Nat → Int32)) => v = none ∧ Hd u [1, cd, id]) (fun u : (Nat → Int32) => [(md 0, .inr (5, [.ref (md 1), .int th, .ref (md 2), .ref (md 3), .ref (md 4), .ref (md 5), .ref (md 6), .ref (md 7), .ref (md 8), .ref (md 9), .ref (md 10), .ref (md 11), .ref (md 12), .ref (md 13), .ref (md 14), .ref (md 15), .ref (md 16), .ref (md 17), .ref (md 18), .ref (md 19), .ref (md 20), .ref (md 21), .ref (md 22), .int (nI [1, cd, id].length), .ref (md 23), .int (nI ac), .int (nI an), .ref (md 24), .int (nI ci), .int (nI ck)])), (md 23, .inl (g.2.1 0, 64, .inl u))]) := by
  refine Ct.of (own := RX6) rfl rfl (Nat.le_of_ble_eq_true rfl) ?_
  intro P0 e0 s m below meth c ls hF hr hlk hnm hw hl
  have hx := hF.1
  have hb := hF.2.1
  have hl : lv_has ls 3 [(0, .ref (md 0)), (1, .int (nI cd)), (2, .int (nI id))] := hl
  refine lv_aload_n hx hb dX6_begin_0 rfl (lv_at hl 0 rfl) ?_
  refine lv_iconst (v := nI 0) hx hb dX6_begin_1 (by decide) ?_
  refine r_put (ws' := [(md 0, .inr (5, [.ref (md 1), .int th, .ref (md 2), .ref (md 3), .ref (md 4), .ref (md 5), .ref (md 6), .ref (md 7), .ref (md 8), .ref (md 9), .ref (md 10), .ref (md 11), .ref (md 12), .ref (md 13), .ref (md 14), .ref (md 15), .ref (md 16), .ref (md 17), .ref (md 18), .ref (md 19), .ref (md 20), .ref (md 21), .ref (md 22), .int (nI 0), .ref (md 23), .int (nI ac), .int (nI an), .ref (md 24), .int (nI ci), .int (nI ck)])), (md 23, .inl (g.2.1 0, 64, .inl fPk))]) hF hw flX6_92 ftX6 dX6_begin_2 0 rfl rfl rfl rfl (Nat.le_of_ble_eq_true rfl) rfl (fun H locs hw => ?_)
  refine lv_aload_n hx hb dX6_begin_5 rfl (lv_at hl 0 rfl) ?_
  refine lv_iconst (v := nI 1) hx hb dX6_begin_6 (by decide) ?_
  refine Ct.callV (wr := []) hF hw (c_X6_add l g md th ac an ci ck fPk [] 1 (Hd.nil) (by decide)) mwX6_95 [0, 1] [] rfl rfl rfl rfl (by decide) 0 rfl rfl ⟨by decide, by decide⟩ ⟨by decide, by decide⟩ rfl hl.1 (Nat.le_of_ble_eq_true rfl) rfl dX6_begin_7 (fun v u H locs hp hw => ?_)
  obtain ⟨f2_7, rfl⟩ : ∃ z, z = u := ⟨_, rfl⟩
  obtain ⟨rfl, hp_7⟩ := hp
  try dsimp only at hp_7
  have hw := Wd.sub (ws' := [(md 0, .inr (5, [.ref (md 1), .int th, .ref (md 2), .ref (md 3), .ref (md 4), .ref (md 5), .ref (md 6), .ref (md 7), .ref (md 8), .ref (md 9), .ref (md 10), .ref (md 11), .ref (md 12), .ref (md 13), .ref (md 14), .ref (md 15), .ref (md 16), .ref (md 17), .ref (md 18), .ref (md 19), .ref (md 20), .ref (md 21), .ref (md 22), .int (nI ([] ++ [1]).length), .ref (md 23), .int (nI ac), .int (nI an), .ref (md 24), .int (nI ci), .int (nI ck)])), (md 23, .inl (g.2.1 0, 64, .inl f2_7))]) hw [0, 1] rfl rfl
  refine W.eq (g2 := F0 m 10 ls []) rfl ?_
  refine lv_aload_n hx hb dX6_begin_10 rfl (lv_at hl 0 rfl) ?_
  refine lv_iload_n hx hb dX6_begin_11 rfl (lv_at hl 1 rfl) ?_
  refine Ct.callV (wr := []) hF hw (c_X6_add l g md th ac an ci ck f2_7 ([] ++ [1]) cd (hp_7) (by show 1 < 64; decide)) mwX6_95 [0, 1] [] rfl rfl rfl rfl (by decide) 0 rfl rfl ⟨by decide, by decide⟩ ⟨by decide, by decide⟩ rfl hl.1 (Nat.le_of_ble_eq_true rfl) rfl dX6_begin_12 (fun v u H locs hp hw => ?_)
  obtain ⟨f2_12, rfl⟩ : ∃ z, z = u := ⟨_, rfl⟩
  obtain ⟨rfl, hp_12⟩ := hp
  try dsimp only at hp_12
  have hw := Wd.sub (ws' := [(md 0, .inr (5, [.ref (md 1), .int th, .ref (md 2), .ref (md 3), .ref (md 4), .ref (md 5), .ref (md 6), .ref (md 7), .ref (md 8), .ref (md 9), .ref (md 10), .ref (md 11), .ref (md 12), .ref (md 13), .ref (md 14), .ref (md 15), .ref (md 16), .ref (md 17), .ref (md 18), .ref (md 19), .ref (md 20), .ref (md 21), .ref (md 22), .int (nI (([] ++ [1]) ++ [cd]).length), .ref (md 23), .int (nI ac), .int (nI an), .ref (md 24), .int (nI ci), .int (nI ck)])), (md 23, .inl (g.2.1 0, 64, .inl f2_12))]) hw [0, 1] rfl rfl
  refine W.eq (g2 := F0 m 15 ls []) rfl ?_
  refine lv_aload_n hx hb dX6_begin_15 rfl (lv_at hl 0 rfl) ?_
  refine lv_iload_n hx hb dX6_begin_16 rfl (lv_at hl 2 rfl) ?_
  refine Ct.callV (wr := []) hF hw (c_X6_add l g md th ac an ci ck f2_12 (([] ++ [1]) ++ [cd]) id (hp_12) (by show 2 < 64; decide)) mwX6_95 [0, 1] [] rfl rfl rfl rfl (by decide) 0 rfl rfl ⟨by decide, by decide⟩ ⟨by decide, by decide⟩ rfl hl.1 (Nat.le_of_ble_eq_true rfl) rfl dX6_begin_17 (fun v u H locs hp hw => ?_)
  obtain ⟨f2_17, rfl⟩ : ∃ z, z = u := ⟨_, rfl⟩
  obtain ⟨rfl, hp_17⟩ := hp
  try dsimp only at hp_17
  have hw := Wd.sub (ws' := [(md 0, .inr (5, [.ref (md 1), .int th, .ref (md 2), .ref (md 3), .ref (md 4), .ref (md 5), .ref (md 6), .ref (md 7), .ref (md 8), .ref (md 9), .ref (md 10), .ref (md 11), .ref (md 12), .ref (md 13), .ref (md 14), .ref (md 15), .ref (md 16), .ref (md 17), .ref (md 18), .ref (md 19), .ref (md 20), .ref (md 21), .ref (md 22), .int (nI ((([] ++ [1]) ++ [cd]) ++ [id]).length), .ref (md 23), .int (nI ac), .int (nI an), .ref (md 24), .int (nI ci), .int (nI ck)])), (md 23, .inl (g.2.1 0, 64, .inl f2_17))]) hw [0, 1] rfl rfl
  refine W.eq (g2 := F0 m 20 ls []) rfl ?_
  exact RQ.vret hF hr hlk hw dX6_begin_20 ⟨by decide, by decide⟩ ((f2_17)) (rfl) ⟨rfl, hp_17⟩

set_option maxHeartbeats 4000000 in
set_option maxRecDepth 100000 in
theorem c_X6_special (l : Launch) (g : GE) (b : Nat) (hb2 : b < 2147483648) : Ct l yX6_special cX6_special 1 (some .boolean) { frames := 0, cells := 0, slots := 0, locals := 0 } g [.int (nI b)] [] (fun (v : Option Value) (u : Unit) => v = some (.int (nI (decide (b = 125 ∨ b = 126)).toNat)) ∧ True) (fun u : Unit => []) := by
  refine Ct.of (own := RX6) rfl rfl (Nat.le_of_ble_eq_true rfl) ?_
  intro P0 e0 s m below meth c ls hF hr hlk hnm hw hl
  have hx := hF.1
  have hb := hF.2.1
  have hl : lv_has ls 1 [(0, .int (nI b))] := hl
  refine lv_iload_n hx hb dX6_special_0 rfl (lv_at hl 0 rfl) ?_
  refine lv_bipush (v := nI 125) hx hb dX6_special_1 (by decide) ?_
  refine r_eq (tgt := 12) hx hb dX6_special_3 (by decide) (by omega) (by omega) (fun c_3 => ?_) (fun c_3 => ?_)
  · refine lv_iconst (v := nI 1) hx hb dX6_special_12 (by decide) ?_
    refine lv_goto (tgt := 17) hx hb dX6_special_13 (by decide) ?_
    exact RQ.zret hF hr hlk hw dX6_special_17 (rfl) ⟨by decide, by decide⟩ (()) (rfl) ⟨by first | exact rbt (decide_eq_true (by omega)) | exact rbf (decide_eq_false (by omega)), trivial⟩
  · refine lv_iload_n hx hb dX6_special_6 rfl (lv_at hl 0 rfl) ?_
    refine lv_bipush (v := nI 126) hx hb dX6_special_7 (by decide) ?_
    refine r_ne (tgt := 16) hx hb dX6_special_9 (by decide) (by omega) (by omega) (fun c_9 => ?_) (fun c_9 => ?_)
    · refine lv_iconst (v := nI 0) hx hb dX6_special_16 (by decide) ?_
      exact RQ.zret hF hr hlk hw dX6_special_17 (rfl) ⟨by decide, by decide⟩ (()) (rfl) ⟨by first | exact rbt (decide_eq_true (by omega)) | exact rbf (decide_eq_false (by omega)), trivial⟩
    · refine lv_iconst (v := nI 1) hx hb dX6_special_12 (by decide) ?_
      refine lv_goto (tgt := 17) hx hb dX6_special_13 (by decide) ?_
      exact RQ.zret hF hr hlk hw dX6_special_17 (rfl) ⟨by decide, by decide⟩ (()) (rfl) ⟨by first | exact rbt (decide_eq_true (by omega)) | exact rbf (decide_eq_false (by omega)), trivial⟩

set_option maxHeartbeats 4000000 in
set_option maxRecDepth 100000 in
theorem c_X6_lay (l : Launch) (g : GE) (md : Nat → Nat) (th : Int32) (pn : Nat) (ac : Nat) (an : Nat) (ci : Nat) (ck : Nat) (fBy : Nat → Int32) (fOl : Nat → Int32) (e : Nat) (B : List Nat) (x : Nat) (he : e < 2) (hL : LnM fBy fOl e B) (hB3 : B.length < 300) : Ct l yX6_lay cX6_lay 3 none { frames := 0, cells := 0, slots := 0, locals := 0 } g [.ref (md 0), .int (nI e), .int (nI x)] [(md 0, .inr (5, [.ref (md 1), .int th, .ref (md 2), .ref (md 3), .ref (md 4), .ref (md 5), .ref (md 6), .ref (md 7), .ref (md 8), .ref (md 9), .ref (md 10), .ref (md 11), .ref (md 12), .ref (md 13), .ref (md 14), .ref (md 15), .ref (md 16), .ref (md 17), .ref (md 18), .ref (md 19), .ref (md 20), .ref (md 21), .ref (md 22), .int (nI pn), .ref (md 23), .int (nI ac), .int (nI an), .ref (md 24), .int (nI ci), .int (nI ck)])), (md 15, .inl (g.2.1 0, 600, .inl fBy)), (md 14, .inl (g.2.1 0, 2, .inl fOl))] (fun (v : Option Value) (u : (Nat → Int32) × (Nat → Int32)) => v = none ∧ LnM u.1 u.2 e (B ++ [x]) ∧ LnO fBy fOl u.1 u.2 e) (fun u : (Nat → Int32) × (Nat → Int32) => [(md 0, .inr (5, [.ref (md 1), .int th, .ref (md 2), .ref (md 3), .ref (md 4), .ref (md 5), .ref (md 6), .ref (md 7), .ref (md 8), .ref (md 9), .ref (md 10), .ref (md 11), .ref (md 12), .ref (md 13), .ref (md 14), .ref (md 15), .ref (md 16), .ref (md 17), .ref (md 18), .ref (md 19), .ref (md 20), .ref (md 21), .ref (md 22), .int (nI pn), .ref (md 23), .int (nI ac), .int (nI an), .ref (md 24), .int (nI ci), .int (nI ck)])), (md 15, .inl (g.2.1 0, 600, .inl u.1)), (md 14, .inl (g.2.1 0, 2, .inl u.2))]) := by
  refine Ct.of (own := RX6) rfl rfl (Nat.le_of_ble_eq_true rfl) ?_
  intro P0 e0 s m below meth c ls hF hr hlk hnm hw hl
  have hx := hF.1
  have hb := hF.2.1
  have hl : lv_has ls 3 [(0, .ref (md 0)), (1, .int (nI e)), (2, .int (nI x))] := hl
  refine lv_aload_n hx hb dX6_lay_0 rfl (lv_at hl 0 rfl) ?_
  refine wget hF hw flX6_53 dX6_lay_1 0 rfl rfl ?_
  refine lv_sipush (v := nI 300) hx hb dX6_lay_4 (by decide) ?_
  refine lv_iload_n hx hb dX6_lay_7 rfl (lv_at hl 1 rfl) ?_
  refine r_imul hx hb dX6_lay_8 ?_
  refine lv_aload_n hx hb dX6_lay_9 rfl (lv_at hl 0 rfl) ?_
  refine wget hF hw flX6_50 dX6_lay_10 0 rfl rfl ?_
  refine lv_iload_n hx hb dX6_lay_13 rfl (lv_at hl 1 rfl) ?_
  refine r_iald hF hw dX6_lay_14 2 rfl (by omega) (by omega) ?_
  refine r_top (n := B.length) (hL.1) ?_
  refine r_iadd hx hb dX6_lay_15 ?_
  refine lv_iload_n hx hb dX6_lay_16 rfl (lv_at hl 2 rfl) ?_
  refine r_iast (ws' := [(md 0, .inr (5, [.ref (md 1), .int th, .ref (md 2), .ref (md 3), .ref (md 4), .ref (md 5), .ref (md 6), .ref (md 7), .ref (md 8), .ref (md 9), .ref (md 10), .ref (md 11), .ref (md 12), .ref (md 13), .ref (md 14), .ref (md 15), .ref (md 16), .ref (md 17), .ref (md 18), .ref (md 19), .ref (md 20), .ref (md 21), .ref (md 22), .int (nI pn), .ref (md 23), .int (nI ac), .int (nI an), .ref (md 24), .int (nI ci), .int (nI ck)])), (md 15, .inl (g.2.1 0, 600, .inl (upd fBy ((300 * e) + B.length) (nI x)))), (md 14, .inl (g.2.1 0, 2, .inl fOl))]) hF hw dX6_lay_17 1 rfl (by omega) (by omega) rfl (fun H locs hw => ?_)
  refine lv_aload_n hx hb dX6_lay_18 rfl (lv_at hl 0 rfl) ?_
  refine wget hF hw flX6_50 dX6_lay_19 0 rfl rfl ?_
  refine lv_iload_n hx hb dX6_lay_22 rfl (lv_at hl 1 rfl) ?_
  refine lv_dup2_11 hx hb dX6_lay_23 rfl rfl ?_
  refine r_iald hF hw dX6_lay_24 2 rfl (by omega) (by omega) ?_
  refine r_top (n := B.length) (hL.1) ?_
  refine lv_iconst (v := nI 1) hx hb dX6_lay_25 (by decide) ?_
  refine r_iadd hx hb dX6_lay_26 ?_
  refine r_iast (ws' := [(md 0, .inr (5, [.ref (md 1), .int th, .ref (md 2), .ref (md 3), .ref (md 4), .ref (md 5), .ref (md 6), .ref (md 7), .ref (md 8), .ref (md 9), .ref (md 10), .ref (md 11), .ref (md 12), .ref (md 13), .ref (md 14), .ref (md 15), .ref (md 16), .ref (md 17), .ref (md 18), .ref (md 19), .ref (md 20), .ref (md 21), .ref (md 22), .int (nI pn), .ref (md 23), .int (nI ac), .int (nI an), .ref (md 24), .int (nI ci), .int (nI ck)])), (md 15, .inl (g.2.1 0, 600, .inl (upd fBy ((300 * e) + B.length) (nI x)))), (md 14, .inl (g.2.1 0, 2, .inl (upd fOl e (nI (B.length + 1)))))]) hF hw dX6_lay_27 2 rfl (by omega) (by omega) rfl (fun H locs hw => ?_)
  exact RQ.vret hF hr hlk hw dX6_lay_28 ⟨by decide, by decide⟩ ((upd fBy ((300 * e) + B.length) (nI x), upd fOl e (nI (B.length + 1)))) (rfl) ⟨rfl, ⟨hL.snoc hB3, LnO.lay he hB3⟩⟩

set_option maxHeartbeats 4000000 in
set_option maxRecDepth 100000 in
theorem c_X6_nextId (l : Launch) (g : GE) (md : Nat → Nat) (th : Int32) (pn : Nat) (ac : Nat) (an : Nat) (ci : Nat) (ck : Nat) (fId : Nat → Int32) (e : Nat) (id : Nat) (he : e < 2) (hid : fId e = nI id) (hi8 : id < 256) : Ct l yX6_nextId cX6_nextId 2 (some .int) { frames := 0, cells := 0, slots := 0, locals := 0 } g [.ref (md 0), .int (nI e)] [(md 0, .inr (5, [.ref (md 1), .int th, .ref (md 2), .ref (md 3), .ref (md 4), .ref (md 5), .ref (md 6), .ref (md 7), .ref (md 8), .ref (md 9), .ref (md 10), .ref (md 11), .ref (md 12), .ref (md 13), .ref (md 14), .ref (md 15), .ref (md 16), .ref (md 17), .ref (md 18), .ref (md 19), .ref (md 20), .ref (md 21), .ref (md 22), .int (nI pn), .ref (md 23), .int (nI ac), .int (nI an), .ref (md 24), .int (nI ci), .int (nI ck)])), (md 6, .inl (g.2.1 0, 2, .inl fId))] (fun (v : Option Value) (u : Unit) => v = some (.int (nI ((id + 1) % 2 ^ 8))) ∧ True) (fun u : Unit => [(md 0, .inr (5, [.ref (md 1), .int th, .ref (md 2), .ref (md 3), .ref (md 4), .ref (md 5), .ref (md 6), .ref (md 7), .ref (md 8), .ref (md 9), .ref (md 10), .ref (md 11), .ref (md 12), .ref (md 13), .ref (md 14), .ref (md 15), .ref (md 16), .ref (md 17), .ref (md 18), .ref (md 19), .ref (md 20), .ref (md 21), .ref (md 22), .int (nI pn), .ref (md 23), .int (nI ac), .int (nI an), .ref (md 24), .int (nI ci), .int (nI ck)])), (md 6, .inl (g.2.1 0, 2, .inl (upd fId e (nI ((id + 1) % 2 ^ 8)))))]) := by
  refine Ct.of (own := RX6) rfl rfl (Nat.le_of_ble_eq_true rfl) ?_
  intro P0 e0 s m below meth c ls hF hr hlk hnm hw hl
  have hx := hF.1
  have hb := hF.2.1
  have hl : lv_has ls 2 [(0, .ref (md 0)), (1, .int (nI e))] := hl
  refine lv_aload_n hx hb dX6_nextId_0 rfl (lv_at hl 0 rfl) ?_
  refine wget hF hw flX6_25 dX6_nextId_1 0 rfl rfl ?_
  refine lv_iload_n hx hb dX6_nextId_4 rfl (lv_at hl 1 rfl) ?_
  refine lv_aload_n hx hb dX6_nextId_5 rfl (lv_at hl 0 rfl) ?_
  refine wget hF hw flX6_25 dX6_nextId_6 0 rfl rfl ?_
  refine lv_iload_n hx hb dX6_nextId_9 rfl (lv_at hl 1 rfl) ?_
  refine r_iald hF hw dX6_nextId_10 1 rfl (by omega) (by omega) ?_
  refine r_top (n := id) (hid) ?_
  refine lv_iconst (v := nI 1) hx hb dX6_nextId_11 (by decide) ?_
  refine r_iadd hx hb dX6_nextId_12 ?_
  refine lv_sipush (v := nI 255) hx hb dX6_nextId_13 (by decide) ?_
  refine r_iand hx hb dX6_nextId_16 8 (by omega) (by decide) ?_
  refine r_iast (ws' := [(md 0, .inr (5, [.ref (md 1), .int th, .ref (md 2), .ref (md 3), .ref (md 4), .ref (md 5), .ref (md 6), .ref (md 7), .ref (md 8), .ref (md 9), .ref (md 10), .ref (md 11), .ref (md 12), .ref (md 13), .ref (md 14), .ref (md 15), .ref (md 16), .ref (md 17), .ref (md 18), .ref (md 19), .ref (md 20), .ref (md 21), .ref (md 22), .int (nI pn), .ref (md 23), .int (nI ac), .int (nI an), .ref (md 24), .int (nI ci), .int (nI ck)])), (md 6, .inl (g.2.1 0, 2, .inl (upd fId e (nI ((id + 1) % 2 ^ 8)))))]) hF hw dX6_nextId_17 1 rfl (by omega) (by omega) rfl (fun H locs hw => ?_)
  refine lv_aload_n hx hb dX6_nextId_18 rfl (lv_at hl 0 rfl) ?_
  refine wget hF hw flX6_25 dX6_nextId_19 0 rfl rfl ?_
  refine lv_iload_n hx hb dX6_nextId_22 rfl (lv_at hl 1 rfl) ?_
  refine r_iald hF hw dX6_nextId_23 1 rfl (by omega) (by omega) ?_
  refine r_top (n := (id + 1) % 2 ^ 8) (upd_eq) ?_
  exact RQ.iret hF hr hlk hw dX6_nextId_24 ⟨by decide, by decide⟩ (()) (rfl) ⟨rfl, trivial⟩

set_option maxHeartbeats 4000000 in
set_option maxRecDepth 100000 in
theorem c_X6_at (l : Launch) (g : GE) (md : Nat → Nat) (th : Int32) (pn : Nat) (ac : Nat) (an : Nat) (ci : Nat) (ck : Nat) (fGa : Nat → Int32) (e : Nat) (G : List Nat) (k : Nat) (he : e < 2) (hG : GaM fGa e G) (hk : k < G.length) : Ct l yX6_at cX6_at 3 (some .int) { frames := 0, cells := 0, slots := 0, locals := 0 } g [.ref (md 0), .int (nI e), .int (nI k)] [(md 0, .inr (5, [.ref (md 1), .int th, .ref (md 2), .ref (md 3), .ref (md 4), .ref (md 5), .ref (md 6), .ref (md 7), .ref (md 8), .ref (md 9), .ref (md 10), .ref (md 11), .ref (md 12), .ref (md 13), .ref (md 14), .ref (md 15), .ref (md 16), .ref (md 17), .ref (md 18), .ref (md 19), .ref (md 20), .ref (md 21), .ref (md 22), .int (nI pn), .ref (md 23), .int (nI ac), .int (nI an), .ref (md 24), .int (nI ci), .int (nI ck)])), (md 18, .inl (g.2.1 0, 80, .inl fGa))] (fun (v : Option Value) (u : Unit) => v = some (.int (nI (G.getD k 0))) ∧ True) (fun u : Unit => [(md 0, .inr (5, [.ref (md 1), .int th, .ref (md 2), .ref (md 3), .ref (md 4), .ref (md 5), .ref (md 6), .ref (md 7), .ref (md 8), .ref (md 9), .ref (md 10), .ref (md 11), .ref (md 12), .ref (md 13), .ref (md 14), .ref (md 15), .ref (md 16), .ref (md 17), .ref (md 18), .ref (md 19), .ref (md 20), .ref (md 21), .ref (md 22), .int (nI pn), .ref (md 23), .int (nI ac), .int (nI an), .ref (md 24), .int (nI ci), .int (nI ck)])), (md 18, .inl (g.2.1 0, 80, .inl fGa))]) := by
  refine Ct.of (own := RX6) rfl rfl (Nat.le_of_ble_eq_true rfl) ?_
  intro P0 e0 s m below meth c ls hF hr hlk hnm hw hl
  have hx := hF.1
  have hb := hF.2.1
  have hl : lv_has ls 3 [(0, .ref (md 0)), (1, .int (nI e)), (2, .int (nI k))] := hl
  have hG1 := hG.1
  refine lv_aload_n hx hb dX6_at_0 rfl (lv_at hl 0 rfl) ?_
  refine wget hF hw flX6_62 dX6_at_1 0 rfl rfl ?_
  refine lv_bipush (v := nI 40) hx hb dX6_at_4 (by decide) ?_
  refine lv_iload_n hx hb dX6_at_6 rfl (lv_at hl 1 rfl) ?_
  refine r_imul hx hb dX6_at_7 ?_
  refine lv_iload_n hx hb dX6_at_8 rfl (lv_at hl 2 rfl) ?_
  refine r_iadd hx hb dX6_at_9 ?_
  refine r_iald hF hw dX6_at_10 1 rfl (by omega) (by omega) ?_
  refine r_top (n := G.getD k 0) (hG.2 k hk) ?_
  exact RQ.iret hF hr hlk hw dX6_at_11 ⟨by decide, by decide⟩ (()) (rfl) ⟨rfl, trivial⟩

set_option maxHeartbeats 4000000 in
set_option maxRecDepth 100000 in
theorem c_X6_intAt (l : Launch) (g : GE) (md : Nat → Nat) (th : Int32) (pn : Nat) (ac : Nat) (an : Nat) (ci : Nat) (ck : Nat) (fGa : Nat → Int32) (e : Nat) (G : List Nat) (k : Nat) (he : e < 2) (hG : GaM fGa e G) (hk : k + 3 < G.length) : Ct l yX6_intAt cX6_intAt 3 (some .int) { frames := 1, cells := 0, slots := 0, locals := 22 } g [.ref (md 0), .int (nI e), .int (nI k)] [(md 0, .inr (5, [.ref (md 1), .int th, .ref (md 2), .ref (md 3), .ref (md 4), .ref (md 5), .ref (md 6), .ref (md 7), .ref (md 8), .ref (md 9), .ref (md 10), .ref (md 11), .ref (md 12), .ref (md 13), .ref (md 14), .ref (md 15), .ref (md 16), .ref (md 17), .ref (md 18), .ref (md 19), .ref (md 20), .ref (md 21), .ref (md 22), .int (nI pn), .ref (md 23), .int (nI ac), .int (nI an), .ref (md 24), .int (nI ci), .int (nI ck)])), (md 18, .inl (g.2.1 0, 80, .inl fGa))] (fun (v : Option Value) (u : Unit) => v = some (.int (n4 G k)) ∧ True) (fun u : Unit => [(md 0, .inr (5, [.ref (md 1), .int th, .ref (md 2), .ref (md 3), .ref (md 4), .ref (md 5), .ref (md 6), .ref (md 7), .ref (md 8), .ref (md 9), .ref (md 10), .ref (md 11), .ref (md 12), .ref (md 13), .ref (md 14), .ref (md 15), .ref (md 16), .ref (md 17), .ref (md 18), .ref (md 19), .ref (md 20), .ref (md 21), .ref (md 22), .int (nI pn), .ref (md 23), .int (nI ac), .int (nI an), .ref (md 24), .int (nI ci), .int (nI ck)])), (md 18, .inl (g.2.1 0, 80, .inl fGa))]) := by
  refine Ct.of (own := RX6) rfl rfl (Nat.le_of_ble_eq_true rfl) ?_
  intro P0 e0 s m below meth c ls hF hr hlk hnm hw hl
  have hx := hF.1
  have hb := hF.2.1
  have hl : lv_has ls 3 [(0, .ref (md 0)), (1, .int (nI e)), (2, .int (nI k))] := hl
  refine lv_aload_n hx hb dX6_intAt_0 rfl (lv_at hl 0 rfl) ?_
  refine lv_iload_n hx hb dX6_intAt_1 rfl (lv_at hl 1 rfl) ?_
  refine lv_iload_n hx hb dX6_intAt_2 rfl (lv_at hl 2 rfl) ?_
  refine Ct.callV (wr := []) hF hw (c_X6_at l g md th pn ac an ci ck fGa e G k (by assumption) (by assumption) (by omega)) mwX6_149 [0, 1] [] rfl rfl rfl rfl (by decide) 0 rfl rfl ⟨by decide, by decide⟩ ⟨by decide, by decide⟩ rfl hl.1 (Nat.le_of_ble_eq_true rfl) rfl dX6_intAt_3 (fun v u H locs hp hw => ?_)
  obtain ⟨rfl, hp_3⟩ := hp
  have hw := Wd.sub (ws' := [(md 0, .inr (5, [.ref (md 1), .int th, .ref (md 2), .ref (md 3), .ref (md 4), .ref (md 5), .ref (md 6), .ref (md 7), .ref (md 8), .ref (md 9), .ref (md 10), .ref (md 11), .ref (md 12), .ref (md 13), .ref (md 14), .ref (md 15), .ref (md 16), .ref (md 17), .ref (md 18), .ref (md 19), .ref (md 20), .ref (md 21), .ref (md 22), .int (nI pn), .ref (md 23), .int (nI ac), .int (nI an), .ref (md 24), .int (nI ci), .int (nI ck)])), (md 18, .inl (g.2.1 0, 80, .inl fGa))]) hw [0, 1] rfl rfl
  refine W.eq (g2 := F0 m 6 ls [.int (nI (G.getD k 0))]) rfl ?_
  refine lv_bipush (v := nI 24) hx hb dX6_intAt_6 (by decide) ?_
  refine lv_ishl hx hb dX6_intAt_8 ?_
  refine lv_aload_n hx hb dX6_intAt_9 rfl (lv_at hl 0 rfl) ?_
  refine lv_iload_n hx hb dX6_intAt_10 rfl (lv_at hl 1 rfl) ?_
  refine lv_iload_n hx hb dX6_intAt_11 rfl (lv_at hl 2 rfl) ?_
  refine lv_iconst (v := nI 1) hx hb dX6_intAt_12 (by decide) ?_
  refine r_iadd hx hb dX6_intAt_13 ?_
  refine Ct.callV (wr := []) hF hw (c_X6_at l g md th pn ac an ci ck fGa e G (k + 1) (by assumption) (by assumption) (by omega)) mwX6_149 [0, 1] [] rfl rfl rfl rfl (by decide) 0 rfl rfl ⟨by decide, by decide⟩ ⟨by decide, by decide⟩ rfl hl.1 (Nat.le_of_ble_eq_true rfl) rfl dX6_intAt_14 (fun v u H locs hp hw => ?_)
  obtain ⟨rfl, hp_14⟩ := hp
  have hw := Wd.sub (ws' := [(md 0, .inr (5, [.ref (md 1), .int th, .ref (md 2), .ref (md 3), .ref (md 4), .ref (md 5), .ref (md 6), .ref (md 7), .ref (md 8), .ref (md 9), .ref (md 10), .ref (md 11), .ref (md 12), .ref (md 13), .ref (md 14), .ref (md 15), .ref (md 16), .ref (md 17), .ref (md 18), .ref (md 19), .ref (md 20), .ref (md 21), .ref (md 22), .int (nI pn), .ref (md 23), .int (nI ac), .int (nI an), .ref (md 24), .int (nI ci), .int (nI ck)])), (md 18, .inl (g.2.1 0, 80, .inl fGa))]) hw [0, 1] rfl rfl
  refine W.eq (g2 := F0 m 17 ls [.int (nI (G.getD (k + 1) 0)), .int ((nI (G.getD k 0)) <<< ((nI 24) &&& 31))]) rfl ?_
  refine lv_bipush (v := nI 16) hx hb dX6_intAt_17 (by decide) ?_
  refine lv_ishl hx hb dX6_intAt_19 ?_
  refine lv_ior hx hb dX6_intAt_20 ?_
  refine lv_aload_n hx hb dX6_intAt_21 rfl (lv_at hl 0 rfl) ?_
  refine lv_iload_n hx hb dX6_intAt_22 rfl (lv_at hl 1 rfl) ?_
  refine lv_iload_n hx hb dX6_intAt_23 rfl (lv_at hl 2 rfl) ?_
  refine lv_iconst (v := nI 2) hx hb dX6_intAt_24 (by decide) ?_
  refine r_iadd hx hb dX6_intAt_25 ?_
  refine Ct.callV (wr := []) hF hw (c_X6_at l g md th pn ac an ci ck fGa e G (k + 2) (by assumption) (by assumption) (by omega)) mwX6_149 [0, 1] [] rfl rfl rfl rfl (by decide) 0 rfl rfl ⟨by decide, by decide⟩ ⟨by decide, by decide⟩ rfl hl.1 (Nat.le_of_ble_eq_true rfl) rfl dX6_intAt_26 (fun v u H locs hp hw => ?_)
  obtain ⟨rfl, hp_26⟩ := hp
  have hw := Wd.sub (ws' := [(md 0, .inr (5, [.ref (md 1), .int th, .ref (md 2), .ref (md 3), .ref (md 4), .ref (md 5), .ref (md 6), .ref (md 7), .ref (md 8), .ref (md 9), .ref (md 10), .ref (md 11), .ref (md 12), .ref (md 13), .ref (md 14), .ref (md 15), .ref (md 16), .ref (md 17), .ref (md 18), .ref (md 19), .ref (md 20), .ref (md 21), .ref (md 22), .int (nI pn), .ref (md 23), .int (nI ac), .int (nI an), .ref (md 24), .int (nI ci), .int (nI ck)])), (md 18, .inl (g.2.1 0, 80, .inl fGa))]) hw [0, 1] rfl rfl
  refine W.eq (g2 := F0 m 29 ls [.int (nI (G.getD (k + 2) 0)), .int (((nI (G.getD k 0)) <<< ((nI 24) &&& 31)) ||| ((nI (G.getD (k + 1) 0)) <<< ((nI 16) &&& 31)))]) rfl ?_
  refine lv_bipush (v := nI 8) hx hb dX6_intAt_29 (by decide) ?_
  refine lv_ishl hx hb dX6_intAt_31 ?_
  refine lv_ior hx hb dX6_intAt_32 ?_
  refine lv_aload_n hx hb dX6_intAt_33 rfl (lv_at hl 0 rfl) ?_
  refine lv_iload_n hx hb dX6_intAt_34 rfl (lv_at hl 1 rfl) ?_
  refine lv_iload_n hx hb dX6_intAt_35 rfl (lv_at hl 2 rfl) ?_
  refine lv_iconst (v := nI 3) hx hb dX6_intAt_36 (by decide) ?_
  refine r_iadd hx hb dX6_intAt_37 ?_
  refine Ct.callV (wr := []) hF hw (c_X6_at l g md th pn ac an ci ck fGa e G (k + 3) (by assumption) (by assumption) (by omega)) mwX6_149 [0, 1] [] rfl rfl rfl rfl (by decide) 0 rfl rfl ⟨by decide, by decide⟩ ⟨by decide, by decide⟩ rfl hl.1 (Nat.le_of_ble_eq_true rfl) rfl dX6_intAt_38 (fun v u H locs hp hw => ?_)
  obtain ⟨rfl, hp_38⟩ := hp
  have hw := Wd.sub (ws' := [(md 0, .inr (5, [.ref (md 1), .int th, .ref (md 2), .ref (md 3), .ref (md 4), .ref (md 5), .ref (md 6), .ref (md 7), .ref (md 8), .ref (md 9), .ref (md 10), .ref (md 11), .ref (md 12), .ref (md 13), .ref (md 14), .ref (md 15), .ref (md 16), .ref (md 17), .ref (md 18), .ref (md 19), .ref (md 20), .ref (md 21), .ref (md 22), .int (nI pn), .ref (md 23), .int (nI ac), .int (nI an), .ref (md 24), .int (nI ci), .int (nI ck)])), (md 18, .inl (g.2.1 0, 80, .inl fGa))]) hw [0, 1] rfl rfl
  refine W.eq (g2 := F0 m 41 ls [.int (nI (G.getD (k + 3) 0)), .int ((((nI (G.getD k 0)) <<< ((nI 24) &&& 31)) ||| ((nI (G.getD (k + 1) 0)) <<< ((nI 16) &&& 31))) ||| ((nI (G.getD (k + 2) 0)) <<< ((nI 8) &&& 31)))]) rfl ?_
  refine lv_ior hx hb dX6_intAt_41 ?_
  exact RQ.iret hF hr hlk hw dX6_intAt_42 ⟨by decide, by decide⟩ (()) (rfl) ⟨rfl, trivial⟩

set_option maxHeartbeats 4000000 in
set_option maxRecDepth 100000 in
theorem c_X6_sizeOf (l : Launch) (g : GE) (b : Nat) (hb2 : b < 2147483648) : Ct l yX6_sizeOf cX6_sizeOf 1 (some .int) { frames := 0, cells := 0, slots := 0, locals := 0 } g [.int (nI b)] [] (fun (v : Option Value) (u : Unit) => v = some (.int (nI (optLen b - 1))) ∧ True) (fun u : Unit => []) := by
  refine Ct.of (own := RX6) rfl rfl (Nat.le_of_ble_eq_true rfl) ?_
  intro P0 e0 s m below meth c ls hF hr hlk hnm hw hl
  have hx := hF.1
  have hb := hF.2.1
  have hl : lv_has ls 1 [(0, .int (nI b))] := hl
  refine lv_iload_n hx hb dX6_sizeOf_0 rfl (lv_at hl 0 rfl) ?_
  refine lv_iconst (v := nI 1) hx hb dX6_sizeOf_1 (by decide) ?_
  refine r_ne (tgt := 9) hx hb dX6_sizeOf_2 (by decide) (by omega) (by omega) (fun c_2 => ?_) (fun c_2 => ?_)
  · refine lv_iload_n hx hb dX6_sizeOf_9 rfl (lv_at hl 0 rfl) ?_
    refine lv_iconst (v := nI 5) hx hb dX6_sizeOf_10 (by decide) ?_
    refine r_ne (tgt := 18) hx hb dX6_sizeOf_11 (by decide) (by omega) (by omega) (fun c_11 => ?_) (fun c_11 => ?_)
    · refine lv_iconst (v := nI 1) hx hb dX6_sizeOf_18 (by decide) ?_
      exact RQ.iret hF hr hlk hw dX6_sizeOf_19 ⟨by decide, by decide⟩ (()) (rfl) ⟨by unfold optLen; first | rw [if_pos (by omega)] | rw [if_neg (by omega), if_pos (by omega)] | rw [if_neg (by omega), if_neg (by omega)], trivial⟩
    · refine lv_iconst (v := nI 4) hx hb dX6_sizeOf_14 (by decide) ?_
      refine lv_goto (tgt := 19) hx hb dX6_sizeOf_15 (by decide) ?_
      exact RQ.iret hF hr hlk hw dX6_sizeOf_19 ⟨by decide, by decide⟩ (()) (rfl) ⟨by unfold optLen; first | rw [if_pos (by omega)] | rw [if_neg (by omega), if_pos (by omega)] | rw [if_neg (by omega), if_neg (by omega)], trivial⟩
  · refine lv_iconst (v := nI 2) hx hb dX6_sizeOf_5 (by decide) ?_
    refine lv_goto (tgt := 19) hx hb dX6_sizeOf_6 (by decide) ?_
    exact RQ.iret hF hr hlk hw dX6_sizeOf_19 ⟨by decide, by decide⟩ (()) (rfl) ⟨by unfold optLen; first | rw [if_pos (by omega)] | rw [if_neg (by omega), if_pos (by omega)] | rw [if_neg (by omega), if_neg (by omega)], trivial⟩

set_option maxHeartbeats 4000000 in
set_option maxRecDepth 100000 in
theorem c_X6_answerWith (l : Launch) (g : GE) (md : Nat → Nat) (th : Int32) (pn : Nat) (ac : Nat) (ci : Nat) (ck : Nat) (fAn : Nat → Int32) (Q : List Nat) (x : Nat) (hQ : Hd fAn Q) (hl40 : Q.length < 40) : Ct l yX6_answerWith cX6_answerWith 2 none { frames := 0, cells := 0, slots := 0, locals := 0 } g [.ref (md 0), .int (nI x)] [(md 0, .inr (5, [.ref (md 1), .int th, .ref (md 2), .ref (md 3), .ref (md 4), .ref (md 5), .ref (md 6), .ref (md 7), .ref (md 8), .ref (md 9), .ref (md 10), .ref (md 11), .ref (md 12), .ref (md 13), .ref (md 14), .ref (md 15), .ref (md 16), .ref (md 17), .ref (md 18), .ref (md 19), .ref (md 20), .ref (md 21), .ref (md 22), .int (nI pn), .ref (md 23), .int (nI ac), .int (nI Q.length), .ref (md 24), .int (nI ci), .int (nI ck)])), (md 24, .inl (g.2.1 0, 40, .inl fAn))] (fun (v : Option Value) (u : (Nat → Int32)) => v = none ∧ Hd u (Q ++ [x])) (fun u : (Nat → Int32) => [(md 0, .inr (5, [.ref (md 1), .int th, .ref (md 2), .ref (md 3), .ref (md 4), .ref (md 5), .ref (md 6), .ref (md 7), .ref (md 8), .ref (md 9), .ref (md 10), .ref (md 11), .ref (md 12), .ref (md 13), .ref (md 14), .ref (md 15), .ref (md 16), .ref (md 17), .ref (md 18), .ref (md 19), .ref (md 20), .ref (md 21), .ref (md 22), .int (nI pn), .ref (md 23), .int (nI ac), .int (nI (Q ++ [x]).length), .ref (md 24), .int (nI ci), .int (nI ck)])), (md 24, .inl (g.2.1 0, 40, .inl u))]) := by
  refine Ct.of (own := RX6) rfl rfl (Nat.le_of_ble_eq_true rfl) ?_
  intro P0 e0 s m below meth c ls hF hr hlk hnm hw hl
  have hx := hF.1
  have hb := hF.2.1
  have hl : lv_has ls 2 [(0, .ref (md 0)), (1, .int (nI x))] := hl
  refine lv_aload_n hx hb dX6_answerWith_0 rfl (lv_at hl 0 rfl) ?_
  refine wget hF hw flX6_80 dX6_answerWith_1 0 rfl rfl ?_
  refine lv_aload_n hx hb dX6_answerWith_4 rfl (lv_at hl 0 rfl) ?_
  refine wget hF hw flX6_134 dX6_answerWith_5 0 rfl rfl ?_
  refine lv_iload_n hx hb dX6_answerWith_8 rfl (lv_at hl 1 rfl) ?_
  refine r_iast (ws' := [(md 0, .inr (5, [.ref (md 1), .int th, .ref (md 2), .ref (md 3), .ref (md 4), .ref (md 5), .ref (md 6), .ref (md 7), .ref (md 8), .ref (md 9), .ref (md 10), .ref (md 11), .ref (md 12), .ref (md 13), .ref (md 14), .ref (md 15), .ref (md 16), .ref (md 17), .ref (md 18), .ref (md 19), .ref (md 20), .ref (md 21), .ref (md 22), .int (nI pn), .ref (md 23), .int (nI ac), .int (nI Q.length), .ref (md 24), .int (nI ci), .int (nI ck)])), (md 24, .inl (g.2.1 0, 40, .inl (upd fAn Q.length (nI x))))]) hF hw dX6_answerWith_9 1 rfl (by omega) (by omega) rfl (fun H locs hw => ?_)
  refine lv_aload_n hx hb dX6_answerWith_10 rfl (lv_at hl 0 rfl) ?_
  refine lv_dup hx hb dX6_answerWith_11 rfl ?_
  refine wget hF hw flX6_134 dX6_answerWith_12 0 rfl rfl ?_
  refine lv_iconst (v := nI 1) hx hb dX6_answerWith_15 (by decide) ?_
  refine r_iadd hx hb dX6_answerWith_16 ?_
  refine r_put (ws' := [(md 0, .inr (5, [.ref (md 1), .int th, .ref (md 2), .ref (md 3), .ref (md 4), .ref (md 5), .ref (md 6), .ref (md 7), .ref (md 8), .ref (md 9), .ref (md 10), .ref (md 11), .ref (md 12), .ref (md 13), .ref (md 14), .ref (md 15), .ref (md 16), .ref (md 17), .ref (md 18), .ref (md 19), .ref (md 20), .ref (md 21), .ref (md 22), .int (nI pn), .ref (md 23), .int (nI ac), .int (nI (Q.length + 1)), .ref (md 24), .int (nI ci), .int (nI ck)])), (md 24, .inl (g.2.1 0, 40, .inl (upd fAn Q.length (nI x))))]) hF hw flX6_134 ftX6 dX6_answerWith_17 0 rfl rfl rfl rfl (Nat.le_of_ble_eq_true rfl) rfl (fun H locs hw => ?_)
  exact RQ.vret hF hr hlk hw dX6_answerWith_20 ⟨by decide, by decide⟩ ((upd fAn Q.length (nI x))) (by rw [List.length_append]; rfl) ⟨rfl, hQ.snoc⟩

set_option maxHeartbeats 4000000 in
set_option maxRecDepth 100000 in
theorem c_X6_answerInt (l : Launch) (g : GE) (md : Nat → Nat) (th : Int32) (pn : Nat) (ac : Nat) (ci : Nat) (ck : Nat) (fAn : Nat → Int32) (Q : List Nat) (w : Int32) (hQ : Hd fAn Q) (hl40 : Q.length + 4 ≤ 40) : Ct l yX6_answerInt cX6_answerInt 3 none { frames := 1, cells := 0, slots := 0, locals := 21 } g [.ref (md 0), .int w] [(md 0, .inr (5, [.ref (md 1), .int th, .ref (md 2), .ref (md 3), .ref (md 4), .ref (md 5), .ref (md 6), .ref (md 7), .ref (md 8), .ref (md 9), .ref (md 10), .ref (md 11), .ref (md 12), .ref (md 13), .ref (md 14), .ref (md 15), .ref (md 16), .ref (md 17), .ref (md 18), .ref (md 19), .ref (md 20), .ref (md 21), .ref (md 22), .int (nI pn), .ref (md 23), .int (nI ac), .int (nI Q.length), .ref (md 24), .int (nI ci), .int (nI ck)])), (md 24, .inl (g.2.1 0, 40, .inl fAn))] (fun (v : Option Value) (u : (Nat → Int32)) => v = none ∧ Hd u (Q ++ nbs w)) (fun u : (Nat → Int32) => [(md 0, .inr (5, [.ref (md 1), .int th, .ref (md 2), .ref (md 3), .ref (md 4), .ref (md 5), .ref (md 6), .ref (md 7), .ref (md 8), .ref (md 9), .ref (md 10), .ref (md 11), .ref (md 12), .ref (md 13), .ref (md 14), .ref (md 15), .ref (md 16), .ref (md 17), .ref (md 18), .ref (md 19), .ref (md 20), .ref (md 21), .ref (md 22), .int (nI pn), .ref (md 23), .int (nI ac), .int (nI (Q ++ nbs w).length), .ref (md 24), .int (nI ci), .int (nI ck)])), (md 24, .inl (g.2.1 0, 40, .inl u))]) := by
  refine Ct.of (own := RX6) rfl rfl (Nat.le_of_ble_eq_true rfl) ?_
  intro P0 e0 s m below meth c ls hF hr hlk hnm hw hl
  have hx := hF.1
  have hb := hF.2.1
  have hl : lv_has ls 3 [(0, .ref (md 0)), (1, .int w)] := hl
  refine lv_bipush (v := nI 24) hx hb dX6_answerInt_0 (by decide) ?_
  refine lv_istore_n (lv' := [(2, .int (nI 24)), (0, .ref (md 0)), (1, .int w)]) hx hb dX6_answerInt_2 rfl hl (by decide) rfl (fun ls hl => ?_)
  refine lv_iload_n hx hb dX6_answerInt_3 rfl (lv_at hl 0 rfl) ?_
  refine r_lt0 (tgt := 24) hx hb dX6_answerInt_4 (by decide) (by omega) (fun c_4 => ?_) (fun c_4 => ?_)
  · exact absurd c_4 id
  · refine lv_aload_n hx hb dX6_answerInt_7 rfl (lv_at hl 1 rfl) ?_
    refine lv_iload_n hx hb dX6_answerInt_8 rfl (lv_at hl 2 rfl) ?_
    refine lv_iload_n hx hb dX6_answerInt_9 rfl (lv_at hl 0 rfl) ?_
    refine lv_ishr hx hb dX6_answerInt_10 ?_
    refine lv_sipush (v := nI 255) hx hb dX6_answerInt_11 (by decide) ?_
    refine r_iandX hx hb dX6_answerInt_14 8 (by decide) ?_
    refine Ct.callV (wr := []) hF hw (c_X6_answerWith l g md th pn ac ci ck fAn Q (lowb (w >>> (nI 24 &&& 31))) (hQ) (by (try simp only [List.length_append, List.length_cons, List.length_nil]); omega)) mwX6_162 [0, 1] [] rfl rfl rfl rfl (by decide) 0 rfl rfl ⟨by decide, by decide⟩ ⟨by decide, by decide⟩ rfl hl.1 (Nat.le_of_ble_eq_true rfl) rfl dX6_answerInt_15 (fun v u H locs hp hw => ?_)
    obtain ⟨f2_24, rfl⟩ : ∃ z, z = u := ⟨_, rfl⟩
    obtain ⟨rfl, hp_24⟩ := hp
    try dsimp only at hp_24
    have hw := Wd.sub (ws' := [(md 0, .inr (5, [.ref (md 1), .int th, .ref (md 2), .ref (md 3), .ref (md 4), .ref (md 5), .ref (md 6), .ref (md 7), .ref (md 8), .ref (md 9), .ref (md 10), .ref (md 11), .ref (md 12), .ref (md 13), .ref (md 14), .ref (md 15), .ref (md 16), .ref (md 17), .ref (md 18), .ref (md 19), .ref (md 20), .ref (md 21), .ref (md 22), .int (nI pn), .ref (md 23), .int (nI ac), .int (nI (Q ++ [(lowb (w >>> (nI 24 &&& 31)))]).length), .ref (md 24), .int (nI ci), .int (nI ck)])), (md 24, .inl (g.2.1 0, 40, .inl f2_24))]) hw [0, 1] rfl rfl
    refine W.eq (g2 := F0 m 18 ls []) rfl ?_
    refine lv_iinc (v := nI 16) (lv' := [(2, .int (nI 16)), (0, .ref (md 0)), (1, .int w)]) hx hb dX6_answerInt_18 hl (k := 0) rfl (by decide) (by decide) rfl (fun ls hl => ?_)
    refine lv_goto (tgt := 3) hx hb dX6_answerInt_21 (by decide) ?_
    refine lv_iload_n hx hb dX6_answerInt_3 rfl (lv_at hl 0 rfl) ?_
    refine r_lt0 (tgt := 24) hx hb dX6_answerInt_4 (by decide) (by omega) (fun c_4 => ?_) (fun c_4 => ?_)
    · exact absurd c_4 id
    · refine lv_aload_n hx hb dX6_answerInt_7 rfl (lv_at hl 1 rfl) ?_
      refine lv_iload_n hx hb dX6_answerInt_8 rfl (lv_at hl 2 rfl) ?_
      refine lv_iload_n hx hb dX6_answerInt_9 rfl (lv_at hl 0 rfl) ?_
      refine lv_ishr hx hb dX6_answerInt_10 ?_
      refine lv_sipush (v := nI 255) hx hb dX6_answerInt_11 (by decide) ?_
      refine r_iandX hx hb dX6_answerInt_14 8 (by decide) ?_
      refine Ct.callV (wr := []) hF hw (c_X6_answerWith l g md th pn ac ci ck f2_24 (Q ++ [(lowb (w >>> (nI 24 &&& 31)))]) (lowb (w >>> (nI 16 &&& 31))) (hp_24) (by (try simp only [List.length_append, List.length_cons, List.length_nil]); omega)) mwX6_162 [0, 1] [] rfl rfl rfl rfl (by decide) 0 rfl rfl ⟨by decide, by decide⟩ ⟨by decide, by decide⟩ rfl hl.1 (Nat.le_of_ble_eq_true rfl) rfl dX6_answerInt_15 (fun v u H locs hp hw => ?_)
      obtain ⟨f2_16, rfl⟩ : ∃ z, z = u := ⟨_, rfl⟩
      obtain ⟨rfl, hp_16⟩ := hp
      try dsimp only at hp_16
      have hw := Wd.sub (ws' := [(md 0, .inr (5, [.ref (md 1), .int th, .ref (md 2), .ref (md 3), .ref (md 4), .ref (md 5), .ref (md 6), .ref (md 7), .ref (md 8), .ref (md 9), .ref (md 10), .ref (md 11), .ref (md 12), .ref (md 13), .ref (md 14), .ref (md 15), .ref (md 16), .ref (md 17), .ref (md 18), .ref (md 19), .ref (md 20), .ref (md 21), .ref (md 22), .int (nI pn), .ref (md 23), .int (nI ac), .int (nI ((Q ++ [(lowb (w >>> (nI 24 &&& 31)))]) ++ [(lowb (w >>> (nI 16 &&& 31)))]).length), .ref (md 24), .int (nI ci), .int (nI ck)])), (md 24, .inl (g.2.1 0, 40, .inl f2_16))]) hw [0, 1] rfl rfl
      refine W.eq (g2 := F0 m 18 ls []) rfl ?_
      refine lv_iinc (v := nI 8) (lv' := [(2, .int (nI 8)), (0, .ref (md 0)), (1, .int w)]) hx hb dX6_answerInt_18 hl (k := 0) rfl (by decide) (by decide) rfl (fun ls hl => ?_)
      refine lv_goto (tgt := 3) hx hb dX6_answerInt_21 (by decide) ?_
      refine lv_iload_n hx hb dX6_answerInt_3 rfl (lv_at hl 0 rfl) ?_
      refine r_lt0 (tgt := 24) hx hb dX6_answerInt_4 (by decide) (by omega) (fun c_4 => ?_) (fun c_4 => ?_)
      · exact absurd c_4 id
      · refine lv_aload_n hx hb dX6_answerInt_7 rfl (lv_at hl 1 rfl) ?_
        refine lv_iload_n hx hb dX6_answerInt_8 rfl (lv_at hl 2 rfl) ?_
        refine lv_iload_n hx hb dX6_answerInt_9 rfl (lv_at hl 0 rfl) ?_
        refine lv_ishr hx hb dX6_answerInt_10 ?_
        refine lv_sipush (v := nI 255) hx hb dX6_answerInt_11 (by decide) ?_
        refine r_iandX hx hb dX6_answerInt_14 8 (by decide) ?_
        refine Ct.callV (wr := []) hF hw (c_X6_answerWith l g md th pn ac ci ck f2_16 ((Q ++ [(lowb (w >>> (nI 24 &&& 31)))]) ++ [(lowb (w >>> (nI 16 &&& 31)))]) (lowb (w >>> (nI 8 &&& 31))) (hp_16) (by (try simp only [List.length_append, List.length_cons, List.length_nil]); omega)) mwX6_162 [0, 1] [] rfl rfl rfl rfl (by decide) 0 rfl rfl ⟨by decide, by decide⟩ ⟨by decide, by decide⟩ rfl hl.1 (Nat.le_of_ble_eq_true rfl) rfl dX6_answerInt_15 (fun v u H locs hp hw => ?_)
        obtain ⟨f2_8, rfl⟩ : ∃ z, z = u := ⟨_, rfl⟩
        obtain ⟨rfl, hp_8⟩ := hp
        try dsimp only at hp_8
        have hw := Wd.sub (ws' := [(md 0, .inr (5, [.ref (md 1), .int th, .ref (md 2), .ref (md 3), .ref (md 4), .ref (md 5), .ref (md 6), .ref (md 7), .ref (md 8), .ref (md 9), .ref (md 10), .ref (md 11), .ref (md 12), .ref (md 13), .ref (md 14), .ref (md 15), .ref (md 16), .ref (md 17), .ref (md 18), .ref (md 19), .ref (md 20), .ref (md 21), .ref (md 22), .int (nI pn), .ref (md 23), .int (nI ac), .int (nI (((Q ++ [(lowb (w >>> (nI 24 &&& 31)))]) ++ [(lowb (w >>> (nI 16 &&& 31)))]) ++ [(lowb (w >>> (nI 8 &&& 31)))]).length), .ref (md 24), .int (nI ci), .int (nI ck)])), (md 24, .inl (g.2.1 0, 40, .inl f2_8))]) hw [0, 1] rfl rfl
        refine W.eq (g2 := F0 m 18 ls []) rfl ?_
        refine lv_iinc (v := nI 0) (lv' := [(2, .int (nI 0)), (0, .ref (md 0)), (1, .int w)]) hx hb dX6_answerInt_18 hl (k := 0) rfl (by decide) (by decide) rfl (fun ls hl => ?_)
        refine lv_goto (tgt := 3) hx hb dX6_answerInt_21 (by decide) ?_
        refine lv_iload_n hx hb dX6_answerInt_3 rfl (lv_at hl 0 rfl) ?_
        refine r_lt0 (tgt := 24) hx hb dX6_answerInt_4 (by decide) (by omega) (fun c_4 => ?_) (fun c_4 => ?_)
        · exact absurd c_4 id
        · refine lv_aload_n hx hb dX6_answerInt_7 rfl (lv_at hl 1 rfl) ?_
          refine lv_iload_n hx hb dX6_answerInt_8 rfl (lv_at hl 2 rfl) ?_
          refine lv_iload_n hx hb dX6_answerInt_9 rfl (lv_at hl 0 rfl) ?_
          refine lv_ishr hx hb dX6_answerInt_10 ?_
          refine lv_sipush (v := nI 255) hx hb dX6_answerInt_11 (by decide) ?_
          refine r_iandX hx hb dX6_answerInt_14 8 (by decide) ?_
          refine Ct.callV (wr := []) hF hw (c_X6_answerWith l g md th pn ac ci ck f2_8 (((Q ++ [(lowb (w >>> (nI 24 &&& 31)))]) ++ [(lowb (w >>> (nI 16 &&& 31)))]) ++ [(lowb (w >>> (nI 8 &&& 31)))]) (lowb (w >>> (nI 0 &&& 31))) (hp_8) (by (try simp only [List.length_append, List.length_cons, List.length_nil]); omega)) mwX6_162 [0, 1] [] rfl rfl rfl rfl (by decide) 0 rfl rfl ⟨by decide, by decide⟩ ⟨by decide, by decide⟩ rfl hl.1 (Nat.le_of_ble_eq_true rfl) rfl dX6_answerInt_15 (fun v u H locs hp hw => ?_)
          obtain ⟨f2_0, rfl⟩ : ∃ z, z = u := ⟨_, rfl⟩
          obtain ⟨rfl, hp_0⟩ := hp
          try dsimp only at hp_0
          have hw := Wd.sub (ws' := [(md 0, .inr (5, [.ref (md 1), .int th, .ref (md 2), .ref (md 3), .ref (md 4), .ref (md 5), .ref (md 6), .ref (md 7), .ref (md 8), .ref (md 9), .ref (md 10), .ref (md 11), .ref (md 12), .ref (md 13), .ref (md 14), .ref (md 15), .ref (md 16), .ref (md 17), .ref (md 18), .ref (md 19), .ref (md 20), .ref (md 21), .ref (md 22), .int (nI pn), .ref (md 23), .int (nI ac), .int (nI ((((Q ++ [(lowb (w >>> (nI 24 &&& 31)))]) ++ [(lowb (w >>> (nI 16 &&& 31)))]) ++ [(lowb (w >>> (nI 8 &&& 31)))]) ++ [(lowb (w >>> (nI 0 &&& 31)))]).length), .ref (md 24), .int (nI ci), .int (nI ck)])), (md 24, .inl (g.2.1 0, 40, .inl f2_0))]) hw [0, 1] rfl rfl
          refine W.eq (g2 := F0 m 18 ls []) rfl ?_
          refine lv_iinc (v := -8) (lv' := [(2, .int (-8)), (0, .ref (md 0)), (1, .int w)]) hx hb dX6_answerInt_18 hl (k := 0) rfl (by decide) (by decide) rfl (fun ls hl => ?_)
          refine lv_goto (tgt := 3) hx hb dX6_answerInt_21 (by decide) ?_
          refine lv_iload_n hx hb dX6_answerInt_3 rfl (lv_at hl 0 rfl) ?_
          refine lv_if_lt (tgt := 24) hx hb dX6_answerInt_4 (by decide) (fun c_4 => ?_) (fun c_4 => ?_)
          · have e9 : Q ++ [lowb (w >>> (nI 24 &&& 31))] ++ [lowb (w >>> (nI 16 &&& 31))] ++ [lowb (w >>> (nI 8 &&& 31))] ++ [lowb (w >>> (nI 0 &&& 31))] = Q ++ nbs w := by rw [show w >>> (nI 0 &&& 31) = w from sb_shr0 w]; simp [nbs]
            rw [e9] at hw hp_0
            exact RQ.vret hF hr hlk hw dX6_answerInt_24 ⟨by decide, by decide⟩ ((f2_0)) (rfl) ⟨rfl, hp_0⟩
          · exact absurd (by decide) c_4

set_option maxHeartbeats 4000000 in
set_option maxRecDepth 100000 in
theorem c_X6_take (l : Launch) (g : GE) (md : Nat → Nat) (th : Int32) (pn : Nat) (ac : Nat) (an : Nat) (ci : Nat) (ck : Nat) (fBy : Nat → Int32) (fOl : Nat → Int32) (e : Nat) (B : List Nat) (he : e < 2) (hL : LnM fBy fOl e B) (hB0 : 0 < B.length) : Ct l yX6_take cX6_take 4 (some .int) { frames := 0, cells := 0, slots := 0, locals := 0 } g [.ref (md 0), .int (nI e)] [(md 0, .inr (5, [.ref (md 1), .int th, .ref (md 2), .ref (md 3), .ref (md 4), .ref (md 5), .ref (md 6), .ref (md 7), .ref (md 8), .ref (md 9), .ref (md 10), .ref (md 11), .ref (md 12), .ref (md 13), .ref (md 14), .ref (md 15), .ref (md 16), .ref (md 17), .ref (md 18), .ref (md 19), .ref (md 20), .ref (md 21), .ref (md 22), .int (nI pn), .ref (md 23), .int (nI ac), .int (nI an), .ref (md 24), .int (nI ci), .int (nI ck)])), (md 15, .inl (g.2.1 0, 600, .inl fBy)), (md 14, .inl (g.2.1 0, 2, .inl fOl))] (fun (v : Option Value) (u : (Nat → Int32) × (Nat → Int32)) => v = some (.int (nI (B.getD 0 0))) ∧ LnM u.1 u.2 e (B.drop 1) ∧ LnO fBy fOl u.1 u.2 e) (fun u : (Nat → Int32) × (Nat → Int32) => [(md 0, .inr (5, [.ref (md 1), .int th, .ref (md 2), .ref (md 3), .ref (md 4), .ref (md 5), .ref (md 6), .ref (md 7), .ref (md 8), .ref (md 9), .ref (md 10), .ref (md 11), .ref (md 12), .ref (md 13), .ref (md 14), .ref (md 15), .ref (md 16), .ref (md 17), .ref (md 18), .ref (md 19), .ref (md 20), .ref (md 21), .ref (md 22), .int (nI pn), .ref (md 23), .int (nI ac), .int (nI an), .ref (md 24), .int (nI ci), .int (nI ck)])), (md 15, .inl (g.2.1 0, 600, .inl u.1)), (md 14, .inl (g.2.1 0, 2, .inl u.2))]) := by
  refine Ct.of (own := RX6) rfl rfl (Nat.le_of_ble_eq_true rfl) ?_
  intro P0 e0 s m below meth c ls hF hr hlk hnm hw hl
  have hx := hF.1
  have hb := hF.2.1
  have hl : lv_has ls 4 [(0, .ref (md 0)), (1, .int (nI e))] := hl
  have hL2 := hL.2.1
  have h0 := hL.2.2 0 hB0
  refine lv_aload_n hx hb dX6_take_0 rfl (lv_at hl 0 rfl) ?_
  refine wget hF hw flX6_53 dX6_take_1 0 rfl rfl ?_
  refine lv_sipush (v := nI 300) hx hb dX6_take_4 (by decide) ?_
  refine lv_iload_n hx hb dX6_take_7 rfl (lv_at hl 1 rfl) ?_
  refine r_imul hx hb dX6_take_8 ?_
  refine r_iald hF hw dX6_take_9 1 rfl (by omega) (by omega) ?_
  refine r_top (n := B.getD 0 0) (h0) ?_
  refine lv_istore_n (lv' := [(2, .int (nI (B.getD 0 0))), (0, .ref (md 0)), (1, .int (nI e))]) hx hb dX6_take_10 rfl hl (by decide) rfl (fun ls hl => ?_)
  refine lv_aload_n hx hb dX6_take_11 rfl (lv_at hl 1 rfl) ?_
  refine wget hF hw flX6_50 dX6_take_12 0 rfl rfl ?_
  refine lv_iload_n hx hb dX6_take_15 rfl (lv_at hl 2 rfl) ?_
  refine lv_dup2_11 hx hb dX6_take_16 rfl rfl ?_
  refine r_iald hF hw dX6_take_17 2 rfl (by omega) (by omega) ?_
  refine r_top (n := B.length) (hL.1) ?_
  refine lv_iconst (v := nI 1) hx hb dX6_take_18 (by decide) ?_
  refine r_isub hx hb dX6_take_19 (by omega) ?_
  refine r_iast (ws' := [(md 0, .inr (5, [.ref (md 1), .int th, .ref (md 2), .ref (md 3), .ref (md 4), .ref (md 5), .ref (md 6), .ref (md 7), .ref (md 8), .ref (md 9), .ref (md 10), .ref (md 11), .ref (md 12), .ref (md 13), .ref (md 14), .ref (md 15), .ref (md 16), .ref (md 17), .ref (md 18), .ref (md 19), .ref (md 20), .ref (md 21), .ref (md 22), .int (nI pn), .ref (md 23), .int (nI ac), .int (nI an), .ref (md 24), .int (nI ci), .int (nI ck)])), (md 15, .inl (g.2.1 0, 600, .inl fBy)), (md 14, .inl (g.2.1 0, 2, .inl (upd fOl e (nI (B.length - 1)))))]) hF hw dX6_take_20 2 rfl (by omega) (by omega) rfl (fun H locs hw => ?_)
  refine lv_iconst (v := nI 0) hx hb dX6_take_21 (by decide) ?_
  refine lv_istore_n (lv' := [(3, .int (nI 0)), (2, .int (nI (B.getD 0 0))), (0, .ref (md 0)), (1, .int (nI e))]) hx hb dX6_take_22 rfl hl (by decide) rfl (fun ls hl => ?_)
  have lp_23 : ∀ (fuel_23 : Nat) (i : Nat) (f3 : Nat → Int32) (H : Heap) (locs : List Loc) (ls : Array Slot), (B.length - i) < fuel_23 → (i ≤ B.length - 1) → (∀ j, j < i → f3 (300 * e + j) = nI (B.getD (j + 1) 0)) → (∀ j, i ≤ j → j < B.length → f3 (300 * e + j) = nI (B.getD j 0)) → (∀ q, (q < 300 * e ∨ 300 * e + 300 ≤ q) → f3 q = fBy q) → Wd g (va_A [(md 0, .inr (5, [.ref (md 1), .int th, .ref (md 2), .ref (md 3), .ref (md 4), .ref (md 5), .ref (md 6), .ref (md 7), .ref (md 8), .ref (md 9), .ref (md 10), .ref (md 11), .ref (md 12), .ref (md 13), .ref (md 14), .ref (md 15), .ref (md 16), .ref (md 17), .ref (md 18), .ref (md 19), .ref (md 20), .ref (md 21), .ref (md 22), .int (nI pn), .ref (md 23), .int (nI ac), .int (nI an), .ref (md 24), .int (nI ci), .int (nI ck)])), (md 15, .inl (g.2.1 0, 600, .inl fBy)), (md 14, .inl (g.2.1 0, 2, .inl fOl))] s.heap.size) s H locs [(md 0, .inr (5, [.ref (md 1), .int th, .ref (md 2), .ref (md 3), .ref (md 4), .ref (md 5), .ref (md 6), .ref (md 7), .ref (md 8), .ref (md 9), .ref (md 10), .ref (md 11), .ref (md 12), .ref (md 13), .ref (md 14), .ref (md 15), .ref (md 16), .ref (md 17), .ref (md 18), .ref (md 19), .ref (md 20), .ref (md 21), .ref (md 22), .int (nI pn), .ref (md 23), .int (nI ac), .int (nI an), .ref (md 24), .int (nI ci), .int (nI ck)])), (md 15, .inl (g.2.1 0, 600, .inl f3)), (md 14, .inl (g.2.1 0, 2, .inl (upd fOl e (nI (B.length - 1)))))] → lv_has ls 4 [(0, .ref (md 0)), (1, .int (nI e)), (2, .int (nI (B.getD 0 0))), (3, .int (nI i))] → W P0 l e0 { frames := 0, cells := 0, slots := 0, locals := 0 } s m ([.ref (md 0), .int (nI e)] : List Value).toArray below meth c H locs 0 0 (RQ below ([.ref (md 0), .int (nI e)] : List Value).toArray s { frames := 0, cells := 0, slots := 0, locals := 0 } g [(md 0, .inr (5, [.ref (md 1), .int th, .ref (md 2), .ref (md 3), .ref (md 4), .ref (md 5), .ref (md 6), .ref (md 7), .ref (md 8), .ref (md 9), .ref (md 10), .ref (md 11), .ref (md 12), .ref (md 13), .ref (md 14), .ref (md 15), .ref (md 16), .ref (md 17), .ref (md 18), .ref (md 19), .ref (md 20), .ref (md 21), .ref (md 22), .int (nI pn), .ref (md 23), .int (nI ac), .int (nI an), .ref (md 24), .int (nI ci), .int (nI ck)])), (md 15, .inl (g.2.1 0, 600, .inl fBy)), (md 14, .inl (g.2.1 0, 2, .inl fOl))] (fun (v : Option Value) (u : (Nat → Int32) × (Nat → Int32)) => v = some (.int (nI (B.getD 0 0))) ∧ LnM u.1 u.2 e (B.drop 1) ∧ LnO fBy fOl u.1 u.2 e) (fun u : (Nat → Int32) × (Nat → Int32) => [(md 0, .inr (5, [.ref (md 1), .int th, .ref (md 2), .ref (md 3), .ref (md 4), .ref (md 5), .ref (md 6), .ref (md 7), .ref (md 8), .ref (md 9), .ref (md 10), .ref (md 11), .ref (md 12), .ref (md 13), .ref (md 14), .ref (md 15), .ref (md 16), .ref (md 17), .ref (md 18), .ref (md 19), .ref (md 20), .ref (md 21), .ref (md 22), .int (nI pn), .ref (md 23), .int (nI ac), .int (nI an), .ref (md 24), .int (nI ci), .int (nI ck)])), (md 15, .inl (g.2.1 0, 600, .inl u.1)), (md 14, .inl (g.2.1 0, 2, .inl u.2))])) (F0 m 23 ls []) := by
    intro fuel_23
    induction fuel_23 with
    | zero => intro i f3 H locs ls hm_23; exact absurd hm_23 (Nat.not_lt_zero _)
    | succ fuel_23 ih_23 =>
      intro i f3 H locs ls hm_23 hi h1 h2 h3 hw hl
      refine lv_iload_n hx hb dX6_take_23 rfl (lv_at hl 3 rfl) ?_
      refine lv_aload_n hx hb dX6_take_24 rfl (lv_at hl 0 rfl) ?_
      refine wget hF hw flX6_50 dX6_take_25 0 rfl rfl ?_
      refine lv_iload_n hx hb dX6_take_28 rfl (lv_at hl 1 rfl) ?_
      refine r_iald hF hw dX6_take_29 2 rfl (by omega) (by omega) ?_
      refine r_top (n := B.length - 1) (upd_eq) ?_
      refine r_ge (tgt := 65) hx hb dX6_take_30 (by decide) (by omega) (by omega) (fun c_30 => ?_) (fun c_30 => ?_)
      · refine lv_iload_n hx hb dX6_take_65 rfl (lv_at hl 2 rfl) ?_
        exact RQ.iret hF hr hlk hw dX6_take_66 ⟨by decide, by decide⟩ ((f3, upd fOl e (nI (B.length - 1)))) (rfl) ⟨rfl, ⟨hL.took hB0 (fun j hj => h1 j (by omega)), LnO.took he h3⟩⟩
      · refine lv_aload_n hx hb dX6_take_33 rfl (lv_at hl 0 rfl) ?_
        refine wget hF hw flX6_53 dX6_take_34 0 rfl rfl ?_
        refine lv_sipush (v := nI 300) hx hb dX6_take_37 (by decide) ?_
        refine lv_iload_n hx hb dX6_take_40 rfl (lv_at hl 1 rfl) ?_
        refine r_imul hx hb dX6_take_41 ?_
        refine lv_iload_n hx hb dX6_take_42 rfl (lv_at hl 3 rfl) ?_
        refine r_iadd hx hb dX6_take_43 ?_
        refine lv_aload_n hx hb dX6_take_44 rfl (lv_at hl 0 rfl) ?_
        refine wget hF hw flX6_53 dX6_take_45 0 rfl rfl ?_
        refine lv_sipush (v := nI 300) hx hb dX6_take_48 (by decide) ?_
        refine lv_iload_n hx hb dX6_take_51 rfl (lv_at hl 1 rfl) ?_
        refine r_imul hx hb dX6_take_52 ?_
        refine lv_iload_n hx hb dX6_take_53 rfl (lv_at hl 3 rfl) ?_
        refine r_iadd hx hb dX6_take_54 ?_
        refine lv_iconst (v := nI 1) hx hb dX6_take_55 (by decide) ?_
        refine r_iadd hx hb dX6_take_56 ?_
        refine r_iald hF hw dX6_take_57 1 rfl (by omega) (by omega) ?_
        refine r_iast (ws' := [(md 0, .inr (5, [.ref (md 1), .int th, .ref (md 2), .ref (md 3), .ref (md 4), .ref (md 5), .ref (md 6), .ref (md 7), .ref (md 8), .ref (md 9), .ref (md 10), .ref (md 11), .ref (md 12), .ref (md 13), .ref (md 14), .ref (md 15), .ref (md 16), .ref (md 17), .ref (md 18), .ref (md 19), .ref (md 20), .ref (md 21), .ref (md 22), .int (nI pn), .ref (md 23), .int (nI ac), .int (nI an), .ref (md 24), .int (nI ci), .int (nI ck)])), (md 15, .inl (g.2.1 0, 600, .inl (upd f3 ((300 * e) + i) (f3 (((300 * e) + i) + 1))))), (md 14, .inl (g.2.1 0, 2, .inl (upd fOl e (nI (B.length - 1)))))]) hF hw dX6_take_58 1 rfl (by omega) (by omega) rfl (fun H locs hw => ?_)
        refine r_iinc (k := 3) (d := 1) (lv' := [(3, .int (nI (i + 1))), (0, .ref (md 0)), (1, .int (nI e)), (2, .int (nI (B.getD 0 0)))]) hx hb dX6_take_59 hl rfl (by decide) (by decide) rfl (fun ls hl => ?_)
        refine lv_goto (tgt := 23) hx hb dX6_take_62 (by decide) ?_
        exact ih_23 (i + 1) (upd f3 ((300 * e) + i) (f3 (((300 * e) + i) + 1))) _ _ _ (by omega) (by omega) (tk1 h1 h2 (by omega)) (fun j hj hj2 => by rw [upd_ne (by omega)]; exact h2 j (by omega) hj2) (fun q hq => by rw [upd_ne (by omega)]; exact h3 q hq) hw (lv_sub hl [1, 2, 3, 0] rfl)
  exact lp_23 _ 0 fBy _ _ _ (Nat.lt_succ_self _) (by omega) (fun j h => absurd h (Nat.not_lt_zero _)) (fun j _ h => hL.2.2 j h) (fun _ _ => rfl) hw (lv_sub hl [2, 3, 1, 0] rfl)

set_option maxHeartbeats 4000000 in
set_option maxRecDepth 100000 in
theorem c_X6_judge (l : Launch) (g : GE) (md : Nat → Nat) (th : Int32) (pn : Nat) (ac : Nat) (an : Nat) (ci : Nat) (ck : Nat) (fGa : Nat → Int32) (fLe : Nat → Int32) (fNu : Nat → Int32) (e : Nat) (G : List Nat) (le : Nat) (nu : Int32) (k : Nat) (he : e < 2) (hG : GaM fGa e G) (hB : Bt G) (hle : fLe e = nI le) (hl2 : le < 65536) (hnu : fNu e = nu) (hk : k + optLen (G.getD k 0) ≤ G.length) : Ct l yX6_judge cX6_judge 5 (some .int) { frames := 2, cells := 0, slots := 0, locals := 44 } g [.ref (md 0), .int (nI e), .int (nI k)] [(md 0, .inr (5, [.ref (md 1), .int th, .ref (md 2), .ref (md 3), .ref (md 4), .ref (md 5), .ref (md 6), .ref (md 7), .ref (md 8), .ref (md 9), .ref (md 10), .ref (md 11), .ref (md 12), .ref (md 13), .ref (md 14), .ref (md 15), .ref (md 16), .ref (md 17), .ref (md 18), .ref (md 19), .ref (md 20), .ref (md 21), .ref (md 22), .int (nI pn), .ref (md 23), .int (nI ac), .int (nI an), .ref (md 24), .int (nI ci), .int (nI ck)])), (md 18, .inl (g.2.1 0, 80, .inl fGa)), (md 4, .inl (g.2.1 0, 2, .inl fLe)), (md 5, .inl (g.2.1 0, 2, .inl fNu))] (fun (v : Option Value) (u : Unit) => v = some (.int (nI (judgeN G le nu k))) ∧ True) (fun u : Unit => [(md 0, .inr (5, [.ref (md 1), .int th, .ref (md 2), .ref (md 3), .ref (md 4), .ref (md 5), .ref (md 6), .ref (md 7), .ref (md 8), .ref (md 9), .ref (md 10), .ref (md 11), .ref (md 12), .ref (md 13), .ref (md 14), .ref (md 15), .ref (md 16), .ref (md 17), .ref (md 18), .ref (md 19), .ref (md 20), .ref (md 21), .ref (md 22), .int (nI pn), .ref (md 23), .int (nI ac), .int (nI an), .ref (md 24), .int (nI ci), .int (nI ck)])), (md 18, .inl (g.2.1 0, 80, .inl fGa)), (md 4, .inl (g.2.1 0, 2, .inl fLe)), (md 5, .inl (g.2.1 0, 2, .inl fNu))]) := by
  refine Ct.of (own := RX6) rfl rfl (Nat.le_of_ble_eq_true rfl) ?_
  intro P0 e0 s m below meth c ls hF hr hlk hnm hw hl
  have hx := hF.1
  have hb := hF.2.1
  have hl : lv_has ls 5 [(0, .ref (md 0)), (1, .int (nI e)), (2, .int (nI k))] := hl
  have hG1 := hG.1
  have hb0 := hB.get k
  have hb1 := hB.get (k + 1)
  have hb2 := hB.get (k + 2)
  have ho := optLen_b (G.getD k 0)
  refine lv_aload_n hx hb dX6_judge_0 rfl (lv_at hl 0 rfl) ?_
  refine lv_iload_n hx hb dX6_judge_1 rfl (lv_at hl 1 rfl) ?_
  refine lv_iload_n hx hb dX6_judge_2 rfl (lv_at hl 2 rfl) ?_
  refine Ct.callV (wr := [(md 4, .inl (g.2.1 0, 2, .inl fLe)), (md 5, .inl (g.2.1 0, 2, .inl fNu))]) hF hw (c_X6_at l g md th pn ac an ci ck fGa e G k (by assumption) (by assumption) (by omega)) mwX6_149 [0, 1] [2, 3] rfl rfl rfl rfl (by decide) 0 rfl rfl ⟨by decide, by decide⟩ ⟨by decide, by decide⟩ rfl hl.1 (Nat.le_of_ble_eq_true rfl) rfl dX6_judge_3 (fun v u H locs hp hw => ?_)
  obtain ⟨rfl, hp_3⟩ := hp
  have hw := Wd.sub (ws' := [(md 0, .inr (5, [.ref (md 1), .int th, .ref (md 2), .ref (md 3), .ref (md 4), .ref (md 5), .ref (md 6), .ref (md 7), .ref (md 8), .ref (md 9), .ref (md 10), .ref (md 11), .ref (md 12), .ref (md 13), .ref (md 14), .ref (md 15), .ref (md 16), .ref (md 17), .ref (md 18), .ref (md 19), .ref (md 20), .ref (md 21), .ref (md 22), .int (nI pn), .ref (md 23), .int (nI ac), .int (nI an), .ref (md 24), .int (nI ci), .int (nI ck)])), (md 18, .inl (g.2.1 0, 80, .inl fGa)), (md 4, .inl (g.2.1 0, 2, .inl fLe)), (md 5, .inl (g.2.1 0, 2, .inl fNu))]) hw [2, 3, 0, 1] rfl rfl
  refine W.eq (g2 := F0 m 6 ls [.int (nI (G.getD k 0))]) rfl ?_
  refine lv_istore_n (lv' := [(3, .int (nI (G.getD k 0))), (0, .ref (md 0)), (1, .int (nI e)), (2, .int (nI k))]) hx hb dX6_judge_6 rfl hl (by decide) rfl (fun ls hl => ?_)
  refine lv_iload_n hx hb dX6_judge_7 rfl (lv_at hl 0 rfl) ?_
  refine lv_iconst (v := nI 1) hx hb dX6_judge_8 (by decide) ?_
  refine r_ne (tgt := 48) hx hb dX6_judge_9 (by decide) (by omega) (by omega) (fun c_9 => ?_) (fun c_9 => ?_)
  · refine lv_iload_n hx hb dX6_judge_48 rfl (lv_at hl 0 rfl) ?_
    refine lv_iconst (v := nI 5) hx hb dX6_judge_49 (by decide) ?_
    refine r_ne (tgt := 85) hx hb dX6_judge_50 (by decide) (by omega) (by omega) (fun c_50 => ?_) (fun c_50 => ?_)
    · refine lv_iconst (v := nI 4) hx hb dX6_judge_85 (by decide) ?_
      exact RQ.iret hF hr hlk hw dX6_judge_86 ⟨by decide, by decide⟩ (()) (rfl) ⟨by unfold judgeN; rw [if_neg c_9, if_neg c_50], trivial⟩
    · refine lv_aload_n hx hb dX6_judge_53 rfl (lv_at hl 1 rfl) ?_
      refine lv_iload_n hx hb dX6_judge_54 rfl (lv_at hl 2 rfl) ?_
      refine lv_iload_n hx hb dX6_judge_55 rfl (lv_at hl 3 rfl) ?_
      refine lv_iconst (v := nI 1) hx hb dX6_judge_56 (by decide) ?_
      refine r_iadd hx hb dX6_judge_57 ?_
      refine Ct.callV (wr := [(md 4, .inl (g.2.1 0, 2, .inl fLe)), (md 5, .inl (g.2.1 0, 2, .inl fNu))]) hF hw (c_X6_intAt l g md th pn ac an ci ck fGa e G (k + 1) (by assumption) (by assumption) (by have h9 := optLen_5 c_50; omega)) mwX6_159 [0, 1] [2, 3] rfl rfl rfl rfl (by decide) 0 rfl rfl ⟨by decide, by decide⟩ ⟨by decide, by decide⟩ rfl hl.1 (Nat.le_of_ble_eq_true rfl) rfl dX6_judge_58 (fun v u H locs hp hw => ?_)
      obtain ⟨rfl, hp_58⟩ := hp
      have hw := Wd.sub (ws' := [(md 0, .inr (5, [.ref (md 1), .int th, .ref (md 2), .ref (md 3), .ref (md 4), .ref (md 5), .ref (md 6), .ref (md 7), .ref (md 8), .ref (md 9), .ref (md 10), .ref (md 11), .ref (md 12), .ref (md 13), .ref (md 14), .ref (md 15), .ref (md 16), .ref (md 17), .ref (md 18), .ref (md 19), .ref (md 20), .ref (md 21), .ref (md 22), .int (nI pn), .ref (md 23), .int (nI ac), .int (nI an), .ref (md 24), .int (nI ci), .int (nI ck)])), (md 18, .inl (g.2.1 0, 80, .inl fGa)), (md 4, .inl (g.2.1 0, 2, .inl fLe)), (md 5, .inl (g.2.1 0, 2, .inl fNu))]) hw [2, 3, 0, 1] rfl rfl
      refine W.eq (g2 := F0 m 61 ls [.int (n4 G (k + 1))]) rfl ?_
      refine lv_istore (lv' := [(4, .int (n4 G (k + 1))), (3, .int (nI (G.getD k 0))), (0, .ref (md 0)), (1, .int (nI e)), (2, .int (nI k))]) hx hb dX6_judge_61 hl (by decide) rfl (fun ls hl => ?_)
      refine lv_iload hx hb dX6_judge_63 (lv_at hl 0 rfl) ?_
      refine lv_if_eq (tgt := 79) hx hb dX6_judge_65 (by decide) (fun c_65 => ?_) (fun c_65 => ?_)
      · refine lv_iconst (v := nI 3) hx hb dX6_judge_79 (by decide) ?_
        refine lv_goto (tgt := 84) hx hb dX6_judge_80 (by decide) ?_
        exact RQ.iret hF hr hlk hw dX6_judge_84 ⟨by decide, by decide⟩ (()) (rfl) ⟨by unfold judgeN; rw [if_neg c_9, if_pos c_50]; first | rw [if_pos (Or.inl c_65)] | rw [if_pos (Or.inr c_76)] | rw [if_neg (fun q => q.elim c_65 c_76)], trivial⟩
      · refine lv_iload hx hb dX6_judge_68 (lv_at hl 0 rfl) ?_
        refine lv_aload_n hx hb dX6_judge_70 rfl (lv_at hl 2 rfl) ?_
        refine wget hF hw flX6_22 dX6_judge_71 0 rfl rfl ?_
        refine lv_iload_n hx hb dX6_judge_74 rfl (lv_at hl 3 rfl) ?_
        refine r_iald hF hw dX6_judge_75 3 rfl (by omega) (by omega) ?_
        refine r_topv (y := .int nu) (by rw [hnu]) ?_
        refine lv_icmp_ne (tgt := 83) hx hb dX6_judge_76 (by decide) (fun c_76 => ?_) (fun c_76 => ?_)
        · refine lv_iconst (v := nI 0) hx hb dX6_judge_83 (by decide) ?_
          exact RQ.iret hF hr hlk hw dX6_judge_84 ⟨by decide, by decide⟩ (()) (rfl) ⟨by unfold judgeN; rw [if_neg c_9, if_pos c_50]; first | rw [if_pos (Or.inl c_65)] | rw [if_pos (Or.inr c_76)] | rw [if_neg (fun q => q.elim c_65 c_76)], trivial⟩
        · refine lv_iconst (v := nI 3) hx hb dX6_judge_79 (by decide) ?_
          refine lv_goto (tgt := 84) hx hb dX6_judge_80 (by decide) ?_
          exact RQ.iret hF hr hlk hw dX6_judge_84 ⟨by decide, by decide⟩ (()) (rfl) ⟨by unfold judgeN; rw [if_neg c_9, if_pos c_50]; first | rw [if_pos (Or.inl c_65)] | rw [if_pos (Or.inr c_76)] | rw [if_neg (fun q => q.elim c_65 c_76)], trivial⟩
  · refine lv_aload_n hx hb dX6_judge_12 rfl (lv_at hl 1 rfl) ?_
    refine lv_iload_n hx hb dX6_judge_13 rfl (lv_at hl 2 rfl) ?_
    refine lv_iload_n hx hb dX6_judge_14 rfl (lv_at hl 3 rfl) ?_
    refine lv_iconst (v := nI 1) hx hb dX6_judge_15 (by decide) ?_
    refine r_iadd hx hb dX6_judge_16 ?_
    refine Ct.callV (wr := [(md 4, .inl (g.2.1 0, 2, .inl fLe)), (md 5, .inl (g.2.1 0, 2, .inl fNu))]) hF hw (c_X6_at l g md th pn ac an ci ck fGa e G (k + 1) (by assumption) (by assumption) (by have h9 := optLen_1 c_9; omega)) mwX6_149 [0, 1] [2, 3] rfl rfl rfl rfl (by decide) 0 rfl rfl ⟨by decide, by decide⟩ ⟨by decide, by decide⟩ rfl hl.1 (Nat.le_of_ble_eq_true rfl) rfl dX6_judge_17 (fun v u H locs hp hw => ?_)
    obtain ⟨rfl, hp_17⟩ := hp
    have hw := Wd.sub (ws' := [(md 0, .inr (5, [.ref (md 1), .int th, .ref (md 2), .ref (md 3), .ref (md 4), .ref (md 5), .ref (md 6), .ref (md 7), .ref (md 8), .ref (md 9), .ref (md 10), .ref (md 11), .ref (md 12), .ref (md 13), .ref (md 14), .ref (md 15), .ref (md 16), .ref (md 17), .ref (md 18), .ref (md 19), .ref (md 20), .ref (md 21), .ref (md 22), .int (nI pn), .ref (md 23), .int (nI ac), .int (nI an), .ref (md 24), .int (nI ci), .int (nI ck)])), (md 18, .inl (g.2.1 0, 80, .inl fGa)), (md 4, .inl (g.2.1 0, 2, .inl fLe)), (md 5, .inl (g.2.1 0, 2, .inl fNu))]) hw [2, 3, 0, 1] rfl rfl
    refine W.eq (g2 := F0 m 20 ls [.int (nI (G.getD (k + 1) 0))]) rfl ?_
    refine lv_sipush (v := nI 256) hx hb dX6_judge_20 (by decide) ?_
    refine r_imul hx hb dX6_judge_23 ?_
    refine lv_aload_n hx hb dX6_judge_24 rfl (lv_at hl 1 rfl) ?_
    refine lv_iload_n hx hb dX6_judge_25 rfl (lv_at hl 2 rfl) ?_
    refine lv_iload_n hx hb dX6_judge_26 rfl (lv_at hl 3 rfl) ?_
    refine lv_iconst (v := nI 2) hx hb dX6_judge_27 (by decide) ?_
    refine r_iadd hx hb dX6_judge_28 ?_
    refine Ct.callV (wr := [(md 4, .inl (g.2.1 0, 2, .inl fLe)), (md 5, .inl (g.2.1 0, 2, .inl fNu))]) hF hw (c_X6_at l g md th pn ac an ci ck fGa e G (k + 2) (by assumption) (by assumption) (by have h9 := optLen_1 c_9; omega)) mwX6_149 [0, 1] [2, 3] rfl rfl rfl rfl (by decide) 0 rfl rfl ⟨by decide, by decide⟩ ⟨by decide, by decide⟩ rfl hl.1 (Nat.le_of_ble_eq_true rfl) rfl dX6_judge_29 (fun v u H locs hp hw => ?_)
    obtain ⟨rfl, hp_29⟩ := hp
    have hw := Wd.sub (ws' := [(md 0, .inr (5, [.ref (md 1), .int th, .ref (md 2), .ref (md 3), .ref (md 4), .ref (md 5), .ref (md 6), .ref (md 7), .ref (md 8), .ref (md 9), .ref (md 10), .ref (md 11), .ref (md 12), .ref (md 13), .ref (md 14), .ref (md 15), .ref (md 16), .ref (md 17), .ref (md 18), .ref (md 19), .ref (md 20), .ref (md 21), .ref (md 22), .int (nI pn), .ref (md 23), .int (nI ac), .int (nI an), .ref (md 24), .int (nI ci), .int (nI ck)])), (md 18, .inl (g.2.1 0, 80, .inl fGa)), (md 4, .inl (g.2.1 0, 2, .inl fLe)), (md 5, .inl (g.2.1 0, 2, .inl fNu))]) hw [2, 3, 0, 1] rfl rfl
    refine W.eq (g2 := F0 m 32 ls [.int (nI (G.getD (k + 2) 0)), .int (nI ((G.getD (k + 1) 0) * 256))]) rfl ?_
    refine r_iadd hx hb dX6_judge_32 ?_
    refine lv_aload_n hx hb dX6_judge_33 rfl (lv_at hl 1 rfl) ?_
    refine wget hF hw flX6_19 dX6_judge_34 0 rfl rfl ?_
    refine lv_iload_n hx hb dX6_judge_37 rfl (lv_at hl 2 rfl) ?_
    refine r_iald hF hw dX6_judge_38 2 rfl (by omega) (by omega) ?_
    refine r_top (n := le) (hle) ?_
    refine r_ge (tgt := 46) hx hb dX6_judge_39 (by decide) (by omega) (by omega) (fun c_39 => ?_) (fun c_39 => ?_)
    · refine lv_iconst (v := nI 0) hx hb dX6_judge_46 (by decide) ?_
      exact RQ.iret hF hr hlk hw dX6_judge_47 ⟨by decide, by decide⟩ (()) (rfl) ⟨by unfold judgeN; rw [if_pos c_9]; first | rw [if_pos (by omega)] | rw [if_neg (by omega)], trivial⟩
    · refine lv_iconst (v := nI 3) hx hb dX6_judge_42 (by decide) ?_
      refine lv_goto (tgt := 47) hx hb dX6_judge_43 (by decide) ?_
      exact RQ.iret hF hr hlk hw dX6_judge_47 ⟨by decide, by decide⟩ (()) (rfl) ⟨by unfold judgeN; rw [if_pos c_9]; first | rw [if_pos (by omega)] | rw [if_neg (by omega)], trivial⟩
