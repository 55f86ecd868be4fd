set_option maxHeartbeats 4000000 in
set_option maxRecDepth 100000 in
theorem c_X2_has (l : Launch) (g : GE) (b : Nat) (r : Nat) (fr : Nat) (f : Nat → Int32) (B : List Nat) (lo : Int32) (i : Nat) (hR : Rg fr f B) (hi : i < 2147483648) : Ct l yX2_has cX2_has 2 (some .boolean) { frames := 0, cells := 0, slots := 0, locals := 0 } g [.ref b, .int (nI i)] [(b, .inr (1, [.ref r, .int (nI fr), .int (nI B.length), .int lo])), (r, .inl (g.2.1 0, 300, .inl f))] (fun (v : Option Value) (u : Unit) => v = some (.int (nI (decide (i < B.length)).toNat)) ∧ True) (fun u : Unit => [(b, .inr (1, [.ref r, .int (nI fr), .int (nI B.length), .int lo])), (r, .inl (g.2.1 0, 300, .inl f))]) := by
  refine Ct.of (own := RX2) rfl rfl (Nat.le_of_ble_eq_true rfl) ?_
  intro P0 e0 s m below meth c ls hF hr hlk hnm hw hl
  have hx := hF.1
  have hb := hF.2.1
  have hl : lv_has ls 2 [(0, .ref b), (1, .int (nI i))] := hl
  have hR1 := hR.1
  have hR2 := hR.2.1
  refine lv_iload_n hx hb dX2_has_0 rfl (lv_at hl 1 rfl) ?_
  refine r_lt0 (tgt := 16) hx hb dX2_has_1 (by decide) (by omega) (fun c_1 => ?_) (fun c_1 => ?_)
  · exact absurd c_1 id
  · refine lv_iload_n hx hb dX2_has_4 rfl (lv_at hl 1 rfl) ?_
    refine lv_aload_n hx hb dX2_has_5 rfl (lv_at hl 0 rfl) ?_
    refine wget hF hw flX2_15 dX2_has_6 0 rfl rfl ?_
    refine r_ge (tgt := 16) hx hb dX2_has_9 (by decide) (by omega) (by omega) (fun c_9 => ?_) (fun c_9 => ?_)
    · refine lv_iconst (v := nI 0) hx hb dX2_has_16 (by decide) ?_
      exact RQ.zret hF hr hlk hw dX2_has_17 (rfl) ⟨by decide, by decide⟩ (()) (rfl) ⟨by first | exact rbt (decide_eq_true (by omega)) | exact rbf (decide_eq_false (by omega)), trivial⟩
    · refine lv_iconst (v := nI 1) hx hb dX2_has_12 (by decide) ?_
      refine lv_goto (tgt := 17) hx hb dX2_has_13 (by decide) ?_
      exact RQ.zret hF hr hlk hw dX2_has_17 (rfl) ⟨by decide, by decide⟩ (()) (rfl) ⟨by first | exact rbt (decide_eq_true (by omega)) | exact rbf (decide_eq_false (by omega)), trivial⟩

set_option maxHeartbeats 4000000 in
set_option maxRecDepth 100000 in
theorem c_X2_hasN (l : Launch) (g : GE) (b : Nat) (r : Nat) (fr : Nat) (f : Nat → Int32) (B : List Nat) (lo : Int32) (i : Int32) (hR : Rg fr f B) (hi : i < 0) : Ct l yX2_has cX2_has 2 (some .boolean) { frames := 0, cells := 0, slots := 0, locals := 0 } g [.ref b, .int i] [(b, .inr (1, [.ref r, .int (nI fr), .int (nI B.length), .int lo])), (r, .inl (g.2.1 0, 300, .inl f))] (fun (v : Option Value) (u : Unit) => v = some (.int (nI 0)) ∧ True) (fun u : Unit => [(b, .inr (1, [.ref r, .int (nI fr), .int (nI B.length), .int lo])), (r, .inl (g.2.1 0, 300, .inl f))]) := by
  refine Ct.of (own := RX2) rfl rfl (Nat.le_of_ble_eq_true rfl) ?_
  intro P0 e0 s m below meth c ls hF hr hlk hnm hw hl
  have hx := hF.1
  have hb := hF.2.1
  have hl : lv_has ls 2 [(0, .ref b), (1, .int i)] := hl
  have hR1 := hR.1
  have hR2 := hR.2.1
  refine lv_iload_n hx hb dX2_has_0 rfl (lv_at hl 1 rfl) ?_
  refine lv_if_lt (tgt := 16) hx hb dX2_has_1 (by decide) (fun c_1 => ?_) (fun c_1 => ?_)
  · refine lv_iconst (v := nI 0) hx hb dX2_has_16 (by decide) ?_
    exact RQ.zret hF hr hlk hw dX2_has_17 (rfl) ⟨by decide, by decide⟩ (()) (rfl) ⟨rfl, trivial⟩
  · exact absurd hi c_1

set_option maxHeartbeats 4000000 in
set_option maxRecDepth 100000 in
theorem c_X2_append (l : Launch) (g : GE) (b : Nat) (r : Nat) (fr : Nat) (f : Nat → Int32) (B : List Nat) (lo : Int32) (x : Nat) (hR : Rg fr f B) (hB3 : B.length < 300) : Ct l yX2_append cX2_append 2 none { frames := 0, cells := 0, slots := 0, locals := 0 } g [.ref b, .int (nI x)] [(b, .inr (1, [.ref r, .int (nI fr), .int (nI B.length), .int lo])), (r, .inl (g.2.1 0, 300, .inl f))] (fun (v : Option Value) (u : (Nat → Int32)) => v = none ∧ Rg fr u (B ++ [x])) (fun u : (Nat → Int32) => [(b, .inr (1, [.ref r, .int (nI fr), .int (nI (B ++ [x]).length), .int lo])), (r, .inl (g.2.1 0, 300, .inl u))]) := by
  refine Ct.of (own := RX2) rfl rfl (Nat.le_of_ble_eq_true rfl) ?_
  intro P0 e0 s m below meth c ls hF hr hlk hnm hw hl
  have hx := hF.1
  have hb := hF.2.1
  have hl : lv_has ls 2 [(0, .ref b), (1, .int (nI x))] := hl
  have hR1 := hR.1
  have hR2 := hR.2.1
  refine lv_aload_n hx hb dX2_append_0 rfl (lv_at hl 0 rfl) ?_
  refine wget hF hw flX2_15 dX2_append_1 0 rfl rfl ?_
  refine lv_sipush (v := nI 300) hx hb dX2_append_4 (by decide) ?_
  refine r_ge (tgt := 39) hx hb dX2_append_7 (by decide) (by omega) (by omega) (fun c_7 => ?_) (fun c_7 => ?_)
  · exact absurd c_7 (by omega)
  · refine lv_aload_n hx hb dX2_append_10 rfl (lv_at hl 0 rfl) ?_
    refine wget hF hw flX2_9 dX2_append_11 0 rfl rfl ?_
    refine lv_aload_n hx hb dX2_append_14 rfl (lv_at hl 0 rfl) ?_
    refine wget hF hw flX2_19 dX2_append_15 0 rfl rfl ?_
    refine lv_aload_n hx hb dX2_append_18 rfl (lv_at hl 0 rfl) ?_
    refine wget hF hw flX2_15 dX2_append_19 0 rfl rfl ?_
    refine r_iadd hx hb dX2_append_22 ?_
    refine lv_sipush (v := nI 300) hx hb dX2_append_23 (by decide) ?_
    refine r_irem hx hb dX2_append_26 (by omega) (by omega) (by omega) ?_
    refine lv_iload_n hx hb dX2_append_27 rfl (lv_at hl 1 rfl) ?_
    refine r_iast (ws' := [(b, .inr (1, [.ref r, .int (nI fr), .int (nI B.length), .int lo])), (r, .inl (g.2.1 0, 300, .inl (upd f ((fr + B.length) % 300) (nI x))))]) hF hw dX2_append_28 1 rfl (by omega) (by omega) rfl (fun H locs hw => ?_)
    refine lv_aload_n hx hb dX2_append_29 rfl (lv_at hl 0 rfl) ?_
    refine lv_dup hx hb dX2_append_30 rfl ?_
    refine wget hF hw flX2_15 dX2_append_31 0 rfl rfl ?_
    refine lv_iconst (v := nI 1) hx hb dX2_append_34 (by decide) ?_
    refine r_iadd hx hb dX2_append_35 ?_
    refine r_put (ws' := [(b, .inr (1, [.ref r, .int (nI fr), .int (nI (B.length + 1)), .int lo])), (r, .inl (g.2.1 0, 300, .inl (upd f ((fr + B.length) % 300) (nI x))))]) hF hw flX2_15 ftX2 dX2_append_36 0 rfl rfl rfl rfl (Nat.le_of_ble_eq_true rfl) rfl (fun H locs hw => ?_)
    exact RQ.vret hF hr hlk hw dX2_append_39 ⟨by decide, by decide⟩ ((upd f ((fr + B.length) % 300) (nI x))) (by rw [List.length_append]; rfl) ⟨rfl, hR.snoc hB3⟩

set_option maxHeartbeats 4000000 in
set_option maxRecDepth 100000 in
theorem c_X2_drop (l : Launch) (g : GE) (b : Nat) (r : Nat) (fr : Nat) (f : Nat → Int32) (B : List Nat) (lo : Int32) (k : Nat) (hR : Rg fr f B) (hk : k ≤ B.length) : Ct l yX2_drop cX2_drop 2 none { frames := 0, cells := 0, slots := 0, locals := 0 } g [.ref b, .int (nI k)] [(b, .inr (1, [.ref r, .int (nI fr), .int (nI B.length), .int lo])), (r, .inl (g.2.1 0, 300, .inl f))] (fun (v : Option Value) (u : Unit) => v = none ∧ Rg ((fr + k) % 300) f (B.drop k)) (fun u : Unit => [(b, .inr (1, [.ref r, .int (nI ((fr + k) % 300)), .int (nI (B.drop k).length), .int lo])), (r, .inl (g.2.1 0, 300, .inl f))]) := by
  refine Ct.of (own := RX2) rfl rfl (Nat.le_of_ble_eq_true rfl) ?_
  intro P0 e0 s m below meth c ls hF hr hlk hnm hw hl
  have hx := hF.1
  have hb := hF.2.1
  have hl : lv_has ls 2 [(0, .ref b), (1, .int (nI k))] := hl
  have hR1 := hR.1
  have hR2 := hR.2.1
  refine lv_aload_n hx hb dX2_drop_0 rfl (lv_at hl 0 rfl) ?_
  refine lv_aload_n hx hb dX2_drop_1 rfl (lv_at hl 0 rfl) ?_
  refine wget hF hw flX2_19 dX2_drop_2 0 rfl rfl ?_
  refine lv_iload_n hx hb dX2_drop_5 rfl (lv_at hl 1 rfl) ?_
  refine r_iadd hx hb dX2_drop_6 ?_
  refine lv_sipush (v := nI 300) hx hb dX2_drop_7 (by decide) ?_
  refine r_irem hx hb dX2_drop_10 (by omega) (by omega) (by omega) ?_
  refine r_put (ws' := [(b, .inr (1, [.ref r, .int (nI ((fr + k) % 300)), .int (nI B.length), .int lo])), (r, .inl (g.2.1 0, 300, .inl f))]) hF hw flX2_19 ftX2 dX2_drop_11 0 rfl rfl rfl rfl (Nat.le_of_ble_eq_true rfl) rfl (fun H locs hw => ?_)
  refine lv_aload_n hx hb dX2_drop_14 rfl (lv_at hl 0 rfl) ?_
  refine lv_dup hx hb dX2_drop_15 rfl ?_
  refine wget hF hw flX2_15 dX2_drop_16 0 rfl rfl ?_
  refine lv_iload_n hx hb dX2_drop_19 rfl (lv_at hl 1 rfl) ?_
  refine r_isub hx hb dX2_drop_20 (by omega) ?_
  refine r_put (ws' := [(b, .inr (1, [.ref r, .int (nI ((fr + k) % 300)), .int (nI (B.length - k)), .int lo])), (r, .inl (g.2.1 0, 300, .inl f))]) hF hw flX2_15 ftX2 dX2_drop_21 0 rfl rfl rfl rfl (Nat.le_of_ble_eq_true rfl) rfl (fun H locs hw => ?_)
  exact RQ.vret hF hr hlk hw dX2_drop_24 ⟨by decide, by decide⟩ (()) (by rw [List.length_drop]) ⟨rfl, hR.drop hk⟩

set_option maxHeartbeats 4000000 in
set_option maxRecDepth 100000 in
theorem c_X2_takeFirst (l : Launch) (g : GE) (b : Nat) (r : Nat) (fr : Nat) (f : Nat → Int32) (B : List Nat) (lo : Int32) (hR : Rg fr f B) (hB3 : 0 < B.length) : Ct l yX2_takeFirst cX2_takeFirst 2 (some .int) { frames := 1, cells := 0, slots := 0, locals := 21 } g [.ref b] [(b, .inr (1, [.ref r, .int (nI fr), .int (nI B.length), .int lo])), (r, .inl (g.2.1 0, 300, .inl f))] (fun (v : Option Value) (u : Unit) => v = some (.int (nI (B.getD 0 0))) ∧ Rg ((fr + 1) % 300) f (B.drop 1)) (fun u : Unit => [(b, .inr (1, [.ref r, .int (nI ((fr + 1) % 300)), .int (nI (B.drop 1).length), .int lo])), (r, .inl (g.2.1 0, 300, .inl f))]) := by
  refine Ct.of (own := RX2) rfl rfl (Nat.le_of_ble_eq_true rfl) ?_
  intro P0 e0 s m below meth c ls hF hr hlk hnm hw hl
  have hx := hF.1
  have hb := hF.2.1
  have hl : lv_has ls 2 [(0, .ref b)] := hl
  have hR1 := hR.1
  have hR2 := hR.2.1
  have h0 := hR.2.2 0 hB3
  rw [show (fr + 0) % 300 = fr by omega] at h0
  refine lv_aload_n hx hb dX2_takeFirst_0 rfl (lv_at hl 0 rfl) ?_
  refine wget hF hw flX2_9 dX2_takeFirst_1 0 rfl rfl ?_
  refine lv_aload_n hx hb dX2_takeFirst_4 rfl (lv_at hl 0 rfl) ?_
  refine wget hF hw flX2_19 dX2_takeFirst_5 0 rfl rfl ?_
  refine r_iald hF hw dX2_takeFirst_8 1 rfl (by omega) (by omega) ?_
  refine r_top (n := B.getD 0 0) (h0) ?_
  refine lv_istore_n (lv' := [(1, .int (nI (B.getD 0 0))), (0, .ref b)]) hx hb dX2_takeFirst_9 rfl hl (by decide) rfl (fun ls hl => ?_)
  refine lv_aload_n hx hb dX2_takeFirst_10 rfl (lv_at hl 1 rfl) ?_
  refine lv_iconst (v := nI 1) hx hb dX2_takeFirst_11 (by decide) ?_
  refine Ct.callV (wr := []) hF hw (c_X2_drop l g b r fr f B lo 1 (by assumption) (by omega)) mwX2_22 [0, 1] [] rfl rfl rfl rfl (by decide) 0 rfl rfl ⟨by decide, by decide⟩ ⟨by decide, by decide⟩ rfl hl.1 (Nat.le_of_ble_eq_true rfl) rfl dX2_takeFirst_12 (fun v u H locs hp hw => ?_)
  obtain ⟨rfl, hp_12⟩ := hp
  try dsimp only at hp_12
  have hw := Wd.sub (ws' := [(b, .inr (1, [.ref r, .int (nI ((fr + 1) % 300)), .int (nI (B.drop 1).length), .int lo])), (r, .inl (g.2.1 0, 300, .inl f))]) hw [0, 1] rfl rfl
  refine W.eq (g2 := F0 m 15 ls []) rfl ?_
  refine lv_iload_n hx hb dX2_takeFirst_15 rfl (lv_at hl 0 rfl) ?_
  exact RQ.iret hF hr hlk hw dX2_takeFirst_16 ⟨by decide, by decide⟩ (()) (rfl) ⟨rfl, hp_12⟩

set_option maxHeartbeats 4000000 in
set_option maxRecDepth 100000 in
theorem c_X2_flip (l : Launch) (g : GE) (b : Nat) (r : Nat) (fr : Nat) (f : Nat → Int32) (B : List Nat) (lo : Int32) (i : Nat) (mk : Nat) (hR : Rg fr f B) (hi : i < B.length) : Ct l yX2_flip cX2_flip 5 (some .int) { frames := 0, cells := 0, slots := 0, locals := 0 } g [.ref b, .int (nI i), .int (nI mk)] [(b, .inr (1, [.ref r, .int (nI fr), .int (nI B.length), .int lo])), (r, .inl (g.2.1 0, 300, .inl f))] (fun (v : Option Value) (u : (Nat → Int32)) => v = some (.int (nI (B.getD i 0))) ∧ Rg fr u (B.set i (B.getD i 0 ^^^ mk))) (fun u : (Nat → Int32) => [(b, .inr (1, [.ref r, .int (nI fr), .int (nI (B.set i (B.getD i 0 ^^^ mk)).length), .int lo])), (r, .inl (g.2.1 0, 300, .inl u))]) := by
  refine Ct.of (own := RX2) rfl rfl (Nat.le_of_ble_eq_true rfl) ?_
  intro P0 e0 s m below meth c ls hF hr hlk hnm hw hl
  have hx := hF.1
  have hb := hF.2.1
  have hl : lv_has ls 5 [(0, .ref b), (1, .int (nI i)), (2, .int (nI mk))] := hl
  have hR1 := hR.1
  have hR2 := hR.2.1
  have h0 := hR.2.2 i hi
  refine lv_aload_n hx hb dX2_flip_0 rfl (lv_at hl 0 rfl) ?_
  refine wget hF hw flX2_19 dX2_flip_1 0 rfl rfl ?_
  refine lv_iload_n hx hb dX2_flip_4 rfl (lv_at hl 1 rfl) ?_
  refine r_iadd hx hb dX2_flip_5 ?_
  refine lv_sipush (v := nI 300) hx hb dX2_flip_6 (by decide) ?_
  refine r_irem hx hb dX2_flip_9 (by omega) (by omega) (by omega) ?_
  refine lv_istore_n (lv' := [(3, .int (nI ((fr + i) % 300))), (0, .ref b), (1, .int (nI i)), (2, .int (nI mk))]) hx hb dX2_flip_10 rfl hl (by decide) rfl (fun ls hl => ?_)
  refine lv_aload_n hx hb dX2_flip_11 rfl (lv_at hl 1 rfl) ?_
  refine wget hF hw flX2_9 dX2_flip_12 0 rfl rfl ?_
  refine lv_iload_n hx hb dX2_flip_15 rfl (lv_at hl 0 rfl) ?_
  refine r_iald hF hw dX2_flip_16 1 rfl (by omega) (by omega) ?_
  refine r_top (n := B.getD i 0) (h0) ?_
  refine lv_istore (lv' := [(4, .int (nI (B.getD i 0))), (3, .int (nI ((fr + i) % 300))), (0, .ref b), (1, .int (nI i)), (2, .int (nI mk))]) hx hb dX2_flip_17 hl (by decide) rfl (fun ls hl => ?_)
  refine lv_aload_n hx hb dX2_flip_19 rfl (lv_at hl 2 rfl) ?_
  refine wget hF hw flX2_9 dX2_flip_20 0 rfl rfl ?_
  refine lv_iload_n hx hb dX2_flip_23 rfl (lv_at hl 1 rfl) ?_
  refine lv_iload hx hb dX2_flip_24 (lv_at hl 0 rfl) ?_
  refine lv_iload_n hx hb dX2_flip_26 rfl (lv_at hl 4 rfl) ?_
  refine r_ixor hx hb dX2_flip_27 ?_
  refine r_iast (ws' := [(b, .inr (1, [.ref r, .int (nI fr), .int (nI B.length), .int lo])), (r, .inl (g.2.1 0, 300, .inl (upd f ((fr + i) % 300) (nI ((B.getD i 0) ^^^ mk)))))]) hF hw dX2_flip_28 1 rfl (by omega) (by omega) rfl (fun H locs hw => ?_)
  refine lv_iload hx hb dX2_flip_29 (lv_at hl 0 rfl) ?_
  exact RQ.iret hF hr hlk hw dX2_flip_31 ⟨by decide, by decide⟩ ((upd f ((fr + i) % 300) (nI ((B.getD i 0) ^^^ mk)))) (by rw [List.length_set]) ⟨rfl, hR.set hi⟩

set_option maxHeartbeats 4000000 in
set_option maxRecDepth 100000 in
theorem c_X2_carry (l : Launch) (g : GE) (b : Nat) (r : Nat) (fr : Nat) (f : Nat → Int32) (B : List Nat) (lo : Int32) (a : Nat) (q : Nat) (n : Nat) (f9 : Nat → Int32) (M : List Nat) (hR : Rg fr f B) (hn : n ≤ 1000) (hM : M.length ≤ n) (hf9 : Hd f9 M) (hB9 : Bt M) (hrm : B.length + ((escL M).length + 2) ≤ 300) : Ct l yX2_carry cX2_carry 4 none { frames := 1, cells := 0, slots := 0, locals := 21 } g [.ref b, .ref a] [(b, .inr (1, [.ref r, .int (nI fr), .int (nI B.length), .int lo])), (r, .inl (g.2.1 0, 300, .inl f)), (a, .inr (2, [.ref q, .int (nI M.length)])), (q, .inl (g.2.1 0, n, .inl f9))] (fun (v : Option Value) (u : (Nat → Int32)) => v = none ∧ Rg fr u (B ++ ([126] ++ escL M ++ [126]))) (fun u : (Nat → Int32) => [(b, .inr (1, [.ref r, .int (nI fr), .int (nI (B ++ ([126] ++ escL M ++ [126])).length), .int lo])), (r, .inl (g.2.1 0, 300, .inl u)), (a, .inr (2, [.ref q, .int (nI M.length)])), (q, .inl (g.2.1 0, n, .inl f9))]) := by
  refine Ct.of (own := RX2) rfl rfl (Nat.le_of_ble_eq_true rfl) ?_
  intro P0 e0 s m below meth c ls hF hr hlk hnm hw hl
  have hx := hF.1
  have hb := hF.2.1
  have hl : lv_has ls 4 [(0, .ref b), (1, .ref a)] := hl
  have hR1 := hR.1
  have hR2 := hR.2.1
  refine lv_aload_n hx hb dX2_carry_0 rfl (lv_at hl 0 rfl) ?_
  refine lv_bipush (v := nI 126) hx hb dX2_carry_1 (by decide) ?_
  refine Ct.callV (wr := [(a, .inr (2, [.ref q, .int (nI M.length)])), (q, .inl (g.2.1 0, n, .inl f9))]) hF hw (c_X2_append l g b r fr f B lo 126 (by assumption) (by omega)) mwX2_26 [0, 1] [2, 3] rfl rfl rfl rfl (by decide) 0 rfl rfl ⟨by decide, by decide⟩ ⟨by decide, by decide⟩ rfl hl.1 (Nat.le_of_ble_eq_true rfl) rfl dX2_carry_3 (fun v u H locs hp hw => ?_)
  obtain ⟨f2_3, rfl⟩ : ∃ z, z = u := ⟨_, rfl⟩
  obtain ⟨rfl, hp_3⟩ := hp
  try dsimp only at hp_3
  have hw := Wd.sub (ws' := [(b, .inr (1, [.ref r, .int (nI fr), .int (nI (B ++ [126]).length), .int lo])), (r, .inl (g.2.1 0, 300, .inl f2_3)), (a, .inr (2, [.ref q, .int (nI M.length)])), (q, .inl (g.2.1 0, n, .inl f9))]) hw [2, 3, 0, 1] rfl rfl
  refine W.eq (g2 := F0 m 6 ls []) rfl ?_
  refine lv_iconst (v := nI 0) hx hb dX2_carry_6 (by decide) ?_
  refine lv_istore_n (lv' := [(2, .int (nI 0)), (0, .ref b), (1, .ref a)]) hx hb dX2_carry_7 rfl hl (by decide) rfl (fun ls hl => ?_)
  have lp_8 : ∀ (fuel_8 : Nat) (i : Nat) (f3 : Nat → Int32) (H : Heap) (locs : List Loc) (ls : Array Slot), (M.length - i) < fuel_8 → (i ≤ M.length) → (Rg fr f3 (B ++ [126] ++ escL (M.take i))) → Wd g (va_A [(b, .inr (1, [.ref r, .int (nI fr), .int (nI B.length), .int lo])), (r, .inl (g.2.1 0, 300, .inl f)), (a, .inr (2, [.ref q, .int (nI M.length)])), (q, .inl (g.2.1 0, n, .inl f9))] s.heap.size) s H locs [(b, .inr (1, [.ref r, .int (nI fr), .int (nI (B ++ [126] ++ escL (M.take i)).length), .int lo])), (r, .inl (g.2.1 0, 300, .inl f3)), (a, .inr (2, [.ref q, .int (nI M.length)])), (q, .inl (g.2.1 0, n, .inl f9))] → lv_has ls 4 [(0, .ref b), (1, .ref a), (2, .int (nI i))] → W P0 l e0 { frames := 1, cells := 0, slots := 0, locals := 21 } s m ([.ref b, .ref a] : List Value).toArray below meth c H locs 0 0 (RQ below ([.ref b, .ref a] : List Value).toArray s { frames := 1, cells := 0, slots := 0, locals := 21 } g [(b, .inr (1, [.ref r, .int (nI fr), .int (nI B.length), .int lo])), (r, .inl (g.2.1 0, 300, .inl f)), (a, .inr (2, [.ref q, .int (nI M.length)])), (q, .inl (g.2.1 0, n, .inl f9))] (fun (v : Option Value) (u : (Nat → Int32)) => v = none ∧ Rg fr u (B ++ ([126] ++ escL M ++ [126]))) (fun u : (Nat → Int32) => [(b, .inr (1, [.ref r, .int (nI fr), .int (nI (B ++ ([126] ++ escL M ++ [126])).length), .int lo])), (r, .inl (g.2.1 0, 300, .inl u)), (a, .inr (2, [.ref q, .int (nI M.length)])), (q, .inl (g.2.1 0, n, .inl f9))])) (F0 m 8 ls []) := by
    intro fuel_8
    induction fuel_8 with
    | zero => intro i f3 H locs ls hm_8; exact absurd hm_8 (Nat.not_lt_zero _)
    | succ fuel_8 ih_8 =>
      intro i f3 H locs ls hm_8 hi hR3 hw hl
      have hRl := hR3.2.1
      have hBi := hB9.get i
      have hel : (escL (M.take i)).length + (escL (M.drop i)).length = (escL M).length := by rw [← List.length_append, show escL (M.take i) ++ escL (M.drop i) = escL M by rw [escL, escL, escL, ← List.flatMap_append, List.take_append_drop]]
      have hdl := escL_le (M.drop i)
      rw [List.length_drop] at hdl
      refine lv_iload_n hx hb dX2_carry_8 rfl (lv_at hl 2 rfl) ?_
      refine lv_aload_n hx hb dX2_carry_9 rfl (lv_at hl 1 rfl) ?_
      refine wget hF hw flX2_29 dX2_carry_10 2 rfl rfl ?_
      refine r_ge (tgt := 58) hx hb dX2_carry_13 (by decide) (by omega) (by omega) (fun c_13 => ?_) (fun c_13 => ?_)
      · refine lv_aload_n hx hb dX2_carry_58 rfl (lv_at hl 0 rfl) ?_
        refine lv_bipush (v := nI 126) hx hb dX2_carry_59 (by decide) ?_
        refine Ct.callV (wr := [(a, .inr (2, [.ref q, .int (nI M.length)])), (q, .inl (g.2.1 0, n, .inl f9))]) hF hw (c_X2_append l g b r fr f3 (B ++ [126] ++ escL (M.take i)) lo 126 (hR3) (by simp only [List.length_append, List.length_cons, List.length_nil]; omega)) mwX2_26 [0, 1] [2, 3] rfl rfl rfl rfl (by decide) 0 rfl rfl ⟨by decide, by decide⟩ ⟨by decide, by decide⟩ rfl hl.1 (Nat.le_of_ble_eq_true rfl) rfl dX2_carry_61 (fun v u H locs hp hw => ?_)
        obtain ⟨f2_61, rfl⟩ : ∃ z, z = u := ⟨_, rfl⟩
        obtain ⟨rfl, hp_61⟩ := hp
        try dsimp only at hp_61
        have hw := Wd.sub (ws' := [(b, .inr (1, [.ref r, .int (nI fr), .int (nI ((B ++ [126] ++ escL (M.take i)) ++ [126]).length), .int lo])), (r, .inl (g.2.1 0, 300, .inl f2_61)), (a, .inr (2, [.ref q, .int (nI M.length)])), (q, .inl (g.2.1 0, n, .inl f9))]) hw [2, 3, 0, 1] rfl rfl
        refine W.eq (g2 := F0 m 64 ls []) rfl ?_
        have e9 : B ++ [126] ++ escL (M.take i) ++ [126] = B ++ ([126] ++ escL M ++ [126]) := by rw [show i = M.length by omega, List.take_length]; simp
        rw [e9] at hw hp_61
        exact RQ.vret hF hr hlk hw dX2_carry_64 ⟨by decide, by decide⟩ ((f2_61)) (rfl) ⟨rfl, hp_61⟩
      · refine lv_aload_n hx hb dX2_carry_16 rfl (lv_at hl 1 rfl) ?_
        refine wget hF hw flX2_32 dX2_carry_17 2 rfl rfl ?_
        refine lv_iload_n hx hb dX2_carry_20 rfl (lv_at hl 2 rfl) ?_
        refine r_iald hF hw dX2_carry_21 3 rfl (by omega) (by omega) ?_
        refine r_top (n := M.getD i 0) (hf9 i (by omega)) ?_
        refine lv_istore_n (lv' := [(3, .int (nI (M.getD i 0))), (0, .ref b), (1, .ref a), (2, .int (nI i))]) hx hb dX2_carry_22 rfl hl (by decide) rfl (fun ls hl => ?_)
        refine lv_iload_n hx hb dX2_carry_23 rfl (lv_at hl 0 rfl) ?_
        refine Ct.callS (wr := [(b, .inr (1, [.ref r, .int (nI fr), .int (nI (B ++ [126] ++ escL (M.take i)).length), .int lo])), (r, .inl (g.2.1 0, 300, .inl f3)), (a, .inr (2, [.ref q, .int (nI M.length)])), (q, .inl (g.2.1 0, n, .inl f9))]) hF hw (c_X3_needsEscape l g (M.getD i 0) (by omega)) mwX2_33 [] [0, 1, 2, 3] rfl rfl rfl rfl (by decide) ⟨by decide, by decide⟩ ⟨by decide, by decide⟩ rfl hl.1 (Nat.le_of_ble_eq_true rfl) rfl dX2_carry_24 (fun v u H locs hp hw => ?_)
        obtain ⟨rfl, hp_24⟩ := hp
        have hw := Wd.sub (ws' := [(b, .inr (1, [.ref r, .int (nI fr), .int (nI (B ++ [126] ++ escL (M.take i)).length), .int lo])), (r, .inl (g.2.1 0, 300, .inl f3)), (a, .inr (2, [.ref q, .int (nI M.length)])), (q, .inl (g.2.1 0, n, .inl f9))]) hw [0, 1, 2, 3] rfl rfl
        refine W.eq (g2 := F0 m 27 ls [.int (nI (decide ((M.getD i 0) = 125 ∨ (M.getD i 0) = 126)).toNat)]) rfl ?_
        have hbl := b_lt (decide (M.getD i 0 = 125 ∨ M.getD i 0 = 126))
        refine r_eq0 (tgt := 47) hx hb dX2_carry_27 (by decide) (by omega) (fun c_27 => ?_) (fun c_27 => ?_)
        · refine lv_aload_n hx hb dX2_carry_47 rfl (lv_at hl 1 rfl) ?_
          refine lv_iload_n hx hb dX2_carry_48 rfl (lv_at hl 0 rfl) ?_
          refine Ct.callV (wr := [(a, .inr (2, [.ref q, .int (nI M.length)])), (q, .inl (g.2.1 0, n, .inl f9))]) hF hw (c_X2_append l g b r fr f3 (B ++ [126] ++ escL (M.take i)) lo (M.getD i 0) (hR3) (by simp only [List.length_append, List.length_cons, List.length_nil]; omega)) mwX2_26 [0, 1] [2, 3] rfl rfl rfl rfl (by decide) 0 rfl rfl ⟨by decide, by decide⟩ ⟨by decide, by decide⟩ rfl hl.1 (Nat.le_of_ble_eq_true rfl) rfl dX2_carry_49 (fun v u H locs hp hw => ?_)
          obtain ⟨f2_49, rfl⟩ : ∃ z, z = u := ⟨_, rfl⟩
          obtain ⟨rfl, hp_49⟩ := hp
          try dsimp only at hp_49
          have hw := Wd.sub (ws' := [(b, .inr (1, [.ref r, .int (nI fr), .int (nI ((B ++ [126] ++ escL (M.take i)) ++ [(M.getD i 0)]).length), .int lo])), (r, .inl (g.2.1 0, 300, .inl f2_49)), (a, .inr (2, [.ref q, .int (nI M.length)])), (q, .inl (g.2.1 0, n, .inl f9))]) hw [2, 3, 0, 1] rfl rfl
          refine W.eq (g2 := F0 m 52 ls []) rfl ?_
          refine r_iinc (k := 3) (d := 1) (lv' := [(2, .int (nI (i + 1))), (3, .int (nI (M.getD i 0))), (0, .ref b), (1, .ref a)]) hx hb dX2_carry_52 hl rfl (by decide) (by decide) rfl (fun ls hl => ?_)
          refine lv_goto (tgt := 8) hx hb dX2_carry_55 (by decide) ?_
          have e9 : B ++ [126] ++ escL (M.take i) ++ [M.getD i 0] = B ++ [126] ++ escL (M.take (i + 1)) := by rw [take_succD (by omega), escL_snoc, escB_len_f (dz c_27)]; simp
          rw [e9] at hw hp_49
          exact ih_8 (i + 1) f2_49 _ _ _ (by omega) (by omega) (by first | exact hp_41 | exact hp_49) hw (lv_sub hl [2, 3, 0] rfl)
        · refine lv_aload_n hx hb dX2_carry_30 rfl (lv_at hl 1 rfl) ?_
          refine lv_bipush (v := nI 125) hx hb dX2_carry_31 (by decide) ?_
          refine Ct.callV (wr := [(a, .inr (2, [.ref q, .int (nI M.length)])), (q, .inl (g.2.1 0, n, .inl f9))]) hF hw (c_X2_append l g b r fr f3 (B ++ [126] ++ escL (M.take i)) lo 125 (hR3) (by simp only [List.length_append, List.length_cons, List.length_nil]; omega)) mwX2_26 [0, 1] [2, 3] rfl rfl rfl rfl (by decide) 0 rfl rfl ⟨by decide, by decide⟩ ⟨by decide, by decide⟩ rfl hl.1 (Nat.le_of_ble_eq_true rfl) rfl dX2_carry_33 (fun v u H locs hp hw => ?_)
          obtain ⟨f2_33, rfl⟩ : ∃ z, z = u := ⟨_, rfl⟩
          obtain ⟨rfl, hp_33⟩ := hp
          try dsimp only at hp_33
          have hw := Wd.sub (ws' := [(b, .inr (1, [.ref r, .int (nI fr), .int (nI ((B ++ [126] ++ escL (M.take i)) ++ [125]).length), .int lo])), (r, .inl (g.2.1 0, 300, .inl f2_33)), (a, .inr (2, [.ref q, .int (nI M.length)])), (q, .inl (g.2.1 0, n, .inl f9))]) hw [2, 3, 0, 1] rfl rfl
          refine W.eq (g2 := F0 m 36 ls []) rfl ?_
          refine lv_aload_n hx hb dX2_carry_36 rfl (lv_at hl 1 rfl) ?_
          refine lv_iload_n hx hb dX2_carry_37 rfl (lv_at hl 0 rfl) ?_
          refine lv_bipush (v := nI 32) hx hb dX2_carry_38 (by decide) ?_
          refine r_ixor hx hb dX2_carry_40 ?_
          refine Ct.callV (wr := [(a, .inr (2, [.ref q, .int (nI M.length)])), (q, .inl (g.2.1 0, n, .inl f9))]) hF hw (c_X2_append l g b r fr f2_33 ((B ++ [126] ++ escL (M.take i)) ++ [125]) lo ((M.getD i 0) ^^^ 32) (hp_33) (by have h1 := escL_dropc (show i < M.length by omega); rw [escB_len_t (dnz c_27)] at h1; simp only [List.length_append, List.length_cons, List.length_nil] at h1 ⊢; omega)) mwX2_26 [0, 1] [2, 3] rfl rfl rfl rfl (by decide) 0 rfl rfl ⟨by decide, by decide⟩ ⟨by decide, by decide⟩ rfl hl.1 (Nat.le_of_ble_eq_true rfl) rfl dX2_carry_41 (fun v u H locs hp hw => ?_)
          obtain ⟨f2_41, rfl⟩ : ∃ z, z = u := ⟨_, rfl⟩
          obtain ⟨rfl, hp_41⟩ := hp
          try dsimp only at hp_41
          have hw := Wd.sub (ws' := [(b, .inr (1, [.ref r, .int (nI fr), .int (nI (((B ++ [126] ++ escL (M.take i)) ++ [125]) ++ [((M.getD i 0) ^^^ 32)]).length), .int lo])), (r, .inl (g.2.1 0, 300, .inl f2_41)), (a, .inr (2, [.ref q, .int (nI M.length)])), (q, .inl (g.2.1 0, n, .inl f9))]) hw [2, 3, 0, 1] rfl rfl
          refine W.eq (g2 := F0 m 44 ls []) rfl ?_
          refine lv_goto (tgt := 52) hx hb dX2_carry_44 (by decide) ?_
          refine r_iinc (k := 3) (d := 1) (lv' := [(2, .int (nI (i + 1))), (3, .int (nI (M.getD i 0))), (0, .ref b), (1, .ref a)]) hx hb dX2_carry_52 hl rfl (by decide) (by decide) rfl (fun ls hl => ?_)
          refine lv_goto (tgt := 8) hx hb dX2_carry_55 (by decide) ?_
          have e9 : B ++ [126] ++ escL (M.take i) ++ [125] ++ [M.getD i 0 ^^^ 32] = B ++ [126] ++ escL (M.take (i + 1)) := by rw [take_succD (by omega), escL_snoc, escB_len_t (dnz c_27)]; simp
          rw [e9] at hw hp_41
          exact ih_8 (i + 1) f2_41 _ _ _ (by omega) (by omega) (by first | exact hp_41 | exact hp_49) hw (lv_sub hl [2, 3, 0] rfl)
  have e0 : B ++ [126] = B ++ [126] ++ escL (M.take 0) := by simp [escL]
  rw [e0] at hw hp_3
  exact lp_8 _ 0 f2_3 _ _ _ (Nat.lt_succ_self _) (by omega) (hp_3) hw (lv_sub hl [1, 2, 0] rfl)
