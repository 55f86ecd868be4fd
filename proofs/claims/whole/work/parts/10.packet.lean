set_option maxHeartbeats 4000000 in
set_option maxRecDepth 100000 in
theorem c_X3_add (l : Launch) (g : GE) (a : Nat) (r : Nat) (n : Nat) (f : Nat → Int32) (L : List Nat) (b : Int32) (x : Nat) (hn : n ≤ 1000) (hL : L.length < n) (hf : Hd f L) (hx8 : b.toBitVec.toNat % 2 ^ 8 = x) : Ct l yX3_add cX3_add 2 none { frames := 0, cells := 0, slots := 0, locals := 0 } g [.ref a, .int b] [(a, .inr (2, [.ref r, .int (nI L.length)])), (r, .inl (g.2.1 0, n, .inl f))] (fun (v : Option Value) (u : (Nat → Int32)) => v = none ∧ Hd u (L ++ [x])) (fun u : (Nat → Int32) => [(a, .inr (2, [.ref r, .int (nI (L ++ [x]).length)])), (r, .inl (g.2.1 0, n, .inl u))]) := by
  refine Ct.of (own := RX3) rfl rfl (Nat.le_of_ble_eq_true rfl) ?_
  intro P0 e0 s m below meth c ls hF hr hlk hnm hw hl
  have hx := hF.1
  have hb := hF.2.1
  have hl : lv_has ls 2 [(0, .ref a), (1, .int b)] := hl
  refine lv_aload_n hx hb dX3_add_0 rfl (lv_at hl 0 rfl) ?_
  refine wget hF hw flX3_15 dX3_add_1 0 rfl rfl ?_
  refine lv_aload_n hx hb dX3_add_4 rfl (lv_at hl 0 rfl) ?_
  refine wget hF hw flX3_9 dX3_add_5 0 rfl rfl ?_
  refine walen hF hw dX3_add_8 1 rfl ?_
  refine r_ge (tgt := 36) hx hb dX3_add_9 (by decide) (by omega) (by omega) (fun c_9 => ?_) (fun c_9 => ?_)
  · exact absurd c_9 (by omega)
  · refine lv_aload_n hx hb dX3_add_12 rfl (lv_at hl 0 rfl) ?_
    refine wget hF hw flX3_9 dX3_add_13 0 rfl rfl ?_
    refine lv_aload_n hx hb dX3_add_16 rfl (lv_at hl 0 rfl) ?_
    refine wget hF hw flX3_15 dX3_add_17 0 rfl rfl ?_
    refine lv_iload_n hx hb dX3_add_20 rfl (lv_at hl 1 rfl) ?_
    refine lv_sipush (v := nI 255) hx hb dX3_add_21 (by decide) ?_
    refine r_iandX hx hb dX3_add_24 8 (by decide) ?_
    refine r_iast (ws' := [(a, .inr (2, [.ref r, .int (nI L.length)])), (r, .inl (g.2.1 0, n, .inl (upd f L.length (nI (b.toBitVec.toNat % 2 ^ 8)))))]) hF hw dX3_add_25 1 rfl (by omega) (by omega) rfl (fun H locs hw => ?_)
    refine lv_aload_n hx hb dX3_add_26 rfl (lv_at hl 0 rfl) ?_
    refine lv_dup hx hb dX3_add_27 rfl ?_
    refine wget hF hw flX3_15 dX3_add_28 0 rfl rfl ?_
    refine lv_iconst (v := nI 1) hx hb dX3_add_31 (by decide) ?_
    refine r_iadd hx hb dX3_add_32 ?_
    refine r_put (ws' := [(a, .inr (2, [.ref r, .int (nI (L.length + 1))])), (r, .inl (g.2.1 0, n, .inl (upd f L.length (nI (b.toBitVec.toNat % 2 ^ 8)))))]) hF hw flX3_15 ftX3 dX3_add_33 0 rfl rfl rfl rfl (Nat.le_of_ble_eq_true rfl) rfl (fun H locs hw => ?_)
    exact RQ.vret hF hr hlk hw dX3_add_36 ⟨by decide, by decide⟩ ((upd f L.length (nI (b.toBitVec.toNat % 2 ^ 8)))) (by rw [List.length_append]; rfl) ⟨rfl, by rw [hx8]; exact hf.snoc⟩

set_option maxHeartbeats 4000000 in
set_option maxRecDepth 100000 in
theorem c_X3_addF (l : Launch) (g : GE) (a : Nat) (r : Nat) (n : Nat) (f : Nat → Int32) (L : List Nat) (b : Int32) (hn : n ≤ 1000) (hL : L.length = n) : Ct l yX3_add cX3_add 2 none { frames := 0, cells := 0, slots := 0, locals := 0 } g [.ref a, .int b] [(a, .inr (2, [.ref r, .int (nI L.length)])), (r, .inl (g.2.1 0, n, .inl f))] (fun (v : Option Value) (u : Unit) => v = none ∧ True) (fun u : Unit => [(a, .inr (2, [.ref r, .int (nI L.length)])), (r, .inl (g.2.1 0, n, .inl f))]) := by
  refine Ct.of (own := RX3) rfl rfl (Nat.le_of_ble_eq_true rfl) ?_
  intro P0 e0 s m below meth c ls hF hr hlk hnm hw hl
  have hx := hF.1
  have hb := hF.2.1
  have hl : lv_has ls 2 [(0, .ref a), (1, .int b)] := hl
  refine lv_aload_n hx hb dX3_add_0 rfl (lv_at hl 0 rfl) ?_
  refine wget hF hw flX3_15 dX3_add_1 0 rfl rfl ?_
  refine lv_aload_n hx hb dX3_add_4 rfl (lv_at hl 0 rfl) ?_
  refine wget hF hw flX3_9 dX3_add_5 0 rfl rfl ?_
  refine walen hF hw dX3_add_8 1 rfl ?_
  refine r_ge (tgt := 36) hx hb dX3_add_9 (by decide) (by omega) (by omega) (fun c_9 => ?_) (fun c_9 => ?_)
  · exact RQ.vret hF hr hlk hw dX3_add_36 ⟨by decide, by decide⟩ (()) (rfl) ⟨rfl, trivial⟩
  · exact absurd c_9 (by omega)

set_option maxHeartbeats 4000000 in
set_option maxRecDepth 100000 in
theorem c_X3_atO (l : Launch) (g : GE) (a : Nat) (r : Nat) (n : Nat) (f : Nat → Int32) (L : List Nat) (k : Nat) (hn : n ≤ 1000) (hL : L.length ≤ n) (hk : k < 2147483648) (hf : Hd f L) : Ct l yX3_at cX3_at 2 (some .int) { frames := 0, cells := 0, slots := 0, locals := 0 } g [.ref a, .int (nI k)] [(a, .inr (2, [.ref r, .int (nI L.length)])), (r, .inl (g.2.1 0, n, .inl f))] (fun (v : Option Value) (u : Unit) => v = some (.int (atL L k)) ∧ True) (fun u : Unit => [(a, .inr (2, [.ref r, .int (nI L.length)])), (r, .inl (g.2.1 0, n, .inl f))]) := by
  refine Ct.of (own := RX3) rfl rfl (Nat.le_of_ble_eq_true rfl) ?_
  intro P0 e0 s m below meth c ls hF hr hlk hnm hw hl
  have hx := hF.1
  have hb := hF.2.1
  have hl : lv_has ls 2 [(0, .ref a), (1, .int (nI k))] := hl
  refine lv_iload_n hx hb dX3_at_0 rfl (lv_at hl 1 rfl) ?_
  refine r_lt0 (tgt := 21) hx hb dX3_at_1 (by decide) (by omega) (fun c_1 => ?_) (fun c_1 => ?_)
  · exact absurd c_1 id
  · refine lv_iload_n hx hb dX3_at_4 rfl (lv_at hl 1 rfl) ?_
    refine lv_aload_n hx hb dX3_at_5 rfl (lv_at hl 0 rfl) ?_
    refine wget hF hw flX3_15 dX3_at_6 0 rfl rfl ?_
    refine r_ge (tgt := 21) hx hb dX3_at_9 (by decide) (by omega) (by omega) (fun c_9 => ?_) (fun c_9 => ?_)
    · refine lv_iconst (v := -1) hx hb dX3_at_21 (by decide) ?_
      exact RQ.iret hF hr hlk hw dX3_at_22 ⟨by decide, by decide⟩ (()) (rfl) ⟨by rw [atL_out (by omega)], trivial⟩
    · refine lv_aload_n hx hb dX3_at_12 rfl (lv_at hl 0 rfl) ?_
      refine wget hF hw flX3_9 dX3_at_13 0 rfl rfl ?_
      refine lv_iload_n hx hb dX3_at_16 rfl (lv_at hl 1 rfl) ?_
      refine r_iald hF hw dX3_at_17 1 rfl (by omega) (by omega) ?_
      refine lv_goto (tgt := 22) hx hb dX3_at_18 (by decide) ?_
      exact RQ.iret hF hr hlk hw dX3_at_22 ⟨by decide, by decide⟩ (()) (rfl) ⟨by rw [atL_in (by omega), hf k (by omega)], trivial⟩

set_option maxHeartbeats 4000000 in
set_option maxRecDepth 100000 in
theorem c_X3_at (l : Launch) (g : GE) (a : Nat) (r : Nat) (n : Nat) (f : Nat → Int32) (L : List Nat) (k : Nat) (hn : n ≤ 1000) (hL : L.length ≤ n) (hk : k < L.length) (hf : Hd f L) : Ct l yX3_at cX3_at 2 (some .int) { frames := 0, cells := 0, slots := 0, locals := 0 } g [.ref a, .int (nI k)] [(a, .inr (2, [.ref r, .int (nI L.length)])), (r, .inl (g.2.1 0, n, .inl f))] (fun (v : Option Value) (u : Unit) => v = some (.int (nI (L.getD k 0))) ∧ True) (fun u : Unit => [(a, .inr (2, [.ref r, .int (nI L.length)])), (r, .inl (g.2.1 0, n, .inl f))]) := by
  refine Ct.of (own := RX3) rfl rfl (Nat.le_of_ble_eq_true rfl) ?_
  intro P0 e0 s m below meth c ls hF hr hlk hnm hw hl
  have hx := hF.1
  have hb := hF.2.1
  have hl : lv_has ls 2 [(0, .ref a), (1, .int (nI k))] := hl
  refine lv_iload_n hx hb dX3_at_0 rfl (lv_at hl 1 rfl) ?_
  refine r_lt0 (tgt := 21) hx hb dX3_at_1 (by decide) (by omega) (fun c_1 => ?_) (fun c_1 => ?_)
  · exact absurd c_1 id
  · refine lv_iload_n hx hb dX3_at_4 rfl (lv_at hl 1 rfl) ?_
    refine lv_aload_n hx hb dX3_at_5 rfl (lv_at hl 0 rfl) ?_
    refine wget hF hw flX3_15 dX3_at_6 0 rfl rfl ?_
    refine r_ge (tgt := 21) hx hb dX3_at_9 (by decide) (by omega) (by omega) (fun c_9 => ?_) (fun c_9 => ?_)
    · exact absurd c_9 (by omega)
    · refine lv_aload_n hx hb dX3_at_12 rfl (lv_at hl 0 rfl) ?_
      refine wget hF hw flX3_9 dX3_at_13 0 rfl rfl ?_
      refine lv_iload_n hx hb dX3_at_16 rfl (lv_at hl 1 rfl) ?_
      refine r_iald hF hw dX3_at_17 1 rfl (by omega) (by omega) ?_
      refine lv_goto (tgt := 22) hx hb dX3_at_18 (by decide) ?_
      exact RQ.iret hF hr hlk hw dX3_at_22 ⟨by decide, by decide⟩ (()) (rfl) ⟨by rw [hf k (by omega)], trivial⟩

set_option maxHeartbeats 4000000 in
set_option maxRecDepth 100000 in
theorem c_X3_pairAt (l : Launch) (g : GE) (a : Nat) (r : Nat) (n : Nat) (f : Nat → Int32) (L : List Nat) (k : Nat) (hn : n ≤ 1000) (hL : L.length ≤ n) (hk : k + 1 < L.length) (hf : Hd f L) : Ct l yX3_pairAt cX3_pairAt 2 (some .int) { frames := 0, cells := 0, slots := 0, locals := 0 } g [.ref a, .int (nI k)] [(a, .inr (2, [.ref r, .int (nI L.length)])), (r, .inl (g.2.1 0, n, .inl f))] (fun (v : Option Value) (u : Unit) => v = some (.int (nI (L.getD k 0 * 256 + L.getD (k + 1) 0))) ∧ True) (fun u : Unit => [(a, .inr (2, [.ref r, .int (nI L.length)])), (r, .inl (g.2.1 0, n, .inl f))]) := by
  refine Ct.of (own := RX3) rfl rfl (Nat.le_of_ble_eq_true rfl) ?_
  intro P0 e0 s m below meth c ls hF hr hlk hnm hw hl
  have hx := hF.1
  have hb := hF.2.1
  have hl : lv_has ls 2 [(0, .ref a), (1, .int (nI k))] := hl
  refine lv_iload_n hx hb dX3_pairAt_0 rfl (lv_at hl 1 rfl) ?_
  refine r_lt0 (tgt := 36) hx hb dX3_pairAt_1 (by decide) (by omega) (fun c_1 => ?_) (fun c_1 => ?_)
  · exact absurd c_1 id
  · refine lv_iload_n hx hb dX3_pairAt_4 rfl (lv_at hl 1 rfl) ?_
    refine lv_iconst (v := nI 1) hx hb dX3_pairAt_5 (by decide) ?_
    refine r_iadd hx hb dX3_pairAt_6 ?_
    refine lv_aload_n hx hb dX3_pairAt_7 rfl (lv_at hl 0 rfl) ?_
    refine wget hF hw flX3_15 dX3_pairAt_8 0 rfl rfl ?_
    refine r_ge (tgt := 36) hx hb dX3_pairAt_11 (by decide) (by omega) (by omega) (fun c_11 => ?_) (fun c_11 => ?_)
    · exact absurd c_11 (by omega)
    · refine lv_aload_n hx hb dX3_pairAt_14 rfl (lv_at hl 0 rfl) ?_
      refine wget hF hw flX3_9 dX3_pairAt_15 0 rfl rfl ?_
      refine lv_iload_n hx hb dX3_pairAt_18 rfl (lv_at hl 1 rfl) ?_
      refine r_iald hF hw dX3_pairAt_19 1 rfl (by omega) (by omega) ?_
      refine r_top (n := L.getD k 0) (hf k (by omega)) ?_
      refine lv_sipush (v := nI 256) hx hb dX3_pairAt_20 (by decide) ?_
      refine r_imul hx hb dX3_pairAt_23 ?_
      refine lv_aload_n hx hb dX3_pairAt_24 rfl (lv_at hl 0 rfl) ?_
      refine wget hF hw flX3_9 dX3_pairAt_25 0 rfl rfl ?_
      refine lv_iload_n hx hb dX3_pairAt_28 rfl (lv_at hl 1 rfl) ?_
      refine lv_iconst (v := nI 1) hx hb dX3_pairAt_29 (by decide) ?_
      refine r_iadd hx hb dX3_pairAt_30 ?_
      refine r_iald hF hw dX3_pairAt_31 1 rfl (by omega) (by omega) ?_
      refine r_top (n := L.getD (k + 1) 0) (hf (k + 1) (by omega)) ?_
      refine r_iadd hx hb dX3_pairAt_32 ?_
      refine lv_goto (tgt := 37) hx hb dX3_pairAt_33 (by decide) ?_
      exact RQ.iret hF hr hlk hw dX3_pairAt_37 ⟨by decide, by decide⟩ (()) (rfl) ⟨rfl, trivial⟩

set_option maxHeartbeats 4000000 in
set_option maxRecDepth 100000 in
theorem c_X3_numberAt (l : Launch) (g : GE) (a : Nat) (r : Nat) (n : Nat) (f : Nat → Int32) (L : List Nat) (k : Nat) (hn : n ≤ 1000) (hL : L.length ≤ n) (hk : k + 3 < L.length) (hf : Hd f L) : Ct l yX3_numberAt cX3_numberAt 2 (some .int) { frames := 0, cells := 0, slots := 0, locals := 0 } g [.ref a, .int (nI k)] [(a, .inr (2, [.ref r, .int (nI L.length)])), (r, .inl (g.2.1 0, n, .inl f))] (fun (v : Option Value) (u : Unit) => v = some (.int (n4 L k)) ∧ True) (fun u : Unit => [(a, .inr (2, [.ref r, .int (nI L.length)])), (r, .inl (g.2.1 0, n, .inl f))]) := by
  refine Ct.of (own := RX3) rfl rfl (Nat.le_of_ble_eq_true rfl) ?_
  intro P0 e0 s m below meth c ls hF hr hlk hnm hw hl
  have hx := hF.1
  have hb := hF.2.1
  have hl : lv_has ls 2 [(0, .ref a), (1, .int (nI k))] := hl
  refine lv_iload_n hx hb dX3_numberAt_0 rfl (lv_at hl 1 rfl) ?_
  refine r_lt0 (tgt := 14) hx hb dX3_numberAt_1 (by decide) (by omega) (fun c_1 => ?_) (fun c_1 => ?_)
  · exact absurd c_1 id
  · refine lv_iload_n hx hb dX3_numberAt_4 rfl (lv_at hl 1 rfl) ?_
    refine lv_iconst (v := nI 3) hx hb dX3_numberAt_5 (by decide) ?_
    refine r_iadd hx hb dX3_numberAt_6 ?_
    refine lv_aload_n hx hb dX3_numberAt_7 rfl (lv_at hl 0 rfl) ?_
    refine wget hF hw flX3_15 dX3_numberAt_8 0 rfl rfl ?_
    refine r_lt (tgt := 16) hx hb dX3_numberAt_11 (by decide) (by omega) (by omega) (fun c_11 => ?_) (fun c_11 => ?_)
    · refine lv_aload_n hx hb dX3_numberAt_16 rfl (lv_at hl 0 rfl) ?_
      refine wget hF hw flX3_9 dX3_numberAt_17 0 rfl rfl ?_
      refine lv_iload_n hx hb dX3_numberAt_20 rfl (lv_at hl 1 rfl) ?_
      refine r_iald hF hw dX3_numberAt_21 1 rfl (by omega) (by omega) ?_
      refine r_top (n := L.getD k 0) (hf k (by omega)) ?_
      refine lv_bipush (v := nI 24) hx hb dX3_numberAt_22 (by decide) ?_
      refine lv_ishl hx hb dX3_numberAt_24 ?_
      refine lv_aload_n hx hb dX3_numberAt_25 rfl (lv_at hl 0 rfl) ?_
      refine wget hF hw flX3_9 dX3_numberAt_26 0 rfl rfl ?_
      refine lv_iload_n hx hb dX3_numberAt_29 rfl (lv_at hl 1 rfl) ?_
      refine lv_iconst (v := nI 1) hx hb dX3_numberAt_30 (by decide) ?_
      refine r_iadd hx hb dX3_numberAt_31 ?_
      refine r_iald hF hw dX3_numberAt_32 1 rfl (by omega) (by omega) ?_
      refine r_top (n := L.getD (k + 1) 0) (hf (k + 1) (by omega)) ?_
      refine lv_bipush (v := nI 16) hx hb dX3_numberAt_33 (by decide) ?_
      refine lv_ishl hx hb dX3_numberAt_35 ?_
      refine lv_ior hx hb dX3_numberAt_36 ?_
      refine lv_aload_n hx hb dX3_numberAt_37 rfl (lv_at hl 0 rfl) ?_
      refine wget hF hw flX3_9 dX3_numberAt_38 0 rfl rfl ?_
      refine lv_iload_n hx hb dX3_numberAt_41 rfl (lv_at hl 1 rfl) ?_
      refine lv_iconst (v := nI 2) hx hb dX3_numberAt_42 (by decide) ?_
      refine r_iadd hx hb dX3_numberAt_43 ?_
      refine r_iald hF hw dX3_numberAt_44 1 rfl (by omega) (by omega) ?_
      refine r_top (n := L.getD (k + 2) 0) (hf (k + 2) (by omega)) ?_
      refine lv_bipush (v := nI 8) hx hb dX3_numberAt_45 (by decide) ?_
      refine lv_ishl hx hb dX3_numberAt_47 ?_
      refine lv_ior hx hb dX3_numberAt_48 ?_
      refine lv_aload_n hx hb dX3_numberAt_49 rfl (lv_at hl 0 rfl) ?_
      refine wget hF hw flX3_9 dX3_numberAt_50 0 rfl rfl ?_
      refine lv_iload_n hx hb dX3_numberAt_53 rfl (lv_at hl 1 rfl) ?_
      refine lv_iconst (v := nI 3) hx hb dX3_numberAt_54 (by decide) ?_
      refine r_iadd hx hb dX3_numberAt_55 ?_
      refine r_iald hF hw dX3_numberAt_56 1 rfl (by omega) (by omega) ?_
      refine r_top (n := L.getD (k + 3) 0) (hf (k + 3) (by omega)) ?_
      refine lv_ior hx hb dX3_numberAt_57 ?_
      exact RQ.iret hF hr hlk hw dX3_numberAt_58 ⟨by decide, by decide⟩ (()) (rfl) ⟨rfl, trivial⟩
    · exact absurd c_11 (by omega)

set_option maxHeartbeats 4000000 in
set_option maxRecDepth 100000 in
theorem c_X3_end (l : Launch) (g : GE) (a : Nat) (r : Nat) (n : Nat) (f : Nat → Int32) (L : List Nat) (hn : n ≤ 1000) (hL : L.length ≤ n) (h2 : 2 ≤ L.length) : Ct l yX3_end cX3_end 1 (some .int) { frames := 0, cells := 0, slots := 0, locals := 0 } g [.ref a] [(a, .inr (2, [.ref r, .int (nI L.length)])), (r, .inl (g.2.1 0, n, .inl f))] (fun (v : Option Value) (u : Unit) => v = some (.int (nI (L.length - 2))) ∧ True) (fun u : Unit => [(a, .inr (2, [.ref r, .int (nI L.length)])), (r, .inl (g.2.1 0, n, .inl f))]) := by
  refine Ct.of (own := RX3) rfl rfl (Nat.le_of_ble_eq_true rfl) ?_
  intro P0 e0 s m below meth c ls hF hr hlk hnm hw hl
  have hx := hF.1
  have hb := hF.2.1
  have hl : lv_has ls 1 [(0, .ref a)] := hl
  refine lv_aload_n hx hb dX3_end_0 rfl (lv_at hl 0 rfl) ?_
  refine wget hF hw flX3_15 dX3_end_1 0 rfl rfl ?_
  refine lv_iconst (v := nI 2) hx hb dX3_end_4 (by decide) ?_
  refine r_isub hx hb dX3_end_5 (by omega) ?_
  exact RQ.iret hF hr hlk hw dX3_end_6 ⟨by decide, by decide⟩ (()) (rfl) ⟨rfl, trivial⟩

set_option maxHeartbeats 4000000 in
set_option maxRecDepth 100000 in
theorem c_X3_endR (l : Launch) (g : GE) (a : Nat) (r : Nat) (n : Nat) (f : Nat → Int32) (L : List Nat)  : Ct l yX3_end cX3_end 1 (some .int) { frames := 0, cells := 0, slots := 0, locals := 0 } g [.ref a] [(a, .inr (2, [.ref r, .int (nI L.length)])), (r, .inl (g.2.1 0, n, .inl f))] (fun (v : Option Value) (u : Unit) => v = some (.int (nI L.length - nI 2)) ∧ True) (fun u : Unit => [(a, .inr (2, [.ref r, .int (nI L.length)])), (r, .inl (g.2.1 0, n, .inl f))]) := by
  refine Ct.of (own := RX3) rfl rfl (Nat.le_of_ble_eq_true rfl) ?_
  intro P0 e0 s m below meth c ls hF hr hlk hnm hw hl
  have hx := hF.1
  have hb := hF.2.1
  have hl : lv_has ls 1 [(0, .ref a)] := hl
  refine lv_aload_n hx hb dX3_end_0 rfl (lv_at hl 0 rfl) ?_
  refine wget hF hw flX3_15 dX3_end_1 0 rfl rfl ?_
  refine lv_iconst (v := nI 2) hx hb dX3_end_4 (by decide) ?_
  refine lv_isub hx hb dX3_end_5 ?_
  exact RQ.iret hF hr hlk hw dX3_end_6 ⟨by decide, by decide⟩ (()) (rfl) ⟨rfl, trivial⟩

set_option maxHeartbeats 4000000 in
set_option maxRecDepth 100000 in
theorem c_X3_needsEscape (l : Launch) (g : GE) (b : Nat) (hb2 : b < 2147483648) : Ct l yX3_needsEscape cX3_needsEscape 1 (some .boolean) { frames := 0, cells := 0, slots := 0, locals := 0 } g [.int (nI b)] [] (fun (v : Option Value) (u : Unit) => v = some (.int (nI (decide (b = 125 ∨ b = 126)).toNat)) ∧ True) (fun u : Unit => []) := by
  refine Ct.of (own := RX3) rfl rfl (Nat.le_of_ble_eq_true rfl) ?_
  intro P0 e0 s m below meth c ls hF hr hlk hnm hw hl
  have hx := hF.1
  have hb := hF.2.1
  have hl : lv_has ls 1 [(0, .int (nI b))] := hl
  refine lv_iload_n hx hb dX3_needsEscape_0 rfl (lv_at hl 0 rfl) ?_
  refine lv_bipush (v := nI 125) hx hb dX3_needsEscape_1 (by decide) ?_
  refine r_eq (tgt := 12) hx hb dX3_needsEscape_3 (by decide) (by omega) (by omega) (fun c_3 => ?_) (fun c_3 => ?_)
  · refine lv_iconst (v := nI 1) hx hb dX3_needsEscape_12 (by decide) ?_
    refine lv_goto (tgt := 17) hx hb dX3_needsEscape_13 (by decide) ?_
    exact RQ.zret hF hr hlk hw dX3_needsEscape_17 (rfl) ⟨by decide, by decide⟩ (()) (rfl) ⟨by first | exact rbt (decide_eq_true (by omega)) | exact rbf (decide_eq_false (by omega)), trivial⟩
  · refine lv_iload_n hx hb dX3_needsEscape_6 rfl (lv_at hl 0 rfl) ?_
    refine lv_bipush (v := nI 126) hx hb dX3_needsEscape_7 (by decide) ?_
    refine r_ne (tgt := 16) hx hb dX3_needsEscape_9 (by decide) (by omega) (by omega) (fun c_9 => ?_) (fun c_9 => ?_)
    · refine lv_iconst (v := nI 0) hx hb dX3_needsEscape_16 (by decide) ?_
      exact RQ.zret hF hr hlk hw dX3_needsEscape_17 (rfl) ⟨by decide, by decide⟩ (()) (rfl) ⟨by first | exact rbt (decide_eq_true (by omega)) | exact rbf (decide_eq_false (by omega)), trivial⟩
    · refine lv_iconst (v := nI 1) hx hb dX3_needsEscape_12 (by decide) ?_
      refine lv_goto (tgt := 17) hx hb dX3_needsEscape_13 (by decide) ?_
      exact RQ.zret hF hr hlk hw dX3_needsEscape_17 (rfl) ⟨by decide, by decide⟩ (()) (rfl) ⟨by first | exact rbt (decide_eq_true (by omega)) | exact rbf (decide_eq_false (by omega)), trivial⟩

set_option maxHeartbeats 4000000 in
set_option maxRecDepth 100000 in
theorem c_X3_optionLength (l : Launch) (g : GE) (b : Nat) (hb2 : b < 2147483648) : Ct l yX3_optionLength cX3_optionLength 1 (some .int) { frames := 0, cells := 0, slots := 0, locals := 0 } g [.int (nI b)] [] (fun (v : Option Value) (u : Unit) => v = some (.int (nI (optLen b))) ∧ True) (fun u : Unit => []) := by
  refine Ct.of (own := RX3) rfl rfl (Nat.le_of_ble_eq_true rfl) ?_
  intro P0 e0 s m below meth c ls hF hr hlk hnm hw hl
  have hx := hF.1
  have hb := hF.2.1
  have hl : lv_has ls 1 [(0, .int (nI b))] := hl
  refine lv_iload_n hx hb dX3_optionLength_0 rfl (lv_at hl 0 rfl) ?_
  refine lv_iconst (v := nI 1) hx hb dX3_optionLength_1 (by decide) ?_
  refine r_ne (tgt := 7) hx hb dX3_optionLength_2 (by decide) (by omega) (by omega) (fun c_2 => ?_) (fun c_2 => ?_)
  · refine lv_iload_n hx hb dX3_optionLength_7 rfl (lv_at hl 0 rfl) ?_
    refine lv_iconst (v := nI 5) hx hb dX3_optionLength_8 (by decide) ?_
    refine r_ne (tgt := 16) hx hb dX3_optionLength_9 (by decide) (by omega) (by omega) (fun c_9 => ?_) (fun c_9 => ?_)
    · refine lv_iconst (v := nI 2) hx hb dX3_optionLength_16 (by decide) ?_
      exact RQ.iret hF hr hlk hw dX3_optionLength_17 ⟨by decide, by decide⟩ (()) (rfl) ⟨by unfold optLen; first | rw [if_pos (by omega)] | rw [if_neg (by omega), if_pos (by omega)] | rw [if_neg (by omega), if_neg (by omega)], trivial⟩
    · refine lv_iconst (v := nI 5) hx hb dX3_optionLength_12 (by decide) ?_
      refine lv_goto (tgt := 17) hx hb dX3_optionLength_13 (by decide) ?_
      exact RQ.iret hF hr hlk hw dX3_optionLength_17 ⟨by decide, by decide⟩ (()) (rfl) ⟨by unfold optLen; first | rw [if_pos (by omega)] | rw [if_neg (by omega), if_pos (by omega)] | rw [if_neg (by omega), if_neg (by omega)], trivial⟩
  · refine lv_iconst (v := nI 3) hx hb dX3_optionLength_5 (by decide) ?_
    exact RQ.iret hF hr hlk hw dX3_optionLength_6 ⟨by decide, by decide⟩ (()) (rfl) ⟨by unfold optLen; first | rw [if_pos (by omega)] | rw [if_neg (by omega), if_pos (by omega)] | rw [if_neg (by omega), if_neg (by omega)], trivial⟩

set_option maxHeartbeats 4000000 in
set_option maxRecDepth 100000 in
theorem c_X3_code (l : Launch) (g : GE) (a : Nat) (r : Nat) (n : Nat) (f : Nat → Int32) (L : List Nat) (hn : n ≤ 1000) (hL : L.length ≤ n) (h2 : 2 ≤ L.length) (hf : Hd f L) (hB : Bt L) : Ct l yX3_code cX3_code 1 (some .int) { frames := 1, cells := 0, slots := 0, locals := 21 } g [.ref a] [(a, .inr (2, [.ref r, .int (nI L.length)])), (r, .inl (g.2.1 0, n, .inl f))] (fun (v : Option Value) (u : Unit) => v = some (.int (codeL L)) ∧ True) (fun u : Unit => [(a, .inr (2, [.ref r, .int (nI L.length)])), (r, .inl (g.2.1 0, n, .inl f))]) := by
  refine Ct.of (own := RX3) rfl rfl (Nat.le_of_ble_eq_true rfl) ?_
  intro P0 e0 s m below meth c ls hF hr hlk hnm hw hl
  have hx := hF.1
  have hb := hF.2.1
  have hl : lv_has ls 1 [(0, .ref a)] := hl
  have hB0 := hB.get 0
  refine lv_aload_n hx hb dX3_code_0 rfl (lv_at hl 0 rfl) ?_
  refine lv_iconst (v := nI 0) hx hb dX3_code_1 (by decide) ?_
  refine Ct.callV (wr := []) hF hw (c_X3_at l g a r n f L 0 (by assumption) (by assumption) (by omega) (by assumption)) mwX3_23 [0, 1] [] rfl rfl rfl rfl (by decide) 0 rfl rfl ⟨by decide, by decide⟩ ⟨by decide, by decide⟩ rfl hl.1 (Nat.le_of_ble_eq_true rfl) rfl dX3_code_2 (fun v u H locs hp hw => ?_)
  obtain ⟨rfl, hp_2⟩ := hp
  have hw := Wd.sub (ws' := [(a, .inr (2, [.ref r, .int (nI L.length)])), (r, .inl (g.2.1 0, n, .inl f))]) hw [0, 1] rfl rfl
  refine W.eq (g2 := F0 m 5 ls [.int (nI (L.getD 0 0))]) rfl ?_
  refine lv_iconst (v := nI 1) hx hb dX3_code_5 (by decide) ?_
  refine r_ne (tgt := 17) hx hb dX3_code_6 (by decide) (by omega) (by omega) (fun c_6 => ?_) (fun c_6 => ?_)
  · refine lv_iconst (v := -1) hx hb dX3_code_17 (by decide) ?_
    exact RQ.iret hF hr hlk hw dX3_code_18 ⟨by decide, by decide⟩ (()) (rfl) ⟨by unfold codeL; first | rw [if_pos (by omega)] | rw [if_neg (by omega)], trivial⟩
  · refine lv_aload_n hx hb dX3_code_9 rfl (lv_at hl 0 rfl) ?_
    refine lv_iconst (v := nI 1) hx hb dX3_code_10 (by decide) ?_
    refine Ct.callV (wr := []) hF hw (c_X3_at l g a r n f L 1 (by assumption) (by assumption) (by omega) (by assumption)) mwX3_23 [0, 1] [] rfl rfl rfl rfl (by decide) 0 rfl rfl ⟨by decide, by decide⟩ ⟨by decide, by decide⟩ rfl hl.1 (Nat.le_of_ble_eq_true rfl) rfl dX3_code_11 (fun v u H locs hp hw => ?_)
    obtain ⟨rfl, hp_11⟩ := hp
    have hw := Wd.sub (ws' := [(a, .inr (2, [.ref r, .int (nI L.length)])), (r, .inl (g.2.1 0, n, .inl f))]) hw [0, 1] rfl rfl
    refine W.eq (g2 := F0 m 14 ls [.int (nI (L.getD 1 0))]) rfl ?_
    refine lv_goto (tgt := 18) hx hb dX3_code_14 (by decide) ?_
    exact RQ.iret hF hr hlk hw dX3_code_18 ⟨by decide, by decide⟩ (()) (rfl) ⟨by unfold codeL; first | rw [if_pos (by omega)] | rw [if_neg (by omega)], trivial⟩

set_option maxHeartbeats 4000000 in
set_option maxRecDepth 100000 in
theorem c_X3_id (l : Launch) (g : GE) (a : Nat) (r : Nat) (n : Nat) (f : Nat → Int32) (L : List Nat) (hn : n ≤ 1000) (hL : L.length ≤ n) (hf : Hd f L) : Ct l yX3_id cX3_id 1 (some .int) { frames := 1, cells := 0, slots := 0, locals := 21 } g [.ref a] [(a, .inr (2, [.ref r, .int (nI L.length)])), (r, .inl (g.2.1 0, n, .inl f))] (fun (v : Option Value) (u : Unit) => v = some (.int (atL L 2)) ∧ True) (fun u : Unit => [(a, .inr (2, [.ref r, .int (nI L.length)])), (r, .inl (g.2.1 0, n, .inl f))]) := by
  refine Ct.of (own := RX3) rfl rfl (Nat.le_of_ble_eq_true rfl) ?_
  intro P0 e0 s m below meth c ls hF hr hlk hnm hw hl
  have hx := hF.1
  have hb := hF.2.1
  have hl : lv_has ls 1 [(0, .ref a)] := hl
  refine lv_aload_n hx hb dX3_id_0 rfl (lv_at hl 0 rfl) ?_
  refine lv_iconst (v := nI 2) hx hb dX3_id_1 (by decide) ?_
  refine Ct.callV (wr := []) hF hw (c_X3_atO l g a r n f L 2 (by assumption) (by assumption) (by decide) (by assumption)) mwX3_23 [0, 1] [] rfl rfl rfl rfl (by decide) 0 rfl rfl ⟨by decide, by decide⟩ ⟨by decide, by decide⟩ rfl hl.1 (Nat.le_of_ble_eq_true rfl) rfl dX3_id_2 (fun v u H locs hp hw => ?_)
  obtain ⟨rfl, hp_2⟩ := hp
  have hw := Wd.sub (ws' := [(a, .inr (2, [.ref r, .int (nI L.length)])), (r, .inl (g.2.1 0, n, .inl f))]) hw [0, 1] rfl rfl
  refine W.eq (g2 := F0 m 5 ls [.int (atL L 2)]) rfl ?_
  exact RQ.iret hF hr hlk hw dX3_id_5 ⟨by decide, by decide⟩ (()) (rfl) ⟨rfl, trivial⟩

set_option maxHeartbeats 4000000 in
set_option maxRecDepth 100000 in
theorem c_X3_checkOf (l : Launch) (g : GE) (a : Nat) (r : Nat) (n : Nat) (f : Nat → Int32) (L : List Nat) (k : Nat) (hn : n ≤ 1000) (hL : L.length ≤ n) (hf : Hd f L) (hB : Bt L) (hk : k ≤ L.length) : Ct l yX3_checkOf cX3_checkOf 5 (some .int) { frames := 0, cells := 0, slots := 0, locals := 0 } g [.ref a, .int (nI k)] [(a, .inr (2, [.ref r, .int (nI L.length)])), (r, .inl (g.2.1 0, n, .inl f))] (fun (v : Option Value) (u : Unit) => v = some (.int (nI (crc (L.take k)))) ∧ True) (fun u : Unit => [(a, .inr (2, [.ref r, .int (nI L.length)])), (r, .inl (g.2.1 0, n, .inl f))]) := by
  refine Ct.of (own := RX3) rfl rfl (Nat.le_of_ble_eq_true rfl) ?_
  intro P0 e0 s m below meth c ls hF hr hlk hnm hw hl
  have hx := hF.1
  have hb := hF.2.1
  have hl : lv_has ls 5 [(0, .ref a), (1, .int (nI k))] := hl
  refine lv_ldc hx hb hF.2.2.2.1 (hF.2.2.2.2 _ tw447) dX3_checkOf_0 ?_
  refine r_top (n := 65535) rfl ?_
  refine lv_istore_n (lv' := [(2, .int (nI 65535)), (0, .ref a), (1, .int (nI k))]) hx hb dX3_checkOf_2 rfl hl (by decide) rfl (fun ls hl => ?_)
  refine lv_iconst (v := nI 0) hx hb dX3_checkOf_3 (by decide) ?_
  refine lv_istore_n (lv' := [(3, .int (nI 0)), (2, .int (nI 65535)), (0, .ref a), (1, .int (nI k))]) hx hb dX3_checkOf_4 rfl hl (by decide) rfl (fun ls hl => ?_)
  have lp_5 : ∀ (fuel_5 : Nat) (i : Nat) (cv : Nat) (H : Heap) (locs : List Loc) (ls : Array Slot), (k - i) < fuel_5 → (i ≤ k) → (cv = crcF (L.take i)) → Wd g (va_A [(a, .inr (2, [.ref r, .int (nI L.length)])), (r, .inl (g.2.1 0, n, .inl f))] s.heap.size) s H locs [(a, .inr (2, [.ref r, .int (nI L.length)])), (r, .inl (g.2.1 0, n, .inl f))] → lv_has ls 5 [(0, .ref a), (1, .int (nI k)), (2, .int (nI cv)), (3, .int (nI i))] → W P0 l e0 { frames := 0, cells := 0, slots := 0, locals := 0 } s m ([.ref a, .int (nI k)] : List Value).toArray below meth c H locs 0 0 (RQ below ([.ref a, .int (nI k)] : List Value).toArray s { frames := 0, cells := 0, slots := 0, locals := 0 } g [(a, .inr (2, [.ref r, .int (nI L.length)])), (r, .inl (g.2.1 0, n, .inl f))] (fun (v : Option Value) (u : Unit) => v = some (.int (nI (crc (L.take k)))) ∧ True) (fun u : Unit => [(a, .inr (2, [.ref r, .int (nI L.length)])), (r, .inl (g.2.1 0, n, .inl f))])) (F0 m 5 ls []) := by
    intro fuel_5
    induction fuel_5 with
    | zero => intro i cv H locs ls hm_5; exact absurd hm_5 (Nat.not_lt_zero _)
    | succ fuel_5 ih_5 =>
      intro i cv H locs ls hm_5 hi hc hw hl
      have hcl : cv < 65536 := by rw [hc]; exact crcF_lt (hB.take i)
      refine lv_iload_n hx hb dX3_checkOf_5 rfl (lv_at hl 3 rfl) ?_
      refine lv_iload_n hx hb dX3_checkOf_6 rfl (lv_at hl 1 rfl) ?_
      refine r_ge (tgt := 61) hx hb dX3_checkOf_7 (by decide) (by omega) (by omega) (fun c_7 => ?_) (fun c_7 => ?_)
      · refine lv_iload_n hx hb dX3_checkOf_61 rfl (lv_at hl 2 rfl) ?_
        refine lv_ldc hx hb hF.2.2.2.1 (hF.2.2.2.2 _ tw447) dX3_checkOf_62 ?_
        refine r_top (n := 65535) rfl ?_
        refine r_ixor hx hb dX3_checkOf_64 ?_
        exact RQ.iret hF hr hlk hw dX3_checkOf_65 ⟨by decide, by decide⟩ (()) (rfl) ⟨by rw [hc, show i = k by omega]; rfl, trivial⟩
      · refine lv_iload_n hx hb dX3_checkOf_10 rfl (lv_at hl 2 rfl) ?_
        refine lv_aload_n hx hb dX3_checkOf_11 rfl (lv_at hl 0 rfl) ?_
        refine wget hF hw flX3_9 dX3_checkOf_12 0 rfl rfl ?_
        refine lv_iload_n hx hb dX3_checkOf_15 rfl (lv_at hl 3 rfl) ?_
        refine r_iald hF hw dX3_checkOf_16 1 rfl (by omega) (by omega) ?_
        refine r_top (n := L.getD i 0) (hf i (by omega)) ?_
        refine r_ixor hx hb dX3_checkOf_17 ?_
        refine lv_istore_n (lv' := [(2, .int (nI (cv ^^^ (L.getD i 0)))), (0, .ref a), (1, .int (nI k)), (3, .int (nI i))]) hx hb dX3_checkOf_18 rfl hl (by decide) rfl (fun ls hl => ?_)
        refine lv_iconst (v := nI 0) hx hb dX3_checkOf_19 (by decide) ?_
        refine lv_istore (lv' := [(4, .int (nI 0)), (2, .int (nI (cv ^^^ (L.getD i 0)))), (0, .ref a), (1, .int (nI k)), (3, .int (nI i))]) hx hb dX3_checkOf_20 hl (by decide) rfl (fun ls hl => ?_)
        have lp_22 : ∀ (fuel_22 : Nat) (j : Nat) (d : Nat) (H : Heap) (locs : List Loc) (ls : Array Slot), (8 - j) < fuel_22 → (j ≤ 8) → (d = crcN j (cv ^^^ L.getD i 0)) → Wd g (va_A [(a, .inr (2, [.ref r, .int (nI L.length)])), (r, .inl (g.2.1 0, n, .inl f))] s.heap.size) s H locs [(a, .inr (2, [.ref r, .int (nI L.length)])), (r, .inl (g.2.1 0, n, .inl f))] → lv_has ls 5 [(0, .ref a), (1, .int (nI k)), (2, .int (nI d)), (3, .int (nI i)), (4, .int (nI j))] → W P0 l e0 { frames := 0, cells := 0, slots := 0, locals := 0 } s m ([.ref a, .int (nI k)] : List Value).toArray below meth c H locs 0 0 (RQ below ([.ref a, .int (nI k)] : List Value).toArray s { frames := 0, cells := 0, slots := 0, locals := 0 } g [(a, .inr (2, [.ref r, .int (nI L.length)])), (r, .inl (g.2.1 0, n, .inl f))] (fun (v : Option Value) (u : Unit) => v = some (.int (nI (crc (L.take k)))) ∧ True) (fun u : Unit => [(a, .inr (2, [.ref r, .int (nI L.length)])), (r, .inl (g.2.1 0, n, .inl f))])) (F0 m 22 ls []) := by
          intro fuel_22
          induction fuel_22 with
          | zero => intro j d H locs ls hm_22; exact absurd hm_22 (Nat.not_lt_zero _)
          | succ fuel_22 ih_22 =>
            intro j d H locs ls hm_22 hj hd hw hl
            have hdl : d < 65536 := by rw [hd]; exact crcN_lt (Nat.xor_lt_two_pow (n := 16) hcl (by have := hB.get i; omega)) j
            refine lv_iload hx hb dX3_checkOf_22 (lv_at hl 4 rfl) ?_
            refine lv_bipush (v := nI 8) hx hb dX3_checkOf_24 (by decide) ?_
            refine r_ge (tgt := 55) hx hb dX3_checkOf_26 (by decide) (by omega) (by omega) (fun c_26 => ?_) (fun c_26 => ?_)
            · refine r_iinc (k := 3) (d := 1) (lv' := [(3, .int (nI (i + 1))), (0, .ref a), (1, .int (nI k)), (2, .int (nI d)), (4, .int (nI j))]) hx hb dX3_checkOf_55 hl rfl (by decide) (by decide) rfl (fun ls hl => ?_)
              refine lv_goto (tgt := 5) hx hb dX3_checkOf_58 (by decide) ?_
              exact ih_5 (i + 1) d _ _ _ (by omega) (by omega) (by rw [take_succD (by omega), crcF_snoc, ← hc, hd, show j = 8 by omega]; rfl) hw (lv_sub hl [1, 2, 3, 0] rfl)
            · refine lv_iload_n hx hb dX3_checkOf_29 rfl (lv_at hl 2 rfl) ?_
              refine lv_iconst (v := nI 1) hx hb dX3_checkOf_30 (by decide) ?_
              refine r_iand hx hb dX3_checkOf_31 1 (by omega) (by decide) ?_
              refine lv_iconst (v := nI 1) hx hb dX3_checkOf_32 (by decide) ?_
              refine r_ne (tgt := 45) hx hb dX3_checkOf_33 (by decide) (by omega) (by omega) (fun c_33 => ?_) (fun c_33 => ?_)
              · refine lv_iload_n hx hb dX3_checkOf_45 rfl (lv_at hl 2 rfl) ?_
                refine lv_iconst (v := nI 1) hx hb dX3_checkOf_46 (by decide) ?_
                refine r_ishr hx hb dX3_checkOf_47 (by omega) (by decide) ?_
                refine lv_istore_n (lv' := [(2, .int (nI (d / 2 ^ 1))), (0, .ref a), (1, .int (nI k)), (3, .int (nI i)), (4, .int (nI j))]) hx hb dX3_checkOf_48 rfl hl (by decide) rfl (fun ls hl => ?_)
                refine r_iinc (k := 4) (d := 1) (lv' := [(4, .int (nI (j + 1))), (2, .int (nI (d / 2 ^ 1))), (0, .ref a), (1, .int (nI k)), (3, .int (nI i))]) hx hb dX3_checkOf_49 hl rfl (by decide) (by decide) rfl (fun ls hl => ?_)
                refine lv_goto (tgt := 22) hx hb dX3_checkOf_52 (by decide) ?_
                exact ih_22 (j + 1) (d / 2 ^ 1) _ _ _ (by omega) (by omega) (by rw [crcN, ← hd, crcB]; first | exact (if_pos (by omega)).symm | exact (if_neg (by omega)).symm) hw (lv_sub hl [2, 3, 1, 4, 0] rfl)
              · refine lv_iload_n hx hb dX3_checkOf_36 rfl (lv_at hl 2 rfl) ?_
                refine lv_iconst (v := nI 1) hx hb dX3_checkOf_37 (by decide) ?_
                refine r_ishr hx hb dX3_checkOf_38 (by omega) (by decide) ?_
                refine lv_ldc hx hb hF.2.2.2.1 (hF.2.2.2.2 _ tw448) dX3_checkOf_39 ?_
                refine r_top (n := 33800) rfl ?_
                refine r_ixor hx hb dX3_checkOf_41 ?_
                refine lv_goto (tgt := 48) hx hb dX3_checkOf_42 (by decide) ?_
                refine lv_istore_n (lv' := [(2, .int (nI ((d / 2 ^ 1) ^^^ 33800))), (0, .ref a), (1, .int (nI k)), (3, .int (nI i)), (4, .int (nI j))]) hx hb dX3_checkOf_48 rfl hl (by decide) rfl (fun ls hl => ?_)
                refine r_iinc (k := 4) (d := 1) (lv' := [(4, .int (nI (j + 1))), (2, .int (nI ((d / 2 ^ 1) ^^^ 33800))), (0, .ref a), (1, .int (nI k)), (3, .int (nI i))]) hx hb dX3_checkOf_49 hl rfl (by decide) (by decide) rfl (fun ls hl => ?_)
                refine lv_goto (tgt := 22) hx hb dX3_checkOf_52 (by decide) ?_
                exact ih_22 (j + 1) ((d / 2 ^ 1) ^^^ 33800) _ _ _ (by omega) (by omega) (by rw [crcN, ← hd, crcB]; first | exact (if_pos (by omega)).symm | exact (if_neg (by omega)).symm) hw (lv_sub hl [2, 3, 1, 4, 0] rfl)
        exact lp_22 _ 0 (cv ^^^ L.getD i 0) _ _ _ (Nat.lt_succ_self _) (Nat.zero_le _) (rfl) hw (lv_sub hl [2, 3, 1, 4, 0] rfl)
  exact lp_5 _ 0 65535 _ _ _ (Nat.lt_succ_self _) (Nat.zero_le _) (rfl) hw (lv_sub hl [2, 3, 1, 0] rfl)

set_option maxHeartbeats 4000000 in
set_option maxRecDepth 100000 in
theorem c_X3_seal (l : Launch) (g : GE) (a : Nat) (r : Nat) (n : Nat) (f : Nat → Int32) (L : List Nat) (hn : n ≤ 1000) (hL : L.length + 2 ≤ n) (hf : Hd f L) (hB : Bt L) : Ct l yX3_seal cX3_seal 2 none { frames := 1, cells := 0, slots := 0, locals := 24 } g [.ref a] [(a, .inr (2, [.ref r, .int (nI L.length)])), (r, .inl (g.2.1 0, n, .inl f))] (fun (v : Option Value) (u : (Nat → Int32)) => v = none ∧ Hd u (sealL L)) (fun u : (Nat → Int32) => [(a, .inr (2, [.ref r, .int (nI (sealL L).length)])), (r, .inl (g.2.1 0, n, .inl u))]) := by
  refine Ct.of (own := RX3) rfl rfl (Nat.le_of_ble_eq_true rfl) ?_
  intro P0 e0 s m below meth c ls hF hr hlk hnm hw hl
  have hx := hF.1
  have hb := hF.2.1
  have hl : lv_has ls 2 [(0, .ref a)] := hl
  have hcr := crc_lt hB
  refine lv_aload_n hx hb dX3_seal_0 rfl (lv_at hl 0 rfl) ?_
  refine lv_aload_n hx hb dX3_seal_1 rfl (lv_at hl 0 rfl) ?_
  refine wget hF hw flX3_15 dX3_seal_2 0 rfl rfl ?_
  refine Ct.callV (wr := []) hF hw (c_X3_checkOf l g a r n f L L.length (by assumption) (by omega) (by assumption) (by assumption) (Nat.le_refl _)) mwX3_27 [0, 1] [] rfl rfl rfl rfl (by decide) 0 rfl rfl ⟨by decide, by decide⟩ ⟨by decide, by decide⟩ rfl hl.1 (Nat.le_of_ble_eq_true rfl) rfl dX3_seal_5 (fun v u H locs hp hw => ?_)
  obtain ⟨rfl, hp_5⟩ := hp
  have hw := Wd.sub (ws' := [(a, .inr (2, [.ref r, .int (nI L.length)])), (r, .inl (g.2.1 0, n, .inl f))]) hw [0, 1] rfl rfl
  refine W.eq (g2 := F0 m 8 ls [.int (nI (crc (L.take L.length)))]) rfl ?_
  refine r_top (n := crc L) (by rw [List.take_length]) ?_
  refine lv_istore_n (lv' := [(1, .int (nI (crc L))), (0, .ref a)]) hx hb dX3_seal_8 rfl hl (by decide) rfl (fun ls hl => ?_)
  refine lv_aload_n hx hb dX3_seal_9 rfl (lv_at hl 1 rfl) ?_
  refine lv_iload_n hx hb dX3_seal_10 rfl (lv_at hl 0 rfl) ?_
  refine Ct.callV (wr := []) hF hw (c_X3_add l g a r n f L (nI (crc L)) (crc L % 256) (by assumption) (by omega) (by assumption) (by rw [pk_tn (by omega)])) mwX3_19 [0, 1] [] rfl rfl rfl rfl (by decide) 0 rfl rfl ⟨by decide, by decide⟩ ⟨by decide, by decide⟩ rfl hl.1 (Nat.le_of_ble_eq_true rfl) rfl dX3_seal_11 (fun v u H locs hp hw => ?_)
  obtain ⟨f2_11, rfl⟩ : ∃ z, z = u := ⟨_, rfl⟩
  obtain ⟨rfl, hp_11⟩ := hp
  try dsimp only at hp_11
  have hw := Wd.sub (ws' := [(a, .inr (2, [.ref r, .int (nI (L ++ [(crc L % 256)]).length)])), (r, .inl (g.2.1 0, n, .inl f2_11))]) hw [0, 1] rfl rfl
  refine W.eq (g2 := F0 m 14 ls []) rfl ?_
  refine lv_aload_n hx hb dX3_seal_14 rfl (lv_at hl 1 rfl) ?_
  refine lv_iload_n hx hb dX3_seal_15 rfl (lv_at hl 0 rfl) ?_
  refine lv_bipush (v := nI 8) hx hb dX3_seal_16 (by decide) ?_
  refine r_ishr hx hb dX3_seal_18 (by omega) (by decide) ?_
  refine Ct.callV (wr := []) hF hw (c_X3_add l g a r n f2_11 (L ++ [(crc L % 256)]) (nI ((crc L) / 2 ^ 8)) (crc L / 256) (by assumption) (by rw [List.length_append, List.length_singleton]; omega) (by assumption) (by rw [pk_tn (by omega)]; omega)) mwX3_19 [0, 1] [] rfl rfl rfl rfl (by decide) 0 rfl rfl ⟨by decide, by decide⟩ ⟨by decide, by decide⟩ rfl hl.1 (Nat.le_of_ble_eq_true rfl) rfl dX3_seal_19 (fun v u H locs hp hw => ?_)
  obtain ⟨f2_19, rfl⟩ : ∃ z, z = u := ⟨_, rfl⟩
  obtain ⟨rfl, hp_19⟩ := hp
  try dsimp only at hp_19
  have hw := Wd.sub (ws' := [(a, .inr (2, [.ref r, .int (nI ((L ++ [(crc L % 256)]) ++ [(crc L / 256)]).length)])), (r, .inl (g.2.1 0, n, .inl f2_19))]) hw [0, 1] rfl rfl
  refine W.eq (g2 := F0 m 22 ls []) rfl ?_
  exact RQ.vret hF hr hlk hw dX3_seal_22 ⟨by decide, by decide⟩ ((f2_19)) (rfl) ⟨rfl, hp_19⟩

set_option maxHeartbeats 4000000 in
set_option maxRecDepth 100000 in
theorem c_X3_isSealed (l : Launch) (g : GE) (a : Nat) (r : Nat) (n : Nat) (f : Nat → Int32) (L : List Nat) (hn : n ≤ 1000) (hL : L.length ≤ n) (hf : Hd f L) (hB : Bt L) : Ct l yX3_isSealed cX3_isSealed 1 (some .boolean) { frames := 1, cells := 0, slots := 0, locals := 24 } g [.ref a] [(a, .inr (2, [.ref r, .int (nI L.length)])), (r, .inl (g.2.1 0, n, .inl f))] (fun (v : Option Value) (u : Unit) => v = some (.int (nI (isSeal L).toNat)) ∧ True) (fun u : Unit => [(a, .inr (2, [.ref r, .int (nI L.length)])), (r, .inl (g.2.1 0, n, .inl f))]) := by
  refine Ct.of (own := RX3) rfl rfl (Nat.le_of_ble_eq_true rfl) ?_
  intro P0 e0 s m below meth c ls hF hr hlk hnm hw hl
  have hx := hF.1
  have hb := hF.2.1
  have hl : lv_has ls 1 [(0, .ref a)] := hl
  have hB1 := hB.get (L.length - 1)
  have hB2 := hB.get (L.length - 2)
  refine lv_aload_n hx hb dX3_isSealed_0 rfl (lv_at hl 0 rfl) ?_
  refine wget hF hw flX3_15 dX3_isSealed_1 0 rfl rfl ?_
  refine lv_iconst (v := nI 5) hx hb dX3_isSealed_4 (by decide) ?_
  refine r_lt (tgt := 50) hx hb dX3_isSealed_5 (by decide) (by omega) (by omega) (fun c_5 => ?_) (fun c_5 => ?_)
  · refine lv_iconst (v := nI 0) hx hb dX3_isSealed_50 (by decide) ?_
    exact RQ.zret hF hr hlk hw dX3_isSealed_51 (rfl) ⟨by decide, by decide⟩ (()) (rfl) ⟨by first | exact rbt (isSeal_c (by omega) (by omega)) | exact rbf (isSeal_a (by omega)) | exact rbf (isSeal_b (by omega)), trivial⟩
  · refine lv_aload_n hx hb dX3_isSealed_8 rfl (lv_at hl 0 rfl) ?_
    refine lv_aload_n hx hb dX3_isSealed_9 rfl (lv_at hl 0 rfl) ?_
    refine Ct.callV (wr := []) hF hw (c_X3_end l g a r n f L (by assumption) (by assumption) (by omega)) mwX3_30 [0, 1] [] rfl rfl rfl rfl (by decide) 0 rfl rfl ⟨by decide, by decide⟩ ⟨by decide, by decide⟩ rfl hl.1 (Nat.le_of_ble_eq_true rfl) rfl dX3_isSealed_10 (fun v u H locs hp hw => ?_)
    obtain ⟨rfl, hp_10⟩ := hp
    have hw := Wd.sub (ws' := [(a, .inr (2, [.ref r, .int (nI L.length)])), (r, .inl (g.2.1 0, n, .inl f))]) hw [0, 1] rfl rfl
    refine W.eq (g2 := F0 m 13 ls [.int (nI (L.length - 2)), .ref a]) rfl ?_
    refine Ct.callV (wr := []) hF hw (c_X3_checkOf l g a r n f L (L.length - 2) (by assumption) (by assumption) (by assumption) (by assumption) (by omega)) mwX3_27 [0, 1] [] rfl rfl rfl rfl (by decide) 0 rfl rfl ⟨by decide, by decide⟩ ⟨by decide, by decide⟩ rfl hl.1 (Nat.le_of_ble_eq_true rfl) rfl dX3_isSealed_13 (fun v u H locs hp hw => ?_)
    obtain ⟨rfl, hp_13⟩ := hp
    have hw := Wd.sub (ws' := [(a, .inr (2, [.ref r, .int (nI L.length)])), (r, .inl (g.2.1 0, n, .inl f))]) hw [0, 1] rfl rfl
    refine W.eq (g2 := F0 m 16 ls [.int (nI (crc (L.take (L.length - 2))))]) rfl ?_
    have hcr := crc_lt (hB.take (L.length - 2))
    refine lv_aload_n hx hb dX3_isSealed_16 rfl (lv_at hl 0 rfl) ?_
    refine wget hF hw flX3_9 dX3_isSealed_17 0 rfl rfl ?_
    refine lv_aload_n hx hb dX3_isSealed_20 rfl (lv_at hl 0 rfl) ?_
    refine wget hF hw flX3_15 dX3_isSealed_21 0 rfl rfl ?_
    refine lv_iconst (v := nI 2) hx hb dX3_isSealed_24 (by decide) ?_
    refine r_isub hx hb dX3_isSealed_25 (by omega) ?_
    refine r_iald hF hw dX3_isSealed_26 1 rfl (by omega) (by omega) ?_
    refine r_top (n := L.getD (L.length - 2) 0) (hf _ (by omega)) ?_
    refine lv_aload_n hx hb dX3_isSealed_27 rfl (lv_at hl 0 rfl) ?_
    refine wget hF hw flX3_9 dX3_isSealed_28 0 rfl rfl ?_
    refine lv_aload_n hx hb dX3_isSealed_31 rfl (lv_at hl 0 rfl) ?_
    refine wget hF hw flX3_15 dX3_isSealed_32 0 rfl rfl ?_
    refine lv_iconst (v := nI 1) hx hb dX3_isSealed_35 (by decide) ?_
    refine r_isub hx hb dX3_isSealed_36 (by omega) ?_
    refine r_iald hF hw dX3_isSealed_37 1 rfl (by omega) (by omega) ?_
    refine r_top (n := L.getD (L.length - 1) 0) (hf _ (by omega)) ?_
    refine lv_sipush (v := nI 256) hx hb dX3_isSealed_38 (by decide) ?_
    refine r_imul hx hb dX3_isSealed_41 ?_
    refine r_iadd hx hb dX3_isSealed_42 ?_
    refine r_ne (tgt := 50) hx hb dX3_isSealed_43 (by decide) (by omega) (by omega) (fun c_43 => ?_) (fun c_43 => ?_)
    · refine lv_iconst (v := nI 0) hx hb dX3_isSealed_50 (by decide) ?_
      exact RQ.zret hF hr hlk hw dX3_isSealed_51 (rfl) ⟨by decide, by decide⟩ (()) (rfl) ⟨by first | exact rbt (isSeal_c (by omega) (by omega)) | exact rbf (isSeal_a (by omega)) | exact rbf (isSeal_b (by omega)), trivial⟩
    · refine lv_iconst (v := nI 1) hx hb dX3_isSealed_46 (by decide) ?_
      refine lv_goto (tgt := 51) hx hb dX3_isSealed_47 (by decide) ?_
      exact RQ.zret hF hr hlk hw dX3_isSealed_51 (rfl) ⟨by decide, by decide⟩ (()) (rfl) ⟨by first | exact rbt (isSeal_c (by omega) (by omega)) | exact rbf (isSeal_a (by omega)) | exact rbf (isSeal_b (by omega)), trivial⟩

set_option maxHeartbeats 4000000 in
set_option maxRecDepth 100000 in
theorem c_X3_frameLength (l : Launch) (g : GE) (a : Nat) (r : Nat) (n : Nat) (f : Nat → Int32) (L : List Nat) (hn : n ≤ 1000) (hL : L.length ≤ n) (hf : Hd f L) (hB : Bt L) : Ct l yX3_frameLength cX3_frameLength 3 (some .int) { frames := 1, cells := 0, slots := 0, locals := 20 } g [.ref a] [(a, .inr (2, [.ref r, .int (nI L.length)])), (r, .inl (g.2.1 0, n, .inl f))] (fun (v : Option Value) (u : Unit) => v = some (.int (nI ((escL L).length + 2))) ∧ True) (fun u : Unit => [(a, .inr (2, [.ref r, .int (nI L.length)])), (r, .inl (g.2.1 0, n, .inl f))]) := by
  refine Ct.of (own := RX3) rfl rfl (Nat.le_of_ble_eq_true rfl) ?_
  intro P0 e0 s m below meth c ls hF hr hlk hnm hw hl
  have hx := hF.1
  have hb := hF.2.1
  have hl : lv_has ls 3 [(0, .ref a)] := hl
  refine lv_aload_n hx hb dX3_frameLength_0 rfl (lv_at hl 0 rfl) ?_
  refine wget hF hw flX3_15 dX3_frameLength_1 0 rfl rfl ?_
  refine lv_iconst (v := nI 2) hx hb dX3_frameLength_4 (by decide) ?_
  refine r_iadd hx hb dX3_frameLength_5 ?_
  refine lv_istore_n (lv' := [(1, .int (nI (L.length + 2))), (0, .ref a)]) hx hb dX3_frameLength_6 rfl hl (by decide) rfl (fun ls hl => ?_)
  refine lv_iconst (v := nI 0) hx hb dX3_frameLength_7 (by decide) ?_
  refine lv_istore_n (lv' := [(2, .int (nI 0)), (1, .int (nI (L.length + 2))), (0, .ref a)]) hx hb dX3_frameLength_8 rfl hl (by decide) rfl (fun ls hl => ?_)
  have lp_9 : ∀ (fuel_9 : Nat) (i : Nat) (ln : Nat) (H : Heap) (locs : List Loc) (ls : Array Slot), (L.length - i) < fuel_9 → (i ≤ L.length) → (ln = (escL (L.take i)).length + 2 + (L.length - i)) → Wd g (va_A [(a, .inr (2, [.ref r, .int (nI L.length)])), (r, .inl (g.2.1 0, n, .inl f))] s.heap.size) s H locs [(a, .inr (2, [.ref r, .int (nI L.length)])), (r, .inl (g.2.1 0, n, .inl f))] → lv_has ls 3 [(0, .ref a), (1, .int (nI ln)), (2, .int (nI i))] → W P0 l e0 { frames := 1, cells := 0, slots := 0, locals := 20 } s m ([.ref a] : List Value).toArray below meth c H locs 0 0 (RQ below ([.ref a] : List Value).toArray s { frames := 1, cells := 0, slots := 0, locals := 20 } g [(a, .inr (2, [.ref r, .int (nI L.length)])), (r, .inl (g.2.1 0, n, .inl f))] (fun (v : Option Value) (u : Unit) => v = some (.int (nI ((escL L).length + 2))) ∧ True) (fun u : Unit => [(a, .inr (2, [.ref r, .int (nI L.length)])), (r, .inl (g.2.1 0, n, .inl f))])) (F0 m 9 ls []) := by
    intro fuel_9
    induction fuel_9 with
    | zero => intro i ln H locs ls hm_9; exact absurd hm_9 (Nat.not_lt_zero _)
    | succ fuel_9 ih_9 =>
      intro i ln H locs ls hm_9 hi hln hw hl
      refine lv_iload_n hx hb dX3_frameLength_9 rfl (lv_at hl 2 rfl) ?_
      refine lv_aload_n hx hb dX3_frameLength_10 rfl (lv_at hl 0 rfl) ?_
      refine wget hF hw flX3_15 dX3_frameLength_11 0 rfl rfl ?_
      refine r_ge (tgt := 38) hx hb dX3_frameLength_14 (by decide) (by omega) (by omega) (fun c_14 => ?_) (fun c_14 => ?_)
      · refine lv_iload_n hx hb dX3_frameLength_38 rfl (lv_at hl 1 rfl) ?_
        exact RQ.iret hF hr hlk hw dX3_frameLength_39 ⟨by decide, by decide⟩ (()) (rfl) ⟨by rw [hln, show i = L.length by omega, List.take_length, Nat.sub_self, Nat.add_zero], trivial⟩
      · refine lv_aload_n hx hb dX3_frameLength_17 rfl (lv_at hl 0 rfl) ?_
        refine wget hF hw flX3_9 dX3_frameLength_18 0 rfl rfl ?_
        refine lv_iload_n hx hb dX3_frameLength_21 rfl (lv_at hl 2 rfl) ?_
        refine r_iald hF hw dX3_frameLength_22 1 rfl (by omega) (by omega) ?_
        refine r_top (n := L.getD i 0) (hf i (by omega)) ?_
        have hBi := hB.get i
        refine Ct.callS (wr := [(a, .inr (2, [.ref r, .int (nI L.length)])), (r, .inl (g.2.1 0, n, .inl f))]) hF hw (c_X3_needsEscape l g (L.getD i 0) (by omega)) mwX3_36 [] [0, 1] rfl rfl rfl rfl (by decide) ⟨by decide, by decide⟩ ⟨by decide, by decide⟩ rfl hl.1 (Nat.le_of_ble_eq_true rfl) rfl dX3_frameLength_23 (fun v u H locs hp hw => ?_)
        obtain ⟨rfl, hp_23⟩ := hp
        have hw := Wd.sub (ws' := [(a, .inr (2, [.ref r, .int (nI L.length)])), (r, .inl (g.2.1 0, n, .inl f))]) hw [0, 1] rfl rfl
        refine W.eq (g2 := F0 m 26 ls [.int (nI (decide ((L.getD i 0) = 125 ∨ (L.getD i 0) = 126)).toNat)]) rfl ?_
        have hbl := b_lt (decide (L.getD i 0 = 125 ∨ L.getD i 0 = 126))
        refine r_eq0 (tgt := 32) hx hb dX3_frameLength_26 (by decide) (by omega) (fun c_26 => ?_) (fun c_26 => ?_)
        · refine r_iinc (k := 2) (d := 1) (lv' := [(2, .int (nI (i + 1))), (0, .ref a), (1, .int (nI ln))]) hx hb dX3_frameLength_32 hl rfl (by decide) (by decide) rfl (fun ls hl => ?_)
          refine lv_goto (tgt := 9) hx hb dX3_frameLength_35 (by decide) ?_
          exact ih_9 (i + 1) ln _ _ _ (by omega) (by omega) (by first | (rw [take_succD (by omega), escL_snoc, List.length_append, escB_len_t (dnz c_26), List.length_cons, List.length_singleton]; omega) | (rw [take_succD (by omega), escL_snoc, List.length_append, escB_len_f (dz c_26), List.length_singleton]; omega)) hw (lv_sub hl [1, 2, 0] rfl)
        · refine r_iinc (k := 1) (d := 1) (lv' := [(1, .int (nI (ln + 1))), (0, .ref a), (2, .int (nI i))]) hx hb dX3_frameLength_29 hl rfl (by decide) (by decide) rfl (fun ls hl => ?_)
          refine r_iinc (k := 2) (d := 1) (lv' := [(2, .int (nI (i + 1))), (1, .int (nI (ln + 1))), (0, .ref a)]) hx hb dX3_frameLength_32 hl rfl (by decide) (by decide) rfl (fun ls hl => ?_)
          refine lv_goto (tgt := 9) hx hb dX3_frameLength_35 (by decide) ?_
          exact ih_9 (i + 1) (ln + 1) _ _ _ (by omega) (by omega) (by first | (rw [take_succD (by omega), escL_snoc, List.length_append, escB_len_t (dnz c_26), List.length_cons, List.length_singleton]; omega) | (rw [take_succD (by omega), escL_snoc, List.length_append, escB_len_f (dz c_26), List.length_singleton]; omega)) hw (lv_sub hl [2, 1, 0] rfl)
  exact lp_9 _ 0 (L.length + 2) _ _ _ (Nat.lt_succ_self _) (Nat.zero_le _) (by simp [escL]; omega) hw (lv_sub hl [2, 1, 0] rfl)

set_option maxHeartbeats 4000000 in
set_option maxRecDepth 100000 in
theorem c_X3_hasTypeAhead (l : Launch) (g : GE) (a : Nat) (r : Nat) (n : Nat) (f : Nat → Int32) (L : List Nat) (k : Nat) (hn : n ≤ 1000) (hL : L.length ≤ n) (hf : Hd f L) (hB : Bt L) (hk : k < L.length) : Ct l yX3_hasTypeAhead cX3_hasTypeAhead 3 (some .boolean) { frames := 1, cells := 0, slots := 0, locals := 21 } g [.ref a, .int (nI k)] [(a, .inr (2, [.ref r, .int (nI L.length)])), (r, .inl (g.2.1 0, n, .inl f))] (fun (v : Option Value) (u : Unit) => v = some (.int (nI (dupW L k 3).toNat)) ∧ True) (fun u : Unit => [(a, .inr (2, [.ref r, .int (nI L.length)])), (r, .inl (g.2.1 0, n, .inl f))]) := by
  refine Ct.of (own := RX3) rfl rfl (Nat.le_of_ble_eq_true rfl) ?_
  intro P0 e0 s m below meth c ls hF hr hlk hnm hw hl
  have hx := hF.1
  have hb := hF.2.1
  have hl : lv_has ls 3 [(0, .ref a), (1, .int (nI k))] := hl
  refine lv_iconst (v := nI 3) hx hb dX3_hasTypeAhead_0 (by decide) ?_
  refine lv_istore_n (lv' := [(2, .int (nI 3)), (0, .ref a), (1, .int (nI k))]) hx hb dX3_hasTypeAhead_1 rfl hl (by decide) rfl (fun ls hl => ?_)
  have lp_2 : ∀ (fuel_2 : Nat) (j : Nat) (H : Heap) (locs : List Loc) (ls : Array Slot), (k - j) < fuel_2 → (j ≤ k + 5) → (dupW L k 3 = dupW L k j) → Wd g (va_A [(a, .inr (2, [.ref r, .int (nI L.length)])), (r, .inl (g.2.1 0, n, .inl f))] s.heap.size) s H locs [(a, .inr (2, [.ref r, .int (nI L.length)])), (r, .inl (g.2.1 0, n, .inl f))] → lv_has ls 3 [(0, .ref a), (1, .int (nI k)), (2, .int (nI j))] → W P0 l e0 { frames := 1, cells := 0, slots := 0, locals := 21 } s m ([.ref a, .int (nI k)] : List Value).toArray below meth c H locs 0 0 (RQ below ([.ref a, .int (nI k)] : List Value).toArray s { frames := 1, cells := 0, slots := 0, locals := 21 } g [(a, .inr (2, [.ref r, .int (nI L.length)])), (r, .inl (g.2.1 0, n, .inl f))] (fun (v : Option Value) (u : Unit) => v = some (.int (nI (dupW L k 3).toNat)) ∧ True) (fun u : Unit => [(a, .inr (2, [.ref r, .int (nI L.length)])), (r, .inl (g.2.1 0, n, .inl f))])) (F0 m 2 ls []) := by
    intro fuel_2
    induction fuel_2 with
    | zero => intro j H locs ls hm_2; exact absurd hm_2 (Nat.not_lt_zero _)
    | succ fuel_2 ih_2 =>
      intro j H locs ls hm_2 hj hd hw hl
      have hBj := hB.get j
      have hBk := hB.get k
      refine lv_iload_n hx hb dX3_hasTypeAhead_2 rfl (lv_at hl 2 rfl) ?_
      refine lv_iload_n hx hb dX3_hasTypeAhead_3 rfl (lv_at hl 1 rfl) ?_
      refine r_ge (tgt := 36) hx hb dX3_hasTypeAhead_4 (by decide) (by omega) (by omega) (fun c_4 => ?_) (fun c_4 => ?_)
      · refine lv_iconst (v := nI 0) hx hb dX3_hasTypeAhead_36 (by decide) ?_
        exact RQ.zret hF hr hlk hw dX3_hasTypeAhead_37 (rfl) ⟨by decide, by decide⟩ (()) (rfl) ⟨rbf (by rw [hd, dupW_o (by omega)]), trivial⟩
      · refine lv_aload_n hx hb dX3_hasTypeAhead_7 rfl (lv_at hl 0 rfl) ?_
        refine lv_iload_n hx hb dX3_hasTypeAhead_8 rfl (lv_at hl 2 rfl) ?_
        refine Ct.callV (wr := []) hF hw (c_X3_at l g a r n f L j (by assumption) (by assumption) (by omega) (by assumption)) mwX3_23 [0, 1] [] rfl rfl rfl rfl (by decide) 0 rfl rfl ⟨by decide, by decide⟩ ⟨by decide, by decide⟩ rfl hl.1 (Nat.le_of_ble_eq_true rfl) rfl dX3_hasTypeAhead_9 (fun v u H locs hp hw => ?_)
        obtain ⟨rfl, hp_9⟩ := hp
        have hw := Wd.sub (ws' := [(a, .inr (2, [.ref r, .int (nI L.length)])), (r, .inl (g.2.1 0, n, .inl f))]) hw [0, 1] rfl rfl
        refine W.eq (g2 := F0 m 12 ls [.int (nI (L.getD j 0))]) rfl ?_
        refine lv_aload_n hx hb dX3_hasTypeAhead_12 rfl (lv_at hl 0 rfl) ?_
        refine lv_iload_n hx hb dX3_hasTypeAhead_13 rfl (lv_at hl 1 rfl) ?_
        refine Ct.callV (wr := []) hF hw (c_X3_at l g a r n f L k (by assumption) (by assumption) (by omega) (by assumption)) mwX3_23 [0, 1] [] rfl rfl rfl rfl (by decide) 0 rfl rfl ⟨by decide, by decide⟩ ⟨by decide, by decide⟩ rfl hl.1 (Nat.le_of_ble_eq_true rfl) rfl dX3_hasTypeAhead_14 (fun v u H locs hp hw => ?_)
        obtain ⟨rfl, hp_14⟩ := hp
        have hw := Wd.sub (ws' := [(a, .inr (2, [.ref r, .int (nI L.length)])), (r, .inl (g.2.1 0, n, .inl f))]) hw [0, 1] rfl rfl
        refine W.eq (g2 := F0 m 17 ls [.int (nI (L.getD k 0)), .int (nI (L.getD j 0))]) rfl ?_
        refine r_ne (tgt := 22) hx hb dX3_hasTypeAhead_17 (by decide) (by omega) (by omega) (fun c_17 => ?_) (fun c_17 => ?_)
        · refine lv_iload_n hx hb dX3_hasTypeAhead_22 rfl (lv_at hl 2 rfl) ?_
          refine lv_aload_n hx hb dX3_hasTypeAhead_23 rfl (lv_at hl 0 rfl) ?_
          refine lv_iload_n hx hb dX3_hasTypeAhead_24 rfl (lv_at hl 2 rfl) ?_
          refine Ct.callV (wr := []) hF hw (c_X3_at l g a r n f L j (by assumption) (by assumption) (by omega) (by assumption)) mwX3_23 [0, 1] [] rfl rfl rfl rfl (by decide) 0 rfl rfl ⟨by decide, by decide⟩ ⟨by decide, by decide⟩ rfl hl.1 (Nat.le_of_ble_eq_true rfl) rfl dX3_hasTypeAhead_25 (fun v u H locs hp hw => ?_)
          obtain ⟨rfl, hp_25⟩ := hp
          have hw := Wd.sub (ws' := [(a, .inr (2, [.ref r, .int (nI L.length)])), (r, .inl (g.2.1 0, n, .inl f))]) hw [0, 1] rfl rfl
          refine W.eq (g2 := F0 m 28 ls [.int (nI (L.getD j 0)), .int (nI j)]) rfl ?_
          refine Ct.callS (wr := [(a, .inr (2, [.ref r, .int (nI L.length)])), (r, .inl (g.2.1 0, n, .inl f))]) hF hw (c_X3_optionLength l g (L.getD j 0) (by omega)) mwX3_47 [] [0, 1] rfl rfl rfl rfl (by decide) ⟨by decide, by decide⟩ ⟨by decide, by decide⟩ rfl hl.1 (Nat.le_of_ble_eq_true rfl) rfl dX3_hasTypeAhead_28 (fun v u H locs hp hw => ?_)
          obtain ⟨rfl, hp_28⟩ := hp
          have hw := Wd.sub (ws' := [(a, .inr (2, [.ref r, .int (nI L.length)])), (r, .inl (g.2.1 0, n, .inl f))]) hw [0, 1] rfl rfl
          refine W.eq (g2 := F0 m 31 ls [.int (nI (optLen (L.getD j 0))), .int (nI j)]) rfl ?_
          refine r_iadd hx hb dX3_hasTypeAhead_31 ?_
          refine lv_istore_n (lv' := [(2, .int (nI (j + (optLen (L.getD j 0))))), (0, .ref a), (1, .int (nI k))]) hx hb dX3_hasTypeAhead_32 rfl hl (by decide) rfl (fun ls hl => ?_)
          refine lv_goto (tgt := 2) hx hb dX3_hasTypeAhead_33 (by decide) ?_
          have ho := optLen_b (L.getD j 0)
          exact ih_2 (j + (optLen (L.getD j 0))) _ _ _ (by omega) (by omega) (by rw [hd, dupW_f (by omega) c_17]) hw (lv_sub hl [1, 2, 0] rfl)
        · refine lv_iconst (v := nI 1) hx hb dX3_hasTypeAhead_20 (by decide) ?_
          exact RQ.zret hF hr hlk hw dX3_hasTypeAhead_21 (rfl) ⟨by decide, by decide⟩ (()) (rfl) ⟨rbt (by rw [hd, dupW_t (by omega) c_17]), trivial⟩
  exact lp_2 _ 3 _ _ _ (Nat.lt_succ_self _) (by omega) (rfl) hw (lv_sub hl [1, 2, 0] rfl)

set_option maxHeartbeats 4000000 in
set_option maxRecDepth 100000 in
theorem c_X3_hasWholeOptions (l : Launch) (g : GE) (a : Nat) (r : Nat) (n : Nat) (f : Nat → Int32) (L : List Nat) (hn : n ≤ 1000) (hL : L.length ≤ n) (hf : Hd f L) (hB : Bt L) (h5 : 5 ≤ L.length) : Ct l yX3_hasWholeOptions cX3_hasWholeOptions 2 (some .boolean) { frames := 2, cells := 0, slots := 0, locals := 43 } g [.ref a] [(a, .inr (2, [.ref r, .int (nI L.length)])), (r, .inl (g.2.1 0, n, .inl f))] (fun (v : Option Value) (u : Unit) => v = some (.int (nI (wholeW L (L.length - 2) 3).toNat)) ∧ True) (fun u : Unit => [(a, .inr (2, [.ref r, .int (nI L.length)])), (r, .inl (g.2.1 0, n, .inl f))]) := by
  refine Ct.of (own := RX3) rfl rfl (Nat.le_of_ble_eq_true rfl) ?_
  intro P0 e0 s m below meth c ls hF hr hlk hnm hw hl
  have hx := hF.1
  have hb := hF.2.1
  have hl : lv_has ls 2 [(0, .ref a)] := hl
  refine lv_iconst (v := nI 3) hx hb dX3_hasWholeOptions_0 (by decide) ?_
  refine lv_istore_n (lv' := [(1, .int (nI 3)), (0, .ref a)]) hx hb dX3_hasWholeOptions_1 rfl hl (by decide) rfl (fun ls hl => ?_)
  have lp_2 : ∀ (fuel_2 : Nat) (k : Nat) (H : Heap) (locs : List Loc) (ls : Array Slot), (L.length - k) < fuel_2 → (k ≤ L.length + 5) → (wholeW L (L.length - 2) 3 = wholeW L (L.length - 2) k) → Wd g (va_A [(a, .inr (2, [.ref r, .int (nI L.length)])), (r, .inl (g.2.1 0, n, .inl f))] s.heap.size) s H locs [(a, .inr (2, [.ref r, .int (nI L.length)])), (r, .inl (g.2.1 0, n, .inl f))] → lv_has ls 2 [(0, .ref a), (1, .int (nI k))] → W P0 l e0 { frames := 2, cells := 0, slots := 0, locals := 43 } s m ([.ref a] : List Value).toArray below meth c H locs 0 0 (RQ below ([.ref a] : List Value).toArray s { frames := 2, cells := 0, slots := 0, locals := 43 } g [(a, .inr (2, [.ref r, .int (nI L.length)])), (r, .inl (g.2.1 0, n, .inl f))] (fun (v : Option Value) (u : Unit) => v = some (.int (nI (wholeW L (L.length - 2) 3).toNat)) ∧ True) (fun u : Unit => [(a, .inr (2, [.ref r, .int (nI L.length)])), (r, .inl (g.2.1 0, n, .inl f))])) (F0 m 2 ls []) := by
    intro fuel_2
    induction fuel_2 with
    | zero => intro k H locs ls hm_2; exact absurd hm_2 (Nat.not_lt_zero _)
    | succ fuel_2 ih_2 =>
      intro k H locs ls hm_2 hk hd hw hl
      have hBk := hB.get k
      refine lv_iload_n hx hb dX3_hasWholeOptions_2 rfl (lv_at hl 1 rfl) ?_
      refine lv_aload_n hx hb dX3_hasWholeOptions_3 rfl (lv_at hl 0 rfl) ?_
      refine Ct.callV (wr := []) hF hw (c_X3_end l g a r n f L (by assumption) (by assumption) (by omega)) mwX3_30 [0, 1] [] rfl rfl rfl rfl (by decide) 0 rfl rfl ⟨by decide, by decide⟩ ⟨by decide, by decide⟩ rfl hl.1 (Nat.le_of_ble_eq_true rfl) rfl dX3_hasWholeOptions_4 (fun v u H locs hp hw => ?_)
      obtain ⟨rfl, hp_4⟩ := hp
      have hw := Wd.sub (ws' := [(a, .inr (2, [.ref r, .int (nI L.length)])), (r, .inl (g.2.1 0, n, .inl f))]) hw [0, 1] rfl rfl
      refine W.eq (g2 := F0 m 7 ls [.int (nI (L.length - 2)), .int (nI k)]) rfl ?_
      refine r_ge (tgt := 34) hx hb dX3_hasWholeOptions_7 (by decide) (by omega) (by omega) (fun c_7 => ?_) (fun c_7 => ?_)
      · refine lv_iload_n hx hb dX3_hasWholeOptions_34 rfl (lv_at hl 1 rfl) ?_
        refine lv_aload_n hx hb dX3_hasWholeOptions_35 rfl (lv_at hl 0 rfl) ?_
        refine Ct.callV (wr := []) hF hw (c_X3_end l g a r n f L (by assumption) (by assumption) (by omega)) mwX3_30 [0, 1] [] rfl rfl rfl rfl (by decide) 0 rfl rfl ⟨by decide, by decide⟩ ⟨by decide, by decide⟩ rfl hl.1 (Nat.le_of_ble_eq_true rfl) rfl dX3_hasWholeOptions_36 (fun v u H locs hp hw => ?_)
        obtain ⟨rfl, hp_36⟩ := hp
        have hw := Wd.sub (ws' := [(a, .inr (2, [.ref r, .int (nI L.length)])), (r, .inl (g.2.1 0, n, .inl f))]) hw [0, 1] rfl rfl
        refine W.eq (g2 := F0 m 39 ls [.int (nI (L.length - 2)), .int (nI k)]) rfl ?_
        refine r_ne (tgt := 46) hx hb dX3_hasWholeOptions_39 (by decide) (by omega) (by omega) (fun c_39 => ?_) (fun c_39 => ?_)
        · refine lv_iconst (v := nI 0) hx hb dX3_hasWholeOptions_46 (by decide) ?_
          exact RQ.zret hF hr hlk hw dX3_hasWholeOptions_47 (rfl) ⟨by decide, by decide⟩ (()) (rfl) ⟨by first | exact rbt (by rw [hd, wholeW_o (by omega)]; exact decide_eq_true (by omega)) | exact rbf (by rw [hd, wholeW_o (by omega)]; exact decide_eq_false (by omega)), trivial⟩
        · refine lv_iconst (v := nI 1) hx hb dX3_hasWholeOptions_42 (by decide) ?_
          refine lv_goto (tgt := 47) hx hb dX3_hasWholeOptions_43 (by decide) ?_
          exact RQ.zret hF hr hlk hw dX3_hasWholeOptions_47 (rfl) ⟨by decide, by decide⟩ (()) (rfl) ⟨by first | exact rbt (by rw [hd, wholeW_o (by omega)]; exact decide_eq_true (by omega)) | exact rbf (by rw [hd, wholeW_o (by omega)]; exact decide_eq_false (by omega)), trivial⟩
      · refine lv_aload_n hx hb dX3_hasWholeOptions_10 rfl (lv_at hl 0 rfl) ?_
        refine lv_iload_n hx hb dX3_hasWholeOptions_11 rfl (lv_at hl 1 rfl) ?_
        refine Ct.callV (wr := []) hF hw (c_X3_hasTypeAhead l g a r n f L k (by assumption) (by assumption) (by assumption) (by assumption) (by omega)) mwX3_44 [0, 1] [] rfl rfl rfl rfl (by decide) 0 rfl rfl ⟨by decide, by decide⟩ ⟨by decide, by decide⟩ rfl hl.1 (Nat.le_of_ble_eq_true rfl) rfl dX3_hasWholeOptions_12 (fun v u H locs hp hw => ?_)
        obtain ⟨rfl, hp_12⟩ := hp
        have hw := Wd.sub (ws' := [(a, .inr (2, [.ref r, .int (nI L.length)])), (r, .inl (g.2.1 0, n, .inl f))]) hw [0, 1] rfl rfl
        refine W.eq (g2 := F0 m 15 ls [.int (nI (dupW L k 3).toNat)]) rfl ?_
        have hdl := b_lt (dupW L k 3)
        refine r_eq0 (tgt := 20) hx hb dX3_hasWholeOptions_15 (by decide) (by omega) (fun c_15 => ?_) (fun c_15 => ?_)
        · refine lv_iload_n hx hb dX3_hasWholeOptions_20 rfl (lv_at hl 1 rfl) ?_
          refine lv_aload_n hx hb dX3_hasWholeOptions_21 rfl (lv_at hl 0 rfl) ?_
          refine lv_iload_n hx hb dX3_hasWholeOptions_22 rfl (lv_at hl 1 rfl) ?_
          refine Ct.callV (wr := []) hF hw (c_X3_at l g a r n f L k (by assumption) (by assumption) (by omega) (by assumption)) mwX3_23 [0, 1] [] rfl rfl rfl rfl (by decide) 0 rfl rfl ⟨by decide, by decide⟩ ⟨by decide, by decide⟩ rfl hl.1 (Nat.le_of_ble_eq_true rfl) rfl dX3_hasWholeOptions_23 (fun v u H locs hp hw => ?_)
          obtain ⟨rfl, hp_23⟩ := hp
          have hw := Wd.sub (ws' := [(a, .inr (2, [.ref r, .int (nI L.length)])), (r, .inl (g.2.1 0, n, .inl f))]) hw [0, 1] rfl rfl
          refine W.eq (g2 := F0 m 26 ls [.int (nI (L.getD k 0)), .int (nI k)]) rfl ?_
          refine Ct.callS (wr := [(a, .inr (2, [.ref r, .int (nI L.length)])), (r, .inl (g.2.1 0, n, .inl f))]) hF hw (c_X3_optionLength l g (L.getD k 0) (by omega)) mwX3_47 [] [0, 1] rfl rfl rfl rfl (by decide) ⟨by decide, by decide⟩ ⟨by decide, by decide⟩ rfl hl.1 (Nat.le_of_ble_eq_true rfl) rfl dX3_hasWholeOptions_26 (fun v u H locs hp hw => ?_)
          obtain ⟨rfl, hp_26⟩ := hp
          have hw := Wd.sub (ws' := [(a, .inr (2, [.ref r, .int (nI L.length)])), (r, .inl (g.2.1 0, n, .inl f))]) hw [0, 1] rfl rfl
          refine W.eq (g2 := F0 m 29 ls [.int (nI (optLen (L.getD k 0))), .int (nI k)]) rfl ?_
          refine r_iadd hx hb dX3_hasWholeOptions_29 ?_
          refine lv_istore_n (lv' := [(1, .int (nI (k + (optLen (L.getD k 0))))), (0, .ref a)]) hx hb dX3_hasWholeOptions_30 rfl hl (by decide) rfl (fun ls hl => ?_)
          refine lv_goto (tgt := 2) hx hb dX3_hasWholeOptions_31 (by decide) ?_
          have ho := optLen_b (L.getD k 0)
          exact ih_2 (k + (optLen (L.getD k 0))) _ _ _ (by omega) (by omega) (by rw [hd, wholeW_f (by omega) (bz c_15)]) hw (lv_sub hl [1, 0] rfl)
        · refine lv_iconst (v := nI 0) hx hb dX3_hasWholeOptions_18 (by decide) ?_
          exact RQ.zret hF hr hlk hw dX3_hasWholeOptions_19 (rfl) ⟨by decide, by decide⟩ (()) (rfl) ⟨rbf (by rw [hd, wholeW_t (by omega) (bnz c_15)]), trivial⟩
  exact lp_2 _ 3 _ _ _ (Nat.lt_succ_self _) (by omega) (rfl) hw (lv_sub hl [1, 0] rfl)

set_option maxHeartbeats 4000000 in
set_option maxRecDepth 100000 in
theorem c_X3_hasIdAndContentsOf (l : Launch) (g : GE) (a : Nat) (r : Nat) (n : Nat) (f : Nat → Int32) (L : List Nat) (a2 : Nat) (r2 : Nat) (n2 : Nat) (f2 : Nat → Int32) (M : List Nat) (hn : n ≤ 1000) (hL : L.length ≤ n) (hf : Hd f L) (h2 : 2 ≤ L.length) (hB : Bt L) (hB2 : Bt M) (hn2 : n2 ≤ 1000) (hM : M.length ≤ n2) (hf2 : Hd f2 M) : Ct l yX3_hasIdAndContentsOf cX3_hasIdAndContentsOf 3 (some .boolean) { frames := 1, cells := 0, slots := 0, locals := 21 } g [.ref a, .ref a2] [(a, .inr (2, [.ref r, .int (nI L.length)])), (r, .inl (g.2.1 0, n, .inl f)), (a2, .inr (2, [.ref r2, .int (nI M.length)])), (r2, .inl (g.2.1 0, n2, .inl f2))] (fun (v : Option Value) (u : Unit) => v = some (.int (nI (sameP L M).toNat)) ∧ True) (fun u : Unit => [(a, .inr (2, [.ref r, .int (nI L.length)])), (r, .inl (g.2.1 0, n, .inl f)), (a2, .inr (2, [.ref r2, .int (nI M.length)])), (r2, .inl (g.2.1 0, n2, .inl f2))]) := by
  refine Ct.of (own := RX3) rfl rfl (Nat.le_of_ble_eq_true rfl) ?_
  intro P0 e0 s m below meth c ls hF hr hlk hnm hw hl
  have hx := hF.1
  have hb := hF.2.1
  have hl : lv_has ls 3 [(0, .ref a), (1, .ref a2)] := hl
  refine lv_aload_n hx hb dX3_hasIdAndContentsOf_0 rfl (lv_at hl 0 rfl) ?_
  refine wget hF hw flX3_15 dX3_hasIdAndContentsOf_1 0 rfl rfl ?_
  refine lv_aload_n hx hb dX3_hasIdAndContentsOf_4 rfl (lv_at hl 1 rfl) ?_
  refine wget hF hw flX3_15 dX3_hasIdAndContentsOf_5 2 rfl rfl ?_
  refine r_eq (tgt := 13) hx hb dX3_hasIdAndContentsOf_8 (by decide) (by omega) (by omega) (fun c_8 => ?_) (fun c_8 => ?_)
  · refine lv_iconst (v := nI 2) hx hb dX3_hasIdAndContentsOf_13 (by decide) ?_
    refine lv_istore_n (lv' := [(2, .int (nI 2)), (0, .ref a), (1, .ref a2)]) hx hb dX3_hasIdAndContentsOf_14 rfl hl (by decide) rfl (fun ls hl => ?_)
    have lp_15 : ∀ (fuel_15 : Nat) (i : Nat) (H : Heap) (locs : List Loc) (ls : Array Slot), (L.length - i) < fuel_15 → (i ≤ L.length + 1) → (sameP L M = eqW L M (L.length - 2) i) → Wd g (va_A [(a, .inr (2, [.ref r, .int (nI L.length)])), (r, .inl (g.2.1 0, n, .inl f)), (a2, .inr (2, [.ref r2, .int (nI M.length)])), (r2, .inl (g.2.1 0, n2, .inl f2))] s.heap.size) s H locs [(a, .inr (2, [.ref r, .int (nI L.length)])), (r, .inl (g.2.1 0, n, .inl f)), (a2, .inr (2, [.ref r2, .int (nI M.length)])), (r2, .inl (g.2.1 0, n2, .inl f2))] → lv_has ls 3 [(0, .ref a), (1, .ref a2), (2, .int (nI i))] → W P0 l e0 { frames := 1, cells := 0, slots := 0, locals := 21 } s m ([.ref a, .ref a2] : List Value).toArray below meth c H locs 0 0 (RQ below ([.ref a, .ref a2] : List Value).toArray s { frames := 1, cells := 0, slots := 0, locals := 21 } g [(a, .inr (2, [.ref r, .int (nI L.length)])), (r, .inl (g.2.1 0, n, .inl f)), (a2, .inr (2, [.ref r2, .int (nI M.length)])), (r2, .inl (g.2.1 0, n2, .inl f2))] (fun (v : Option Value) (u : Unit) => v = some (.int (nI (sameP L M).toNat)) ∧ True) (fun u : Unit => [(a, .inr (2, [.ref r, .int (nI L.length)])), (r, .inl (g.2.1 0, n, .inl f)), (a2, .inr (2, [.ref r2, .int (nI M.length)])), (r2, .inl (g.2.1 0, n2, .inl f2))])) (F0 m 15 ls []) := by
      intro fuel_15
      induction fuel_15 with
      | zero => intro i H locs ls hm_15; exact absurd hm_15 (Nat.not_lt_zero _)
      | succ fuel_15 ih_15 =>
        intro i H locs ls hm_15 hi hd hw hl
        have hBi := hB.get i
        have hBj := hB2.get i
        refine lv_iload_n hx hb dX3_hasIdAndContentsOf_15 rfl (lv_at hl 2 rfl) ?_
        refine lv_aload_n hx hb dX3_hasIdAndContentsOf_16 rfl (lv_at hl 0 rfl) ?_
        refine Ct.callV (wr := [(a2, .inr (2, [.ref r2, .int (nI M.length)])), (r2, .inl (g.2.1 0, n2, .inl f2))]) hF hw (c_X3_end l g a r n f L (by assumption) (by assumption) (by omega)) mwX3_30 [0, 1] [2, 3] rfl rfl rfl rfl (by decide) 0 rfl rfl ⟨by decide, by decide⟩ ⟨by decide, by decide⟩ rfl hl.1 (Nat.le_of_ble_eq_true rfl) rfl dX3_hasIdAndContentsOf_17 (fun v u H locs hp hw => ?_)
        obtain ⟨rfl, hp_17⟩ := hp
        have hw := Wd.sub (ws' := [(a, .inr (2, [.ref r, .int (nI L.length)])), (r, .inl (g.2.1 0, n, .inl f)), (a2, .inr (2, [.ref r2, .int (nI M.length)])), (r2, .inl (g.2.1 0, n2, .inl f2))]) hw [2, 3, 0, 1] rfl rfl
        refine W.eq (g2 := F0 m 20 ls [.int (nI (L.length - 2)), .int (nI i)]) rfl ?_
        refine r_ge (tgt := 45) hx hb dX3_hasIdAndContentsOf_20 (by decide) (by omega) (by omega) (fun c_20 => ?_) (fun c_20 => ?_)
        · refine lv_iconst (v := nI 1) hx hb dX3_hasIdAndContentsOf_45 (by decide) ?_
          exact RQ.zret hF hr hlk hw dX3_hasIdAndContentsOf_46 (rfl) ⟨by decide, by decide⟩ (()) (rfl) ⟨rbt (by rw [hd, eqW_o (by omega)]), trivial⟩
        · refine lv_aload_n hx hb dX3_hasIdAndContentsOf_23 rfl (lv_at hl 0 rfl) ?_
          refine wget hF hw flX3_9 dX3_hasIdAndContentsOf_24 0 rfl rfl ?_
          refine lv_iload_n hx hb dX3_hasIdAndContentsOf_27 rfl (lv_at hl 2 rfl) ?_
          refine r_iald hF hw dX3_hasIdAndContentsOf_28 1 rfl (by omega) (by omega) ?_
          refine r_top (n := L.getD i 0) (hf i (by omega)) ?_
          refine lv_aload_n hx hb dX3_hasIdAndContentsOf_29 rfl (lv_at hl 1 rfl) ?_
          refine lv_iload_n hx hb dX3_hasIdAndContentsOf_30 rfl (lv_at hl 2 rfl) ?_
          refine Ct.callV (wr := [(a, .inr (2, [.ref r, .int (nI L.length)])), (r, .inl (g.2.1 0, n, .inl f))]) hF hw (c_X3_at l g a2 r2 n2 f2 M i (hn2) (hM) (by omega) (hf2)) mwX3_23 [2, 3] [0, 1] rfl rfl rfl rfl (by decide) 0 rfl rfl ⟨by decide, by decide⟩ ⟨by decide, by decide⟩ rfl hl.1 (Nat.le_of_ble_eq_true rfl) rfl dX3_hasIdAndContentsOf_31 (fun v u H locs hp hw => ?_)
          obtain ⟨rfl, hp_31⟩ := hp
          have hw := Wd.sub (ws' := [(a, .inr (2, [.ref r, .int (nI L.length)])), (r, .inl (g.2.1 0, n, .inl f)), (a2, .inr (2, [.ref r2, .int (nI M.length)])), (r2, .inl (g.2.1 0, n2, .inl f2))]) hw [0, 1, 2, 3] rfl rfl
          refine W.eq (g2 := F0 m 34 ls [.int (nI (M.getD i 0)), .int (nI (L.getD i 0))]) rfl ?_
          refine r_eq (tgt := 39) hx hb dX3_hasIdAndContentsOf_34 (by decide) (by omega) (by omega) (fun c_34 => ?_) (fun c_34 => ?_)
          · refine r_iinc (k := 2) (d := 1) (lv' := [(2, .int (nI (i + 1))), (0, .ref a), (1, .ref a2)]) hx hb dX3_hasIdAndContentsOf_39 hl rfl (by decide) (by decide) rfl (fun ls hl => ?_)
            refine lv_goto (tgt := 15) hx hb dX3_hasIdAndContentsOf_42 (by decide) ?_
            exact ih_15 (i + 1) _ _ _ (by omega) (by omega) (by rw [hd, eqW_t (by omega) c_34]) hw (lv_sub hl [1, 2, 0] rfl)
          · refine lv_iconst (v := nI 0) hx hb dX3_hasIdAndContentsOf_37 (by decide) ?_
            exact RQ.zret hF hr hlk hw dX3_hasIdAndContentsOf_38 (rfl) ⟨by decide, by decide⟩ (()) (rfl) ⟨rbf (by rw [hd, eqW_f (by omega) c_34]), trivial⟩
    exact lp_15 _ 2 _ _ _ (Nat.lt_succ_self _) (by omega) (by unfold sameP; rw [decide_eq_true c_8]; rfl) hw (lv_sub hl [1, 2, 0] rfl)
  · refine lv_iconst (v := nI 0) hx hb dX3_hasIdAndContentsOf_11 (by decide) ?_
    exact RQ.zret hF hr hlk hw dX3_hasIdAndContentsOf_12 (rfl) ⟨by decide, by decide⟩ (()) (rfl) ⟨rbf (by unfold sameP; rw [decide_eq_false c_8]; rfl), trivial⟩

set_option maxHeartbeats 4000000 in
set_option maxRecDepth 100000 in
theorem c_X3_copyFrom (l : Launch) (g : GE) (a : Nat) (r : Nat) (n : Nat) (f : Nat → Int32) (L : List Nat) (a2 : Nat) (r2 : Nat) (n2 : Nat) (f2 : Nat → Int32) (M : List Nat) (hn : n ≤ 1000) (hn2 : n2 ≤ 1000) (hM : M.length ≤ n2) (hf2 : Hd f2 M) (hB2 : Bt M) (hMn : M.length ≤ n) : Ct l yX3_copyFrom cX3_copyFrom 3 none { frames := 1, cells := 0, slots := 0, locals := 21 } g [.ref a, .ref a2] [(a, .inr (2, [.ref r, .int (nI L.length)])), (r, .inl (g.2.1 0, n, .inl f)), (a2, .inr (2, [.ref r2, .int (nI M.length)])), (r2, .inl (g.2.1 0, n2, .inl f2))] (fun (v : Option Value) (u : (Nat → Int32)) => v = none ∧ Hd u M) (fun u : (Nat → Int32) => [(a, .inr (2, [.ref r, .int (nI M.length)])), (r, .inl (g.2.1 0, n, .inl u)), (a2, .inr (2, [.ref r2, .int (nI M.length)])), (r2, .inl (g.2.1 0, n2, .inl f2))]) := by
  refine Ct.of (own := RX3) rfl rfl (Nat.le_of_ble_eq_true rfl) ?_
  intro P0 e0 s m below meth c ls hF hr hlk hnm hw hl
  have hx := hF.1
  have hb := hF.2.1
  have hl : lv_has ls 3 [(0, .ref a), (1, .ref a2)] := hl
  refine lv_aload_n hx hb dX3_copyFrom_0 rfl (lv_at hl 0 rfl) ?_
  refine lv_iconst (v := nI 0) hx hb dX3_copyFrom_1 (by decide) ?_
  refine r_put (ws' := [(a, .inr (2, [.ref r, .int (nI 0)])), (r, .inl (g.2.1 0, n, .inl f)), (a2, .inr (2, [.ref r2, .int (nI M.length)])), (r2, .inl (g.2.1 0, n2, .inl f2))]) hF hw flX3_15 ftX3 dX3_copyFrom_2 0 rfl rfl rfl rfl (Nat.le_of_ble_eq_true rfl) rfl (fun H locs hw => ?_)
  refine lv_iconst (v := nI 0) hx hb dX3_copyFrom_5 (by decide) ?_
  refine lv_istore_n (lv' := [(2, .int (nI 0)), (0, .ref a), (1, .ref a2)]) hx hb dX3_copyFrom_6 rfl hl (by decide) rfl (fun ls hl => ?_)
  have lp_7 : ∀ (fuel_7 : Nat) (i : Nat) (f4 : Nat → Int32) (H : Heap) (locs : List Loc) (ls : Array Slot), (M.length - i) < fuel_7 → (i ≤ M.length) → (Hd f4 (M.take i)) → Wd g (va_A [(a, .inr (2, [.ref r, .int (nI L.length)])), (r, .inl (g.2.1 0, n, .inl f)), (a2, .inr (2, [.ref r2, .int (nI M.length)])), (r2, .inl (g.2.1 0, n2, .inl f2))] s.heap.size) s H locs [(a, .inr (2, [.ref r, .int (nI (M.take i).length)])), (r, .inl (g.2.1 0, n, .inl f4)), (a2, .inr (2, [.ref r2, .int (nI M.length)])), (r2, .inl (g.2.1 0, n2, .inl f2))] → lv_has ls 3 [(0, .ref a), (1, .ref a2), (2, .int (nI i))] → W P0 l e0 { frames := 1, cells := 0, slots := 0, locals := 21 } s m ([.ref a, .ref a2] : List Value).toArray below meth c H locs 0 0 (RQ below ([.ref a, .ref a2] : List Value).toArray s { frames := 1, cells := 0, slots := 0, locals := 21 } g [(a, .inr (2, [.ref r, .int (nI L.length)])), (r, .inl (g.2.1 0, n, .inl f)), (a2, .inr (2, [.ref r2, .int (nI M.length)])), (r2, .inl (g.2.1 0, n2, .inl f2))] (fun (v : Option Value) (u : (Nat → Int32)) => v = none ∧ Hd u M) (fun u : (Nat → Int32) => [(a, .inr (2, [.ref r, .int (nI M.length)])), (r, .inl (g.2.1 0, n, .inl u)), (a2, .inr (2, [.ref r2, .int (nI M.length)])), (r2, .inl (g.2.1 0, n2, .inl f2))])) (F0 m 7 ls []) := by
    intro fuel_7
    induction fuel_7 with
    | zero => intro i f4 H locs ls hm_7; exact absurd hm_7 (Nat.not_lt_zero _)
    | succ fuel_7 ih_7 =>
      intro i f4 H locs ls hm_7 hi hf4 hw hl
      have hBi := hB2.get i
      refine lv_iload_n hx hb dX3_copyFrom_7 rfl (lv_at hl 2 rfl) ?_
      refine lv_aload_n hx hb dX3_copyFrom_8 rfl (lv_at hl 1 rfl) ?_
      refine wget hF hw flX3_15 dX3_copyFrom_9 2 rfl rfl ?_
      refine r_ge (tgt := 31) hx hb dX3_copyFrom_12 (by decide) (by omega) (by omega) (fun c_12 => ?_) (fun c_12 => ?_)
      · have ei : M.take i = M := by rw [show i = M.length by omega, List.take_length]
        rw [ei] at hw hf4
        exact RQ.vret hF hr hlk hw dX3_copyFrom_31 ⟨by decide, by decide⟩ ((f4)) (rfl) ⟨rfl, hf4⟩
      · refine lv_aload_n hx hb dX3_copyFrom_15 rfl (lv_at hl 0 rfl) ?_
        refine lv_aload_n hx hb dX3_copyFrom_16 rfl (lv_at hl 1 rfl) ?_
        refine wget hF hw flX3_9 dX3_copyFrom_17 2 rfl rfl ?_
        refine lv_iload_n hx hb dX3_copyFrom_20 rfl (lv_at hl 2 rfl) ?_
        refine r_iald hF hw dX3_copyFrom_21 3 rfl (by omega) (by omega) ?_
        refine r_top (n := M.getD i 0) (hf2 i (by omega)) ?_
        refine Ct.callV (wr := [(a2, .inr (2, [.ref r2, .int (nI M.length)])), (r2, .inl (g.2.1 0, n2, .inl f2))]) hF hw (c_X3_add l g a r n f4 (M.take i) (nI (M.getD i 0)) (M.getD i 0) (by assumption) (by rw [List.length_take]; omega) (hf4) (by rw [pk_tn (by omega)]; omega)) mwX3_19 [0, 1] [2, 3] rfl rfl rfl rfl (by decide) 0 rfl rfl ⟨by decide, by decide⟩ ⟨by decide, by decide⟩ rfl hl.1 (Nat.le_of_ble_eq_true rfl) rfl dX3_copyFrom_22 (fun v u H locs hp hw => ?_)
        obtain ⟨f2_22, rfl⟩ : ∃ z, z = u := ⟨_, rfl⟩
        obtain ⟨rfl, hp_22⟩ := hp
        try dsimp only at hp_22
        have hw := Wd.sub (ws' := [(a, .inr (2, [.ref r, .int (nI ((M.take i) ++ [(M.getD i 0)]).length)])), (r, .inl (g.2.1 0, n, .inl f2_22)), (a2, .inr (2, [.ref r2, .int (nI M.length)])), (r2, .inl (g.2.1 0, n2, .inl f2))]) hw [2, 3, 0, 1] rfl rfl
        refine W.eq (g2 := F0 m 25 ls []) rfl ?_
        refine r_iinc (k := 2) (d := 1) (lv' := [(2, .int (nI (i + 1))), (0, .ref a), (1, .ref a2)]) hx hb dX3_copyFrom_25 hl rfl (by decide) (by decide) rfl (fun ls hl => ?_)
        refine lv_goto (tgt := 7) hx hb dX3_copyFrom_28 (by decide) ?_
        rw [← take_succD (L := M) (by omega)] at hw hp_22
        exact ih_7 (i + 1) f2_22 _ _ _ (by omega) (by omega) (hp_22) hw (lv_sub hl [1, 2, 0] rfl)
  exact lp_7 _ 0 f _ _ _ (Nat.lt_succ_self _) (by omega) (Hd.nil) hw (lv_sub hl [1, 2, 0] rfl)

set_option maxHeartbeats 4000000 in
set_option maxRecDepth 100000 in
theorem c_X3_start (l : Launch) (g : GE) (a : Nat) (r : Nat) (n : Nat) (f : Nat → Int32) (L : List Nat) (cd : Nat) (id : Nat) (hn : n ≤ 1000) (h3 : 3 ≤ n) (hc8 : cd < 256) (hi8 : id < 256) : Ct l yX3_start cX3_start 3 none { frames := 1, cells := 0, slots := 0, locals := 21 } g [.ref a, .int (nI cd), .int (nI id)] [(a, .inr (2, [.ref r, .int (nI L.length)])), (r, .inl (g.2.1 0, n, .inl f))] (fun (v : Option Value) (u : (Nat → Int32)) => v = none ∧ Hd u [1, cd, id]) (fun u : (Nat → Int32) => [(a, .inr (2, [.ref r, .int (nI [1, cd, id].length)])), (r, .inl (g.2.1 0, n, .inl u))]) := by
  refine Ct.of (own := RX3) rfl rfl (Nat.le_of_ble_eq_true rfl) ?_
  intro P0 e0 s m below meth c ls hF hr hlk hnm hw hl
  have hx := hF.1
  have hb := hF.2.1
  have hl : lv_has ls 3 [(0, .ref a), (1, .int (nI cd)), (2, .int (nI id))] := hl
  refine lv_aload_n hx hb dX3_start_0 rfl (lv_at hl 0 rfl) ?_
  refine lv_iconst (v := nI 0) hx hb dX3_start_1 (by decide) ?_
  refine r_put (ws' := [(a, .inr (2, [.ref r, .int (nI 0)])), (r, .inl (g.2.1 0, n, .inl f))]) hF hw flX3_15 ftX3 dX3_start_2 0 rfl rfl rfl rfl (Nat.le_of_ble_eq_true rfl) rfl (fun H locs hw => ?_)
  refine lv_aload_n hx hb dX3_start_5 rfl (lv_at hl 0 rfl) ?_
  refine lv_iconst (v := nI 1) hx hb dX3_start_6 (by decide) ?_
  refine Ct.callV (wr := []) hF hw (c_X3_add l g a r n f [] (nI 1) 1 (by assumption) (by show 0 < n; omega) (Hd.nil) (by decide)) mwX3_19 [0, 1] [] rfl rfl rfl rfl (by decide) 0 rfl rfl ⟨by decide, by decide⟩ ⟨by decide, by decide⟩ rfl hl.1 (Nat.le_of_ble_eq_true rfl) rfl dX3_start_7 (fun v u H locs hp hw => ?_)
  obtain ⟨f2_7, rfl⟩ : ∃ z, z = u := ⟨_, rfl⟩
  obtain ⟨rfl, hp_7⟩ := hp
  try dsimp only at hp_7
  have hw := Wd.sub (ws' := [(a, .inr (2, [.ref r, .int (nI ([] ++ [1]).length)])), (r, .inl (g.2.1 0, n, .inl f2_7))]) hw [0, 1] rfl rfl
  refine W.eq (g2 := F0 m 10 ls []) rfl ?_
  refine lv_aload_n hx hb dX3_start_10 rfl (lv_at hl 0 rfl) ?_
  refine lv_iload_n hx hb dX3_start_11 rfl (lv_at hl 1 rfl) ?_
  refine Ct.callV (wr := []) hF hw (c_X3_add l g a r n f2_7 ([] ++ [1]) (nI cd) cd (by assumption) (by show 1 < n; omega) (hp_7) (by first | (rw [pk_tn (by omega)]; done) | (rw [pk_tn (by omega)]; omega))) mwX3_19 [0, 1] [] rfl rfl rfl rfl (by decide) 0 rfl rfl ⟨by decide, by decide⟩ ⟨by decide, by decide⟩ rfl hl.1 (Nat.le_of_ble_eq_true rfl) rfl dX3_start_12 (fun v u H locs hp hw => ?_)
  obtain ⟨f2_12, rfl⟩ : ∃ z, z = u := ⟨_, rfl⟩
  obtain ⟨rfl, hp_12⟩ := hp
  try dsimp only at hp_12
  have hw := Wd.sub (ws' := [(a, .inr (2, [.ref r, .int (nI (([] ++ [1]) ++ [cd]).length)])), (r, .inl (g.2.1 0, n, .inl f2_12))]) hw [0, 1] rfl rfl
  refine W.eq (g2 := F0 m 15 ls []) rfl ?_
  refine lv_aload_n hx hb dX3_start_15 rfl (lv_at hl 0 rfl) ?_
  refine lv_iload_n hx hb dX3_start_16 rfl (lv_at hl 2 rfl) ?_
  refine Ct.callV (wr := []) hF hw (c_X3_add l g a r n f2_12 (([] ++ [1]) ++ [cd]) (nI id) id (by assumption) (by show 2 < n; omega) (hp_12) (by first | (rw [pk_tn (by omega)]; done) | (rw [pk_tn (by omega)]; omega))) mwX3_19 [0, 1] [] rfl rfl rfl rfl (by decide) 0 rfl rfl ⟨by decide, by decide⟩ ⟨by decide, by decide⟩ rfl hl.1 (Nat.le_of_ble_eq_true rfl) rfl dX3_start_17 (fun v u H locs hp hw => ?_)
  obtain ⟨f2_17, rfl⟩ : ∃ z, z = u := ⟨_, rfl⟩
  obtain ⟨rfl, hp_17⟩ := hp
  try dsimp only at hp_17
  have hw := Wd.sub (ws' := [(a, .inr (2, [.ref r, .int (nI ((([] ++ [1]) ++ [cd]) ++ [id]).length)])), (r, .inl (g.2.1 0, n, .inl f2_17))]) hw [0, 1] rfl rfl
  refine W.eq (g2 := F0 m 20 ls []) rfl ?_
  exact RQ.vret hF hr hlk hw dX3_start_20 ⟨by decide, by decide⟩ ((f2_17)) (rfl) ⟨rfl, hp_17⟩

set_option maxHeartbeats 4000000 in
set_option maxRecDepth 100000 in
theorem c_X3_addSizeOption (l : Launch) (g : GE) (a : Nat) (r : Nat) (n : Nat) (f : Nat → Int32) (L : List Nat) (z : Nat) (hn : n ≤ 1000) (hL : L.length + 3 ≤ n) (hf : Hd f L) (hz : z < 65536) : Ct l yX3_addSizeOption cX3_addSizeOption 2 none { frames := 1, cells := 0, slots := 0, locals := 21 } g [.ref a, .int (nI z)] [(a, .inr (2, [.ref r, .int (nI L.length)])), (r, .inl (g.2.1 0, n, .inl f))] (fun (v : Option Value) (u : (Nat → Int32)) => v = none ∧ Hd u (L ++ [1, z / 256, z % 256])) (fun u : (Nat → Int32) => [(a, .inr (2, [.ref r, .int (nI (L ++ [1, z / 256, z % 256]).length)])), (r, .inl (g.2.1 0, n, .inl u))]) := by
  refine Ct.of (own := RX3) rfl rfl (Nat.le_of_ble_eq_true rfl) ?_
  intro P0 e0 s m below meth c ls hF hr hlk hnm hw hl
  have hx := hF.1
  have hb := hF.2.1
  have hl : lv_has ls 2 [(0, .ref a), (1, .int (nI z))] := hl
  refine lv_aload_n hx hb dX3_addSizeOption_0 rfl (lv_at hl 0 rfl) ?_
  refine lv_iconst (v := nI 1) hx hb dX3_addSizeOption_1 (by decide) ?_
  refine Ct.callV (wr := []) hF hw (c_X3_add l g a r n f L (nI 1) 1 (by assumption) (by (try simp only [List.length_append, List.length_cons, List.length_nil]); omega) (by assumption) (by decide)) mwX3_19 [0, 1] [] rfl rfl rfl rfl (by decide) 0 rfl rfl ⟨by decide, by decide⟩ ⟨by decide, by decide⟩ rfl hl.1 (Nat.le_of_ble_eq_true rfl) rfl dX3_addSizeOption_2 (fun v u H locs hp hw => ?_)
  obtain ⟨f2_2, rfl⟩ : ∃ z, z = u := ⟨_, rfl⟩
  obtain ⟨rfl, hp_2⟩ := hp
  try dsimp only at hp_2
  have hw := Wd.sub (ws' := [(a, .inr (2, [.ref r, .int (nI (L ++ [1]).length)])), (r, .inl (g.2.1 0, n, .inl f2_2))]) hw [0, 1] rfl rfl
  refine W.eq (g2 := F0 m 5 ls []) rfl ?_
  refine lv_aload_n hx hb dX3_addSizeOption_5 rfl (lv_at hl 0 rfl) ?_
  refine lv_iload_n hx hb dX3_addSizeOption_6 rfl (lv_at hl 1 rfl) ?_
  refine lv_bipush (v := nI 8) hx hb dX3_addSizeOption_7 (by decide) ?_
  refine r_ishr hx hb dX3_addSizeOption_9 (by omega) (by decide) ?_
  refine Ct.callV (wr := []) hF hw (c_X3_add l g a r n f2_2 (L ++ [1]) (nI (z / 2 ^ 8)) (z / 256) (by assumption) (by (try simp only [List.length_append, List.length_cons, List.length_nil]); omega) (hp_2) (by first | (rw [pk_tn (by omega)]; done) | (rw [pk_tn (by omega)]; omega))) mwX3_19 [0, 1] [] rfl rfl rfl rfl (by decide) 0 rfl rfl ⟨by decide, by decide⟩ ⟨by decide, by decide⟩ rfl hl.1 (Nat.le_of_ble_eq_true rfl) rfl dX3_addSizeOption_10 (fun v u H locs hp hw => ?_)
  obtain ⟨f2_10, rfl⟩ : ∃ z, z = u := ⟨_, rfl⟩
  obtain ⟨rfl, hp_10⟩ := hp
  try dsimp only at hp_10
  have hw := Wd.sub (ws' := [(a, .inr (2, [.ref r, .int (nI ((L ++ [1]) ++ [(z / 256)]).length)])), (r, .inl (g.2.1 0, n, .inl f2_10))]) hw [0, 1] rfl rfl
  refine W.eq (g2 := F0 m 13 ls []) rfl ?_
  refine lv_aload_n hx hb dX3_addSizeOption_13 rfl (lv_at hl 0 rfl) ?_
  refine lv_iload_n hx hb dX3_addSizeOption_14 rfl (lv_at hl 1 rfl) ?_
  refine Ct.callV (wr := []) hF hw (c_X3_add l g a r n f2_10 ((L ++ [1]) ++ [(z / 256)]) (nI z) (z % 256) (by assumption) (by (try simp only [List.length_append, List.length_cons, List.length_nil]); omega) (hp_10) (by first | (rw [pk_tn (by omega)]; done) | (rw [pk_tn (by omega)]; omega))) mwX3_19 [0, 1] [] rfl rfl rfl rfl (by decide) 0 rfl rfl ⟨by decide, by decide⟩ ⟨by decide, by decide⟩ rfl hl.1 (Nat.le_of_ble_eq_true rfl) rfl dX3_addSizeOption_15 (fun v u H locs hp hw => ?_)
  obtain ⟨f2_15, rfl⟩ : ∃ z, z = u := ⟨_, rfl⟩
  obtain ⟨rfl, hp_15⟩ := hp
  try dsimp only at hp_15
  have hw := Wd.sub (ws' := [(a, .inr (2, [.ref r, .int (nI (((L ++ [1]) ++ [(z / 256)]) ++ [(z % 256)]).length)])), (r, .inl (g.2.1 0, n, .inl f2_15))]) hw [0, 1] rfl rfl
  refine W.eq (g2 := F0 m 18 ls []) rfl ?_
  have e9 : L ++ [1] ++ [z / 256] ++ [z % 256] = L ++ [1, z / 256, z % 256] := by simp
  rw [e9] at hw hp_15
  exact RQ.vret hF hr hlk hw dX3_addSizeOption_18 ⟨by decide, by decide⟩ ((f2_15)) (rfl) ⟨rfl, hp_15⟩

set_option maxHeartbeats 4000000 in
set_option maxRecDepth 100000 in
theorem c_X3_addNumber (l : Launch) (g : GE) (a : Nat) (r : Nat) (n : Nat) (f : Nat → Int32) (L : List Nat) (w : Int32) (hn : n ≤ 1000) (hL : L.length + 4 ≤ n) (hf : Hd f L) : Ct l yX3_addNumber cX3_addNumber 2 none { frames := 1, cells := 0, slots := 0, locals := 21 } g [.ref a, .int w] [(a, .inr (2, [.ref r, .int (nI L.length)])), (r, .inl (g.2.1 0, n, .inl f))] (fun (v : Option Value) (u : (Nat → Int32)) => v = none ∧ Hd u (L ++ nbs w)) (fun u : (Nat → Int32) => [(a, .inr (2, [.ref r, .int (nI (L ++ nbs w).length)])), (r, .inl (g.2.1 0, n, .inl u))]) := by
  refine Ct.of (own := RX3) rfl rfl (Nat.le_of_ble_eq_true rfl) ?_
  intro P0 e0 s m below meth c ls hF hr hlk hnm hw hl
  have hx := hF.1
  have hb := hF.2.1
  have hl : lv_has ls 2 [(0, .ref a), (1, .int w)] := hl
  refine lv_aload_n hx hb dX3_addNumber_0 rfl (lv_at hl 0 rfl) ?_
  refine lv_iload_n hx hb dX3_addNumber_1 rfl (lv_at hl 1 rfl) ?_
  refine lv_bipush (v := nI 24) hx hb dX3_addNumber_2 (by decide) ?_
  refine lv_ishr hx hb dX3_addNumber_4 ?_
  refine Ct.callV (wr := []) hF hw (c_X3_add l g a r n f L (w >>> ((nI 24) &&& 31)) (lowb (w >>> (nI 24 &&& 31))) (by assumption) (by (try simp only [List.length_append, List.length_cons, List.length_nil]); omega) (by assumption) (rfl)) mwX3_19 [0, 1] [] rfl rfl rfl rfl (by decide) 0 rfl rfl ⟨by decide, by decide⟩ ⟨by decide, by decide⟩ rfl hl.1 (Nat.le_of_ble_eq_true rfl) rfl dX3_addNumber_5 (fun v u H locs hp hw => ?_)
  obtain ⟨f2_5, rfl⟩ : ∃ z, z = u := ⟨_, rfl⟩
  obtain ⟨rfl, hp_5⟩ := hp
  try dsimp only at hp_5
  have hw := Wd.sub (ws' := [(a, .inr (2, [.ref r, .int (nI (L ++ [(lowb (w >>> (nI 24 &&& 31)))]).length)])), (r, .inl (g.2.1 0, n, .inl f2_5))]) hw [0, 1] rfl rfl
  refine W.eq (g2 := F0 m 8 ls []) rfl ?_
  refine lv_aload_n hx hb dX3_addNumber_8 rfl (lv_at hl 0 rfl) ?_
  refine lv_iload_n hx hb dX3_addNumber_9 rfl (lv_at hl 1 rfl) ?_
  refine lv_bipush (v := nI 16) hx hb dX3_addNumber_10 (by decide) ?_
  refine lv_ishr hx hb dX3_addNumber_12 ?_
  refine Ct.callV (wr := []) hF hw (c_X3_add l g a r n f2_5 (L ++ [(lowb (w >>> (nI 24 &&& 31)))]) (w >>> ((nI 16) &&& 31)) (lowb (w >>> (nI 16 &&& 31))) (by assumption) (by (try simp only [List.length_append, List.length_cons, List.length_nil]); omega) (hp_5) (rfl)) mwX3_19 [0, 1] [] rfl rfl rfl rfl (by decide) 0 rfl rfl ⟨by decide, by decide⟩ ⟨by decide, by decide⟩ rfl hl.1 (Nat.le_of_ble_eq_true rfl) rfl dX3_addNumber_13 (fun v u H locs hp hw => ?_)
  obtain ⟨f2_13, rfl⟩ : ∃ z, z = u := ⟨_, rfl⟩
  obtain ⟨rfl, hp_13⟩ := hp
  try dsimp only at hp_13
  have hw := Wd.sub (ws' := [(a, .inr (2, [.ref r, .int (nI ((L ++ [(lowb (w >>> (nI 24 &&& 31)))]) ++ [(lowb (w >>> (nI 16 &&& 31)))]).length)])), (r, .inl (g.2.1 0, n, .inl f2_13))]) hw [0, 1] rfl rfl
  refine W.eq (g2 := F0 m 16 ls []) rfl ?_
  refine lv_aload_n hx hb dX3_addNumber_16 rfl (lv_at hl 0 rfl) ?_
  refine lv_iload_n hx hb dX3_addNumber_17 rfl (lv_at hl 1 rfl) ?_
  refine lv_bipush (v := nI 8) hx hb dX3_addNumber_18 (by decide) ?_
  refine lv_ishr hx hb dX3_addNumber_20 ?_
  refine Ct.callV (wr := []) hF hw (c_X3_add l g a r n f2_13 ((L ++ [(lowb (w >>> (nI 24 &&& 31)))]) ++ [(lowb (w >>> (nI 16 &&& 31)))]) (w >>> ((nI 8) &&& 31)) (lowb (w >>> (nI 8 &&& 31))) (by assumption) (by (try simp only [List.length_append, List.length_cons, List.length_nil]); omega) (hp_13) (rfl)) mwX3_19 [0, 1] [] rfl rfl rfl rfl (by decide) 0 rfl rfl ⟨by decide, by decide⟩ ⟨by decide, by decide⟩ rfl hl.1 (Nat.le_of_ble_eq_true rfl) rfl dX3_addNumber_21 (fun v u H locs hp hw => ?_)
  obtain ⟨f2_21, rfl⟩ : ∃ z, z = u := ⟨_, rfl⟩
  obtain ⟨rfl, hp_21⟩ := hp
  try dsimp only at hp_21
  have hw := Wd.sub (ws' := [(a, .inr (2, [.ref r, .int (nI (((L ++ [(lowb (w >>> (nI 24 &&& 31)))]) ++ [(lowb (w >>> (nI 16 &&& 31)))]) ++ [(lowb (w >>> (nI 8 &&& 31)))]).length)])), (r, .inl (g.2.1 0, n, .inl f2_21))]) hw [0, 1] rfl rfl
  refine W.eq (g2 := F0 m 24 ls []) rfl ?_
  refine lv_aload_n hx hb dX3_addNumber_24 rfl (lv_at hl 0 rfl) ?_
  refine lv_iload_n hx hb dX3_addNumber_25 rfl (lv_at hl 1 rfl) ?_
  refine Ct.callV (wr := []) hF hw (c_X3_add l g a r n f2_21 (((L ++ [(lowb (w >>> (nI 24 &&& 31)))]) ++ [(lowb (w >>> (nI 16 &&& 31)))]) ++ [(lowb (w >>> (nI 8 &&& 31)))]) w (lowb w) (by assumption) (by (try simp only [List.length_append, List.length_cons, List.length_nil]); omega) (hp_21) (rfl)) mwX3_19 [0, 1] [] rfl rfl rfl rfl (by decide) 0 rfl rfl ⟨by decide, by decide⟩ ⟨by decide, by decide⟩ rfl hl.1 (Nat.le_of_ble_eq_true rfl) rfl dX3_addNumber_26 (fun v u H locs hp hw => ?_)
  obtain ⟨f2_26, rfl⟩ : ∃ z, z = u := ⟨_, rfl⟩
  obtain ⟨rfl, hp_26⟩ := hp
  try dsimp only at hp_26
  have hw := Wd.sub (ws' := [(a, .inr (2, [.ref r, .int (nI ((((L ++ [(lowb (w >>> (nI 24 &&& 31)))]) ++ [(lowb (w >>> (nI 16 &&& 31)))]) ++ [(lowb (w >>> (nI 8 &&& 31)))]) ++ [(lowb w)]).length)])), (r, .inl (g.2.1 0, n, .inl f2_26))]) hw [0, 1] rfl rfl
  refine W.eq (g2 := F0 m 29 ls []) rfl ?_
  have e9 : L ++ [lowb (w >>> (nI 24 &&& 31))] ++ [lowb (w >>> (nI 16 &&& 31))] ++ [lowb (w >>> (nI 8 &&& 31))] ++ [lowb w] = L ++ nbs w := by simp [nbs]
  rw [e9] at hw hp_26
  exact RQ.vret hF hr hlk hw dX3_addNumber_29 ⟨by decide, by decide⟩ ((f2_26)) (rfl) ⟨rfl, hp_26⟩

set_option maxHeartbeats 4000000 in
set_option maxRecDepth 100000 in
theorem c_X3_isWellFormed (l : Launch) (g : GE) (a : Nat) (r : Nat) (n : Nat) (f : Nat → Int32) (L : List Nat) (hn : n ≤ 1000) (hL : L.length ≤ n) (hf : Hd f L) (hB : Bt L) (h5 : 5 ≤ L.length) : Ct l yX3_isWellFormed cX3_isWellFormed 2 (some .boolean) { frames := 3, cells := 0, slots := 0, locals := 64 } g [.ref a] [(a, .inr (2, [.ref r, .int (nI L.length)])), (r, .inl (g.2.1 0, n, .inl f))] (fun (v : Option Value) (u : Unit) => v = some (.int (nI (wfL L).toNat)) ∧ True) (fun u : Unit => [(a, .inr (2, [.ref r, .int (nI L.length)])), (r, .inl (g.2.1 0, n, .inl f))]) := by
  refine Ct.of (own := RX3) rfl rfl (Nat.le_of_ble_eq_true rfl) ?_
  intro P0 e0 s m below meth c ls hF hr hlk hnm hw hl
  have hx := hF.1
  have hb := hF.2.1
  have hl : lv_has ls 2 [(0, .ref a)] := hl
  have hB0 := hB.get 0
  have hB1 := hB.get 1
  refine lv_aload_n hx hb dX3_isWellFormed_0 rfl (lv_at hl 0 rfl) ?_
  refine lv_iconst (v := nI 0) hx hb dX3_isWellFormed_1 (by decide) ?_
  refine Ct.callV (wr := []) hF hw (c_X3_at l g a r n f L 0 (by assumption) (by assumption) (by omega) (by assumption)) mwX3_23 [0, 1] [] rfl rfl rfl rfl (by decide) 0 rfl rfl ⟨by decide, by decide⟩ ⟨by decide, by decide⟩ rfl hl.1 (Nat.le_of_ble_eq_true rfl) rfl dX3_isWellFormed_2 (fun v u H locs hp hw => ?_)
  obtain ⟨rfl, hp_2⟩ := hp
  have hw := Wd.sub (ws' := [(a, .inr (2, [.ref r, .int (nI L.length)])), (r, .inl (g.2.1 0, n, .inl f))]) hw [0, 1] rfl rfl
  refine W.eq (g2 := F0 m 5 ls [.int (nI (L.getD 0 0))]) rfl ?_
  refine lv_iconst (v := nI 1) hx hb dX3_isWellFormed_5 (by decide) ?_
  refine r_eq (tgt := 24) hx hb dX3_isWellFormed_6 (by decide) (by omega) (by omega) (fun c_6 => ?_) (fun c_6 => ?_)
  · refine lv_aload_n hx hb dX3_isWellFormed_24 rfl (lv_at hl 0 rfl) ?_
    refine Ct.callV (wr := []) hF hw (c_X3_end l g a r n f L (by assumption) (by assumption) (by omega)) mwX3_30 [0, 1] [] rfl rfl rfl rfl (by decide) 0 rfl rfl ⟨by decide, by decide⟩ ⟨by decide, by decide⟩ rfl hl.1 (Nat.le_of_ble_eq_true rfl) rfl dX3_isWellFormed_25 (fun v u H locs hp hw => ?_)
    obtain ⟨rfl, hp_25⟩ := hp
    have hw := Wd.sub (ws' := [(a, .inr (2, [.ref r, .int (nI L.length)])), (r, .inl (g.2.1 0, n, .inl f))]) hw [0, 1] rfl rfl
    refine W.eq (g2 := F0 m 28 ls [.int (nI (L.length - 2))]) rfl ?_
    refine lv_iconst (v := nI 3) hx hb dX3_isWellFormed_28 (by decide) ?_
    refine r_isub hx hb dX3_isWellFormed_29 (by omega) ?_
    refine lv_istore_n (lv' := [(1, .int (nI ((L.length - 2) - 3))), (0, .ref a)]) hx hb dX3_isWellFormed_30 rfl hl (by decide) rfl (fun ls hl => ?_)
    refine lv_aload_n hx hb dX3_isWellFormed_31 rfl (lv_at hl 1 rfl) ?_
    refine lv_iconst (v := nI 1) hx hb dX3_isWellFormed_32 (by decide) ?_
    refine Ct.callV (wr := []) hF hw (c_X3_at l g a r n f L 1 (by assumption) (by assumption) (by omega) (by assumption)) mwX3_23 [0, 1] [] rfl rfl rfl rfl (by decide) 0 rfl rfl ⟨by decide, by decide⟩ ⟨by decide, by decide⟩ rfl hl.1 (Nat.le_of_ble_eq_true rfl) rfl dX3_isWellFormed_33 (fun v u H locs hp hw => ?_)
    obtain ⟨rfl, hp_33⟩ := hp
    have hw := Wd.sub (ws' := [(a, .inr (2, [.ref r, .int (nI L.length)])), (r, .inl (g.2.1 0, n, .inl f))]) hw [0, 1] rfl rfl
    refine W.eq (g2 := F0 m 36 ls [.int (nI (L.getD 1 0))]) rfl ?_
    rcases (show L.getD 1 0 = 0 ∨ L.getD 1 0 = 1 ∨ L.getD 1 0 = 2 ∨ L.getD 1 0 = 3 ∨ L.getD 1 0 = 4 ∨ L.getD 1 0 = 5 ∨ L.getD 1 0 = 6 ∨ L.getD 1 0 = 7 ∨ L.getD 1 0 = 8 ∨ L.getD 1 0 = 9 ∨ L.getD 1 0 = 10 ∨ 10 < L.getD 1 0 by omega) with hcd | hcd | hcd | hcd | hcd | hcd | hcd | hcd | hcd | hcd | hcd | hcd
    · refine r_top (n := 0) (by rw [hcd]) ?_
      refine lv_tableOut (tgt := 129) hx hb dX3_isWellFormed_36 (by decide) (by decide) ?_
      refine lv_iconst (v := nI 1) hx hb dX3_isWellFormed_129 (by decide) ?_
      exact RQ.zret hF hr hlk hw dX3_isWellFormed_130 (rfl) ⟨by decide, by decide⟩ (()) (rfl) ⟨rbt (wfL_x c_6 (by omega)), trivial⟩
    · refine r_top (n := 1) (by rw [hcd]) ?_
      refine lv_tableIn (tgt := 92) hx hb dX3_isWellFormed_36 (by decide) (by decide) rfl (by decide) ?_
      refine lv_aload_n hx hb dX3_isWellFormed_92 rfl (lv_at hl 1 rfl) ?_
      refine Ct.callV (wr := []) hF hw (c_X3_hasWholeOptions l g a r n f L (by assumption) (by assumption) (by assumption) (by assumption) (by assumption)) mwX3_40 [0, 1] [] rfl rfl rfl rfl (by decide) 0 rfl rfl ⟨by decide, by decide⟩ ⟨by decide, by decide⟩ rfl hl.1 (Nat.le_of_ble_eq_true rfl) rfl dX3_isWellFormed_93 (fun v u H locs hp hw => ?_)
      obtain ⟨rfl, hp_93⟩ := hp
      have hw := Wd.sub (ws' := [(a, .inr (2, [.ref r, .int (nI L.length)])), (r, .inl (g.2.1 0, n, .inl f))]) hw [0, 1] rfl rfl
      refine W.eq (g2 := F0 m 96 ls [.int (nI (wholeW L (L.length - 2) 3).toNat)]) rfl ?_
      exact RQ.zret hF hr hlk hw dX3_isWellFormed_96 (by cases wholeW L (L.length - 2) 3 <;> rfl) ⟨by decide, by decide⟩ (()) (rfl) ⟨by rw [wfL_o c_6 (by omega)], trivial⟩
    · refine r_top (n := 2) (by rw [hcd]) ?_
      refine lv_tableIn (tgt := 92) hx hb dX3_isWellFormed_36 (by decide) (by decide) rfl (by decide) ?_
      refine lv_aload_n hx hb dX3_isWellFormed_92 rfl (lv_at hl 1 rfl) ?_
      refine Ct.callV (wr := []) hF hw (c_X3_hasWholeOptions l g a r n f L (by assumption) (by assumption) (by assumption) (by assumption) (by assumption)) mwX3_40 [0, 1] [] rfl rfl rfl rfl (by decide) 0 rfl rfl ⟨by decide, by decide⟩ ⟨by decide, by decide⟩ rfl hl.1 (Nat.le_of_ble_eq_true rfl) rfl dX3_isWellFormed_93 (fun v u H locs hp hw => ?_)
      obtain ⟨rfl, hp_93⟩ := hp
      have hw := Wd.sub (ws' := [(a, .inr (2, [.ref r, .int (nI L.length)])), (r, .inl (g.2.1 0, n, .inl f))]) hw [0, 1] rfl rfl
      refine W.eq (g2 := F0 m 96 ls [.int (nI (wholeW L (L.length - 2) 3).toNat)]) rfl ?_
      exact RQ.zret hF hr hlk hw dX3_isWellFormed_96 (by cases wholeW L (L.length - 2) 3 <;> rfl) ⟨by decide, by decide⟩ (()) (rfl) ⟨by rw [wfL_o c_6 (by omega)], trivial⟩
    · refine r_top (n := 3) (by rw [hcd]) ?_
      refine lv_tableIn (tgt := 92) hx hb dX3_isWellFormed_36 (by decide) (by decide) rfl (by decide) ?_
      refine lv_aload_n hx hb dX3_isWellFormed_92 rfl (lv_at hl 1 rfl) ?_
      refine Ct.callV (wr := []) hF hw (c_X3_hasWholeOptions l g a r n f L (by assumption) (by assumption) (by assumption) (by assumption) (by assumption)) mwX3_40 [0, 1] [] rfl rfl rfl rfl (by decide) 0 rfl rfl ⟨by decide, by decide⟩ ⟨by decide, by decide⟩ rfl hl.1 (Nat.le_of_ble_eq_true rfl) rfl dX3_isWellFormed_93 (fun v u H locs hp hw => ?_)
      obtain ⟨rfl, hp_93⟩ := hp
      have hw := Wd.sub (ws' := [(a, .inr (2, [.ref r, .int (nI L.length)])), (r, .inl (g.2.1 0, n, .inl f))]) hw [0, 1] rfl rfl
      refine W.eq (g2 := F0 m 96 ls [.int (nI (wholeW L (L.length - 2) 3).toNat)]) rfl ?_
      exact RQ.zret hF hr hlk hw dX3_isWellFormed_96 (by cases wholeW L (L.length - 2) 3 <;> rfl) ⟨by decide, by decide⟩ (()) (rfl) ⟨by rw [wfL_o c_6 (by omega)], trivial⟩
    · refine r_top (n := 4) (by rw [hcd]) ?_
      refine lv_tableIn (tgt := 92) hx hb dX3_isWellFormed_36 (by decide) (by decide) rfl (by decide) ?_
      refine lv_aload_n hx hb dX3_isWellFormed_92 rfl (lv_at hl 1 rfl) ?_
      refine Ct.callV (wr := []) hF hw (c_X3_hasWholeOptions l g a r n f L (by assumption) (by assumption) (by assumption) (by assumption) (by assumption)) mwX3_40 [0, 1] [] rfl rfl rfl rfl (by decide) 0 rfl rfl ⟨by decide, by decide⟩ ⟨by decide, by decide⟩ rfl hl.1 (Nat.le_of_ble_eq_true rfl) rfl dX3_isWellFormed_93 (fun v u H locs hp hw => ?_)
      obtain ⟨rfl, hp_93⟩ := hp
      have hw := Wd.sub (ws' := [(a, .inr (2, [.ref r, .int (nI L.length)])), (r, .inl (g.2.1 0, n, .inl f))]) hw [0, 1] rfl rfl
      refine W.eq (g2 := F0 m 96 ls [.int (nI (wholeW L (L.length - 2) 3).toNat)]) rfl ?_
      exact RQ.zret hF hr hlk hw dX3_isWellFormed_96 (by cases wholeW L (L.length - 2) 3 <;> rfl) ⟨by decide, by decide⟩ (()) (rfl) ⟨by rw [wfL_o c_6 (by omega)], trivial⟩
    · refine r_top (n := 5) (by rw [hcd]) ?_
      refine lv_tableIn (tgt := 97) hx hb dX3_isWellFormed_36 (by decide) (by decide) rfl (by decide) ?_
      refine lv_iload_n hx hb dX3_isWellFormed_97 rfl (lv_at hl 0 rfl) ?_
      refine r_ne0 (tgt := 105) hx hb dX3_isWellFormed_98 (by decide) (by omega) (fun c_98 => ?_) (fun c_98 => ?_)
      · refine lv_iconst (v := nI 0) hx hb dX3_isWellFormed_105 (by decide) ?_
        exact RQ.zret hF hr hlk hw dX3_isWellFormed_106 (rfl) ⟨by decide, by decide⟩ (()) (rfl) ⟨by first | exact rbt (by rw [wfL_e c_6 (by omega)]; exact decide_eq_true (by omega)) | exact rbf (by rw [wfL_e c_6 (by omega)]; exact decide_eq_false (by omega)), trivial⟩
      · refine lv_iconst (v := nI 1) hx hb dX3_isWellFormed_101 (by decide) ?_
        refine lv_goto (tgt := 106) hx hb dX3_isWellFormed_102 (by decide) ?_
        exact RQ.zret hF hr hlk hw dX3_isWellFormed_106 (rfl) ⟨by decide, by decide⟩ (()) (rfl) ⟨by first | exact rbt (by rw [wfL_e c_6 (by omega)]; exact decide_eq_true (by omega)) | exact rbf (by rw [wfL_e c_6 (by omega)]; exact decide_eq_false (by omega)), trivial⟩
    · refine r_top (n := 6) (by rw [hcd]) ?_
      refine lv_tableIn (tgt := 97) hx hb dX3_isWellFormed_36 (by decide) (by decide) rfl (by decide) ?_
      refine lv_iload_n hx hb dX3_isWellFormed_97 rfl (lv_at hl 0 rfl) ?_
      refine r_ne0 (tgt := 105) hx hb dX3_isWellFormed_98 (by decide) (by omega) (fun c_98 => ?_) (fun c_98 => ?_)
      · refine lv_iconst (v := nI 0) hx hb dX3_isWellFormed_105 (by decide) ?_
        exact RQ.zret hF hr hlk hw dX3_isWellFormed_106 (rfl) ⟨by decide, by decide⟩ (()) (rfl) ⟨by first | exact rbt (by rw [wfL_e c_6 (by omega)]; exact decide_eq_true (by omega)) | exact rbf (by rw [wfL_e c_6 (by omega)]; exact decide_eq_false (by omega)), trivial⟩
      · refine lv_iconst (v := nI 1) hx hb dX3_isWellFormed_101 (by decide) ?_
        refine lv_goto (tgt := 106) hx hb dX3_isWellFormed_102 (by decide) ?_
        exact RQ.zret hF hr hlk hw dX3_isWellFormed_106 (rfl) ⟨by decide, by decide⟩ (()) (rfl) ⟨by first | exact rbt (by rw [wfL_e c_6 (by omega)]; exact decide_eq_true (by omega)) | exact rbf (by rw [wfL_e c_6 (by omega)]; exact decide_eq_false (by omega)), trivial⟩
    · refine r_top (n := 7) (by rw [hcd]) ?_
      refine lv_tableIn (tgt := 107) hx hb dX3_isWellFormed_36 (by decide) (by decide) rfl (by decide) ?_
      refine lv_iload_n hx hb dX3_isWellFormed_107 rfl (lv_at hl 0 rfl) ?_
      refine lv_iconst (v := nI 1) hx hb dX3_isWellFormed_108 (by decide) ?_
      refine r_ne (tgt := 116) hx hb dX3_isWellFormed_109 (by decide) (by omega) (by omega) (fun c_109 => ?_) (fun c_109 => ?_)
      · refine lv_iconst (v := nI 0) hx hb dX3_isWellFormed_116 (by decide) ?_
        exact RQ.zret hF hr hlk hw dX3_isWellFormed_117 (rfl) ⟨by decide, by decide⟩ (()) (rfl) ⟨by first | exact rbt (by rw [wfL_u c_6 (by omega)]; exact decide_eq_true (by omega)) | exact rbf (by rw [wfL_u c_6 (by omega)]; exact decide_eq_false (by omega)), trivial⟩
      · refine lv_iconst (v := nI 1) hx hb dX3_isWellFormed_112 (by decide) ?_
        refine lv_goto (tgt := 117) hx hb dX3_isWellFormed_113 (by decide) ?_
        exact RQ.zret hF hr hlk hw dX3_isWellFormed_117 (rfl) ⟨by decide, by decide⟩ (()) (rfl) ⟨by first | exact rbt (by rw [wfL_u c_6 (by omega)]; exact decide_eq_true (by omega)) | exact rbf (by rw [wfL_u c_6 (by omega)]; exact decide_eq_false (by omega)), trivial⟩
    · refine r_top (n := 8) (by rw [hcd]) ?_
      refine lv_tableIn (tgt := 129) hx hb dX3_isWellFormed_36 (by decide) (by decide) rfl (by decide) ?_
      refine lv_iconst (v := nI 1) hx hb dX3_isWellFormed_129 (by decide) ?_
      exact RQ.zret hF hr hlk hw dX3_isWellFormed_130 (rfl) ⟨by decide, by decide⟩ (()) (rfl) ⟨rbt (wfL_x c_6 (by omega)), trivial⟩
    · refine r_top (n := 9) (by rw [hcd]) ?_
      refine lv_tableIn (tgt := 118) hx hb dX3_isWellFormed_36 (by decide) (by decide) rfl (by decide) ?_
      refine lv_iload_n hx hb dX3_isWellFormed_118 rfl (lv_at hl 0 rfl) ?_
      refine lv_iconst (v := nI 4) hx hb dX3_isWellFormed_119 (by decide) ?_
      refine r_ne (tgt := 127) hx hb dX3_isWellFormed_120 (by decide) (by omega) (by omega) (fun c_120 => ?_) (fun c_120 => ?_)
      · refine lv_iconst (v := nI 0) hx hb dX3_isWellFormed_127 (by decide) ?_
        exact RQ.zret hF hr hlk hw dX3_isWellFormed_128 (rfl) ⟨by decide, by decide⟩ (()) (rfl) ⟨by first | exact rbt (by rw [wfL_n c_6 (by omega)]; exact decide_eq_true (by omega)) | exact rbf (by rw [wfL_n c_6 (by omega)]; exact decide_eq_false (by omega)), trivial⟩
      · refine lv_iconst (v := nI 1) hx hb dX3_isWellFormed_123 (by decide) ?_
        refine lv_goto (tgt := 128) hx hb dX3_isWellFormed_124 (by decide) ?_
        exact RQ.zret hF hr hlk hw dX3_isWellFormed_128 (rfl) ⟨by decide, by decide⟩ (()) (rfl) ⟨by first | exact rbt (by rw [wfL_n c_6 (by omega)]; exact decide_eq_true (by omega)) | exact rbf (by rw [wfL_n c_6 (by omega)]; exact decide_eq_false (by omega)), trivial⟩
    · refine r_top (n := 10) (by rw [hcd]) ?_
      refine lv_tableIn (tgt := 118) hx hb dX3_isWellFormed_36 (by decide) (by decide) rfl (by decide) ?_
      refine lv_iload_n hx hb dX3_isWellFormed_118 rfl (lv_at hl 0 rfl) ?_
      refine lv_iconst (v := nI 4) hx hb dX3_isWellFormed_119 (by decide) ?_
      refine r_ne (tgt := 127) hx hb dX3_isWellFormed_120 (by decide) (by omega) (by omega) (fun c_120 => ?_) (fun c_120 => ?_)
      · refine lv_iconst (v := nI 0) hx hb dX3_isWellFormed_127 (by decide) ?_
        exact RQ.zret hF hr hlk hw dX3_isWellFormed_128 (rfl) ⟨by decide, by decide⟩ (()) (rfl) ⟨by first | exact rbt (by rw [wfL_n c_6 (by omega)]; exact decide_eq_true (by omega)) | exact rbf (by rw [wfL_n c_6 (by omega)]; exact decide_eq_false (by omega)), trivial⟩
      · refine lv_iconst (v := nI 1) hx hb dX3_isWellFormed_123 (by decide) ?_
        refine lv_goto (tgt := 128) hx hb dX3_isWellFormed_124 (by decide) ?_
        exact RQ.zret hF hr hlk hw dX3_isWellFormed_128 (rfl) ⟨by decide, by decide⟩ (()) (rfl) ⟨by first | exact rbt (by rw [wfL_n c_6 (by omega)]; exact decide_eq_true (by omega)) | exact rbf (by rw [wfL_n c_6 (by omega)]; exact decide_eq_false (by omega)), trivial⟩
    · refine lv_tableOut (tgt := 129) hx hb dX3_isWellFormed_36 (by right; rw [nI_toInt (by omega)]; omega) (by decide) ?_
      refine lv_iconst (v := nI 1) hx hb dX3_isWellFormed_129 (by decide) ?_
      exact RQ.zret hF hr hlk hw dX3_isWellFormed_130 (rfl) ⟨by decide, by decide⟩ (()) (rfl) ⟨rbt (wfL_x c_6 (by omega)), trivial⟩
  · refine lv_aload_n hx hb dX3_isWellFormed_9 rfl (lv_at hl 0 rfl) ?_
    refine lv_iconst (v := nI 0) hx hb dX3_isWellFormed_10 (by decide) ?_
    refine Ct.callV (wr := []) hF hw (c_X3_at l g a r n f L 0 (by assumption) (by assumption) (by omega) (by assumption)) mwX3_23 [0, 1] [] rfl rfl rfl rfl (by decide) 0 rfl rfl ⟨by decide, by decide⟩ ⟨by decide, by decide⟩ rfl hl.1 (Nat.le_of_ble_eq_true rfl) rfl dX3_isWellFormed_11 (fun v u H locs hp hw => ?_)
    obtain ⟨rfl, hp_11⟩ := hp
    have hw := Wd.sub (ws' := [(a, .inr (2, [.ref r, .int (nI L.length)])), (r, .inl (g.2.1 0, n, .inl f))]) hw [0, 1] rfl rfl
    refine W.eq (g2 := F0 m 14 ls [.int (nI (L.getD 0 0))]) rfl ?_
    refine lv_iconst (v := nI 2) hx hb dX3_isWellFormed_14 (by decide) ?_
    refine r_ne (tgt := 22) hx hb dX3_isWellFormed_15 (by decide) (by omega) (by omega) (fun c_15 => ?_) (fun c_15 => ?_)
    · refine lv_iconst (v := nI 0) hx hb dX3_isWellFormed_22 (by decide) ?_
      exact RQ.zret hF hr hlk hw dX3_isWellFormed_23 (rfl) ⟨by decide, by decide⟩ (()) (rfl) ⟨by first | exact rbt (by rw [wfL_d c_6]; exact decide_eq_true (by omega)) | exact rbf (by rw [wfL_d c_6]; exact decide_eq_false (by omega)), trivial⟩
    · refine lv_iconst (v := nI 1) hx hb dX3_isWellFormed_18 (by decide) ?_
      refine lv_goto (tgt := 23) hx hb dX3_isWellFormed_19 (by decide) ?_
      exact RQ.zret hF hr hlk hw dX3_isWellFormed_23 (rfl) ⟨by decide, by decide⟩ (()) (rfl) ⟨by first | exact rbt (by rw [wfL_d c_6]; exact decide_eq_true (by omega)) | exact rbf (by rw [wfL_d c_6]; exact decide_eq_false (by omega)), trivial⟩
