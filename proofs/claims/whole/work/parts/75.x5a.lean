set_option maxHeartbeats 4000000 in
set_option maxRecDepth 100000 in
theorem c_X5_endAt (l : Launch) (g : GE) (lt : Nat) (ad : Nat → Nat → Nat) (w : Int32) (hsT : l.stackTraces = false) : CtB l yX5_endAt cX5_endAt 2 (some (.object "LineTalk$End")) { frames := 6, cells := 1, slots := 6, locals := 89 } g [.ref lt, .int w] [(lt, .inr (4, [.ref ((ad 0) 1), .ref ((ad 1) 1), .ref ((ad 0) 0), .ref ((ad 1) 0)]))] (fun (v : Option Value) (u : Unit) => v = some (.ref ((ad (ix w)) 0)) ∧ okE w = true) (fun u : Unit => [(lt, .inr (4, [.ref ((ad 0) 1), .ref ((ad 1) 1), .ref ((ad 0) 0), .ref ((ad 1) 0)]))]) (fun (E : String) => E = "java/lang/IndexOutOfBoundsException" ∧ okE w = false) := by
  refine CtB.of (own := RX5) rfl rfl (Nat.le_of_ble_eq_true rfl) ?_
  intro P0 e0 s m below meth c ls hF hr hxt hlk hnm hw hl
  have hx := hF.1
  have hb := hF.2.1
  have hl : lv_has ls 2 [(0, .ref lt), (1, .int w)] := hl
  refine lv_iload_n hx hb dX5_endAt_0 rfl (lv_at hl 1 rfl) ?_
  refine lv_if_eq (tgt := 17) hx hb dX5_endAt_1 (by decide) (fun c_1 => ?_) (fun c_1 => ?_)
  · refine lv_iload_n hx hb dX5_endAt_17 rfl (lv_at hl 1 rfl) ?_
    refine lv_if_ne (tgt := 28) hx hb dX5_endAt_18 (by decide) (fun c_18 => ?_) (fun c_18 => ?_)
    · refine lv_aload_n hx hb dX5_endAt_28 rfl (lv_at hl 0 rfl) ?_
      refine wget hF hw flX5_28 dX5_endAt_29 0 rfl rfl ?_
      exact BQ.ret (RQ.aret hF hr (Or.inl ⟨_, rfl⟩) (Or.inr ⟨_, rfl⟩) hlk hw dX5_endAt_32 ⟨by decide, by decide⟩ (()) (rfl) ⟨by first | (rw [c_1]; rfl) | (rw [c_6]; rfl) | exact absurd c_1 c_18 | exact absurd c_18 c_1 | exact absurd c_6 (by rw [c_18]; decide), by first | (rw [c_1]; decide) | (rw [c_6]; decide)⟩)
    · refine lv_aload_n hx hb dX5_endAt_21 rfl (lv_at hl 0 rfl) ?_
      refine wget hF hw flX5_24 dX5_endAt_22 0 rfl rfl ?_
      refine lv_goto (tgt := 32) hx hb dX5_endAt_25 (by decide) ?_
      exact BQ.ret (RQ.aret hF hr (Or.inl ⟨_, rfl⟩) (Or.inr ⟨_, rfl⟩) hlk hw dX5_endAt_32 ⟨by decide, by decide⟩ (()) (rfl) ⟨by first | (rw [c_1]; rfl) | (rw [c_6]; rfl) | exact absurd c_1 c_18 | exact absurd c_18 c_1 | exact absurd c_6 (by rw [c_18]; decide), by first | (rw [c_1]; decide) | (rw [c_6]; decide)⟩)
  · refine lv_iload_n hx hb dX5_endAt_4 rfl (lv_at hl 1 rfl) ?_
    refine lv_iconst (v := nI 1) hx hb dX5_endAt_5 (by decide) ?_
    refine lv_icmp_eq (tgt := 17) hx hb dX5_endAt_6 (by decide) (fun c_6 => ?_) (fun c_6 => ?_)
    · refine lv_iload_n hx hb dX5_endAt_17 rfl (lv_at hl 1 rfl) ?_
      refine lv_if_ne (tgt := 28) hx hb dX5_endAt_18 (by decide) (fun c_18 => ?_) (fun c_18 => ?_)
      · refine lv_aload_n hx hb dX5_endAt_28 rfl (lv_at hl 0 rfl) ?_
        refine wget hF hw flX5_28 dX5_endAt_29 0 rfl rfl ?_
        exact BQ.ret (RQ.aret hF hr (Or.inl ⟨_, rfl⟩) (Or.inr ⟨_, rfl⟩) hlk hw dX5_endAt_32 ⟨by decide, by decide⟩ (()) (rfl) ⟨by first | (rw [c_1]; rfl) | (rw [c_6]; rfl) | exact absurd c_1 c_18 | exact absurd c_18 c_1 | exact absurd c_6 (by rw [c_18]; decide), by first | (rw [c_1]; decide) | (rw [c_6]; decide)⟩)
      · refine lv_aload_n hx hb dX5_endAt_21 rfl (lv_at hl 0 rfl) ?_
        refine wget hF hw flX5_24 dX5_endAt_22 0 rfl rfl ?_
        refine lv_goto (tgt := 32) hx hb dX5_endAt_25 (by decide) ?_
        exact BQ.ret (RQ.aret hF hr (Or.inl ⟨_, rfl⟩) (Or.inr ⟨_, rfl⟩) hlk hw dX5_endAt_32 ⟨by decide, by decide⟩ (()) (rfl) ⟨by first | (rw [c_1]; rfl) | (rw [c_6]; rfl) | exact absurd c_1 c_18 | exact absurd c_18 c_1 | exact absurd c_6 (by rw [c_18]; decide), by first | (rw [c_1]; decide) | (rw [c_6]; decide)⟩)
    · exact BQ.throw0 (names := xNm) hF hsT hxt hlk hw (⟨rfl, okE_no c_1 c_6⟩) (by decide +kernel) (by decide +kernel) tw241 tw61 xw1 xg1 hl.1 dX5_endAt_9 dX5_endAt_12 dX5_endAt_13 dX5_endAt_16 (by decide) (Nat.le_of_ble_eq_true rfl) (by decide) (by decide) (by decide) (by decide)

set_option maxHeartbeats 4000000 in
set_option maxRecDepth 100000 in
theorem c_X5_lineAt (l : Launch) (g : GE) (lt : Nat) (ad : Nat → Nat → Nat) (w : Int32) (hsT : l.stackTraces = false) : CtB l yX5_lineAt cX5_lineAt 2 (some (.object "LineTalk$Line")) { frames := 6, cells := 1, slots := 6, locals := 89 } g [.ref lt, .int w] [(lt, .inr (4, [.ref ((ad 0) 1), .ref ((ad 1) 1), .ref ((ad 0) 0), .ref ((ad 1) 0)]))] (fun (v : Option Value) (u : Unit) => v = some (.ref ((ad (ix w)) 1)) ∧ okE w = true) (fun u : Unit => [(lt, .inr (4, [.ref ((ad 0) 1), .ref ((ad 1) 1), .ref ((ad 0) 0), .ref ((ad 1) 0)]))]) (fun (E : String) => E = "java/lang/IndexOutOfBoundsException" ∧ okE w = false) := by
  refine CtB.of (own := RX5) rfl rfl (Nat.le_of_ble_eq_true rfl) ?_
  intro P0 e0 s m below meth c ls hF hr hxt hlk hnm hw hl
  have hx := hF.1
  have hb := hF.2.1
  have hl : lv_has ls 2 [(0, .ref lt), (1, .int w)] := hl
  refine lv_iload_n hx hb dX5_lineAt_0 rfl (lv_at hl 1 rfl) ?_
  refine lv_if_eq (tgt := 17) hx hb dX5_lineAt_1 (by decide) (fun c_1 => ?_) (fun c_1 => ?_)
  · refine lv_iload_n hx hb dX5_lineAt_17 rfl (lv_at hl 1 rfl) ?_
    refine lv_if_ne (tgt := 28) hx hb dX5_lineAt_18 (by decide) (fun c_18 => ?_) (fun c_18 => ?_)
    · refine lv_aload_n hx hb dX5_lineAt_28 rfl (lv_at hl 0 rfl) ?_
      refine wget hF hw flX5_16 dX5_lineAt_29 0 rfl rfl ?_
      exact BQ.ret (RQ.aret hF hr (Or.inl ⟨_, rfl⟩) (Or.inr ⟨_, rfl⟩) hlk hw dX5_lineAt_32 ⟨by decide, by decide⟩ (()) (rfl) ⟨by first | (rw [c_1]; rfl) | (rw [c_6]; rfl) | exact absurd c_1 c_18 | exact absurd c_18 c_1 | exact absurd c_6 (by rw [c_18]; decide), by first | (rw [c_1]; decide) | (rw [c_6]; decide)⟩)
    · refine lv_aload_n hx hb dX5_lineAt_21 rfl (lv_at hl 0 rfl) ?_
      refine wget hF hw flX5_10 dX5_lineAt_22 0 rfl rfl ?_
      refine lv_goto (tgt := 32) hx hb dX5_lineAt_25 (by decide) ?_
      exact BQ.ret (RQ.aret hF hr (Or.inl ⟨_, rfl⟩) (Or.inr ⟨_, rfl⟩) hlk hw dX5_lineAt_32 ⟨by decide, by decide⟩ (()) (rfl) ⟨by first | (rw [c_1]; rfl) | (rw [c_6]; rfl) | exact absurd c_1 c_18 | exact absurd c_18 c_1 | exact absurd c_6 (by rw [c_18]; decide), by first | (rw [c_1]; decide) | (rw [c_6]; decide)⟩)
  · refine lv_iload_n hx hb dX5_lineAt_4 rfl (lv_at hl 1 rfl) ?_
    refine lv_iconst (v := nI 1) hx hb dX5_lineAt_5 (by decide) ?_
    refine lv_icmp_eq (tgt := 17) hx hb dX5_lineAt_6 (by decide) (fun c_6 => ?_) (fun c_6 => ?_)
    · refine lv_iload_n hx hb dX5_lineAt_17 rfl (lv_at hl 1 rfl) ?_
      refine lv_if_ne (tgt := 28) hx hb dX5_lineAt_18 (by decide) (fun c_18 => ?_) (fun c_18 => ?_)
      · refine lv_aload_n hx hb dX5_lineAt_28 rfl (lv_at hl 0 rfl) ?_
        refine wget hF hw flX5_16 dX5_lineAt_29 0 rfl rfl ?_
        exact BQ.ret (RQ.aret hF hr (Or.inl ⟨_, rfl⟩) (Or.inr ⟨_, rfl⟩) hlk hw dX5_lineAt_32 ⟨by decide, by decide⟩ (()) (rfl) ⟨by first | (rw [c_1]; rfl) | (rw [c_6]; rfl) | exact absurd c_1 c_18 | exact absurd c_18 c_1 | exact absurd c_6 (by rw [c_18]; decide), by first | (rw [c_1]; decide) | (rw [c_6]; decide)⟩)
      · refine lv_aload_n hx hb dX5_lineAt_21 rfl (lv_at hl 0 rfl) ?_
        refine wget hF hw flX5_10 dX5_lineAt_22 0 rfl rfl ?_
        refine lv_goto (tgt := 32) hx hb dX5_lineAt_25 (by decide) ?_
        exact BQ.ret (RQ.aret hF hr (Or.inl ⟨_, rfl⟩) (Or.inr ⟨_, rfl⟩) hlk hw dX5_lineAt_32 ⟨by decide, by decide⟩ (()) (rfl) ⟨by first | (rw [c_1]; rfl) | (rw [c_6]; rfl) | exact absurd c_1 c_18 | exact absurd c_18 c_1 | exact absurd c_6 (by rw [c_18]; decide), by first | (rw [c_1]; decide) | (rw [c_6]; decide)⟩)
    · exact BQ.throw0 (names := xNm) hF hsT hxt hlk hw (⟨rfl, okE_no c_1 c_6⟩) (by decide +kernel) (by decide +kernel) tw241 tw61 xw1 xg1 hl.1 dX5_lineAt_9 dX5_lineAt_12 dX5_lineAt_13 dX5_lineAt_16 (by decide) (Nat.le_of_ble_eq_true rfl) (by decide) (by decide) (by decide) (by decide)

set_option maxHeartbeats 4000000 in
set_option maxRecDepth 100000 in
theorem c_X5_isByte (l : Launch) (g : GE) (x : Int32)  : Ct l yX5_isByte cX5_isByte 1 (some .boolean) { frames := 0, cells := 0, slots := 0, locals := 0 } g [.int x] [] (fun (v : Option Value) (u : Unit) => v = some (.int (nI (inI x (nI 0) (nI 255)).toNat)) ∧ True) (fun u : Unit => []) := by
  refine Ct.of (own := RX5) rfl rfl (Nat.le_of_ble_eq_true rfl) ?_
  intro P0 e0 s m below meth c ls hF hr hlk hnm hw hl
  have hx := hF.1
  have hb := hF.2.1
  have hl : lv_has ls 1 [(0, .int x)] := hl
  refine lv_iload_n hx hb dX5_isByte_0 rfl (lv_at hl 0 rfl) ?_
  refine lv_if_lt (tgt := 15) hx hb dX5_isByte_1 (by decide) (fun c_1 => ?_) (fun c_1 => ?_)
  · refine lv_iconst (v := nI 0) hx hb dX5_isByte_15 (by decide) ?_
    exact RQ.zret hF hr hlk hw dX5_isByte_16 (rfl) ⟨by decide, by decide⟩ (()) (rfl) ⟨by first | exact rbt (in_y c_1 c_8) | exact rbf (in_a c_1) | exact rbf (in_b c_8), trivial⟩
  · refine lv_iload_n hx hb dX5_isByte_4 rfl (lv_at hl 0 rfl) ?_
    refine lv_sipush (v := nI 255) hx hb dX5_isByte_5 (by decide) ?_
    refine lv_icmp_gt (tgt := 15) hx hb dX5_isByte_8 (by decide) (fun c_8 => ?_) (fun c_8 => ?_)
    · refine lv_iconst (v := nI 0) hx hb dX5_isByte_15 (by decide) ?_
      exact RQ.zret hF hr hlk hw dX5_isByte_16 (rfl) ⟨by decide, by decide⟩ (()) (rfl) ⟨by first | exact rbt (in_y c_1 c_8) | exact rbf (in_a c_1) | exact rbf (in_b c_8), trivial⟩
    · refine lv_iconst (v := nI 1) hx hb dX5_isByte_11 (by decide) ?_
      refine lv_goto (tgt := 16) hx hb dX5_isByte_12 (by decide) ?_
      exact RQ.zret hF hr hlk hw dX5_isByte_16 (rfl) ⟨by decide, by decide⟩ (()) (rfl) ⟨by first | exact rbt (in_y c_1 c_8) | exact rbf (in_a c_1) | exact rbf (in_b c_8), trivial⟩

set_option maxHeartbeats 4000000 in
set_option maxRecDepth 100000 in
theorem c_X5_isSizeI (l : Launch) (g : GE) (x : Int32)  : Ct l yX5_isSize cX5_isSize 1 (some .boolean) { frames := 0, cells := 0, slots := 0, locals := 0 } g [.int x] [] (fun (v : Option Value) (u : Unit) => v = some (.int (nI (inI x (nI 64) (nI 1500)).toNat)) ∧ True) (fun u : Unit => []) := by
  refine Ct.of (own := RX5) rfl rfl (Nat.le_of_ble_eq_true rfl) ?_
  intro P0 e0 s m below meth c ls hF hr hlk hnm hw hl
  have hx := hF.1
  have hb := hF.2.1
  have hl : lv_has ls 1 [(0, .int x)] := hl
  refine lv_iload_n hx hb dX5_isSize_0 rfl (lv_at hl 0 rfl) ?_
  refine lv_bipush (v := nI 64) hx hb dX5_isSize_1 (by decide) ?_
  refine lv_icmp_lt (tgt := 17) hx hb dX5_isSize_3 (by decide) (fun c_3 => ?_) (fun c_3 => ?_)
  · refine lv_iconst (v := nI 0) hx hb dX5_isSize_17 (by decide) ?_
    exact RQ.zret hF hr hlk hw dX5_isSize_18 (rfl) ⟨by decide, by decide⟩ (()) (rfl) ⟨by first | exact rbt (in_y c_3 c_10) | exact rbt (in_y c_3 (Int32.not_lt.mpr c_10)) | exact rbf (in_a c_3) | exact rbf (in_b c_10) | exact rbf (in_b (Int32.not_le.mp c_10)), trivial⟩
  · refine lv_iload_n hx hb dX5_isSize_6 rfl (lv_at hl 0 rfl) ?_
    refine lv_sipush (v := nI 1500) hx hb dX5_isSize_7 (by decide) ?_
    refine lv_icmp_gt (tgt := 17) hx hb dX5_isSize_10 (by decide) (fun c_10 => ?_) (fun c_10 => ?_)
    · refine lv_iconst (v := nI 0) hx hb dX5_isSize_17 (by decide) ?_
      exact RQ.zret hF hr hlk hw dX5_isSize_18 (rfl) ⟨by decide, by decide⟩ (()) (rfl) ⟨by first | exact rbt (in_y c_3 c_10) | exact rbt (in_y c_3 (Int32.not_lt.mpr c_10)) | exact rbf (in_a c_3) | exact rbf (in_b c_10) | exact rbf (in_b (Int32.not_le.mp c_10)), trivial⟩
    · refine lv_iconst (v := nI 1) hx hb dX5_isSize_13 (by decide) ?_
      refine lv_goto (tgt := 18) hx hb dX5_isSize_14 (by decide) ?_
      exact RQ.zret hF hr hlk hw dX5_isSize_18 (rfl) ⟨by decide, by decide⟩ (()) (rfl) ⟨by first | exact rbt (in_y c_3 c_10) | exact rbt (in_y c_3 (Int32.not_lt.mpr c_10)) | exact rbf (in_a c_3) | exact rbf (in_b c_10) | exact rbf (in_b (Int32.not_le.mp c_10)), trivial⟩
