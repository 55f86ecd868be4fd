set_option maxHeartbeats 4000000 in
set_option maxRecDepth 100000 in
theorem c_X5_isSize (l : Launch) (g : GE) (t : Nat) (ht : t < 2147483648) : Ct l yX5_isSize cX5_isSize 1 (some .boolean) { frames := 0, cells := 0, slots := 0, locals := 0 } g [.int (nI t)] [] (fun (v : Option Value) (u : Unit) => v = some (.int (nI (decide (64 ≤ t ∧ t ≤ 1500)).toNat)) ∧ True) (fun u : Unit => []) := by
  refine Ct.of (own := RX5) rfl rfl (Nat.le_of_ble_eq_true rfl) ?_
  intro P0 e0 s m below meth c ls hF hr hlk hnm hw hl
  have hx := hF.1
  have hb := hF.2.1
  have hl : lv_has ls 1 [(0, .int (nI t))] := hl
  refine lv_iload_n hx hb dX5_isSize_0 rfl (lv_at hl 0 rfl) ?_
  refine lv_bipush (v := nI 64) hx hb dX5_isSize_1 (by decide) ?_
  refine r_lt (tgt := 17) hx hb dX5_isSize_3 (by decide) (by omega) (by omega) (fun c_3 => ?_) (fun c_3 => ?_)
  · refine lv_iconst (v := nI 0) hx hb dX5_isSize_17 (by decide) ?_
    exact RQ.zret hF hr hlk hw dX5_isSize_18 (rfl) ⟨by decide, by decide⟩ (()) (rfl) ⟨by first | exact rbt (decide_eq_true (by omega)) | exact rbf (decide_eq_false (by omega)), trivial⟩
  · refine lv_iload_n hx hb dX5_isSize_6 rfl (lv_at hl 0 rfl) ?_
    refine lv_sipush (v := nI 1500) hx hb dX5_isSize_7 (by decide) ?_
    refine r_gt (tgt := 17) hx hb dX5_isSize_10 (by decide) (by omega) (by omega) (fun c_10 => ?_) (fun c_10 => ?_)
    · refine lv_iconst (v := nI 0) hx hb dX5_isSize_17 (by decide) ?_
      exact RQ.zret hF hr hlk hw dX5_isSize_18 (rfl) ⟨by decide, by decide⟩ (()) (rfl) ⟨by first | exact rbt (decide_eq_true (by omega)) | exact rbf (decide_eq_false (by omega)), trivial⟩
    · refine lv_iconst (v := nI 1) hx hb dX5_isSize_13 (by decide) ?_
      refine lv_goto (tgt := 18) hx hb dX5_isSize_14 (by decide) ?_
      exact RQ.zret hF hr hlk hw dX5_isSize_18 (rfl) ⟨by decide, by decide⟩ (()) (rfl) ⟨by first | exact rbt (decide_eq_true (by omega)) | exact rbf (decide_eq_false (by omega)), trivial⟩

set_option maxHeartbeats 4000000 in
set_option maxRecDepth 100000 in
theorem c_X0_suspect (l : Launch) (g : GE) (ed : Nat → Nat) (E : AE) (fC : Nat → Int32) (w : Int32) (hC : CC fC (eCf E)) : Ct l yX0_suspect cX0_suspect 2 none { frames := 0, cells := 0, slots := 0, locals := 0 } g [.ref (ed 0), .int w] [(ed 0, .inr (0, [.ref (ed 1), .ref (ed 3), .ref (ed 4), .ref (ed 6), .ref (ed 8), .ref (ed 10), .ref (ed 12), .ref (ed 14), .int (nI (eSz E)), .int (nI (eLe E)), .int (eNu E), .int (nI (eAS E).toNat), .int (nI (eAN E).toNat), .int (nI (eSt E)), .int (nI (eId E)), .int (eTr E), .int (nI (eTi E))])), (ed 14, .inl (g.2.1 0, 6, .inl fC))] (fun (v : Option Value) (u : (Nat → Int32)) => v = none ∧ CC u (susC E w)) (fun u : (Nat → Int32) => [(ed 0, .inr (0, [.ref (ed 1), .ref (ed 3), .ref (ed 4), .ref (ed 6), .ref (ed 8), .ref (ed 10), .ref (ed 12), .ref (ed 14), .int (nI (eSz E)), .int (nI (eLe E)), .int (eNu E), .int (nI (eAS E).toNat), .int (nI (eAN E).toNat), .int (nI (eSt E)), .int (nI (eId E)), .int (eTr E), .int (nI (eTi E))])), (ed 14, .inl (g.2.1 0, 6, .inl u))]) := by
  refine Ct.of (own := RX0) rfl rfl (Nat.le_of_ble_eq_true rfl) ?_
  intro P0 e0 s m below meth c ls hF hr hlk hnm hw hl
  have hx := hF.1
  have hb := hF.2.1
  have hl : lv_has ls 2 [(0, .ref (ed 0)), (1, .int w)] := hl
  refine lv_iload_n hx hb dX0_suspect_0 rfl (lv_at hl 1 rfl) ?_
  refine lv_aload_n hx hb dX0_suspect_1 rfl (lv_at hl 0 rfl) ?_
  refine wget hF hw flX0_88 dX0_suspect_2 0 rfl rfl ?_
  refine lv_icmp_ne (tgt := 22) hx hb dX0_suspect_5 (by decide) (fun c_5 => ?_) (fun c_5 => ?_)
  · have hsu : susC E w = eCf E := if_neg (fun q => by first | exact c_5 q.1 | exact q.2 c_9)
    exact RQ.vret hF hr hlk hw dX0_suspect_22 ⟨by decide, by decide⟩ ((fC)) (rfl) ⟨rfl, by rw [hsu]; exact hC⟩
  · refine lv_iload_n hx hb dX0_suspect_8 rfl (lv_at hl 1 rfl) ?_
    refine lv_if_eq (tgt := 22) hx hb dX0_suspect_9 (by decide) (fun c_9 => ?_) (fun c_9 => ?_)
    · have hsu : susC E w = eCf E := if_neg (fun q => by first | exact c_5 q.1 | exact q.2 c_9)
      exact RQ.vret hF hr hlk hw dX0_suspect_22 ⟨by decide, by decide⟩ ((fC)) (rfl) ⟨rfl, by rw [hsu]; exact hC⟩
    · refine lv_aload_n hx hb dX0_suspect_12 rfl (lv_at hl 0 rfl) ?_
      refine wget hF hw flX0_42 dX0_suspect_13 0 rfl rfl ?_
      refine lv_iconst (v := nI 3) hx hb dX0_suspect_16 (by decide) ?_
      refine lv_dup2_11 hx hb dX0_suspect_17 rfl rfl ?_
      refine r_iald hF hw dX0_suspect_18 1 rfl (by omega) (by omega) ?_
      refine lv_iconst (v := nI 1) hx hb dX0_suspect_19 (by decide) ?_
      refine lv_iadd hx hb dX0_suspect_20 ?_
      refine r_iast (ws' := [(ed 0, .inr (0, [.ref (ed 1), .ref (ed 3), .ref (ed 4), .ref (ed 6), .ref (ed 8), .ref (ed 10), .ref (ed 12), .ref (ed 14), .int (nI (eSz E)), .int (nI (eLe E)), .int (eNu E), .int (nI (eAS E).toNat), .int (nI (eAN E).toNat), .int (nI (eSt E)), .int (nI (eId E)), .int (eTr E), .int (nI (eTi E))])), (ed 14, .inl (g.2.1 0, 6, .inl (upd fC 3 ((fC 3) + (nI 1)))))]) hF hw dX0_suspect_21 1 rfl (by omega) (by omega) rfl (fun H locs hw => ?_)
      have hsu : susC E w = _ := if_pos ⟨c_5, c_9⟩
      exact RQ.vret hF hr hlk hw dX0_suspect_22 ⟨by decide, by decide⟩ ((upd fC 3 ((fC 3) + (nI 1)))) (rfl) ⟨rfl, by rw [hsu]; exact hC.tal (by decide)⟩

set_option maxHeartbeats 4000000 in
set_option maxRecDepth 100000 in
theorem c_X0_learnSize (l : Launch) (g : GE) (ed : Nat → Nat) (E : AE) (c9 : Nat) (t : Nat) (hc9 : c9 < 256) (ht : t < 65536) : Ct l yX0_learnSize cX0_learnSize 3 none { frames := 1, cells := 0, slots := 0, locals := 20 } g [.ref (ed 0), .int (nI c9), .int (nI t)] [(ed 0, .inr (0, [.ref (ed 1), .ref (ed 3), .ref (ed 4), .ref (ed 6), .ref (ed 8), .ref (ed 10), .ref (ed 12), .ref (ed 14), .int (nI (eSz E)), .int (nI (eLe E)), .int (eNu E), .int (nI (eAS E).toNat), .int (nI (eAN E).toNat), .int (nI (eSt E)), .int (nI (eId E)), .int (eTr E), .int (nI (eTi E))]))] (fun (v : Option Value) (u : Unit) => v = none ∧ True) (fun u : Unit => [(ed 0, .inr (0, [.ref (ed 1), .ref (ed 3), .ref (ed 4), .ref (ed 6), .ref (ed 8), .ref (ed 10), .ref (ed 12), .ref (ed 14), .int (nI (eSz (lszE E c9 t))), .int (nI (eLe (lszE E c9 t))), .int (eNu (lszE E c9 t)), .int (nI (eAS (lszE E c9 t)).toNat), .int (nI (eAN (lszE E c9 t)).toNat), .int (nI (eSt (lszE E c9 t))), .int (nI (eId (lszE E c9 t))), .int (eTr (lszE E c9 t)), .int (nI (eTi (lszE E c9 t)))]))]) := by
  refine Ct.of (own := RX0) rfl rfl (Nat.le_of_ble_eq_true rfl) ?_
  intro P0 e0 s m below meth c ls hF hr hlk hnm hw hl
  have hx := hF.1
  have hb := hF.2.1
  have hl : lv_has ls 3 [(0, .ref (ed 0)), (1, .int (nI c9)), (2, .int (nI t))] := hl
  refine lv_iload_n hx hb dX0_learnSize_0 rfl (lv_at hl 1 rfl) ?_
  refine lv_iconst (v := nI 3) hx hb dX0_learnSize_1 (by decide) ?_
  refine r_ne (tgt := 20) hx hb dX0_learnSize_2 (by decide) (by omega) (by omega) (fun c_2 => ?_) (fun c_2 => ?_)
  · refine lv_iload_n hx hb dX0_learnSize_20 rfl (lv_at hl 1 rfl) ?_
    refine lv_iconst (v := nI 4) hx hb dX0_learnSize_21 (by decide) ?_
    refine r_ne (tgt := 30) hx hb dX0_learnSize_22 (by decide) (by omega) (by omega) (fun c_22 => ?_) (fun c_22 => ?_)
    · have hls : lszE E c9 t = _ := ls_n (fun q => by first | exact c_2 q.1 | exact dz c_9 q.2) c_22
      exact RQ.vret hF hr hlk hw dX0_learnSize_30 ⟨by decide, by decide⟩ (()) (by rw [hls] <;> rfl) ⟨rfl, trivial⟩
    · refine lv_aload_n hx hb dX0_learnSize_25 rfl (lv_at hl 0 rfl) ?_
      refine lv_iconst (v := nI 0) hx hb dX0_learnSize_26 (by decide) ?_
      refine r_put (ws' := [(ed 0, .inr (0, [.ref (ed 1), .ref (ed 3), .ref (ed 4), .ref (ed 6), .ref (ed 8), .ref (ed 10), .ref (ed 12), .ref (ed 14), .int (nI (eSz E)), .int (nI (eLe E)), .int (eNu E), .int (nI 0), .int (nI (eAN E).toNat), .int (nI (eSt E)), .int (nI (eId E)), .int (eTr E), .int (nI (eTi E))]))]) hF hw flX0_53 ftX0 dX0_learnSize_27 0 rfl rfl rfl rfl (Nat.le_of_ble_eq_true rfl) rfl (fun H locs hw => ?_)
      have hls : lszE E c9 t = _ := ls_r c_22
      exact RQ.vret hF hr hlk hw dX0_learnSize_30 ⟨by decide, by decide⟩ (()) (by rw [hls] <;> rfl) ⟨rfl, trivial⟩
  · refine lv_iload_n hx hb dX0_learnSize_5 rfl (lv_at hl 2 rfl) ?_
    refine Ct.callSN (wr := [(ed 0, .inr (0, [.ref (ed 1), .ref (ed 3), .ref (ed 4), .ref (ed 6), .ref (ed 8), .ref (ed 10), .ref (ed 12), .ref (ed 14), .int (nI (eSz E)), .int (nI (eLe E)), .int (eNu E), .int (nI (eAS E).toNat), .int (nI (eAN E).toNat), .int (nI (eSt E)), .int (nI (eId E)), .int (eTr E), .int (nI (eTi E))]))]) hF hw (c_X5_isSize l g t (by omega)) mnX0_186 [] [0] rfl rfl rfl rfl (by decide) ⟨by decide, by decide⟩ ⟨by decide, by decide⟩ rfl hl.1 (Nat.le_of_ble_eq_true rfl) rfl dX0_learnSize_6 (fun v u H locs hp hw => ?_)
    obtain ⟨rfl, hp_6⟩ := hp
    have hw := Wd.sub (ws' := [(ed 0, .inr (0, [.ref (ed 1), .ref (ed 3), .ref (ed 4), .ref (ed 6), .ref (ed 8), .ref (ed 10), .ref (ed 12), .ref (ed 14), .int (nI (eSz E)), .int (nI (eLe E)), .int (eNu E), .int (nI (eAS E).toNat), .int (nI (eAN E).toNat), .int (nI (eSt E)), .int (nI (eId E)), .int (eTr E), .int (nI (eTi E))]))]) hw [0] rfl rfl
    refine W.eq (g2 := F0 m 9 ls [.int (nI (decide (64 ≤ t ∧ t ≤ 1500)).toNat)]) rfl ?_
    have hsl := b_lt (decide (64 ≤ t ∧ t ≤ 1500))
    refine r_eq0 (tgt := 20) hx hb dX0_learnSize_9 (by decide) (by omega) (fun c_9 => ?_) (fun c_9 => ?_)
    · refine lv_iload_n hx hb dX0_learnSize_20 rfl (lv_at hl 1 rfl) ?_
      refine lv_iconst (v := nI 4) hx hb dX0_learnSize_21 (by decide) ?_
      refine r_ne (tgt := 30) hx hb dX0_learnSize_22 (by decide) (by omega) (by omega) (fun c_22 => ?_) (fun c_22 => ?_)
      · have hls : lszE E c9 t = _ := ls_n (fun q => by first | exact c_2 q.1 | exact dz c_9 q.2) c_22
        exact RQ.vret hF hr hlk hw dX0_learnSize_30 ⟨by decide, by decide⟩ (()) (by rw [hls] <;> rfl) ⟨rfl, trivial⟩
      · refine lv_aload_n hx hb dX0_learnSize_25 rfl (lv_at hl 0 rfl) ?_
        refine lv_iconst (v := nI 0) hx hb dX0_learnSize_26 (by decide) ?_
        refine r_put (ws' := [(ed 0, .inr (0, [.ref (ed 1), .ref (ed 3), .ref (ed 4), .ref (ed 6), .ref (ed 8), .ref (ed 10), .ref (ed 12), .ref (ed 14), .int (nI (eSz E)), .int (nI (eLe E)), .int (eNu E), .int (nI 0), .int (nI (eAN E).toNat), .int (nI (eSt E)), .int (nI (eId E)), .int (eTr E), .int (nI (eTi E))]))]) hF hw flX0_53 ftX0 dX0_learnSize_27 0 rfl rfl rfl rfl (Nat.le_of_ble_eq_true rfl) rfl (fun H locs hw => ?_)
        have hls : lszE E c9 t = _ := ls_r c_22
        exact RQ.vret hF hr hlk hw dX0_learnSize_30 ⟨by decide, by decide⟩ (()) (by rw [hls] <;> rfl) ⟨rfl, trivial⟩
    · refine lv_aload_n hx hb dX0_learnSize_12 rfl (lv_at hl 0 rfl) ?_
      refine lv_iload_n hx hb dX0_learnSize_13 rfl (lv_at hl 2 rfl) ?_
      refine r_put (ws' := [(ed 0, .inr (0, [.ref (ed 1), .ref (ed 3), .ref (ed 4), .ref (ed 6), .ref (ed 8), .ref (ed 10), .ref (ed 12), .ref (ed 14), .int (nI t), .int (nI (eLe E)), .int (eNu E), .int (nI (eAS E).toNat), .int (nI (eAN E).toNat), .int (nI (eSt E)), .int (nI (eId E)), .int (eTr E), .int (nI (eTi E))]))]) hF hw flX0_46 ftX0 dX0_learnSize_14 0 rfl rfl rfl rfl (Nat.le_of_ble_eq_true rfl) rfl (fun H locs hw => ?_)
      refine lv_goto (tgt := 30) hx hb dX0_learnSize_17 (by decide) ?_
      have hls : lszE E c9 t = _ := ls_y c_2 (dnz c_9)
      exact RQ.vret hF hr hlk hw dX0_learnSize_30 ⟨by decide, by decide⟩ (()) (by rw [hls] <;> rfl) ⟨rfl, trivial⟩

set_option maxHeartbeats 4000000 in
set_option maxRecDepth 100000 in
theorem c_X0_learnNumber (l : Launch) (g : GE) (ed : Nat → Nat) (E : AE) (fC : Nat → Int32) (c9 : Nat) (w : Int32) (hc9 : c9 < 256) (hC : CC fC (eCf E)) : Ct l yX0_learnNumber cX0_learnNumber 3 none { frames := 1, cells := 0, slots := 0, locals := 21 } g [.ref (ed 0), .int (nI c9), .int w] [(ed 0, .inr (0, [.ref (ed 1), .ref (ed 3), .ref (ed 4), .ref (ed 6), .ref (ed 8), .ref (ed 10), .ref (ed 12), .ref (ed 14), .int (nI (eSz E)), .int (nI (eLe E)), .int (eNu E), .int (nI (eAS E).toNat), .int (nI (eAN E).toNat), .int (nI (eSt E)), .int (nI (eId E)), .int (eTr E), .int (nI (eTi E))])), (ed 14, .inl (g.2.1 0, 6, .inl fC))] (fun (v : Option Value) (u : (Nat → Int32)) => v = none ∧ CC u (eCf (lnuE E c9 w))) (fun u : (Nat → Int32) => [(ed 0, .inr (0, [.ref (ed 1), .ref (ed 3), .ref (ed 4), .ref (ed 6), .ref (ed 8), .ref (ed 10), .ref (ed 12), .ref (ed 14), .int (nI (eSz (lnuE E c9 w))), .int (nI (eLe (lnuE E c9 w))), .int (eNu (lnuE E c9 w)), .int (nI (eAS (lnuE E c9 w)).toNat), .int (nI (eAN (lnuE E c9 w)).toNat), .int (nI (eSt (lnuE E c9 w))), .int (nI (eId (lnuE E c9 w))), .int (eTr (lnuE E c9 w)), .int (nI (eTi (lnuE E c9 w)))])), (ed 14, .inl (g.2.1 0, 6, .inl u))]) := by
  refine Ct.of (own := RX0) rfl rfl (Nat.le_of_ble_eq_true rfl) ?_
  intro P0 e0 s m below meth c ls hF hr hlk hnm hw hl
  have hx := hF.1
  have hb := hF.2.1
  have hl : lv_has ls 3 [(0, .ref (ed 0)), (1, .int (nI c9)), (2, .int w)] := hl
  refine lv_iload_n hx hb dX0_learnNumber_0 rfl (lv_at hl 1 rfl) ?_
  refine lv_iconst (v := nI 1) hx hb dX0_learnNumber_1 (by decide) ?_
  refine r_ne (tgt := 13) hx hb dX0_learnNumber_2 (by decide) (by omega) (by omega) (fun c_2 => ?_) (fun c_2 => ?_)
  · refine lv_iload_n hx hb dX0_learnNumber_13 rfl (lv_at hl 1 rfl) ?_
    refine lv_iconst (v := nI 3) hx hb dX0_learnNumber_14 (by decide) ?_
    refine r_ne (tgt := 26) hx hb dX0_learnNumber_15 (by decide) (by omega) (by omega) (fun c_15 => ?_) (fun c_15 => ?_)
    · refine lv_iload_n hx hb dX0_learnNumber_26 rfl (lv_at hl 1 rfl) ?_
      refine lv_iconst (v := nI 4) hx hb dX0_learnNumber_27 (by decide) ?_
      refine r_ne (tgt := 36) hx hb dX0_learnNumber_28 (by decide) (by omega) (by omega) (fun c_28 => ?_) (fun c_28 => ?_)
      · have hln : lnuE E c9 w = _ := ln_n c_2 c_15 c_28
        exact RQ.vret hF hr hlk hw dX0_learnNumber_36 ⟨by decide, by decide⟩ ((fC)) (by rw [hln] <;> rfl) ⟨rfl, by rw [hln]; exact hC⟩
      · refine lv_aload_n hx hb dX0_learnNumber_31 rfl (lv_at hl 0 rfl) ?_
        refine lv_iconst (v := nI 0) hx hb dX0_learnNumber_32 (by decide) ?_
        refine r_put (ws' := [(ed 0, .inr (0, [.ref (ed 1), .ref (ed 3), .ref (ed 4), .ref (ed 6), .ref (ed 8), .ref (ed 10), .ref (ed 12), .ref (ed 14), .int (nI (eSz E)), .int (nI (eLe E)), .int (eNu E), .int (nI (eAS E).toNat), .int (nI 0), .int (nI (eSt E)), .int (nI (eId E)), .int (eTr E), .int (nI (eTi E))])), (ed 14, .inl (g.2.1 0, 6, .inl fC))]) hF hw flX0_57 ftX0 dX0_learnNumber_33 0 rfl rfl rfl rfl (Nat.le_of_ble_eq_true rfl) rfl (fun H locs hw => ?_)
        have hln : lnuE E c9 w = _ := ln_4 c_28
        exact RQ.vret hF hr hlk hw dX0_learnNumber_36 ⟨by decide, by decide⟩ ((fC)) (by rw [hln] <;> rfl) ⟨rfl, by rw [hln]; exact hC⟩
    · refine lv_aload_n hx hb dX0_learnNumber_18 rfl (lv_at hl 0 rfl) ?_
      refine lv_iload_n hx hb dX0_learnNumber_19 rfl (lv_at hl 2 rfl) ?_
      refine r_put (ws' := [(ed 0, .inr (0, [.ref (ed 1), .ref (ed 3), .ref (ed 4), .ref (ed 6), .ref (ed 8), .ref (ed 10), .ref (ed 12), .ref (ed 14), .int (nI (eSz E)), .int (nI (eLe E)), .int w, .int (nI (eAS E).toNat), .int (nI (eAN E).toNat), .int (nI (eSt E)), .int (nI (eId E)), .int (eTr E), .int (nI (eTi E))])), (ed 14, .inl (g.2.1 0, 6, .inl fC))]) hF hw flX0_88 ftX0 dX0_learnNumber_20 0 rfl rfl rfl rfl (Nat.le_of_ble_eq_true rfl) rfl (fun H locs hw => ?_)
      refine lv_goto (tgt := 36) hx hb dX0_learnNumber_23 (by decide) ?_
      have hln : lnuE E c9 w = _ := ln_3 c_15
      exact RQ.vret hF hr hlk hw dX0_learnNumber_36 ⟨by decide, by decide⟩ ((fC)) (by rw [hln] <;> rfl) ⟨rfl, by rw [hln]; exact hC⟩
  · refine lv_aload_n hx hb dX0_learnNumber_5 rfl (lv_at hl 0 rfl) ?_
    refine lv_iload_n hx hb dX0_learnNumber_6 rfl (lv_at hl 2 rfl) ?_
    refine Ct.callV (wr := []) hF hw (c_X0_suspect l g ed E fC w (by assumption)) mwX0_162 [0, 1] [] rfl rfl rfl rfl (by decide) 0 rfl rfl ⟨by decide, by decide⟩ ⟨by decide, by decide⟩ rfl hl.1 (Nat.le_of_ble_eq_true rfl) rfl dX0_learnNumber_7 (fun v u H locs hp hw => ?_)
    obtain ⟨fC2_7, rfl⟩ : ∃ z, z = u := ⟨_, rfl⟩
    obtain ⟨rfl, hp_7⟩ := hp
    try dsimp only at hp_7
    have hw := Wd.sub (ws' := [(ed 0, .inr (0, [.ref (ed 1), .ref (ed 3), .ref (ed 4), .ref (ed 6), .ref (ed 8), .ref (ed 10), .ref (ed 12), .ref (ed 14), .int (nI (eSz E)), .int (nI (eLe E)), .int (eNu E), .int (nI (eAS E).toNat), .int (nI (eAN E).toNat), .int (nI (eSt E)), .int (nI (eId E)), .int (eTr E), .int (nI (eTi E))])), (ed 14, .inl (g.2.1 0, 6, .inl fC2_7))]) hw [0, 1] rfl rfl
    refine W.eq (g2 := F0 m 10 ls []) rfl ?_
    refine lv_goto (tgt := 36) hx hb dX0_learnNumber_10 (by decide) ?_
    have hln : lnuE E c9 w = _ := ln_1 c_2
    exact RQ.vret hF hr hlk hw dX0_learnNumber_36 ⟨by decide, by decide⟩ ((fC2_7)) (by rw [hln] <;> rfl) ⟨rfl, by rw [hln]; exact hp_7⟩
