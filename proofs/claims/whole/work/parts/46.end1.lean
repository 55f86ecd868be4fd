set_option maxHeartbeats 4000000 in
set_option maxRecDepth 100000 in
theorem c_X0_transmit (l : Launch) (g : GE) (ed : Nat → Nat) (E : AE) (fr : Nat) (fB : Nat → Int32) (fC : Nat → Int32) (a : Nat) (r : Nat) (n : Nat) (f : Nat → Int32) (L : List Nat) (hR : Rg fr fB (eB E)) (hC : CC fC (eCf E)) (hn : n ≤ 1000) (hL : L.length + 2 ≤ n) (hf : Hd f L) (hB : Bt L) : Ct l yX0_transmit cX0_transmit 2 none { frames := 2, cells := 0, slots := 0, locals := 45 } g [.ref (ed 0), .ref a] [(ed 0, .inr (0, [.ref (ed 1), .ref (ed 3), .ref (ed 4), .ref (ed 6), .ref (ed 8), .ref (ed 10), .ref (ed 12), .ref (ed 14), .int (nI (eSz E)), .int (nI (eLe E)), .int (eNu E), .int (nI (eAS E).toNat), .int (nI (eAN E).toNat), .int (nI (eSt E)), .int (nI (eId E)), .int (eTr E), .int (nI (eTi E))])), (ed 1, .inr (1, [.ref (ed 2), .int (nI fr), .int (nI (eB E).length), .int (nI (eLp E).toNat)])), (ed 2, .inl (g.2.1 0, 300, .inl fB)), (ed 14, .inl (g.2.1 0, 6, .inl fC)), (a, .inr (2, [.ref r, .int (nI L.length)])), (r, .inl (g.2.1 0, n, .inl f))] (fun (v : Option Value) (u : (Nat → Int32) × (Nat → Int32) × (Nat → Int32)) => v = none ∧ Rg fr u.1 (shB (eB E) L) ∧ CC u.2.1 (shC (eB E) (eCf E) L) ∧ Hd u.2.2 (sealL L)) (fun u : (Nat → Int32) × (Nat → Int32) × (Nat → Int32) => [(ed 0, .inr (0, [.ref (ed 1), .ref (ed 3), .ref (ed 4), .ref (ed 6), .ref (ed 8), .ref (ed 10), .ref (ed 12), .ref (ed 14), .int (nI (eSz E)), .int (nI (eLe E)), .int (eNu E), .int (nI (eAS E).toNat), .int (nI (eAN E).toNat), .int (nI (eSt E)), .int (nI (eId E)), .int (eTr E), .int (nI (eTi E))])), (ed 1, .inr (1, [.ref (ed 2), .int (nI fr), .int (nI (shB (eB E) L).length), .int (nI (eLp E).toNat)])), (ed 2, .inl (g.2.1 0, 300, .inl u.1)), (ed 14, .inl (g.2.1 0, 6, .inl u.2.1)), (a, .inr (2, [.ref r, .int (nI (sealL L).length)])), (r, .inl (g.2.1 0, n, .inl u.2.2))]) := by
  refine Ct.of (own := RX0) rfl rfl (Nat.le_of_ble_eq_true rfl) ?_
  intro P0 e0 s m below meth c ls hF hr hlk hnm hw hl
  have hx := hF.1
  have hb := hF.2.1
  have hl : lv_has ls 2 [(0, .ref (ed 0)), (1, .ref a)] := hl
  have hR2 := hR.2.1
  have hsl := sealL_len L
  have hsb := sealL_bt hB
  have hfl := frameL_len L
  have hes := (escL_le (sealL L)).2
  refine lv_aload_n hx hb dX0_transmit_0 rfl (lv_at hl 1 rfl) ?_
  refine Ct.callV (wr := [(ed 0, .inr (0, [.ref (ed 1), .ref (ed 3), .ref (ed 4), .ref (ed 6), .ref (ed 8), .ref (ed 10), .ref (ed 12), .ref (ed 14), .int (nI (eSz E)), .int (nI (eLe E)), .int (eNu E), .int (nI (eAS E).toNat), .int (nI (eAN E).toNat), .int (nI (eSt E)), .int (nI (eId E)), .int (eTr E), .int (nI (eTi E))])), (ed 1, .inr (1, [.ref (ed 2), .int (nI fr), .int (nI (eB E).length), .int (nI (eLp E).toNat)])), (ed 2, .inl (g.2.1 0, 300, .inl fB)), (ed 14, .inl (g.2.1 0, 6, .inl fC))]) hF hw (c_X3_seal l g a r n f L (by assumption) (by assumption) (by assumption) (by assumption)) mwX0_94 [4, 5] [0, 1, 2, 3] rfl rfl rfl rfl (by decide) 0 rfl rfl ⟨by decide, by decide⟩ ⟨by decide, by decide⟩ rfl hl.1 (Nat.le_of_ble_eq_true rfl) rfl dX0_transmit_1 (fun v u H locs hp hw => ?_)
  obtain ⟨f2_1, rfl⟩ : ∃ z, z = u := ⟨_, rfl⟩
  obtain ⟨rfl, hp_1⟩ := hp
  try dsimp only at hp_1
  have hw := Wd.sub (ws' := [(ed 0, .inr (0, [.ref (ed 1), .ref (ed 3), .ref (ed 4), .ref (ed 6), .ref (ed 8), .ref (ed 10), .ref (ed 12), .ref (ed 14), .int (nI (eSz E)), .int (nI (eLe E)), .int (eNu E), .int (nI (eAS E).toNat), .int (nI (eAN E).toNat), .int (nI (eSt E)), .int (nI (eId E)), .int (eTr E), .int (nI (eTi E))])), (ed 1, .inr (1, [.ref (ed 2), .int (nI fr), .int (nI (eB E).length), .int (nI (eLp E).toNat)])), (ed 2, .inl (g.2.1 0, 300, .inl fB)), (ed 14, .inl (g.2.1 0, 6, .inl fC)), (a, .inr (2, [.ref r, .int (nI (sealL L).length)])), (r, .inl (g.2.1 0, n, .inl f2_1))]) hw [0, 1, 2, 3, 4, 5] rfl rfl
  refine W.eq (g2 := F0 m 4 ls []) rfl ?_
  refine lv_aload_n hx hb dX0_transmit_4 rfl (lv_at hl 1 rfl) ?_
  refine Ct.callV (wr := [(ed 0, .inr (0, [.ref (ed 1), .ref (ed 3), .ref (ed 4), .ref (ed 6), .ref (ed 8), .ref (ed 10), .ref (ed 12), .ref (ed 14), .int (nI (eSz E)), .int (nI (eLe E)), .int (eNu E), .int (nI (eAS E).toNat), .int (nI (eAN E).toNat), .int (nI (eSt E)), .int (nI (eId E)), .int (eTr E), .int (nI (eTi E))])), (ed 1, .inr (1, [.ref (ed 2), .int (nI fr), .int (nI (eB E).length), .int (nI (eLp E).toNat)])), (ed 2, .inl (g.2.1 0, 300, .inl fB)), (ed 14, .inl (g.2.1 0, 6, .inl fC))]) hF hw (c_X3_frameLength l g a r n f2_1 (sealL L) (by assumption) (by omega) (hp_1) (hsb)) mwX0_97 [4, 5] [0, 1, 2, 3] rfl rfl rfl rfl (by decide) 0 rfl rfl ⟨by decide, by decide⟩ ⟨by decide, by decide⟩ rfl hl.1 (Nat.le_of_ble_eq_true rfl) rfl dX0_transmit_5 (fun v u H locs hp hw => ?_)
  obtain ⟨rfl, hp_5⟩ := hp
  have hw := Wd.sub (ws' := [(ed 0, .inr (0, [.ref (ed 1), .ref (ed 3), .ref (ed 4), .ref (ed 6), .ref (ed 8), .ref (ed 10), .ref (ed 12), .ref (ed 14), .int (nI (eSz E)), .int (nI (eLe E)), .int (eNu E), .int (nI (eAS E).toNat), .int (nI (eAN E).toNat), .int (nI (eSt E)), .int (nI (eId E)), .int (eTr E), .int (nI (eTi E))])), (ed 1, .inr (1, [.ref (ed 2), .int (nI fr), .int (nI (eB E).length), .int (nI (eLp E).toNat)])), (ed 2, .inl (g.2.1 0, 300, .inl fB)), (ed 14, .inl (g.2.1 0, 6, .inl fC)), (a, .inr (2, [.ref r, .int (nI (sealL L).length)])), (r, .inl (g.2.1 0, n, .inl f2_1))]) hw [0, 1, 2, 3, 4, 5] rfl rfl
  refine W.eq (g2 := F0 m 8 ls [.int (nI ((escL (sealL L)).length + 2))]) rfl ?_
  refine lv_sipush (v := nI 300) hx hb dX0_transmit_8 (by decide) ?_
  refine lv_aload_n hx hb dX0_transmit_11 rfl (lv_at hl 0 rfl) ?_
  refine wget hF hw flX0_63 dX0_transmit_12 0 rfl rfl ?_
  refine wget hF hw flX0_100 dX0_transmit_15 1 rfl rfl ?_
  refine r_isub hx hb dX0_transmit_18 (by omega) ?_
  refine r_gt (tgt := 33) hx hb dX0_transmit_19 (by decide) (by omega) (by omega) (fun c_19 => ?_) (fun c_19 => ?_)
  · have hrm9 : ¬ (eB E).length + (frameL L).length ≤ 300 := by omega
    refine lv_aload_n hx hb dX0_transmit_33 rfl (lv_at hl 0 rfl) ?_
    refine wget hF hw flX0_42 dX0_transmit_34 0 rfl rfl ?_
    refine lv_iconst (v := nI 2) hx hb dX0_transmit_37 (by decide) ?_
    refine lv_dup2_11 hx hb dX0_transmit_38 rfl rfl ?_
    refine r_iald hF hw dX0_transmit_39 3 rfl (by omega) (by omega) ?_
    refine lv_iconst (v := nI 1) hx hb dX0_transmit_40 (by decide) ?_
    refine lv_iadd hx hb dX0_transmit_41 ?_
    refine r_iast (ws' := [(ed 0, .inr (0, [.ref (ed 1), .ref (ed 3), .ref (ed 4), .ref (ed 6), .ref (ed 8), .ref (ed 10), .ref (ed 12), .ref (ed 14), .int (nI (eSz E)), .int (nI (eLe E)), .int (eNu E), .int (nI (eAS E).toNat), .int (nI (eAN E).toNat), .int (nI (eSt E)), .int (nI (eId E)), .int (eTr E), .int (nI (eTi E))])), (ed 1, .inr (1, [.ref (ed 2), .int (nI fr), .int (nI (eB E).length), .int (nI (eLp E).toNat)])), (ed 2, .inl (g.2.1 0, 300, .inl fB)), (ed 14, .inl (g.2.1 0, 6, .inl (upd fC 2 ((fC 2) + (nI 1))))), (a, .inr (2, [.ref r, .int (nI (sealL L).length)])), (r, .inl (g.2.1 0, n, .inl f2_1))]) hF hw dX0_transmit_42 3 rfl (by omega) (by omega) rfl (fun H locs hw => ?_)
    exact RQ.vret hF hr hlk hw dX0_transmit_43 ⟨by decide, by decide⟩ ((fB, upd fC 2 (fC 2 + nI 1), f2_1)) (by rw [shB_b hrm9]) ⟨rfl, ⟨by rw [shB_b hrm9]; exact hR, by rw [shC_b hrm9]; exact hC.tal (by decide), hp_1⟩⟩
  · have hrm9 : (eB E).length + (frameL L).length ≤ 300 := by omega
    refine lv_aload_n hx hb dX0_transmit_22 rfl (lv_at hl 0 rfl) ?_
    refine wget hF hw flX0_63 dX0_transmit_23 0 rfl rfl ?_
    refine lv_aload_n hx hb dX0_transmit_26 rfl (lv_at hl 1 rfl) ?_
    refine Ct.callV (wr := [(ed 0, .inr (0, [.ref (ed 1), .ref (ed 3), .ref (ed 4), .ref (ed 6), .ref (ed 8), .ref (ed 10), .ref (ed 12), .ref (ed 14), .int (nI (eSz E)), .int (nI (eLe E)), .int (eNu E), .int (nI (eAS E).toNat), .int (nI (eAN E).toNat), .int (nI (eSt E)), .int (nI (eId E)), .int (eTr E), .int (nI (eTi E))])), (ed 14, .inl (g.2.1 0, 6, .inl fC))]) hF hw (c_X2_carry l g (ed 1) (ed 2) fr fB (eB E) (nI (eLp E).toNat) a r n f2_1 (sealL L) (by assumption) (by assumption) (by omega) (hp_1) (hsb) (by omega)) mwX0_103 [1, 2, 4, 5] [0, 3] rfl rfl rfl rfl (by decide) 0 rfl rfl ⟨by decide, by decide⟩ ⟨by decide, by decide⟩ rfl hl.1 (Nat.le_of_ble_eq_true rfl) rfl dX0_transmit_27 (fun v u H locs hp hw => ?_)
    obtain ⟨f2_27, rfl⟩ : ∃ z, z = u := ⟨_, rfl⟩
    obtain ⟨rfl, hp_27⟩ := hp
    try dsimp only at hp_27
    have hw := Wd.sub (ws' := [(ed 0, .inr (0, [.ref (ed 1), .ref (ed 3), .ref (ed 4), .ref (ed 6), .ref (ed 8), .ref (ed 10), .ref (ed 12), .ref (ed 14), .int (nI (eSz E)), .int (nI (eLe E)), .int (eNu E), .int (nI (eAS E).toNat), .int (nI (eAN E).toNat), .int (nI (eSt E)), .int (nI (eId E)), .int (eTr E), .int (nI (eTi E))])), (ed 1, .inr (1, [.ref (ed 2), .int (nI fr), .int (nI ((eB E) ++ ([126] ++ escL (sealL L) ++ [126])).length), .int (nI (eLp E).toNat)])), (ed 2, .inl (g.2.1 0, 300, .inl f2_27)), (ed 14, .inl (g.2.1 0, 6, .inl fC)), (a, .inr (2, [.ref r, .int (nI (sealL L).length)])), (r, .inl (g.2.1 0, n, .inl f2_1))]) hw [0, 2, 3, 1, 4, 5] rfl rfl
    refine W.eq (g2 := F0 m 30 ls []) rfl ?_
    refine lv_goto (tgt := 43) hx hb dX0_transmit_30 (by decide) ?_
    exact RQ.vret hF hr hlk hw dX0_transmit_43 ⟨by decide, by decide⟩ ((f2_27, fC, f2_1)) (by rw [shB_a hrm9]; rfl) ⟨rfl, ⟨by rw [shB_a hrm9]; exact hp_27, by rw [shC_a hrm9]; exact hC, hp_1⟩⟩

set_option maxHeartbeats 4000000 in
set_option maxRecDepth 100000 in
theorem c_X0_nextId (l : Launch) (g : GE) (ed : Nat → Nat) (E : AE) (hi8 : eId E < 256) : Ct l yX0_nextId cX0_nextId 1 (some .int) { frames := 0, cells := 0, slots := 0, locals := 0 } g [.ref (ed 0)] [(ed 0, .inr (0, [.ref (ed 1), .ref (ed 3), .ref (ed 4), .ref (ed 6), .ref (ed 8), .ref (ed 10), .ref (ed 12), .ref (ed 14), .int (nI (eSz E)), .int (nI (eLe E)), .int (eNu E), .int (nI (eAS E).toNat), .int (nI (eAN E).toNat), .int (nI (eSt E)), .int (nI (eId E)), .int (eTr E), .int (nI (eTi E))]))] (fun (v : Option Value) (u : Unit) => v = some (.int (nI ((eId E + 1) % 2 ^ 8))) ∧ True) (fun u : Unit => [(ed 0, .inr (0, [.ref (ed 1), .ref (ed 3), .ref (ed 4), .ref (ed 6), .ref (ed 8), .ref (ed 10), .ref (ed 12), .ref (ed 14), .int (nI (eSz E)), .int (nI (eLe E)), .int (eNu E), .int (nI (eAS E).toNat), .int (nI (eAN E).toNat), .int (nI (eSt E)), .int (nI ((eId E + 1) % 2 ^ 8)), .int (eTr E), .int (nI (eTi E))]))]) := by
  refine Ct.of (own := RX0) rfl rfl (Nat.le_of_ble_eq_true rfl) ?_
  intro P0 e0 s m below meth c ls hF hr hlk hnm hw hl
  have hx := hF.1
  have hb := hF.2.1
  have hl : lv_has ls 1 [(0, .ref (ed 0))] := hl
  refine lv_aload_n hx hb dX0_nextId_0 rfl (lv_at hl 0 rfl) ?_
  refine lv_aload_n hx hb dX0_nextId_1 rfl (lv_at hl 0 rfl) ?_
  refine wget hF hw flX0_67 dX0_nextId_2 0 rfl rfl ?_
  refine lv_iconst (v := nI 1) hx hb dX0_nextId_5 (by decide) ?_
  refine r_iadd hx hb dX0_nextId_6 ?_
  refine lv_sipush (v := nI 255) hx hb dX0_nextId_7 (by decide) ?_
  refine r_iand hx hb dX0_nextId_10 8 (by omega) (by decide) ?_
  refine r_put (ws' := [(ed 0, .inr (0, [.ref (ed 1), .ref (ed 3), .ref (ed 4), .ref (ed 6), .ref (ed 8), .ref (ed 10), .ref (ed 12), .ref (ed 14), .int (nI (eSz E)), .int (nI (eLe E)), .int (eNu E), .int (nI (eAS E).toNat), .int (nI (eAN E).toNat), .int (nI (eSt E)), .int (nI (((eId E) + 1) % 2 ^ 8)), .int (eTr E), .int (nI (eTi E))]))]) hF hw flX0_67 ftX0 dX0_nextId_11 0 rfl rfl rfl rfl (Nat.le_of_ble_eq_true rfl) rfl (fun H locs hw => ?_)
  refine lv_aload_n hx hb dX0_nextId_14 rfl (lv_at hl 0 rfl) ?_
  refine wget hF hw flX0_67 dX0_nextId_15 0 rfl rfl ?_
  exact RQ.iret hF hr hlk hw dX0_nextId_18 ⟨by decide, by decide⟩ (()) (rfl) ⟨rfl, trivial⟩

set_option maxHeartbeats 4000000 in
set_option maxRecDepth 100000 in
theorem c_X0_spendTry (l : Launch) (g : GE) (ed : Nat → Nat) (E : AE)  : Ct l yX0_spendTry cX0_spendTry 1 none { frames := 0, cells := 0, slots := 0, locals := 0 } g [.ref (ed 0)] [(ed 0, .inr (0, [.ref (ed 1), .ref (ed 3), .ref (ed 4), .ref (ed 6), .ref (ed 8), .ref (ed 10), .ref (ed 12), .ref (ed 14), .int (nI (eSz E)), .int (nI (eLe E)), .int (eNu E), .int (nI (eAS E).toNat), .int (nI (eAN E).toNat), .int (nI (eSt E)), .int (nI (eId E)), .int (eTr E), .int (nI (eTi E))]))] (fun (v : Option Value) (u : Unit) => v = none ∧ True) (fun u : Unit => [(ed 0, .inr (0, [.ref (ed 1), .ref (ed 3), .ref (ed 4), .ref (ed 6), .ref (ed 8), .ref (ed 10), .ref (ed 12), .ref (ed 14), .int (nI (eSz E)), .int (nI (eLe E)), .int (eNu E), .int (nI (eAS E).toNat), .int (nI (eAN E).toNat), .int (nI (eSt E)), .int (nI (eId E)), .int (eTr E - nI 1), .int (nI 3)]))]) := by
  refine Ct.of (own := RX0) rfl rfl (Nat.le_of_ble_eq_true rfl) ?_
  intro P0 e0 s m below meth c ls hF hr hlk hnm hw hl
  have hx := hF.1
  have hb := hF.2.1
  have hl : lv_has ls 1 [(0, .ref (ed 0))] := hl
  refine lv_aload_n hx hb dX0_spendTry_0 rfl (lv_at hl 0 rfl) ?_
  refine lv_dup hx hb dX0_spendTry_1 rfl ?_
  refine wget hF hw flX0_109 dX0_spendTry_2 0 rfl rfl ?_
  refine lv_iconst (v := nI 1) hx hb dX0_spendTry_5 (by decide) ?_
  refine lv_isub hx hb dX0_spendTry_6 ?_
  refine r_put (ws' := [(ed 0, .inr (0, [.ref (ed 1), .ref (ed 3), .ref (ed 4), .ref (ed 6), .ref (ed 8), .ref (ed 10), .ref (ed 12), .ref (ed 14), .int (nI (eSz E)), .int (nI (eLe E)), .int (eNu E), .int (nI (eAS E).toNat), .int (nI (eAN E).toNat), .int (nI (eSt E)), .int (nI (eId E)), .int ((eTr E) - (nI 1)), .int (nI (eTi E))]))]) hF hw flX0_109 ftX0 dX0_spendTry_7 0 rfl rfl rfl rfl (Nat.le_of_ble_eq_true rfl) rfl (fun H locs hw => ?_)
  refine lv_aload_n hx hb dX0_spendTry_10 rfl (lv_at hl 0 rfl) ?_
  refine lv_iconst (v := nI 3) hx hb dX0_spendTry_11 (by decide) ?_
  refine r_put (ws' := [(ed 0, .inr (0, [.ref (ed 1), .ref (ed 3), .ref (ed 4), .ref (ed 6), .ref (ed 8), .ref (ed 10), .ref (ed 12), .ref (ed 14), .int (nI (eSz E)), .int (nI (eLe E)), .int (eNu E), .int (nI (eAS E).toNat), .int (nI (eAN E).toNat), .int (nI (eSt E)), .int (nI (eId E)), .int ((eTr E) - (nI 1)), .int (nI 3)]))]) hF hw flX0_106 ftX0 dX0_spendTry_12 0 rfl rfl rfl rfl (Nat.le_of_ble_eq_true rfl) rfl (fun H locs hw => ?_)
  exact RQ.vret hF hr hlk hw dX0_spendTry_15 ⟨by decide, by decide⟩ (()) (rfl) ⟨rfl, trivial⟩

set_option maxHeartbeats 4000000 in
set_option maxRecDepth 100000 in
theorem c_X0_composeRequest (l : Launch) (g : GE) (ed : Nat → Nat) (E : AE) (fQ : Nat → Int32) (M : List Nat) (hI : InvE E) : Ct l yX0_composeRequest cX0_composeRequest 1 none { frames := 2, cells := 0, slots := 0, locals := 43 } g [.ref (ed 0)] [(ed 0, .inr (0, [.ref (ed 1), .ref (ed 3), .ref (ed 4), .ref (ed 6), .ref (ed 8), .ref (ed 10), .ref (ed 12), .ref (ed 14), .int (nI (eSz E)), .int (nI (eLe E)), .int (eNu E), .int (nI (eAS E).toNat), .int (nI (eAN E).toNat), .int (nI (eSt E)), .int (nI (eId E)), .int (eTr E), .int (nI (eTi E))])), (ed 8, .inr (2, [.ref (ed 9), .int (nI M.length)])), (ed 9, .inl (g.2.1 0, 13, .inl fQ))] (fun (v : Option Value) (u : (Nat → Int32)) => v = none ∧ Hd u (reqP (nextI E))) (fun u : (Nat → Int32) => [(ed 0, .inr (0, [.ref (ed 1), .ref (ed 3), .ref (ed 4), .ref (ed 6), .ref (ed 8), .ref (ed 10), .ref (ed 12), .ref (ed 14), .int (nI (eSz E)), .int (nI (eLe E)), .int (eNu E), .int (nI (eAS E).toNat), .int (nI (eAN E).toNat), .int (nI (eSt E)), .int (nI ((eId E + 1) % 2 ^ 8)), .int (eTr E), .int (nI (eTi E))])), (ed 8, .inr (2, [.ref (ed 9), .int (nI (reqP (nextI E)).length)])), (ed 9, .inl (g.2.1 0, 13, .inl u))]) := by
  refine Ct.of (own := RX0) rfl rfl (Nat.le_of_ble_eq_true rfl) ?_
  intro P0 e0 s m below meth c ls hF hr hlk hnm hw hl
  have hx := hF.1
  have hb := hF.2.1
  have hl : lv_has ls 1 [(0, .ref (ed 0))] := hl
  obtain ⟨⟨v1, v2⟩, ⟨v3, v4⟩, v5, v6, v7, v8⟩ := id hI
  have hb1 := b_lt (eAS E)
  have hb2 := b_lt (eAN E)
  have hm8 := Nat.mod_lt (eId E + 1) (show 0 < 2 ^ 8 by decide)
  refine lv_aload_n hx hb dX0_composeRequest_0 rfl (lv_at hl 0 rfl) ?_
  refine wget hF hw flX0_33 dX0_composeRequest_1 0 rfl rfl ?_
  refine lv_iconst (v := nI 1) hx hb dX0_composeRequest_4 (by decide) ?_
  refine lv_aload_n hx hb dX0_composeRequest_5 rfl (lv_at hl 0 rfl) ?_
  refine Ct.callV (wr := [(ed 8, .inr (2, [.ref (ed 9), .int (nI M.length)])), (ed 9, .inl (g.2.1 0, 13, .inl fQ))]) hF hw (c_X0_nextId l g ed E (by assumption)) mwX0_80 [0] [1, 2] rfl rfl rfl rfl (by decide) 0 rfl rfl ⟨by decide, by decide⟩ ⟨by decide, by decide⟩ rfl hl.1 (Nat.le_of_ble_eq_true rfl) rfl dX0_composeRequest_6 (fun v u H locs hp hw => ?_)
  obtain ⟨rfl, hp_6⟩ := hp
  have hw := Wd.sub (ws' := [(ed 0, .inr (0, [.ref (ed 1), .ref (ed 3), .ref (ed 4), .ref (ed 6), .ref (ed 8), .ref (ed 10), .ref (ed 12), .ref (ed 14), .int (nI (eSz E)), .int (nI (eLe E)), .int (eNu E), .int (nI (eAS E).toNat), .int (nI (eAN E).toNat), .int (nI (eSt E)), .int (nI ((eId E + 1) % 2 ^ 8)), .int (eTr E), .int (nI (eTi E))])), (ed 8, .inr (2, [.ref (ed 9), .int (nI M.length)])), (ed 9, .inl (g.2.1 0, 13, .inl fQ))]) hw [2, 0, 1] rfl rfl
  refine W.eq (g2 := F0 m 9 ls [.int (nI ((eId E + 1) % 2 ^ 8)), .int (nI 1), .ref (ed 8)]) rfl ?_
  refine Ct.callV (wr := [(ed 0, .inr (0, [.ref (ed 1), .ref (ed 3), .ref (ed 4), .ref (ed 6), .ref (ed 8), .ref (ed 10), .ref (ed 12), .ref (ed 14), .int (nI (eSz E)), .int (nI (eLe E)), .int (eNu E), .int (nI (eAS E).toNat), .int (nI (eAN E).toNat), .int (nI (eSt E)), .int (nI ((eId E + 1) % 2 ^ 8)), .int (eTr E), .int (nI (eTi E))]))]) hF hw (c_X3_start l g (ed 8) (ed 9) 13 fQ M 1 ((eId E + 1) % 2 ^ 8) (by decide) (by decide) (by decide) (by omega)) mwX0_84 [1, 2] [0] rfl rfl rfl rfl (by decide) 0 rfl rfl ⟨by decide, by decide⟩ ⟨by decide, by decide⟩ rfl hl.1 (Nat.le_of_ble_eq_true rfl) rfl dX0_composeRequest_9 (fun v u H locs hp hw => ?_)
  obtain ⟨f2_9, rfl⟩ : ∃ z, z = u := ⟨_, rfl⟩
  obtain ⟨rfl, hp_9⟩ := hp
  try dsimp only at hp_9
  have hw := Wd.sub (ws' := [(ed 0, .inr (0, [.ref (ed 1), .ref (ed 3), .ref (ed 4), .ref (ed 6), .ref (ed 8), .ref (ed 10), .ref (ed 12), .ref (ed 14), .int (nI (eSz E)), .int (nI (eLe E)), .int (eNu E), .int (nI (eAS E).toNat), .int (nI (eAN E).toNat), .int (nI (eSt E)), .int (nI ((eId E + 1) % 2 ^ 8)), .int (eTr E), .int (nI (eTi E))])), (ed 8, .inr (2, [.ref (ed 9), .int (nI [1, 1, ((eId E + 1) % 2 ^ 8)].length)])), (ed 9, .inl (g.2.1 0, 13, .inl f2_9))]) hw [0, 1, 2] rfl rfl
  refine W.eq (g2 := F0 m 12 ls []) rfl ?_
  refine lv_aload_n hx hb dX0_composeRequest_12 rfl (lv_at hl 0 rfl) ?_
  refine wget hF hw flX0_53 dX0_composeRequest_13 0 rfl rfl ?_
  refine r_eq0 (tgt := 40) hx hb dX0_composeRequest_16 (by decide) (by omega) (fun c_16 => ?_) (fun c_16 => ?_)
  · have hsN : optS E = [] := if_neg (fun q => by rw [bz c_16] at q; exact absurd q.1 (by decide))
    refine lv_aload_n hx hb dX0_composeRequest_40 rfl (lv_at hl 0 rfl) ?_
    refine wget hF hw flX0_57 dX0_composeRequest_41 0 rfl rfl ?_
    refine r_eq0 (tgt := 73) hx hb dX0_composeRequest_44 (by decide) (by omega) (fun c_44 => ?_) (fun c_44 => ?_)
    · have hnN : optN E = [] := if_neg (fun q => by rw [bz c_44] at q; exact absurd q.1 (by decide))
      have e9 : [1, 1, ((eId E + 1) % 2 ^ 8)] = reqP (nextI E) := by unfold reqP; rw [show optS (nextI E) = _ from hsN, show optN (nextI E) = _ from hnN]; simp [nextI]
      have hq9 := hp_9
      rw [e9] at hw hq9
      exact RQ.vret hF hr hlk hw dX0_composeRequest_73 ⟨by decide, by decide⟩ ((f2_9)) (rfl) ⟨rfl, hq9⟩
    · refine lv_aload_n hx hb dX0_composeRequest_47 rfl (lv_at hl 0 rfl) ?_
      refine wget hF hw flX0_88 dX0_composeRequest_48 0 rfl rfl ?_
      refine lv_if_eq (tgt := 73) hx hb dX0_composeRequest_51 (by decide) (fun c_51 => ?_) (fun c_51 => ?_)
      · have hnN : optN E = [] := if_neg (fun q => q.2 c_51)
        have e9 : [1, 1, ((eId E + 1) % 2 ^ 8)] = reqP (nextI E) := by unfold reqP; rw [show optS (nextI E) = _ from hsN, show optN (nextI E) = _ from hnN]; simp [nextI]
        have hq9 := hp_9
        rw [e9] at hw hq9
        exact RQ.vret hF hr hlk hw dX0_composeRequest_73 ⟨by decide, by decide⟩ ((f2_9)) (rfl) ⟨rfl, hq9⟩
      · have hnY : optN E = 5 :: nbs (eNu E) := if_pos ⟨bnz c_44, c_51⟩
        refine lv_aload_n hx hb dX0_composeRequest_54 rfl (lv_at hl 0 rfl) ?_
        refine wget hF hw flX0_33 dX0_composeRequest_55 0 rfl rfl ?_
        refine lv_iconst (v := nI 5) hx hb dX0_composeRequest_58 (by decide) ?_
        refine Ct.callV (wr := [(ed 0, .inr (0, [.ref (ed 1), .ref (ed 3), .ref (ed 4), .ref (ed 6), .ref (ed 8), .ref (ed 10), .ref (ed 12), .ref (ed 14), .int (nI (eSz E)), .int (nI (eLe E)), .int (eNu E), .int (nI (eAS E).toNat), .int (nI (eAN E).toNat), .int (nI (eSt E)), .int (nI ((eId E + 1) % 2 ^ 8)), .int (eTr E), .int (nI (eTi E))]))]) hF hw (c_X3_add l g (ed 8) (ed 9) 13 f2_9 [1, 1, ((eId E + 1) % 2 ^ 8)] (nI 5) 5 (by decide) (by (try simp only [List.length_append, List.length_cons, List.length_nil]); omega) (hp_9) (by decide)) mwX0_73 [1, 2] [0] rfl rfl rfl rfl (by decide) 0 rfl rfl ⟨by decide, by decide⟩ ⟨by decide, by decide⟩ rfl hl.1 (Nat.le_of_ble_eq_true rfl) rfl dX0_composeRequest_59 (fun v u H locs hp hw => ?_)
        obtain ⟨f2_59, rfl⟩ : ∃ z, z = u := ⟨_, rfl⟩
        obtain ⟨rfl, hp_59⟩ := hp
        try dsimp only at hp_59
        have hw := Wd.sub (ws' := [(ed 0, .inr (0, [.ref (ed 1), .ref (ed 3), .ref (ed 4), .ref (ed 6), .ref (ed 8), .ref (ed 10), .ref (ed 12), .ref (ed 14), .int (nI (eSz E)), .int (nI (eLe E)), .int (eNu E), .int (nI (eAS E).toNat), .int (nI (eAN E).toNat), .int (nI (eSt E)), .int (nI ((eId E + 1) % 2 ^ 8)), .int (eTr E), .int (nI (eTi E))])), (ed 8, .inr (2, [.ref (ed 9), .int (nI ([1, 1, ((eId E + 1) % 2 ^ 8)] ++ [5]).length)])), (ed 9, .inl (g.2.1 0, 13, .inl f2_59))]) hw [0, 1, 2] rfl rfl
        refine W.eq (g2 := F0 m 62 ls []) rfl ?_
        refine lv_aload_n hx hb dX0_composeRequest_62 rfl (lv_at hl 0 rfl) ?_
        refine wget hF hw flX0_33 dX0_composeRequest_63 0 rfl rfl ?_
        refine lv_aload_n hx hb dX0_composeRequest_66 rfl (lv_at hl 0 rfl) ?_
        refine wget hF hw flX0_88 dX0_composeRequest_67 0 rfl rfl ?_
        refine Ct.callV (wr := [(ed 0, .inr (0, [.ref (ed 1), .ref (ed 3), .ref (ed 4), .ref (ed 6), .ref (ed 8), .ref (ed 10), .ref (ed 12), .ref (ed 14), .int (nI (eSz E)), .int (nI (eLe E)), .int (eNu E), .int (nI (eAS E).toNat), .int (nI (eAN E).toNat), .int (nI (eSt E)), .int (nI ((eId E + 1) % 2 ^ 8)), .int (eTr E), .int (nI (eTi E))]))]) hF hw (c_X3_addNumber l g (ed 8) (ed 9) 13 f2_59 ([1, 1, ((eId E + 1) % 2 ^ 8)] ++ [5]) (eNu E) (by decide) (by (try simp only [List.length_append, List.length_cons, List.length_nil]); omega) (hp_59)) mwX0_91 [1, 2] [0] rfl rfl rfl rfl (by decide) 0 rfl rfl ⟨by decide, by decide⟩ ⟨by decide, by decide⟩ rfl hl.1 (Nat.le_of_ble_eq_true rfl) rfl dX0_composeRequest_70 (fun v u H locs hp hw => ?_)
        obtain ⟨f2_70, rfl⟩ : ∃ z, z = u := ⟨_, rfl⟩
        obtain ⟨rfl, hp_70⟩ := hp
        try dsimp only at hp_70
        have hw := Wd.sub (ws' := [(ed 0, .inr (0, [.ref (ed 1), .ref (ed 3), .ref (ed 4), .ref (ed 6), .ref (ed 8), .ref (ed 10), .ref (ed 12), .ref (ed 14), .int (nI (eSz E)), .int (nI (eLe E)), .int (eNu E), .int (nI (eAS E).toNat), .int (nI (eAN E).toNat), .int (nI (eSt E)), .int (nI ((eId E + 1) % 2 ^ 8)), .int (eTr E), .int (nI (eTi E))])), (ed 8, .inr (2, [.ref (ed 9), .int (nI (([1, 1, ((eId E + 1) % 2 ^ 8)] ++ [5]) ++ nbs (eNu E)).length)])), (ed 9, .inl (g.2.1 0, 13, .inl f2_70))]) hw [0, 1, 2] rfl rfl
        refine W.eq (g2 := F0 m 73 ls []) rfl ?_
        have e9 : (([1, 1, ((eId E + 1) % 2 ^ 8)] ++ [5]) ++ nbs (eNu E)) = reqP (nextI E) := by unfold reqP; rw [show optS (nextI E) = _ from hsN, show optN (nextI E) = _ from hnY]; simp [nextI]
        have hq9 := hp_70
        rw [e9] at hw hq9
        exact RQ.vret hF hr hlk hw dX0_composeRequest_73 ⟨by decide, by decide⟩ ((f2_70)) (rfl) ⟨rfl, hq9⟩
  · refine lv_aload_n hx hb dX0_composeRequest_19 rfl (lv_at hl 0 rfl) ?_
    refine wget hF hw flX0_46 dX0_composeRequest_20 0 rfl rfl ?_
    refine lv_sipush (v := nI 1500) hx hb dX0_composeRequest_23 (by decide) ?_
    refine r_eq (tgt := 40) hx hb dX0_composeRequest_26 (by decide) (by omega) (by omega) (fun c_26 => ?_) (fun c_26 => ?_)
    · have hsN : optS E = [] := if_neg (fun q => q.2 c_26)
      refine lv_aload_n hx hb dX0_composeRequest_40 rfl (lv_at hl 0 rfl) ?_
      refine wget hF hw flX0_57 dX0_composeRequest_41 0 rfl rfl ?_
      refine r_eq0 (tgt := 73) hx hb dX0_composeRequest_44 (by decide) (by omega) (fun c_44 => ?_) (fun c_44 => ?_)
      · have hnN : optN E = [] := if_neg (fun q => by rw [bz c_44] at q; exact absurd q.1 (by decide))
        have e9 : [1, 1, ((eId E + 1) % 2 ^ 8)] = reqP (nextI E) := by unfold reqP; rw [show optS (nextI E) = _ from hsN, show optN (nextI E) = _ from hnN]; simp [nextI]
        have hq9 := hp_9
        rw [e9] at hw hq9
        exact RQ.vret hF hr hlk hw dX0_composeRequest_73 ⟨by decide, by decide⟩ ((f2_9)) (rfl) ⟨rfl, hq9⟩
      · refine lv_aload_n hx hb dX0_composeRequest_47 rfl (lv_at hl 0 rfl) ?_
        refine wget hF hw flX0_88 dX0_composeRequest_48 0 rfl rfl ?_
        refine lv_if_eq (tgt := 73) hx hb dX0_composeRequest_51 (by decide) (fun c_51 => ?_) (fun c_51 => ?_)
        · have hnN : optN E = [] := if_neg (fun q => q.2 c_51)
          have e9 : [1, 1, ((eId E + 1) % 2 ^ 8)] = reqP (nextI E) := by unfold reqP; rw [show optS (nextI E) = _ from hsN, show optN (nextI E) = _ from hnN]; simp [nextI]
          have hq9 := hp_9
          rw [e9] at hw hq9
          exact RQ.vret hF hr hlk hw dX0_composeRequest_73 ⟨by decide, by decide⟩ ((f2_9)) (rfl) ⟨rfl, hq9⟩
        · have hnY : optN E = 5 :: nbs (eNu E) := if_pos ⟨bnz c_44, c_51⟩
          refine lv_aload_n hx hb dX0_composeRequest_54 rfl (lv_at hl 0 rfl) ?_
          refine wget hF hw flX0_33 dX0_composeRequest_55 0 rfl rfl ?_
          refine lv_iconst (v := nI 5) hx hb dX0_composeRequest_58 (by decide) ?_
          refine Ct.callV (wr := [(ed 0, .inr (0, [.ref (ed 1), .ref (ed 3), .ref (ed 4), .ref (ed 6), .ref (ed 8), .ref (ed 10), .ref (ed 12), .ref (ed 14), .int (nI (eSz E)), .int (nI (eLe E)), .int (eNu E), .int (nI (eAS E).toNat), .int (nI (eAN E).toNat), .int (nI (eSt E)), .int (nI ((eId E + 1) % 2 ^ 8)), .int (eTr E), .int (nI (eTi E))]))]) hF hw (c_X3_add l g (ed 8) (ed 9) 13 f2_9 [1, 1, ((eId E + 1) % 2 ^ 8)] (nI 5) 5 (by decide) (by (try simp only [List.length_append, List.length_cons, List.length_nil]); omega) (hp_9) (by decide)) mwX0_73 [1, 2] [0] rfl rfl rfl rfl (by decide) 0 rfl rfl ⟨by decide, by decide⟩ ⟨by decide, by decide⟩ rfl hl.1 (Nat.le_of_ble_eq_true rfl) rfl dX0_composeRequest_59 (fun v u H locs hp hw => ?_)
          obtain ⟨f2_59, rfl⟩ : ∃ z, z = u := ⟨_, rfl⟩
          obtain ⟨rfl, hp_59⟩ := hp
          try dsimp only at hp_59
          have hw := Wd.sub (ws' := [(ed 0, .inr (0, [.ref (ed 1), .ref (ed 3), .ref (ed 4), .ref (ed 6), .ref (ed 8), .ref (ed 10), .ref (ed 12), .ref (ed 14), .int (nI (eSz E)), .int (nI (eLe E)), .int (eNu E), .int (nI (eAS E).toNat), .int (nI (eAN E).toNat), .int (nI (eSt E)), .int (nI ((eId E + 1) % 2 ^ 8)), .int (eTr E), .int (nI (eTi E))])), (ed 8, .inr (2, [.ref (ed 9), .int (nI ([1, 1, ((eId E + 1) % 2 ^ 8)] ++ [5]).length)])), (ed 9, .inl (g.2.1 0, 13, .inl f2_59))]) hw [0, 1, 2] rfl rfl
          refine W.eq (g2 := F0 m 62 ls []) rfl ?_
          refine lv_aload_n hx hb dX0_composeRequest_62 rfl (lv_at hl 0 rfl) ?_
          refine wget hF hw flX0_33 dX0_composeRequest_63 0 rfl rfl ?_
          refine lv_aload_n hx hb dX0_composeRequest_66 rfl (lv_at hl 0 rfl) ?_
          refine wget hF hw flX0_88 dX0_composeRequest_67 0 rfl rfl ?_
          refine Ct.callV (wr := [(ed 0, .inr (0, [.ref (ed 1), .ref (ed 3), .ref (ed 4), .ref (ed 6), .ref (ed 8), .ref (ed 10), .ref (ed 12), .ref (ed 14), .int (nI (eSz E)), .int (nI (eLe E)), .int (eNu E), .int (nI (eAS E).toNat), .int (nI (eAN E).toNat), .int (nI (eSt E)), .int (nI ((eId E + 1) % 2 ^ 8)), .int (eTr E), .int (nI (eTi E))]))]) hF hw (c_X3_addNumber l g (ed 8) (ed 9) 13 f2_59 ([1, 1, ((eId E + 1) % 2 ^ 8)] ++ [5]) (eNu E) (by decide) (by (try simp only [List.length_append, List.length_cons, List.length_nil]); omega) (hp_59)) mwX0_91 [1, 2] [0] rfl rfl rfl rfl (by decide) 0 rfl rfl ⟨by decide, by decide⟩ ⟨by decide, by decide⟩ rfl hl.1 (Nat.le_of_ble_eq_true rfl) rfl dX0_composeRequest_70 (fun v u H locs hp hw => ?_)
          obtain ⟨f2_70, rfl⟩ : ∃ z, z = u := ⟨_, rfl⟩
          obtain ⟨rfl, hp_70⟩ := hp
          try dsimp only at hp_70
          have hw := Wd.sub (ws' := [(ed 0, .inr (0, [.ref (ed 1), .ref (ed 3), .ref (ed 4), .ref (ed 6), .ref (ed 8), .ref (ed 10), .ref (ed 12), .ref (ed 14), .int (nI (eSz E)), .int (nI (eLe E)), .int (eNu E), .int (nI (eAS E).toNat), .int (nI (eAN E).toNat), .int (nI (eSt E)), .int (nI ((eId E + 1) % 2 ^ 8)), .int (eTr E), .int (nI (eTi E))])), (ed 8, .inr (2, [.ref (ed 9), .int (nI (([1, 1, ((eId E + 1) % 2 ^ 8)] ++ [5]) ++ nbs (eNu E)).length)])), (ed 9, .inl (g.2.1 0, 13, .inl f2_70))]) hw [0, 1, 2] rfl rfl
          refine W.eq (g2 := F0 m 73 ls []) rfl ?_
          have e9 : (([1, 1, ((eId E + 1) % 2 ^ 8)] ++ [5]) ++ nbs (eNu E)) = reqP (nextI E) := by unfold reqP; rw [show optS (nextI E) = _ from hsN, show optN (nextI E) = _ from hnY]; simp [nextI]
          have hq9 := hp_70
          rw [e9] at hw hq9
          exact RQ.vret hF hr hlk hw dX0_composeRequest_73 ⟨by decide, by decide⟩ ((f2_70)) (rfl) ⟨rfl, hq9⟩
    · have hsY : optS E = [1, eSz E / 256, eSz E % 256] := if_pos ⟨bnz c_16, c_26⟩
      refine lv_aload_n hx hb dX0_composeRequest_29 rfl (lv_at hl 0 rfl) ?_
      refine wget hF hw flX0_33 dX0_composeRequest_30 0 rfl rfl ?_
      refine lv_aload_n hx hb dX0_composeRequest_33 rfl (lv_at hl 0 rfl) ?_
      refine wget hF hw flX0_46 dX0_composeRequest_34 0 rfl rfl ?_
      refine Ct.callV (wr := [(ed 0, .inr (0, [.ref (ed 1), .ref (ed 3), .ref (ed 4), .ref (ed 6), .ref (ed 8), .ref (ed 10), .ref (ed 12), .ref (ed 14), .int (nI (eSz E)), .int (nI (eLe E)), .int (eNu E), .int (nI (eAS E).toNat), .int (nI (eAN E).toNat), .int (nI (eSt E)), .int (nI ((eId E + 1) % 2 ^ 8)), .int (eTr E), .int (nI (eTi E))]))]) hF hw (c_X3_addSizeOption l g (ed 8) (ed 9) 13 f2_9 [1, 1, (eId E + 1) % 2 ^ 8] (eSz E) (by decide) (by show 3 + 3 ≤ 13; decide) (hp_9) (by omega)) mwX0_247 [1, 2] [0] rfl rfl rfl rfl (by decide) 0 rfl rfl ⟨by decide, by decide⟩ ⟨by decide, by decide⟩ rfl hl.1 (Nat.le_of_ble_eq_true rfl) rfl dX0_composeRequest_37 (fun v u H locs hp hw => ?_)
      obtain ⟨f2_37, rfl⟩ : ∃ z, z = u := ⟨_, rfl⟩
      obtain ⟨rfl, hp_37⟩ := hp
      try dsimp only at hp_37
      have hw := Wd.sub (ws' := [(ed 0, .inr (0, [.ref (ed 1), .ref (ed 3), .ref (ed 4), .ref (ed 6), .ref (ed 8), .ref (ed 10), .ref (ed 12), .ref (ed 14), .int (nI (eSz E)), .int (nI (eLe E)), .int (eNu E), .int (nI (eAS E).toNat), .int (nI (eAN E).toNat), .int (nI (eSt E)), .int (nI ((eId E + 1) % 2 ^ 8)), .int (eTr E), .int (nI (eTi E))])), (ed 8, .inr (2, [.ref (ed 9), .int (nI ([1, 1, (eId E + 1) % 2 ^ 8] ++ [1, (eSz E) / 256, (eSz E) % 256]).length)])), (ed 9, .inl (g.2.1 0, 13, .inl f2_37))]) hw [0, 1, 2] rfl rfl
      refine W.eq (g2 := F0 m 40 ls []) rfl ?_
      refine lv_aload_n hx hb dX0_composeRequest_40 rfl (lv_at hl 0 rfl) ?_
      refine wget hF hw flX0_57 dX0_composeRequest_41 0 rfl rfl ?_
      refine r_eq0 (tgt := 73) hx hb dX0_composeRequest_44 (by decide) (by omega) (fun c_44 => ?_) (fun c_44 => ?_)
      · have hnN : optN E = [] := if_neg (fun q => by rw [bz c_44] at q; exact absurd q.1 (by decide))
        have e9 : ([1, 1, (eId E + 1) % 2 ^ 8] ++ [1, (eSz E) / 256, (eSz E) % 256]) = reqP (nextI E) := by unfold reqP; rw [show optS (nextI E) = _ from hsY, show optN (nextI E) = _ from hnN]; simp [nextI]
        have hq9 := hp_37
        rw [e9] at hw hq9
        exact RQ.vret hF hr hlk hw dX0_composeRequest_73 ⟨by decide, by decide⟩ ((f2_37)) (rfl) ⟨rfl, hq9⟩
      · refine lv_aload_n hx hb dX0_composeRequest_47 rfl (lv_at hl 0 rfl) ?_
        refine wget hF hw flX0_88 dX0_composeRequest_48 0 rfl rfl ?_
        refine lv_if_eq (tgt := 73) hx hb dX0_composeRequest_51 (by decide) (fun c_51 => ?_) (fun c_51 => ?_)
        · have hnN : optN E = [] := if_neg (fun q => q.2 c_51)
          have e9 : ([1, 1, (eId E + 1) % 2 ^ 8] ++ [1, (eSz E) / 256, (eSz E) % 256]) = reqP (nextI E) := by unfold reqP; rw [show optS (nextI E) = _ from hsY, show optN (nextI E) = _ from hnN]; simp [nextI]
          have hq9 := hp_37
          rw [e9] at hw hq9
          exact RQ.vret hF hr hlk hw dX0_composeRequest_73 ⟨by decide, by decide⟩ ((f2_37)) (rfl) ⟨rfl, hq9⟩
        · have hnY : optN E = 5 :: nbs (eNu E) := if_pos ⟨bnz c_44, c_51⟩
          refine lv_aload_n hx hb dX0_composeRequest_54 rfl (lv_at hl 0 rfl) ?_
          refine wget hF hw flX0_33 dX0_composeRequest_55 0 rfl rfl ?_
          refine lv_iconst (v := nI 5) hx hb dX0_composeRequest_58 (by decide) ?_
          refine Ct.callV (wr := [(ed 0, .inr (0, [.ref (ed 1), .ref (ed 3), .ref (ed 4), .ref (ed 6), .ref (ed 8), .ref (ed 10), .ref (ed 12), .ref (ed 14), .int (nI (eSz E)), .int (nI (eLe E)), .int (eNu E), .int (nI (eAS E).toNat), .int (nI (eAN E).toNat), .int (nI (eSt E)), .int (nI ((eId E + 1) % 2 ^ 8)), .int (eTr E), .int (nI (eTi E))]))]) hF hw (c_X3_add l g (ed 8) (ed 9) 13 f2_37 ([1, 1, (eId E + 1) % 2 ^ 8] ++ [1, (eSz E) / 256, (eSz E) % 256]) (nI 5) 5 (by decide) (by (try simp only [List.length_append, List.length_cons, List.length_nil]); omega) (hp_37) (by decide)) mwX0_73 [1, 2] [0] rfl rfl rfl rfl (by decide) 0 rfl rfl ⟨by decide, by decide⟩ ⟨by decide, by decide⟩ rfl hl.1 (Nat.le_of_ble_eq_true rfl) rfl dX0_composeRequest_59 (fun v u H locs hp hw => ?_)
          obtain ⟨f2_59, rfl⟩ : ∃ z, z = u := ⟨_, rfl⟩
          obtain ⟨rfl, hp_59⟩ := hp
          try dsimp only at hp_59
          have hw := Wd.sub (ws' := [(ed 0, .inr (0, [.ref (ed 1), .ref (ed 3), .ref (ed 4), .ref (ed 6), .ref (ed 8), .ref (ed 10), .ref (ed 12), .ref (ed 14), .int (nI (eSz E)), .int (nI (eLe E)), .int (eNu E), .int (nI (eAS E).toNat), .int (nI (eAN E).toNat), .int (nI (eSt E)), .int (nI ((eId E + 1) % 2 ^ 8)), .int (eTr E), .int (nI (eTi E))])), (ed 8, .inr (2, [.ref (ed 9), .int (nI (([1, 1, (eId E + 1) % 2 ^ 8] ++ [1, (eSz E) / 256, (eSz E) % 256]) ++ [5]).length)])), (ed 9, .inl (g.2.1 0, 13, .inl f2_59))]) hw [0, 1, 2] rfl rfl
          refine W.eq (g2 := F0 m 62 ls []) rfl ?_
          refine lv_aload_n hx hb dX0_composeRequest_62 rfl (lv_at hl 0 rfl) ?_
          refine wget hF hw flX0_33 dX0_composeRequest_63 0 rfl rfl ?_
          refine lv_aload_n hx hb dX0_composeRequest_66 rfl (lv_at hl 0 rfl) ?_
          refine wget hF hw flX0_88 dX0_composeRequest_67 0 rfl rfl ?_
          refine Ct.callV (wr := [(ed 0, .inr (0, [.ref (ed 1), .ref (ed 3), .ref (ed 4), .ref (ed 6), .ref (ed 8), .ref (ed 10), .ref (ed 12), .ref (ed 14), .int (nI (eSz E)), .int (nI (eLe E)), .int (eNu E), .int (nI (eAS E).toNat), .int (nI (eAN E).toNat), .int (nI (eSt E)), .int (nI ((eId E + 1) % 2 ^ 8)), .int (eTr E), .int (nI (eTi E))]))]) hF hw (c_X3_addNumber l g (ed 8) (ed 9) 13 f2_59 (([1, 1, (eId E + 1) % 2 ^ 8] ++ [1, (eSz E) / 256, (eSz E) % 256]) ++ [5]) (eNu E) (by decide) (by (try simp only [List.length_append, List.length_cons, List.length_nil]); omega) (hp_59)) mwX0_91 [1, 2] [0] rfl rfl rfl rfl (by decide) 0 rfl rfl ⟨by decide, by decide⟩ ⟨by decide, by decide⟩ rfl hl.1 (Nat.le_of_ble_eq_true rfl) rfl dX0_composeRequest_70 (fun v u H locs hp hw => ?_)
          obtain ⟨f2_70, rfl⟩ : ∃ z, z = u := ⟨_, rfl⟩
          obtain ⟨rfl, hp_70⟩ := hp
          try dsimp only at hp_70
          have hw := Wd.sub (ws' := [(ed 0, .inr (0, [.ref (ed 1), .ref (ed 3), .ref (ed 4), .ref (ed 6), .ref (ed 8), .ref (ed 10), .ref (ed 12), .ref (ed 14), .int (nI (eSz E)), .int (nI (eLe E)), .int (eNu E), .int (nI (eAS E).toNat), .int (nI (eAN E).toNat), .int (nI (eSt E)), .int (nI ((eId E + 1) % 2 ^ 8)), .int (eTr E), .int (nI (eTi E))])), (ed 8, .inr (2, [.ref (ed 9), .int (nI ((([1, 1, (eId E + 1) % 2 ^ 8] ++ [1, (eSz E) / 256, (eSz E) % 256]) ++ [5]) ++ nbs (eNu E)).length)])), (ed 9, .inl (g.2.1 0, 13, .inl f2_70))]) hw [0, 1, 2] rfl rfl
          refine W.eq (g2 := F0 m 73 ls []) rfl ?_
          have e9 : ((([1, 1, (eId E + 1) % 2 ^ 8] ++ [1, (eSz E) / 256, (eSz E) % 256]) ++ [5]) ++ nbs (eNu E)) = reqP (nextI E) := by unfold reqP; rw [show optS (nextI E) = _ from hsY, show optN (nextI E) = _ from hnY]; simp [nextI]
          have hq9 := hp_70
          rw [e9] at hw hq9
          exact RQ.vret hF hr hlk hw dX0_composeRequest_73 ⟨by decide, by decide⟩ ((f2_70)) (rfl) ⟨rfl, hq9⟩
