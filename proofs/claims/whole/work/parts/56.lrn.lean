set_option maxHeartbeats 4000000 in
set_option maxRecDepth 100000 in
theorem c_X0_learnOption (l : Launch) (g : GE) (ed : Nat → Nat) (E : AE) (fG : Nat → Int32) (fC : Nat → Int32) (G : List Nat) (c9 : Nat) (k : Nat) (hc9 : c9 < 256) (hC : CC fC (eCf E)) (hfG : Hd fG G) (hG40 : G.length ≤ 40) (hGB : Bt G) (hk2 : k + optLen (G.getD k 0) ≤ G.length - 2) : Ct l yX0_learnOption cX0_learnOption 4 none { frames := 2, cells := 0, slots := 0, locals := 43 } g [.ref (ed 0), .int (nI c9), .int (nI k)] [(ed 0, .inr (0, [.ref (ed 1), .ref (ed 3), .ref (ed 4), .ref (ed 6), .ref (ed 8), .ref (ed 10), .ref (ed 12), .ref (ed 14), .int (nI (eSz E)), .int (nI (eLe E)), .int (eNu E), .int (nI (eAS E).toNat), .int (nI (eAN E).toNat), .int (nI (eSt E)), .int (nI (eId E)), .int (eTr E), .int (nI (eTi E))])), (ed 4, .inr (2, [.ref (ed 5), .int (nI G.length)])), (ed 5, .inl (g.2.1 0, 40, .inl fG)), (ed 14, .inl (g.2.1 0, 6, .inl fC))] (fun (v : Option Value) (u : (Nat → Int32)) => v = none ∧ CC u (eCf (lrnO c9 G E k))) (fun u : (Nat → Int32) => [(ed 0, .inr (0, [.ref (ed 1), .ref (ed 3), .ref (ed 4), .ref (ed 6), .ref (ed 8), .ref (ed 10), .ref (ed 12), .ref (ed 14), .int (nI (eSz (lrnO c9 G E k))), .int (nI (eLe (lrnO c9 G E k))), .int (eNu (lrnO c9 G E k)), .int (nI (eAS (lrnO c9 G E k)).toNat), .int (nI (eAN (lrnO c9 G E k)).toNat), .int (nI (eSt (lrnO c9 G E k))), .int (nI (eId (lrnO c9 G E k))), .int (eTr (lrnO c9 G E k)), .int (nI (eTi (lrnO c9 G E k)))])), (ed 4, .inr (2, [.ref (ed 5), .int (nI G.length)])), (ed 5, .inl (g.2.1 0, 40, .inl fG)), (ed 14, .inl (g.2.1 0, 6, .inl u))]) := by
  refine Ct.of (own := RX0) rfl rfl (Nat.le_of_ble_eq_true rfl) ?_
  intro P0 e0 s m below meth c ls hF hr hlk hnm hw hl
  have hx := hF.1
  have hb := hF.2.1
  have hl : lv_has ls 4 [(0, .ref (ed 0)), (1, .int (nI c9)), (2, .int (nI k))] := hl
  have hob := optLen_b (G.getD k 0)
  have hb0 := hGB.get k
  have hb1 := hGB.get (k + 1)
  have hb2 := hGB.get (k + 1 + 1)
  refine lv_aload_n hx hb dX0_learnOption_0 rfl (lv_at hl 0 rfl) ?_
  refine wget hF hw flX0_22 dX0_learnOption_1 0 rfl rfl ?_
  refine lv_iload_n hx hb dX0_learnOption_4 rfl (lv_at hl 2 rfl) ?_
  refine Ct.callV (wr := [(ed 0, .inr (0, [.ref (ed 1), .ref (ed 3), .ref (ed 4), .ref (ed 6), .ref (ed 8), .ref (ed 10), .ref (ed 12), .ref (ed 14), .int (nI (eSz E)), .int (nI (eLe E)), .int (eNu E), .int (nI (eAS E).toNat), .int (nI (eAN E).toNat), .int (nI (eSt E)), .int (nI (eId E)), .int (eTr E), .int (nI (eTi E))])), (ed 14, .inl (g.2.1 0, 6, .inl fC))]) hF hw (c_X3_at l g (ed 4) (ed 5) 40 fG G k (by decide) (hG40) (by omega) (hfG)) mwX0_171 [1, 2] [0, 3] rfl rfl rfl rfl (by decide) 0 rfl rfl ⟨by decide, by decide⟩ ⟨by decide, by decide⟩ rfl hl.1 (Nat.le_of_ble_eq_true rfl) rfl dX0_learnOption_5 (fun v u H locs hp hw => ?_)
  obtain ⟨rfl, hp_5⟩ := hp
  have hw := Wd.sub (ws' := [(ed 0, .inr (0, [.ref (ed 1), .ref (ed 3), .ref (ed 4), .ref (ed 6), .ref (ed 8), .ref (ed 10), .ref (ed 12), .ref (ed 14), .int (nI (eSz E)), .int (nI (eLe E)), .int (eNu E), .int (nI (eAS E).toNat), .int (nI (eAN E).toNat), .int (nI (eSt E)), .int (nI (eId E)), .int (eTr E), .int (nI (eTi E))])), (ed 4, .inr (2, [.ref (ed 5), .int (nI G.length)])), (ed 5, .inl (g.2.1 0, 40, .inl fG)), (ed 14, .inl (g.2.1 0, 6, .inl fC))]) hw [0, 2, 3, 1] rfl rfl
  refine W.eq (g2 := F0 m 8 ls [.int (nI (G.getD k 0))]) rfl ?_
  refine lv_istore_n (lv' := [(3, .int (nI (G.getD k 0))), (0, .ref (ed 0)), (1, .int (nI c9)), (2, .int (nI k))]) hx hb dX0_learnOption_8 rfl hl (by decide) rfl (fun ls hl => ?_)
  refine lv_iload_n hx hb dX0_learnOption_9 rfl (lv_at hl 0 rfl) ?_
  refine lv_iconst (v := nI 1) hx hb dX0_learnOption_10 (by decide) ?_
  refine r_ne (tgt := 32) hx hb dX0_learnOption_11 (by decide) (by omega) (by omega) (fun c_11 => ?_) (fun c_11 => ?_)
  · refine lv_iload_n hx hb dX0_learnOption_32 rfl (lv_at hl 0 rfl) ?_
    refine lv_iconst (v := nI 5) hx hb dX0_learnOption_33 (by decide) ?_
    refine r_ne (tgt := 52) hx hb dX0_learnOption_34 (by decide) (by omega) (by omega) (fun c_34 => ?_) (fun c_34 => ?_)
    · have hlo : lrnO c9 G E k = E := lr_n c_11 c_34
      exact RQ.vret hF hr hlk hw dX0_learnOption_52 ⟨by decide, by decide⟩ ((fC)) (by rw [hlo]) ⟨rfl, by rw [hlo]; exact hC⟩
    · have ho5 := optLen_5 c_34
      refine lv_aload_n hx hb dX0_learnOption_37 rfl (lv_at hl 1 rfl) ?_
      refine lv_iload_n hx hb dX0_learnOption_38 rfl (lv_at hl 2 rfl) ?_
      refine lv_aload_n hx hb dX0_learnOption_39 rfl (lv_at hl 1 rfl) ?_
      refine wget hF hw flX0_22 dX0_learnOption_40 0 rfl rfl ?_
      refine lv_iload_n hx hb dX0_learnOption_43 rfl (lv_at hl 3 rfl) ?_
      refine lv_iconst (v := nI 1) hx hb dX0_learnOption_44 (by decide) ?_
      refine r_iadd hx hb dX0_learnOption_45 ?_
      refine Ct.callV (wr := [(ed 0, .inr (0, [.ref (ed 1), .ref (ed 3), .ref (ed 4), .ref (ed 6), .ref (ed 8), .ref (ed 10), .ref (ed 12), .ref (ed 14), .int (nI (eSz E)), .int (nI (eLe E)), .int (eNu E), .int (nI (eAS E).toNat), .int (nI (eAN E).toNat), .int (nI (eSt E)), .int (nI (eId E)), .int (eTr E), .int (nI (eTi E))])), (ed 14, .inl (g.2.1 0, 6, .inl fC))]) hF hw (c_X3_numberAt l g (ed 4) (ed 5) 40 fG G (k + 1) (by decide) (hG40) (by omega) (hfG)) mwX0_158 [1, 2] [0, 3] rfl rfl rfl rfl (by decide) 0 rfl rfl ⟨by decide, by decide⟩ ⟨by decide, by decide⟩ rfl hl.1 (Nat.le_of_ble_eq_true rfl) rfl dX0_learnOption_46 (fun v u H locs hp hw => ?_)
      obtain ⟨rfl, hp_46⟩ := hp
      have hw := Wd.sub (ws' := [(ed 0, .inr (0, [.ref (ed 1), .ref (ed 3), .ref (ed 4), .ref (ed 6), .ref (ed 8), .ref (ed 10), .ref (ed 12), .ref (ed 14), .int (nI (eSz E)), .int (nI (eLe E)), .int (eNu E), .int (nI (eAS E).toNat), .int (nI (eAN E).toNat), .int (nI (eSt E)), .int (nI (eId E)), .int (eTr E), .int (nI (eTi E))])), (ed 4, .inr (2, [.ref (ed 5), .int (nI G.length)])), (ed 5, .inl (g.2.1 0, 40, .inl fG)), (ed 14, .inl (g.2.1 0, 6, .inl fC))]) hw [0, 2, 3, 1] rfl rfl
      refine W.eq (g2 := F0 m 49 ls [.int (n4 G (k + 1)), .int (nI c9), .ref (ed 0)]) rfl ?_
      refine Ct.callV (wr := [(ed 4, .inr (2, [.ref (ed 5), .int (nI G.length)])), (ed 5, .inl (g.2.1 0, 40, .inl fG))]) hF hw (c_X0_learnNumber l g ed E fC c9 (n4 G (k + 1)) (by assumption) (by assumption)) mwX0_183 [0, 3] [1, 2] rfl rfl rfl rfl (by decide) 0 rfl rfl ⟨by decide, by decide⟩ ⟨by decide, by decide⟩ rfl hl.1 (Nat.le_of_ble_eq_true rfl) rfl dX0_learnOption_49 (fun v u H locs hp hw => ?_)
      obtain ⟨fC2_49, rfl⟩ : ∃ z, z = u := ⟨_, rfl⟩
      obtain ⟨rfl, hp_49⟩ := hp
      try dsimp only at hp_49
      have hw := Wd.sub (ws' := [(ed 0, .inr (0, [.ref (ed 1), .ref (ed 3), .ref (ed 4), .ref (ed 6), .ref (ed 8), .ref (ed 10), .ref (ed 12), .ref (ed 14), .int (nI (eSz (lnuE E c9 (n4 G (k + 1))))), .int (nI (eLe (lnuE E c9 (n4 G (k + 1))))), .int (eNu (lnuE E c9 (n4 G (k + 1)))), .int (nI (eAS (lnuE E c9 (n4 G (k + 1)))).toNat), .int (nI (eAN (lnuE E c9 (n4 G (k + 1)))).toNat), .int (nI (eSt (lnuE E c9 (n4 G (k + 1))))), .int (nI (eId (lnuE E c9 (n4 G (k + 1))))), .int (eTr (lnuE E c9 (n4 G (k + 1)))), .int (nI (eTi (lnuE E c9 (n4 G (k + 1)))))])), (ed 4, .inr (2, [.ref (ed 5), .int (nI G.length)])), (ed 5, .inl (g.2.1 0, 40, .inl fG)), (ed 14, .inl (g.2.1 0, 6, .inl fC2_49))]) hw [2, 0, 1, 3] rfl rfl
      refine W.eq (g2 := F0 m 52 ls []) rfl ?_
      have hlo : lrnO c9 G E k = _ := lr_5 c_34
      exact RQ.vret hF hr hlk hw dX0_learnOption_52 ⟨by decide, by decide⟩ ((fC2_49)) (by rw [hlo]) ⟨rfl, by rw [hlo]; exact hp_49⟩
  · have ho1 := optLen_1 c_11
    refine lv_aload_n hx hb dX0_learnOption_14 rfl (lv_at hl 1 rfl) ?_
    refine lv_iload_n hx hb dX0_learnOption_15 rfl (lv_at hl 2 rfl) ?_
    refine lv_aload_n hx hb dX0_learnOption_16 rfl (lv_at hl 1 rfl) ?_
    refine wget hF hw flX0_22 dX0_learnOption_17 0 rfl rfl ?_
    refine lv_iload_n hx hb dX0_learnOption_20 rfl (lv_at hl 3 rfl) ?_
    refine lv_iconst (v := nI 1) hx hb dX0_learnOption_21 (by decide) ?_
    refine r_iadd hx hb dX0_learnOption_22 ?_
    refine Ct.callV (wr := [(ed 0, .inr (0, [.ref (ed 1), .ref (ed 3), .ref (ed 4), .ref (ed 6), .ref (ed 8), .ref (ed 10), .ref (ed 12), .ref (ed 14), .int (nI (eSz E)), .int (nI (eLe E)), .int (eNu E), .int (nI (eAS E).toNat), .int (nI (eAN E).toNat), .int (nI (eSt E)), .int (nI (eId E)), .int (eTr E), .int (nI (eTi E))])), (ed 14, .inl (g.2.1 0, 6, .inl fC))]) hF hw (c_X3_pairAt l g (ed 4) (ed 5) 40 fG G (k + 1) (by decide) (hG40) (by omega) (hfG)) mwX0_177 [1, 2] [0, 3] rfl rfl rfl rfl (by decide) 0 rfl rfl ⟨by decide, by decide⟩ ⟨by decide, by decide⟩ rfl hl.1 (Nat.le_of_ble_eq_true rfl) rfl dX0_learnOption_23 (fun v u H locs hp hw => ?_)
    obtain ⟨rfl, hp_23⟩ := hp
    have hw := Wd.sub (ws' := [(ed 0, .inr (0, [.ref (ed 1), .ref (ed 3), .ref (ed 4), .ref (ed 6), .ref (ed 8), .ref (ed 10), .ref (ed 12), .ref (ed 14), .int (nI (eSz E)), .int (nI (eLe E)), .int (eNu E), .int (nI (eAS E).toNat), .int (nI (eAN E).toNat), .int (nI (eSt E)), .int (nI (eId E)), .int (eTr E), .int (nI (eTi E))])), (ed 4, .inr (2, [.ref (ed 5), .int (nI G.length)])), (ed 5, .inl (g.2.1 0, 40, .inl fG)), (ed 14, .inl (g.2.1 0, 6, .inl fC))]) hw [0, 2, 3, 1] rfl rfl
    refine W.eq (g2 := F0 m 26 ls [.int (nI (G.getD (k + 1) 0 * 256 + G.getD ((k + 1) + 1) 0)), .int (nI c9), .ref (ed 0)]) rfl ?_
    refine Ct.callV (wr := [(ed 4, .inr (2, [.ref (ed 5), .int (nI G.length)])), (ed 5, .inl (g.2.1 0, 40, .inl fG)), (ed 14, .inl (g.2.1 0, 6, .inl fC))]) hF hw (c_X0_learnSize l g ed E c9 (G.getD (k + 1) 0 * 256 + G.getD ((k + 1) + 1) 0) (by assumption) (by omega)) mwX0_180 [0] [1, 2, 3] rfl rfl rfl rfl (by decide) 0 rfl rfl ⟨by decide, by decide⟩ ⟨by decide, by decide⟩ rfl hl.1 (Nat.le_of_ble_eq_true rfl) rfl dX0_learnOption_26 (fun v u H locs hp hw => ?_)
    obtain ⟨rfl, hp_26⟩ := hp
    have hw := Wd.sub (ws' := [(ed 0, .inr (0, [.ref (ed 1), .ref (ed 3), .ref (ed 4), .ref (ed 6), .ref (ed 8), .ref (ed 10), .ref (ed 12), .ref (ed 14), .int (nI (eSz (lszE E c9 (G.getD (k + 1) 0 * 256 + G.getD ((k + 1) + 1) 0)))), .int (nI (eLe (lszE E c9 (G.getD (k + 1) 0 * 256 + G.getD ((k + 1) + 1) 0)))), .int (eNu (lszE E c9 (G.getD (k + 1) 0 * 256 + G.getD ((k + 1) + 1) 0))), .int (nI (eAS (lszE E c9 (G.getD (k + 1) 0 * 256 + G.getD ((k + 1) + 1) 0))).toNat), .int (nI (eAN (lszE E c9 (G.getD (k + 1) 0 * 256 + G.getD ((k + 1) + 1) 0))).toNat), .int (nI (eSt (lszE E c9 (G.getD (k + 1) 0 * 256 + G.getD ((k + 1) + 1) 0)))), .int (nI (eId (lszE E c9 (G.getD (k + 1) 0 * 256 + G.getD ((k + 1) + 1) 0)))), .int (eTr (lszE E c9 (G.getD (k + 1) 0 * 256 + G.getD ((k + 1) + 1) 0))), .int (nI (eTi (lszE E c9 (G.getD (k + 1) 0 * 256 + G.getD ((k + 1) + 1) 0))))])), (ed 4, .inr (2, [.ref (ed 5), .int (nI G.length)])), (ed 5, .inl (g.2.1 0, 40, .inl fG)), (ed 14, .inl (g.2.1 0, 6, .inl fC))]) hw [3, 0, 1, 2] rfl rfl
    refine W.eq (g2 := F0 m 29 ls []) rfl ?_
    refine lv_goto (tgt := 52) hx hb dX0_learnOption_29 (by decide) ?_
    have hlo : lrnO c9 G E k = _ := lr_1 c_11
    exact RQ.vret hF hr hlk hw dX0_learnOption_52 ⟨by decide, by decide⟩ ((fC)) (by rw [hlo] <;> rfl) ⟨rfl, by rw [hlo]; exact lsz_cc hC⟩
