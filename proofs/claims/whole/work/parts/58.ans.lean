set_option maxHeartbeats 4000000 in
set_option maxRecDepth 100000 in
theorem c_X0_optionAnswer (l : Launch) (g : GE) (ed : Nat → Nat) (E : AE) (fG : Nat → Int32) (G : List Nat) (k : Nat) (hl2 : eLe E < 65536) (hfG : Hd fG G) (hG40 : G.length ≤ 40) (hGB : Bt G) (hk2 : k + optLen (G.getD k 0) ≤ G.length - 2) : Ct l yX0_optionAnswer cX0_optionAnswer 4 (some .int) { frames := 1, cells := 0, slots := 0, locals := 21 } g [.ref (ed 0), .int (nI k)] [(ed 0, .inr (0, [.ref (ed 1), .ref (ed 3), .ref (ed 4), .ref (ed 6), .ref (ed 8), .ref (ed 10), .ref (ed 12), .ref (ed 14), .int (nI (eSz E)), .int (nI (eLe E)), .int (eNu E), .int (nI (eAS E).toNat), .int (nI (eAN E).toNat), .int (nI (eSt E)), .int (nI (eId E)), .int (eTr E), .int (nI (eTi E))])), (ed 4, .inr (2, [.ref (ed 5), .int (nI G.length)])), (ed 5, .inl (g.2.1 0, 40, .inl fG))] (fun (v : Option Value) (u : Unit) => v = some (.int (nI (oaN G (eLe E) (eNu E) k))) ∧ True) (fun u : Unit => [(ed 0, .inr (0, [.ref (ed 1), .ref (ed 3), .ref (ed 4), .ref (ed 6), .ref (ed 8), .ref (ed 10), .ref (ed 12), .ref (ed 14), .int (nI (eSz E)), .int (nI (eLe E)), .int (eNu E), .int (nI (eAS E).toNat), .int (nI (eAN E).toNat), .int (nI (eSt E)), .int (nI (eId E)), .int (eTr E), .int (nI (eTi E))])), (ed 4, .inr (2, [.ref (ed 5), .int (nI G.length)])), (ed 5, .inl (g.2.1 0, 40, .inl fG))]) := by
  refine Ct.of (own := RX0) rfl rfl (Nat.le_of_ble_eq_true rfl) ?_
  intro P0 e0 s m below meth c ls hF hr hlk hnm hw hl
  have hx := hF.1
  have hb := hF.2.1
  have hl : lv_has ls 4 [(0, .ref (ed 0)), (1, .int (nI k))] := hl
  have hob := optLen_b (G.getD k 0)
  have hb0 := hGB.get k
  have hb1 := hGB.get (k + 1)
  have hb2 := hGB.get (k + 1 + 1)
  refine lv_aload_n hx hb dX0_optionAnswer_0 rfl (lv_at hl 0 rfl) ?_
  refine wget hF hw flX0_22 dX0_optionAnswer_1 0 rfl rfl ?_
  refine lv_iload_n hx hb dX0_optionAnswer_4 rfl (lv_at hl 1 rfl) ?_
  refine Ct.callV (wr := [(ed 0, .inr (0, [.ref (ed 1), .ref (ed 3), .ref (ed 4), .ref (ed 6), .ref (ed 8), .ref (ed 10), .ref (ed 12), .ref (ed 14), .int (nI (eSz E)), .int (nI (eLe E)), .int (eNu E), .int (nI (eAS E).toNat), .int (nI (eAN E).toNat), .int (nI (eSt E)), .int (nI (eId E)), .int (eTr E), .int (nI (eTi E))]))]) hF hw (c_X3_at l g (ed 4) (ed 5) 40 fG G k (by decide) (hG40) (by omega) (hfG)) mwX0_171 [1, 2] [0] rfl rfl rfl rfl (by decide) 0 rfl rfl ⟨by decide, by decide⟩ ⟨by decide, by decide⟩ rfl hl.1 (Nat.le_of_ble_eq_true rfl) rfl dX0_optionAnswer_5 (fun v u H locs hp hw => ?_)
  obtain ⟨rfl, hp_5⟩ := hp
  have hw := Wd.sub (ws' := [(ed 0, .inr (0, [.ref (ed 1), .ref (ed 3), .ref (ed 4), .ref (ed 6), .ref (ed 8), .ref (ed 10), .ref (ed 12), .ref (ed 14), .int (nI (eSz E)), .int (nI (eLe E)), .int (eNu E), .int (nI (eAS E).toNat), .int (nI (eAN E).toNat), .int (nI (eSt E)), .int (nI (eId E)), .int (eTr E), .int (nI (eTi E))])), (ed 4, .inr (2, [.ref (ed 5), .int (nI G.length)])), (ed 5, .inl (g.2.1 0, 40, .inl fG))]) hw [0, 1, 2] rfl rfl
  refine W.eq (g2 := F0 m 8 ls [.int (nI (G.getD k 0))]) rfl ?_
  refine lv_istore_n (lv' := [(2, .int (nI (G.getD k 0))), (0, .ref (ed 0)), (1, .int (nI k))]) hx hb dX0_optionAnswer_8 rfl hl (by decide) rfl (fun ls hl => ?_)
  refine lv_iload_n hx hb dX0_optionAnswer_9 rfl (lv_at hl 0 rfl) ?_
  refine lv_iconst (v := nI 1) hx hb dX0_optionAnswer_10 (by decide) ?_
  refine r_ne (tgt := 37) hx hb dX0_optionAnswer_11 (by decide) (by omega) (by omega) (fun c_11 => ?_) (fun c_11 => ?_)
  · refine lv_iload_n hx hb dX0_optionAnswer_37 rfl (lv_at hl 0 rfl) ?_
    refine lv_iconst (v := nI 5) hx hb dX0_optionAnswer_38 (by decide) ?_
    refine r_ne (tgt := 71) hx hb dX0_optionAnswer_39 (by decide) (by omega) (by omega) (fun c_39 => ?_) (fun c_39 => ?_)
    · refine lv_iconst (v := nI 4) hx hb dX0_optionAnswer_71 (by decide) ?_
      exact RQ.iret hF hr hlk hw dX0_optionAnswer_72 ⟨by decide, by decide⟩ (()) (rfl) ⟨by rw [oa_of (j_x c_11 c_39)]; rfl, trivial⟩
    · have ho5 := optLen_5 c_39
      refine lv_aload_n hx hb dX0_optionAnswer_42 rfl (lv_at hl 1 rfl) ?_
      refine wget hF hw flX0_22 dX0_optionAnswer_43 0 rfl rfl ?_
      refine lv_iload_n hx hb dX0_optionAnswer_46 rfl (lv_at hl 2 rfl) ?_
      refine lv_iconst (v := nI 1) hx hb dX0_optionAnswer_47 (by decide) ?_
      refine r_iadd hx hb dX0_optionAnswer_48 ?_
      refine Ct.callV (wr := [(ed 0, .inr (0, [.ref (ed 1), .ref (ed 3), .ref (ed 4), .ref (ed 6), .ref (ed 8), .ref (ed 10), .ref (ed 12), .ref (ed 14), .int (nI (eSz E)), .int (nI (eLe E)), .int (eNu E), .int (nI (eAS E).toNat), .int (nI (eAN E).toNat), .int (nI (eSt E)), .int (nI (eId E)), .int (eTr E), .int (nI (eTi E))]))]) hF hw (c_X3_numberAt l g (ed 4) (ed 5) 40 fG G (k + 1) (by decide) (hG40) (by omega) (hfG)) mwX0_158 [1, 2] [0] rfl rfl rfl rfl (by decide) 0 rfl rfl ⟨by decide, by decide⟩ ⟨by decide, by decide⟩ rfl hl.1 (Nat.le_of_ble_eq_true rfl) rfl dX0_optionAnswer_49 (fun v u H locs hp hw => ?_)
      obtain ⟨rfl, hp_49⟩ := hp
      have hw := Wd.sub (ws' := [(ed 0, .inr (0, [.ref (ed 1), .ref (ed 3), .ref (ed 4), .ref (ed 6), .ref (ed 8), .ref (ed 10), .ref (ed 12), .ref (ed 14), .int (nI (eSz E)), .int (nI (eLe E)), .int (eNu E), .int (nI (eAS E).toNat), .int (nI (eAN E).toNat), .int (nI (eSt E)), .int (nI (eId E)), .int (eTr E), .int (nI (eTi E))])), (ed 4, .inr (2, [.ref (ed 5), .int (nI G.length)])), (ed 5, .inl (g.2.1 0, 40, .inl fG))]) hw [0, 1, 2] rfl rfl
      refine W.eq (g2 := F0 m 52 ls [.int (n4 G (k + 1))]) rfl ?_
      refine lv_istore_n (lv' := [(3, .int (n4 G (k + 1))), (2, .int (nI (G.getD k 0))), (0, .ref (ed 0)), (1, .int (nI k))]) hx hb dX0_optionAnswer_52 rfl hl (by decide) rfl (fun ls hl => ?_)
      refine lv_iload_n hx hb dX0_optionAnswer_53 rfl (lv_at hl 0 rfl) ?_
      refine lv_if_eq (tgt := 69) hx hb dX0_optionAnswer_54 (by decide) (fun c_54 => ?_) (fun c_54 => ?_)
      · refine lv_iconst (v := nI 3) hx hb dX0_optionAnswer_69 (by decide) ?_
        exact RQ.iret hF hr hlk hw dX0_optionAnswer_70 ⟨by decide, by decide⟩ (()) (rfl) ⟨by first | (rw [oa_of (j_5n c_39 (fun q => q.elim c_54 c_62))]; rfl) | (rw [oa_of (j_5y c_39 (Or.inr c_62))]; rfl) | (rw [oa_of (j_5y c_39 (Or.inl c_54))]; rfl), trivial⟩
      · refine lv_iload_n hx hb dX0_optionAnswer_57 rfl (lv_at hl 0 rfl) ?_
        refine lv_aload_n hx hb dX0_optionAnswer_58 rfl (lv_at hl 2 rfl) ?_
        refine wget hF hw flX0_88 dX0_optionAnswer_59 0 rfl rfl ?_
        refine lv_icmp_eq (tgt := 69) hx hb dX0_optionAnswer_62 (by decide) (fun c_62 => ?_) (fun c_62 => ?_)
        · refine lv_iconst (v := nI 3) hx hb dX0_optionAnswer_69 (by decide) ?_
          exact RQ.iret hF hr hlk hw dX0_optionAnswer_70 ⟨by decide, by decide⟩ (()) (rfl) ⟨by first | (rw [oa_of (j_5n c_39 (fun q => q.elim c_54 c_62))]; rfl) | (rw [oa_of (j_5y c_39 (Or.inr c_62))]; rfl) | (rw [oa_of (j_5y c_39 (Or.inl c_54))]; rfl), trivial⟩
        · refine lv_iconst (v := nI 2) hx hb dX0_optionAnswer_65 (by decide) ?_
          refine lv_goto (tgt := 70) hx hb dX0_optionAnswer_66 (by decide) ?_
          exact RQ.iret hF hr hlk hw dX0_optionAnswer_70 ⟨by decide, by decide⟩ (()) (rfl) ⟨by first | (rw [oa_of (j_5n c_39 (fun q => q.elim c_54 c_62))]; rfl) | (rw [oa_of (j_5y c_39 (Or.inr c_62))]; rfl) | (rw [oa_of (j_5y c_39 (Or.inl c_54))]; rfl), trivial⟩
  · have ho1 := optLen_1 c_11
    refine lv_aload_n hx hb dX0_optionAnswer_14 rfl (lv_at hl 1 rfl) ?_
    refine wget hF hw flX0_22 dX0_optionAnswer_15 0 rfl rfl ?_
    refine lv_iload_n hx hb dX0_optionAnswer_18 rfl (lv_at hl 2 rfl) ?_
    refine lv_iconst (v := nI 1) hx hb dX0_optionAnswer_19 (by decide) ?_
    refine r_iadd hx hb dX0_optionAnswer_20 ?_
    refine Ct.callV (wr := [(ed 0, .inr (0, [.ref (ed 1), .ref (ed 3), .ref (ed 4), .ref (ed 6), .ref (ed 8), .ref (ed 10), .ref (ed 12), .ref (ed 14), .int (nI (eSz E)), .int (nI (eLe E)), .int (eNu E), .int (nI (eAS E).toNat), .int (nI (eAN E).toNat), .int (nI (eSt E)), .int (nI (eId E)), .int (eTr E), .int (nI (eTi E))]))]) hF hw (c_X3_pairAt l g (ed 4) (ed 5) 40 fG G (k + 1) (by decide) (hG40) (by omega) (hfG)) mwX0_177 [1, 2] [0] rfl rfl rfl rfl (by decide) 0 rfl rfl ⟨by decide, by decide⟩ ⟨by decide, by decide⟩ rfl hl.1 (Nat.le_of_ble_eq_true rfl) rfl dX0_optionAnswer_21 (fun v u H locs hp hw => ?_)
    obtain ⟨rfl, hp_21⟩ := hp
    have hw := Wd.sub (ws' := [(ed 0, .inr (0, [.ref (ed 1), .ref (ed 3), .ref (ed 4), .ref (ed 6), .ref (ed 8), .ref (ed 10), .ref (ed 12), .ref (ed 14), .int (nI (eSz E)), .int (nI (eLe E)), .int (eNu E), .int (nI (eAS E).toNat), .int (nI (eAN E).toNat), .int (nI (eSt E)), .int (nI (eId E)), .int (eTr E), .int (nI (eTi E))])), (ed 4, .inr (2, [.ref (ed 5), .int (nI G.length)])), (ed 5, .inl (g.2.1 0, 40, .inl fG))]) hw [0, 1, 2] rfl rfl
    refine W.eq (g2 := F0 m 24 ls [.int (nI (G.getD (k + 1) 0 * 256 + G.getD ((k + 1) + 1) 0))]) rfl ?_
    refine lv_aload_n hx hb dX0_optionAnswer_24 rfl (lv_at hl 1 rfl) ?_
    refine wget hF hw flX0_50 dX0_optionAnswer_25 0 rfl rfl ?_
    refine r_lt (tgt := 35) hx hb dX0_optionAnswer_28 (by decide) (by omega) (by omega) (fun c_28 => ?_) (fun c_28 => ?_)
    · refine lv_iconst (v := nI 3) hx hb dX0_optionAnswer_35 (by decide) ?_
      exact RQ.iret hF hr hlk hw dX0_optionAnswer_36 ⟨by decide, by decide⟩ (()) (rfl) ⟨by rw [oa_of (j_1y c_11 c_28)]; rfl, trivial⟩
    · refine lv_iconst (v := nI 2) hx hb dX0_optionAnswer_31 (by decide) ?_
      refine lv_goto (tgt := 36) hx hb dX0_optionAnswer_32 (by decide) ?_
      exact RQ.iret hF hr hlk hw dX0_optionAnswer_36 ⟨by decide, by decide⟩ (()) (rfl) ⟨by rw [oa_of (j_1n c_11 (Nat.not_lt.mpr c_28))]; rfl, trivial⟩

set_option maxHeartbeats 4000000 in
set_option maxRecDepth 100000 in
theorem c_X0_refusesNegotiation (l : Launch) (g : GE) (ed : Nat → Nat) (E : AE) (fG : Nat → Int32) (G : List Nat) (hfG : Hd fG G) (hG40 : G.length ≤ 40) (hGB : Bt G) (h4 : 3 < G.length) : Ct l yX0_refusesNegotiation cX0_refusesNegotiation 2 (some .boolean) { frames := 1, cells := 0, slots := 0, locals := 21 } g [.ref (ed 0)] [(ed 0, .inr (0, [.ref (ed 1), .ref (ed 3), .ref (ed 4), .ref (ed 6), .ref (ed 8), .ref (ed 10), .ref (ed 12), .ref (ed 14), .int (nI (eSz E)), .int (nI (eLe E)), .int (eNu E), .int (nI (eAS E).toNat), .int (nI (eAN E).toNat), .int (nI (eSt E)), .int (nI (eId E)), .int (eTr E), .int (nI (eTi E))])), (ed 4, .inr (2, [.ref (ed 5), .int (nI G.length)])), (ed 5, .inl (g.2.1 0, 40, .inl fG))] (fun (v : Option Value) (u : Unit) => v = some (.int (nI (decide (1 ≤ G.getD 3 0 ∧ G.getD 3 0 ≤ 6)).toNat)) ∧ True) (fun u : Unit => [(ed 0, .inr (0, [.ref (ed 1), .ref (ed 3), .ref (ed 4), .ref (ed 6), .ref (ed 8), .ref (ed 10), .ref (ed 12), .ref (ed 14), .int (nI (eSz E)), .int (nI (eLe E)), .int (eNu E), .int (nI (eAS E).toNat), .int (nI (eAN E).toNat), .int (nI (eSt E)), .int (nI (eId E)), .int (eTr E), .int (nI (eTi E))])), (ed 4, .inr (2, [.ref (ed 5), .int (nI G.length)])), (ed 5, .inl (g.2.1 0, 40, .inl fG))]) := by
  refine Ct.of (own := RX0) rfl rfl (Nat.le_of_ble_eq_true rfl) ?_
  intro P0 e0 s m below meth c ls hF hr hlk hnm hw hl
  have hx := hF.1
  have hb := hF.2.1
  have hl : lv_has ls 2 [(0, .ref (ed 0))] := hl
  have hb3 := hGB.get 3
  refine lv_aload_n hx hb dX0_refusesNegotiation_0 rfl (lv_at hl 0 rfl) ?_
  refine wget hF hw flX0_22 dX0_refusesNegotiation_1 0 rfl rfl ?_
  refine lv_iconst (v := nI 3) hx hb dX0_refusesNegotiation_4 (by decide) ?_
  refine Ct.callV (wr := [(ed 0, .inr (0, [.ref (ed 1), .ref (ed 3), .ref (ed 4), .ref (ed 6), .ref (ed 8), .ref (ed 10), .ref (ed 12), .ref (ed 14), .int (nI (eSz E)), .int (nI (eLe E)), .int (eNu E), .int (nI (eAS E).toNat), .int (nI (eAN E).toNat), .int (nI (eSt E)), .int (nI (eId E)), .int (eTr E), .int (nI (eTi E))]))]) hF hw (c_X3_at l g (ed 4) (ed 5) 40 fG G 3 (by decide) (hG40) (by omega) (hfG)) mwX0_171 [1, 2] [0] rfl rfl rfl rfl (by decide) 0 rfl rfl ⟨by decide, by decide⟩ ⟨by decide, by decide⟩ rfl hl.1 (Nat.le_of_ble_eq_true rfl) rfl dX0_refusesNegotiation_5 (fun v u H locs hp hw => ?_)
  obtain ⟨rfl, hp_5⟩ := hp
  have hw := Wd.sub (ws' := [(ed 0, .inr (0, [.ref (ed 1), .ref (ed 3), .ref (ed 4), .ref (ed 6), .ref (ed 8), .ref (ed 10), .ref (ed 12), .ref (ed 14), .int (nI (eSz E)), .int (nI (eLe E)), .int (eNu E), .int (nI (eAS E).toNat), .int (nI (eAN E).toNat), .int (nI (eSt E)), .int (nI (eId E)), .int (eTr E), .int (nI (eTi E))])), (ed 4, .inr (2, [.ref (ed 5), .int (nI G.length)])), (ed 5, .inl (g.2.1 0, 40, .inl fG))]) hw [0, 1, 2] rfl rfl
  refine W.eq (g2 := F0 m 8 ls [.int (nI (G.getD 3 0))]) rfl ?_
  refine lv_istore_n (lv' := [(1, .int (nI (G.getD 3 0))), (0, .ref (ed 0))]) hx hb dX0_refusesNegotiation_8 rfl hl (by decide) rfl (fun ls hl => ?_)
  refine lv_iload_n hx hb dX0_refusesNegotiation_9 rfl (lv_at hl 0 rfl) ?_
  refine lv_iconst (v := nI 1) hx hb dX0_refusesNegotiation_10 (by decide) ?_
  refine r_lt (tgt := 24) hx hb dX0_refusesNegotiation_11 (by decide) (by omega) (by omega) (fun c_11 => ?_) (fun c_11 => ?_)
  · refine lv_iconst (v := nI 0) hx hb dX0_refusesNegotiation_24 (by decide) ?_
    exact RQ.zret hF hr hlk hw dX0_refusesNegotiation_25 (rfl) ⟨by decide, by decide⟩ (()) (rfl) ⟨by first | exact rbt (decide_eq_true (by omega)) | exact rbf (decide_eq_false (by omega)), trivial⟩
  · refine lv_iload_n hx hb dX0_refusesNegotiation_14 rfl (lv_at hl 0 rfl) ?_
    refine lv_bipush (v := nI 6) hx hb dX0_refusesNegotiation_15 (by decide) ?_
    refine r_gt (tgt := 24) hx hb dX0_refusesNegotiation_17 (by decide) (by omega) (by omega) (fun c_17 => ?_) (fun c_17 => ?_)
    · refine lv_iconst (v := nI 0) hx hb dX0_refusesNegotiation_24 (by decide) ?_
      exact RQ.zret hF hr hlk hw dX0_refusesNegotiation_25 (rfl) ⟨by decide, by decide⟩ (()) (rfl) ⟨by first | exact rbt (decide_eq_true (by omega)) | exact rbf (decide_eq_false (by omega)), trivial⟩
    · refine lv_iconst (v := nI 1) hx hb dX0_refusesNegotiation_20 (by decide) ?_
      refine lv_goto (tgt := 25) hx hb dX0_refusesNegotiation_21 (by decide) ?_
      exact RQ.zret hF hr hlk hw dX0_refusesNegotiation_25 (rfl) ⟨by decide, by decide⟩ (()) (rfl) ⟨by first | exact rbt (decide_eq_true (by omega)) | exact rbf (decide_eq_false (by omega)), trivial⟩
