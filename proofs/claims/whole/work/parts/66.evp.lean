set_option maxHeartbeats 4000000 in
set_option maxRecDepth 100000 in
theorem c_X0_learn (l : Launch) (g : GE) (ed : Nat → Nat) (E : AE) (fG : Nat → Int32) (fC : Nat → Int32) (G : List Nat) (hC : CC fC (eCf E)) (hfG : Hd fG G) (hG40 : G.length ≤ 40) (hGB : Bt G) (h5 : 5 ≤ G.length) (hwf : wfL G = true) : Ct l yX0_learn cX0_learn 3 none { frames := 3, cells := 0, slots := 0, locals := 66 } g [.ref (ed 0)] [(ed 0, .inr (0, [.ref (ed 1), .ref (ed 3), .ref (ed 4), .ref (ed 6), .ref (ed 8), .ref (ed 10), .ref (ed 12), .ref (ed 14), .int (nI (eSz E)), .int (nI (eLe E)), .int (eNu E), .int (nI (eAS E).toNat), .int (nI (eAN E).toNat), .int (nI (eSt E)), .int (nI (eId E)), .int (eTr E), .int (nI (eTi E))])), (ed 4, .inr (2, [.ref (ed 5), .int (nI G.length)])), (ed 5, .inl (g.2.1 0, 40, .inl fG)), (ed 14, .inl (g.2.1 0, 6, .inl fC))] (fun (v : Option Value) (u : (Nat → Int32)) => v = none ∧ CC u (eCf (lrnA G E))) (fun u : (Nat → Int32) => [(ed 0, .inr (0, [.ref (ed 1), .ref (ed 3), .ref (ed 4), .ref (ed 6), .ref (ed 8), .ref (ed 10), .ref (ed 12), .ref (ed 14), .int (nI (eSz (lrnA G E))), .int (nI (eLe (lrnA G E))), .int (eNu (lrnA G E)), .int (nI (eAS (lrnA G E)).toNat), .int (nI (eAN (lrnA G E)).toNat), .int (nI (eSt (lrnA G E))), .int (nI (eId (lrnA G E))), .int (eTr (lrnA G E)), .int (nI (eTi (lrnA G E)))])), (ed 4, .inr (2, [.ref (ed 5), .int (nI G.length)])), (ed 5, .inl (g.2.1 0, 40, .inl fG)), (ed 14, .inl (g.2.1 0, 6, .inl u))]) := by
  refine Ct.of (own := RX0) rfl rfl (Nat.le_of_ble_eq_true rfl) ?_
  intro P0 e0 s m below meth c ls hF hr hlk hnm hw hl
  have hx := hF.1
  have hb := hF.2.1
  have hl : lv_has ls 3 [(0, .ref (ed 0))] := hl
  have hb1 := hGB.get 1
  refine lv_aload_n hx hb dX0_learn_0 rfl (lv_at hl 0 rfl) ?_
  refine wget hF hw flX0_22 dX0_learn_1 0 rfl rfl ?_
  refine Ct.callV (wr := [(ed 0, .inr (0, [.ref (ed 1), .ref (ed 3), .ref (ed 4), .ref (ed 6), .ref (ed 8), .ref (ed 10), .ref (ed 12), .ref (ed 14), .int (nI (eSz E)), .int (nI (eLe E)), .int (eNu E), .int (nI (eAS E).toNat), .int (nI (eAN E).toNat), .int (nI (eSt E)), .int (nI (eId E)), .int (eTr E), .int (nI (eTi E))])), (ed 14, .inl (g.2.1 0, 6, .inl fC))]) hF hw (c_X3_code l g (ed 4) (ed 5) 40 fG G (by decide) (hG40) (by omega) (hfG) (hGB)) mwX0_148 [1, 2] [0, 3] rfl rfl rfl rfl (by decide) 0 rfl rfl ⟨by decide, by decide⟩ ⟨by decide, by decide⟩ rfl hl.1 (Nat.le_of_ble_eq_true rfl) rfl dX0_learn_4 (fun v u H locs hp hw => ?_)
  obtain ⟨rfl, hp_4⟩ := hp
  have hw := Wd.sub (ws' := [(ed 0, .inr (0, [.ref (ed 1), .ref (ed 3), .ref (ed 4), .ref (ed 6), .ref (ed 8), .ref (ed 10), .ref (ed 12), .ref (ed 14), .int (nI (eSz E)), .int (nI (eLe E)), .int (eNu E), .int (nI (eAS E).toNat), .int (nI (eAN E).toNat), .int (nI (eSt E)), .int (nI (eId E)), .int (eTr E), .int (nI (eTi E))])), (ed 4, .inr (2, [.ref (ed 5), .int (nI G.length)])), (ed 5, .inl (g.2.1 0, 40, .inl fG)), (ed 14, .inl (g.2.1 0, 6, .inl fC))]) hw [0, 2, 3, 1] rfl rfl
  refine W.eq (g2 := F0 m 7 ls [.int (codeL G)]) rfl ?_
  by_cases h0 : G.getD 0 0 = 1
  · refine r_top (n := G.getD 1 0) (by unfold codeL; rw [if_pos h0]) ?_
    refine lv_istore_n (lv' := [(1, .int (nI (G.getD 1 0))), (0, .ref (ed 0))]) hx hb dX0_learn_7 rfl hl (by decide) rfl (fun ls hl => ?_)
    refine lv_iload_n hx hb dX0_learn_8 rfl (lv_at hl 0 rfl) ?_
    refine lv_bipush (v := nI 9) hx hb dX0_learn_9 (by decide) ?_
    refine r_ne (tgt := 29) hx hb dX0_learn_11 (by decide) (by omega) (by omega) (fun c_11 => ?_) (fun c_11 => ?_)
    · refine lv_iload_n hx hb dX0_learn_29 rfl (lv_at hl 0 rfl) ?_
      refine lv_iconst (v := nI 1) hx hb dX0_learn_30 (by decide) ?_
      refine r_lt (tgt := 75) hx hb dX0_learn_31 (by decide) (by omega) (by omega) (fun c_31 => ?_) (fun c_31 => ?_)
      · have hla : lrnA G E = E := la_n (by omega) (by omega)
        exact RQ.vret hF hr hlk hw dX0_learn_75 ⟨by decide, by decide⟩ ((fC)) (by rw [hla]) ⟨rfl, by rw [hla]; exact hC⟩
      · refine lv_iload_n hx hb dX0_learn_34 rfl (lv_at hl 0 rfl) ?_
        refine lv_iconst (v := nI 4) hx hb dX0_learn_35 (by decide) ?_
        refine r_gt (tgt := 75) hx hb dX0_learn_36 (by decide) (by omega) (by omega) (fun c_36 => ?_) (fun c_36 => ?_)
        · have hla : lrnA G E = E := la_n (by omega) (by omega)
          exact RQ.vret hF hr hlk hw dX0_learn_75 ⟨by decide, by decide⟩ ((fC)) (by rw [hla]) ⟨rfl, by rw [hla]; exact hC⟩
        · have hwh : wholeW G (G.length - 2) 3 = true := by rw [← wfL_o h0 (by omega)]; exact hwf
          refine lv_iconst (v := nI 3) hx hb dX0_learn_39 (by decide) ?_
          refine lv_istore_n (lv' := [(2, .int (nI 3)), (1, .int (nI (G.getD 1 0))), (0, .ref (ed 0))]) hx hb dX0_learn_40 rfl hl (by decide) rfl (fun ls hl => ?_)
          have lp_41 : ∀ (fuel_41 : Nat) (k : Nat) (Et : AE) (fC3 : Nat → Int32) (H : Heap) (locs : List Loc) (ls : Array Slot), (G.length - k) < fuel_41 → (3 ≤ k ∧ k ≤ G.length - 2) → (wholeW G (G.length - 2) k = true) → (foldO (lrnO (G.getD 1 0) G) G (G.length - 2) 3 E = foldO (lrnO (G.getD 1 0) G) G (G.length - 2) k Et) → (CC fC3 (eCf Et)) → Wd g (va_A [(ed 0, .inr (0, [.ref (ed 1), .ref (ed 3), .ref (ed 4), .ref (ed 6), .ref (ed 8), .ref (ed 10), .ref (ed 12), .ref (ed 14), .int (nI (eSz E)), .int (nI (eLe E)), .int (eNu E), .int (nI (eAS E).toNat), .int (nI (eAN E).toNat), .int (nI (eSt E)), .int (nI (eId E)), .int (eTr E), .int (nI (eTi E))])), (ed 4, .inr (2, [.ref (ed 5), .int (nI G.length)])), (ed 5, .inl (g.2.1 0, 40, .inl fG)), (ed 14, .inl (g.2.1 0, 6, .inl fC))] s.heap.size) s H locs [(ed 0, .inr (0, [.ref (ed 1), .ref (ed 3), .ref (ed 4), .ref (ed 6), .ref (ed 8), .ref (ed 10), .ref (ed 12), .ref (ed 14), .int (nI (eSz Et)), .int (nI (eLe Et)), .int (eNu Et), .int (nI (eAS Et).toNat), .int (nI (eAN Et).toNat), .int (nI (eSt Et)), .int (nI (eId Et)), .int (eTr Et), .int (nI (eTi Et))])), (ed 4, .inr (2, [.ref (ed 5), .int (nI G.length)])), (ed 5, .inl (g.2.1 0, 40, .inl fG)), (ed 14, .inl (g.2.1 0, 6, .inl fC3))] → lv_has ls 3 [(0, .ref (ed 0)), (1, .int (nI (G.getD 1 0))), (2, .int (nI k))] → W P0 l e0 { frames := 3, cells := 0, slots := 0, locals := 66 } s m ([.ref (ed 0)] : List Value).toArray below meth c H locs 0 0 (RQ below ([.ref (ed 0)] : List Value).toArray s { frames := 3, cells := 0, slots := 0, locals := 66 } g [(ed 0, .inr (0, [.ref (ed 1), .ref (ed 3), .ref (ed 4), .ref (ed 6), .ref (ed 8), .ref (ed 10), .ref (ed 12), .ref (ed 14), .int (nI (eSz E)), .int (nI (eLe E)), .int (eNu E), .int (nI (eAS E).toNat), .int (nI (eAN E).toNat), .int (nI (eSt E)), .int (nI (eId E)), .int (eTr E), .int (nI (eTi E))])), (ed 4, .inr (2, [.ref (ed 5), .int (nI G.length)])), (ed 5, .inl (g.2.1 0, 40, .inl fG)), (ed 14, .inl (g.2.1 0, 6, .inl fC))] (fun (v : Option Value) (u : (Nat → Int32)) => v = none ∧ CC u (eCf (lrnA G E))) (fun u : (Nat → Int32) => [(ed 0, .inr (0, [.ref (ed 1), .ref (ed 3), .ref (ed 4), .ref (ed 6), .ref (ed 8), .ref (ed 10), .ref (ed 12), .ref (ed 14), .int (nI (eSz (lrnA G E))), .int (nI (eLe (lrnA G E))), .int (eNu (lrnA G E)), .int (nI (eAS (lrnA G E)).toNat), .int (nI (eAN (lrnA G E)).toNat), .int (nI (eSt (lrnA G E))), .int (nI (eId (lrnA G E))), .int (eTr (lrnA G E)), .int (nI (eTi (lrnA G E)))])), (ed 4, .inr (2, [.ref (ed 5), .int (nI G.length)])), (ed 5, .inl (g.2.1 0, 40, .inl fG)), (ed 14, .inl (g.2.1 0, 6, .inl u))])) (F0 m 41 ls []) := by
            intro fuel_41
            induction fuel_41 with
            | zero => intro k Et fC3 H locs ls hm_41; exact absurd hm_41 (Nat.not_lt_zero _)
            | succ fuel_41 ih_41 =>
              intro k Et fC3 H locs ls hm_41 hk hwk hfo hC3 hw hl
              have hbk := hGB.get k
              have hob := optLen_b (G.getD k 0)
              refine lv_iload_n hx hb dX0_learn_41 rfl (lv_at hl 2 rfl) ?_
              refine lv_aload_n hx hb dX0_learn_42 rfl (lv_at hl 0 rfl) ?_
              refine wget hF hw flX0_22 dX0_learn_43 0 rfl rfl ?_
              refine Ct.callV (wr := [(ed 0, .inr (0, [.ref (ed 1), .ref (ed 3), .ref (ed 4), .ref (ed 6), .ref (ed 8), .ref (ed 10), .ref (ed 12), .ref (ed 14), .int (nI (eSz Et)), .int (nI (eLe Et)), .int (eNu Et), .int (nI (eAS Et).toNat), .int (nI (eAN Et).toNat), .int (nI (eSt Et)), .int (nI (eId Et)), .int (eTr Et), .int (nI (eTi Et))])), (ed 14, .inl (g.2.1 0, 6, .inl fC3))]) hF hw (c_X3_end l g (ed 4) (ed 5) 40 fG G (by decide) (hG40) (by omega)) mwX0_165 [1, 2] [0, 3] rfl rfl rfl rfl (by decide) 0 rfl rfl ⟨by decide, by decide⟩ ⟨by decide, by decide⟩ rfl hl.1 (Nat.le_of_ble_eq_true rfl) rfl dX0_learn_46 (fun v u H locs hp hw => ?_)
              obtain ⟨rfl, hp_46⟩ := hp
              have hw := Wd.sub (ws' := [(ed 0, .inr (0, [.ref (ed 1), .ref (ed 3), .ref (ed 4), .ref (ed 6), .ref (ed 8), .ref (ed 10), .ref (ed 12), .ref (ed 14), .int (nI (eSz Et)), .int (nI (eLe Et)), .int (eNu Et), .int (nI (eAS Et).toNat), .int (nI (eAN Et).toNat), .int (nI (eSt Et)), .int (nI (eId Et)), .int (eTr Et), .int (nI (eTi Et))])), (ed 4, .inr (2, [.ref (ed 5), .int (nI G.length)])), (ed 5, .inl (g.2.1 0, 40, .inl fG)), (ed 14, .inl (g.2.1 0, 6, .inl fC3))]) hw [0, 2, 3, 1] rfl rfl
              refine W.eq (g2 := F0 m 49 ls [.int (nI (G.length - 2)), .int (nI k)]) rfl ?_
              refine r_ge (tgt := 75) hx hb dX0_learn_49 (by decide) (by omega) (by omega) (fun c_49 => ?_) (fun c_49 => ?_)
              · have hla : lrnA G E = Et := by rw [la_o h0 ⟨by omega, by omega⟩, hfo, foldO_o (by omega)]
                exact RQ.vret hF hr hlk hw dX0_learn_75 ⟨by decide, by decide⟩ ((fC3)) (by rw [hla]) ⟨rfl, by rw [hla]; exact hC3⟩
              · have c_49n : k < G.length - 2 := by omega
                have hstp := wholeW_step c_49n hwk
                refine lv_aload_n hx hb dX0_learn_52 rfl (lv_at hl 0 rfl) ?_
                refine lv_iload_n hx hb dX0_learn_53 rfl (lv_at hl 1 rfl) ?_
                refine lv_iload_n hx hb dX0_learn_54 rfl (lv_at hl 2 rfl) ?_
                refine Ct.callV (wr := []) hF hw (c_X0_learnOption l g ed Et fG fC3 G (G.getD 1 0) k (by omega) (hC3) (by assumption) (by assumption) (by assumption) (hstp.1)) mwX0_168 [0, 1, 2, 3] [] rfl rfl rfl rfl (by decide) 0 rfl rfl ⟨by decide, by decide⟩ ⟨by decide, by decide⟩ rfl hl.1 (Nat.le_of_ble_eq_true rfl) rfl dX0_learn_55 (fun v u H locs hp hw => ?_)
                obtain ⟨fC2_55, rfl⟩ : ∃ z, z = u := ⟨_, rfl⟩
                obtain ⟨rfl, hp_55⟩ := hp
                try dsimp only at hp_55
                have hw := Wd.sub (ws' := [(ed 0, .inr (0, [.ref (ed 1), .ref (ed 3), .ref (ed 4), .ref (ed 6), .ref (ed 8), .ref (ed 10), .ref (ed 12), .ref (ed 14), .int (nI (eSz (lrnO (G.getD 1 0) G Et k))), .int (nI (eLe (lrnO (G.getD 1 0) G Et k))), .int (eNu (lrnO (G.getD 1 0) G Et k)), .int (nI (eAS (lrnO (G.getD 1 0) G Et k)).toNat), .int (nI (eAN (lrnO (G.getD 1 0) G Et k)).toNat), .int (nI (eSt (lrnO (G.getD 1 0) G Et k))), .int (nI (eId (lrnO (G.getD 1 0) G Et k))), .int (eTr (lrnO (G.getD 1 0) G Et k)), .int (nI (eTi (lrnO (G.getD 1 0) G Et k)))])), (ed 4, .inr (2, [.ref (ed 5), .int (nI G.length)])), (ed 5, .inl (g.2.1 0, 40, .inl fG)), (ed 14, .inl (g.2.1 0, 6, .inl fC2_55))]) hw [0, 1, 2, 3] rfl rfl
                refine W.eq (g2 := F0 m 58 ls []) rfl ?_
                refine lv_iload_n hx hb dX0_learn_58 rfl (lv_at hl 2 rfl) ?_
                refine lv_aload_n hx hb dX0_learn_59 rfl (lv_at hl 0 rfl) ?_
                refine wget hF hw flX0_22 dX0_learn_60 0 rfl rfl ?_
                refine lv_iload_n hx hb dX0_learn_63 rfl (lv_at hl 2 rfl) ?_
                refine Ct.callV (wr := [(ed 0, .inr (0, [.ref (ed 1), .ref (ed 3), .ref (ed 4), .ref (ed 6), .ref (ed 8), .ref (ed 10), .ref (ed 12), .ref (ed 14), .int (nI (eSz (lrnO (G.getD 1 0) G Et k))), .int (nI (eLe (lrnO (G.getD 1 0) G Et k))), .int (eNu (lrnO (G.getD 1 0) G Et k)), .int (nI (eAS (lrnO (G.getD 1 0) G Et k)).toNat), .int (nI (eAN (lrnO (G.getD 1 0) G Et k)).toNat), .int (nI (eSt (lrnO (G.getD 1 0) G Et k))), .int (nI (eId (lrnO (G.getD 1 0) G Et k))), .int (eTr (lrnO (G.getD 1 0) G Et k)), .int (nI (eTi (lrnO (G.getD 1 0) G Et k)))])), (ed 14, .inl (g.2.1 0, 6, .inl fC2_55))]) hF hw (c_X3_at l g (ed 4) (ed 5) 40 fG G k (by decide) (hG40) (by omega) (hfG)) mwX0_171 [1, 2] [0, 3] rfl rfl rfl rfl (by decide) 0 rfl rfl ⟨by decide, by decide⟩ ⟨by decide, by decide⟩ rfl hl.1 (Nat.le_of_ble_eq_true rfl) rfl dX0_learn_64 (fun v u H locs hp hw => ?_)
                obtain ⟨rfl, hp_64⟩ := hp
                have hw := Wd.sub (ws' := [(ed 0, .inr (0, [.ref (ed 1), .ref (ed 3), .ref (ed 4), .ref (ed 6), .ref (ed 8), .ref (ed 10), .ref (ed 12), .ref (ed 14), .int (nI (eSz (lrnO (G.getD 1 0) G Et k))), .int (nI (eLe (lrnO (G.getD 1 0) G Et k))), .int (eNu (lrnO (G.getD 1 0) G Et k)), .int (nI (eAS (lrnO (G.getD 1 0) G Et k)).toNat), .int (nI (eAN (lrnO (G.getD 1 0) G Et k)).toNat), .int (nI (eSt (lrnO (G.getD 1 0) G Et k))), .int (nI (eId (lrnO (G.getD 1 0) G Et k))), .int (eTr (lrnO (G.getD 1 0) G Et k)), .int (nI (eTi (lrnO (G.getD 1 0) G Et k)))])), (ed 4, .inr (2, [.ref (ed 5), .int (nI G.length)])), (ed 5, .inl (g.2.1 0, 40, .inl fG)), (ed 14, .inl (g.2.1 0, 6, .inl fC2_55))]) hw [0, 2, 3, 1] rfl rfl
                refine W.eq (g2 := F0 m 67 ls [.int (nI (G.getD k 0)), .int (nI k)]) rfl ?_
                refine Ct.callS (wr := [(ed 0, .inr (0, [.ref (ed 1), .ref (ed 3), .ref (ed 4), .ref (ed 6), .ref (ed 8), .ref (ed 10), .ref (ed 12), .ref (ed 14), .int (nI (eSz (lrnO (G.getD 1 0) G Et k))), .int (nI (eLe (lrnO (G.getD 1 0) G Et k))), .int (eNu (lrnO (G.getD 1 0) G Et k)), .int (nI (eAS (lrnO (G.getD 1 0) G Et k)).toNat), .int (nI (eAN (lrnO (G.getD 1 0) G Et k)).toNat), .int (nI (eSt (lrnO (G.getD 1 0) G Et k))), .int (nI (eId (lrnO (G.getD 1 0) G Et k))), .int (eTr (lrnO (G.getD 1 0) G Et k)), .int (nI (eTi (lrnO (G.getD 1 0) G Et k)))])), (ed 4, .inr (2, [.ref (ed 5), .int (nI G.length)])), (ed 5, .inl (g.2.1 0, 40, .inl fG)), (ed 14, .inl (g.2.1 0, 6, .inl fC2_55))]) hF hw (c_X3_optionLength l g (G.getD k 0) (by omega)) mwX0_174 [] [0, 1, 2, 3] rfl rfl rfl rfl (by decide) ⟨by decide, by decide⟩ ⟨by decide, by decide⟩ rfl hl.1 (Nat.le_of_ble_eq_true rfl) rfl dX0_learn_67 (fun v u H locs hp hw => ?_)
                obtain ⟨rfl, hp_67⟩ := hp
                have hw := Wd.sub (ws' := [(ed 0, .inr (0, [.ref (ed 1), .ref (ed 3), .ref (ed 4), .ref (ed 6), .ref (ed 8), .ref (ed 10), .ref (ed 12), .ref (ed 14), .int (nI (eSz (lrnO (G.getD 1 0) G Et k))), .int (nI (eLe (lrnO (G.getD 1 0) G Et k))), .int (eNu (lrnO (G.getD 1 0) G Et k)), .int (nI (eAS (lrnO (G.getD 1 0) G Et k)).toNat), .int (nI (eAN (lrnO (G.getD 1 0) G Et k)).toNat), .int (nI (eSt (lrnO (G.getD 1 0) G Et k))), .int (nI (eId (lrnO (G.getD 1 0) G Et k))), .int (eTr (lrnO (G.getD 1 0) G Et k)), .int (nI (eTi (lrnO (G.getD 1 0) G Et k)))])), (ed 4, .inr (2, [.ref (ed 5), .int (nI G.length)])), (ed 5, .inl (g.2.1 0, 40, .inl fG)), (ed 14, .inl (g.2.1 0, 6, .inl fC2_55))]) hw [0, 1, 2, 3] rfl rfl
                refine W.eq (g2 := F0 m 70 ls [.int (nI (optLen (G.getD k 0))), .int (nI k)]) rfl ?_
                refine r_iadd hx hb dX0_learn_70 ?_
                refine lv_istore_n (lv' := [(2, .int (nI (k + (optLen (G.getD k 0))))), (0, .ref (ed 0)), (1, .int (nI (G.getD 1 0)))]) hx hb dX0_learn_71 rfl hl (by decide) rfl (fun ls hl => ?_)
                refine lv_goto (tgt := 41) hx hb dX0_learn_72 (by decide) ?_
                exact ih_41 (k + (optLen (G.getD k 0))) (lrnO (G.getD 1 0) G Et k) fC2_55 _ _ _ (by omega) (⟨by omega, hstp.1⟩) (hstp.2.1) (by rw [hfo]; exact foldO_t c_49n) (hp_55) hw (lv_sub hl [1, 2, 0] rfl)
          exact lp_41 _ 3 E fC _ _ _ (Nat.lt_succ_self _) (by omega) (hwh) (rfl) (hC) hw (lv_sub hl [2, 1, 0] rfl)
    · have h9l := of_decide_eq_true ((wfL_n h0 (Or.inl c_11)).symm.trans hwf)
      refine lv_aload_n hx hb dX0_learn_14 rfl (lv_at hl 1 rfl) ?_
      refine lv_aload_n hx hb dX0_learn_15 rfl (lv_at hl 1 rfl) ?_
      refine wget hF hw flX0_22 dX0_learn_16 0 rfl rfl ?_
      refine lv_iconst (v := nI 3) hx hb dX0_learn_19 (by decide) ?_
      refine Ct.callV (wr := [(ed 0, .inr (0, [.ref (ed 1), .ref (ed 3), .ref (ed 4), .ref (ed 6), .ref (ed 8), .ref (ed 10), .ref (ed 12), .ref (ed 14), .int (nI (eSz E)), .int (nI (eLe E)), .int (eNu E), .int (nI (eAS E).toNat), .int (nI (eAN E).toNat), .int (nI (eSt E)), .int (nI (eId E)), .int (eTr E), .int (nI (eTi E))])), (ed 14, .inl (g.2.1 0, 6, .inl fC))]) hF hw (c_X3_numberAt l g (ed 4) (ed 5) 40 fG G 3 (by decide) (hG40) (by omega) (hfG)) mwX0_158 [1, 2] [0, 3] rfl rfl rfl rfl (by decide) 0 rfl rfl ⟨by decide, by decide⟩ ⟨by decide, by decide⟩ rfl hl.1 (Nat.le_of_ble_eq_true rfl) rfl dX0_learn_20 (fun v u H locs hp hw => ?_)
      obtain ⟨rfl, hp_20⟩ := hp
      have hw := Wd.sub (ws' := [(ed 0, .inr (0, [.ref (ed 1), .ref (ed 3), .ref (ed 4), .ref (ed 6), .ref (ed 8), .ref (ed 10), .ref (ed 12), .ref (ed 14), .int (nI (eSz E)), .int (nI (eLe E)), .int (eNu E), .int (nI (eAS E).toNat), .int (nI (eAN E).toNat), .int (nI (eSt E)), .int (nI (eId E)), .int (eTr E), .int (nI (eTi E))])), (ed 4, .inr (2, [.ref (ed 5), .int (nI G.length)])), (ed 5, .inl (g.2.1 0, 40, .inl fG)), (ed 14, .inl (g.2.1 0, 6, .inl fC))]) hw [0, 2, 3, 1] rfl rfl
      refine W.eq (g2 := F0 m 23 ls [.int (n4 G 3), .ref (ed 0)]) rfl ?_
      refine Ct.callV (wr := [(ed 4, .inr (2, [.ref (ed 5), .int (nI G.length)])), (ed 5, .inl (g.2.1 0, 40, .inl fG))]) hF hw (c_X0_suspect l g ed E fC (n4 G 3) (by assumption)) mwX0_162 [0, 3] [1, 2] rfl rfl rfl rfl (by decide) 0 rfl rfl ⟨by decide, by decide⟩ ⟨by decide, by decide⟩ rfl hl.1 (Nat.le_of_ble_eq_true rfl) rfl dX0_learn_23 (fun v u H locs hp hw => ?_)
      obtain ⟨fC2_23, rfl⟩ : ∃ z, z = u := ⟨_, rfl⟩
      obtain ⟨rfl, hp_23⟩ := hp
      try dsimp only at hp_23
      have hw := Wd.sub (ws' := [(ed 0, .inr (0, [.ref (ed 1), .ref (ed 3), .ref (ed 4), .ref (ed 6), .ref (ed 8), .ref (ed 10), .ref (ed 12), .ref (ed 14), .int (nI (eSz E)), .int (nI (eLe E)), .int (eNu E), .int (nI (eAS E).toNat), .int (nI (eAN E).toNat), .int (nI (eSt E)), .int (nI (eId E)), .int (eTr E), .int (nI (eTi E))])), (ed 4, .inr (2, [.ref (ed 5), .int (nI G.length)])), (ed 5, .inl (g.2.1 0, 40, .inl fG)), (ed 14, .inl (g.2.1 0, 6, .inl fC2_23))]) hw [2, 0, 1, 3] rfl rfl
      refine W.eq (g2 := F0 m 26 ls []) rfl ?_
      refine lv_goto (tgt := 75) hx hb dX0_learn_26 (by decide) ?_
      have hla : lrnA G E = _ := la_9 h0 c_11
      exact RQ.vret hF hr hlk hw dX0_learn_75 ⟨by decide, by decide⟩ ((fC2_23)) (by rw [hla] <;> rfl) ⟨rfl, by rw [hla]; exact hp_23⟩
  · refine r_topv (y := .int (-1)) (by unfold codeL; rw [if_neg h0]) ?_
    refine lv_istore_n (lv' := [(1, .int (-1)), (0, .ref (ed 0))]) hx hb dX0_learn_7 rfl hl (by decide) rfl (fun ls hl => ?_)
    refine lv_iload_n hx hb dX0_learn_8 rfl (lv_at hl 0 rfl) ?_
    refine lv_bipush (v := nI 9) hx hb dX0_learn_9 (by decide) ?_
    refine lv_icmp_ne (tgt := 29) hx hb dX0_learn_11 (by decide) (fun c_11 => ?_) (fun c_11 => ?_)
    · refine lv_iload_n hx hb dX0_learn_29 rfl (lv_at hl 0 rfl) ?_
      refine lv_iconst (v := nI 1) hx hb dX0_learn_30 (by decide) ?_
      refine lv_icmp_lt (tgt := 75) hx hb dX0_learn_31 (by decide) (fun c_31 => ?_) (fun c_31 => ?_)
      · have hla : lrnA G E = E := la_d h0
        exact RQ.vret hF hr hlk hw dX0_learn_75 ⟨by decide, by decide⟩ ((fC)) (by rw [hla]) ⟨rfl, by rw [hla]; exact hC⟩
      · exact absurd (by decide) c_31
    · exact absurd c_11 (by decide)

set_option maxHeartbeats 4000000 in
set_option maxRecDepth 100000 in
theorem c_X0_isRight (l : Launch) (g : GE) (ed : Nat → Nat) (E : AE) (fG : Nat → Int32) (G : List Nat) (fQ : Nat → Int32) (M : List Nat) (hfG : Hd fG G) (hG40 : G.length ≤ 40) (hGB : Bt G) (h5 : 5 ≤ G.length) (hfQ : Hd fQ M) (hMB : Bt M) (hMl : M = [] ∨ (5 ≤ M.length ∧ M.length ≤ 13)) (hst : eSt E ≤ 9) : Ct l yX0_isRight cX0_isRight 1 (some .boolean) { frames := 2, cells := 0, slots := 0, locals := 43 } g [.ref (ed 0)] [(ed 0, .inr (0, [.ref (ed 1), .ref (ed 3), .ref (ed 4), .ref (ed 6), .ref (ed 8), .ref (ed 10), .ref (ed 12), .ref (ed 14), .int (nI (eSz E)), .int (nI (eLe E)), .int (eNu E), .int (nI (eAS E).toNat), .int (nI (eAN E).toNat), .int (nI (eSt E)), .int (nI (eId E)), .int (eTr E), .int (nI (eTi E))])), (ed 4, .inr (2, [.ref (ed 5), .int (nI G.length)])), (ed 5, .inl (g.2.1 0, 40, .inl fG)), (ed 8, .inr (2, [.ref (ed 9), .int (nI M.length)])), (ed 9, .inl (g.2.1 0, 13, .inl fQ))] (fun (v : Option Value) (u : Unit) => v = some (.int (nI (rgtA (eSt E) G M).toNat)) ∧ True) (fun u : Unit => [(ed 0, .inr (0, [.ref (ed 1), .ref (ed 3), .ref (ed 4), .ref (ed 6), .ref (ed 8), .ref (ed 10), .ref (ed 12), .ref (ed 14), .int (nI (eSz E)), .int (nI (eLe E)), .int (eNu E), .int (nI (eAS E).toNat), .int (nI (eAN E).toNat), .int (nI (eSt E)), .int (nI (eId E)), .int (eTr E), .int (nI (eTi E))])), (ed 4, .inr (2, [.ref (ed 5), .int (nI G.length)])), (ed 5, .inl (g.2.1 0, 40, .inl fG)), (ed 8, .inr (2, [.ref (ed 9), .int (nI M.length)])), (ed 9, .inl (g.2.1 0, 13, .inl fQ))]) := by
  refine Ct.of (own := RX0) rfl rfl (Nat.le_of_ble_eq_true rfl) ?_
  intro P0 e0 s m below meth c ls hF hr hlk hnm hw hl
  have hx := hF.1
  have hb := hF.2.1
  have hl : lv_has ls 1 [(0, .ref (ed 0))] := hl
  have hb1 := hGB.get 1
  have hM13 : M.length ≤ 13 := hMl.elim (fun q => by rw [q]; decide) (fun q => q.2)
  refine lv_aload_n hx hb dX0_isRight_0 rfl (lv_at hl 0 rfl) ?_
  refine wget hF hw flX0_60 dX0_isRight_1 0 rfl rfl ?_
  refine lv_iconst (v := nI 2) hx hb dX0_isRight_4 (by decide) ?_
  refine r_ge (tgt := 10) hx hb dX0_isRight_5 (by decide) (by omega) (by omega) (fun c_5 => ?_) (fun c_5 => ?_)
  · refine lv_aload_n hx hb dX0_isRight_10 rfl (lv_at hl 0 rfl) ?_
    refine wget hF hw flX0_22 dX0_isRight_11 0 rfl rfl ?_
    refine Ct.callV (wr := [(ed 0, .inr (0, [.ref (ed 1), .ref (ed 3), .ref (ed 4), .ref (ed 6), .ref (ed 8), .ref (ed 10), .ref (ed 12), .ref (ed 14), .int (nI (eSz E)), .int (nI (eLe E)), .int (eNu E), .int (nI (eAS E).toNat), .int (nI (eAN E).toNat), .int (nI (eSt E)), .int (nI (eId E)), .int (eTr E), .int (nI (eTi E))])), (ed 8, .inr (2, [.ref (ed 9), .int (nI M.length)])), (ed 9, .inl (g.2.1 0, 13, .inl fQ))]) hF hw (c_X3_code l g (ed 4) (ed 5) 40 fG G (by decide) (hG40) (by omega) (hfG) (hGB)) mwX0_148 [1, 2] [0, 3, 4] rfl rfl rfl rfl (by decide) 0 rfl rfl ⟨by decide, by decide⟩ ⟨by decide, by decide⟩ rfl hl.1 (Nat.le_of_ble_eq_true rfl) rfl dX0_isRight_14 (fun v u H locs hp hw => ?_)
    obtain ⟨rfl, hp_14⟩ := hp
    have hw := Wd.sub (ws' := [(ed 0, .inr (0, [.ref (ed 1), .ref (ed 3), .ref (ed 4), .ref (ed 6), .ref (ed 8), .ref (ed 10), .ref (ed 12), .ref (ed 14), .int (nI (eSz E)), .int (nI (eLe E)), .int (eNu E), .int (nI (eAS E).toNat), .int (nI (eAN E).toNat), .int (nI (eSt E)), .int (nI (eId E)), .int (eTr E), .int (nI (eTi E))])), (ed 4, .inr (2, [.ref (ed 5), .int (nI G.length)])), (ed 5, .inl (g.2.1 0, 40, .inl fG)), (ed 8, .inr (2, [.ref (ed 9), .int (nI M.length)])), (ed 9, .inl (g.2.1 0, 13, .inl fQ))]) hw [0, 3, 4, 1, 2] rfl rfl
    refine W.eq (g2 := F0 m 17 ls [.int (codeL G)]) rfl ?_
    by_cases h0 : G.getD 0 0 = 1
    · refine r_top (n := G.getD 1 0) (by unfold codeL; rw [if_pos h0]) ?_
      rcases (show G.getD 1 0 = 2 ∨ G.getD 1 0 = 3 ∨ G.getD 1 0 = 4 ∨ (G.getD 1 0 < 2 ∨ 4 < G.getD 1 0) by omega) with hcd | hcd | hcd | hcd
      · refine r_top (n := 2) (by rw [hcd]) ?_
        refine lv_tableIn (tgt := 44) hx hb dX0_isRight_17 (by decide) (by decide) rfl (by decide) ?_
        refine lv_aload_n hx hb dX0_isRight_44 rfl (lv_at hl 0 rfl) ?_
        refine wget hF hw flX0_22 dX0_isRight_45 0 rfl rfl ?_
        refine lv_aload_n hx hb dX0_isRight_48 rfl (lv_at hl 0 rfl) ?_
        refine wget hF hw flX0_33 dX0_isRight_49 0 rfl rfl ?_
        refine Ct.callV (wr := [(ed 0, .inr (0, [.ref (ed 1), .ref (ed 3), .ref (ed 4), .ref (ed 6), .ref (ed 8), .ref (ed 10), .ref (ed 12), .ref (ed 14), .int (nI (eSz E)), .int (nI (eLe E)), .int (eNu E), .int (nI (eAS E).toNat), .int (nI (eAN E).toNat), .int (nI (eSt E)), .int (nI (eId E)), .int (eTr E), .int (nI (eTi E))]))]) hF hw (c_X3_hasIdAndContentsOf l g (ed 4) (ed 5) 40 fG G (ed 8) (ed 9) 13 fQ M (by decide) (hG40) (hfG) (by omega) (hGB) (hMB) (by decide) (hM13) (hfQ)) mwX0_151 [1, 2, 3, 4] [0] rfl rfl rfl rfl (by decide) 0 rfl rfl ⟨by decide, by decide⟩ ⟨by decide, by decide⟩ rfl hl.1 (Nat.le_of_ble_eq_true rfl) rfl dX0_isRight_52 (fun v u H locs hp hw => ?_)
        obtain ⟨rfl, hp_52⟩ := hp
        have hw := Wd.sub (ws' := [(ed 0, .inr (0, [.ref (ed 1), .ref (ed 3), .ref (ed 4), .ref (ed 6), .ref (ed 8), .ref (ed 10), .ref (ed 12), .ref (ed 14), .int (nI (eSz E)), .int (nI (eLe E)), .int (eNu E), .int (nI (eAS E).toNat), .int (nI (eAN E).toNat), .int (nI (eSt E)), .int (nI (eId E)), .int (eTr E), .int (nI (eTi E))])), (ed 4, .inr (2, [.ref (ed 5), .int (nI G.length)])), (ed 5, .inl (g.2.1 0, 40, .inl fG)), (ed 8, .inr (2, [.ref (ed 9), .int (nI M.length)])), (ed 9, .inl (g.2.1 0, 13, .inl fQ))]) hw [0, 1, 2, 3, 4] rfl rfl
        refine W.eq (g2 := F0 m 55 ls [.int (nI (sameP G M).toNat)]) rfl ?_
        exact RQ.zret hF hr hlk hw dX0_isRight_55 (by cases sameP G M <;> rfl) ⟨by decide, by decide⟩ (()) (rfl) ⟨by rw [ri_2 (by omega) h0 hcd], trivial⟩
      · refine r_top (n := 3) (by rw [hcd]) ?_
        refine lv_tableIn (tgt := 56) hx hb dX0_isRight_17 (by decide) (by decide) rfl (by decide) ?_
        refine lv_aload_n hx hb dX0_isRight_56 rfl (lv_at hl 0 rfl) ?_
        refine wget hF hw flX0_22 dX0_isRight_57 0 rfl rfl ?_
        refine Ct.callV (wr := [(ed 0, .inr (0, [.ref (ed 1), .ref (ed 3), .ref (ed 4), .ref (ed 6), .ref (ed 8), .ref (ed 10), .ref (ed 12), .ref (ed 14), .int (nI (eSz E)), .int (nI (eLe E)), .int (eNu E), .int (nI (eAS E).toNat), .int (nI (eAN E).toNat), .int (nI (eSt E)), .int (nI (eId E)), .int (eTr E), .int (nI (eTi E))])), (ed 8, .inr (2, [.ref (ed 9), .int (nI M.length)])), (ed 9, .inl (g.2.1 0, 13, .inl fQ))]) hF hw (c_X3_id l g (ed 4) (ed 5) 40 fG G (by decide) (hG40) (hfG)) mwX0_155 [1, 2] [0, 3, 4] rfl rfl rfl rfl (by decide) 0 rfl rfl ⟨by decide, by decide⟩ ⟨by decide, by decide⟩ rfl hl.1 (Nat.le_of_ble_eq_true rfl) rfl dX0_isRight_60 (fun v u H locs hp hw => ?_)
        obtain ⟨rfl, hp_60⟩ := hp
        have hw := Wd.sub (ws' := [(ed 0, .inr (0, [.ref (ed 1), .ref (ed 3), .ref (ed 4), .ref (ed 6), .ref (ed 8), .ref (ed 10), .ref (ed 12), .ref (ed 14), .int (nI (eSz E)), .int (nI (eLe E)), .int (eNu E), .int (nI (eAS E).toNat), .int (nI (eAN E).toNat), .int (nI (eSt E)), .int (nI (eId E)), .int (eTr E), .int (nI (eTi E))])), (ed 4, .inr (2, [.ref (ed 5), .int (nI G.length)])), (ed 5, .inl (g.2.1 0, 40, .inl fG)), (ed 8, .inr (2, [.ref (ed 9), .int (nI M.length)])), (ed 9, .inl (g.2.1 0, 13, .inl fQ))]) hw [0, 3, 4, 1, 2] rfl rfl
        refine W.eq (g2 := F0 m 63 ls [.int (atL G 2)]) rfl ?_
        refine r_top (n := G.getD 2 0) (by rw [atL_in (by omega)]) ?_
        refine lv_aload_n hx hb dX0_isRight_63 rfl (lv_at hl 0 rfl) ?_
        refine wget hF hw flX0_33 dX0_isRight_64 0 rfl rfl ?_
        refine Ct.callV (wr := [(ed 0, .inr (0, [.ref (ed 1), .ref (ed 3), .ref (ed 4), .ref (ed 6), .ref (ed 8), .ref (ed 10), .ref (ed 12), .ref (ed 14), .int (nI (eSz E)), .int (nI (eLe E)), .int (eNu E), .int (nI (eAS E).toNat), .int (nI (eAN E).toNat), .int (nI (eSt E)), .int (nI (eId E)), .int (eTr E), .int (nI (eTi E))])), (ed 4, .inr (2, [.ref (ed 5), .int (nI G.length)])), (ed 5, .inl (g.2.1 0, 40, .inl fG))]) hF hw (c_X3_id l g (ed 8) (ed 9) 13 fQ M (by decide) (hM13) (hfQ)) mwX0_155 [3, 4] [0, 1, 2] rfl rfl rfl rfl (by decide) 0 rfl rfl ⟨by decide, by decide⟩ ⟨by decide, by decide⟩ rfl hl.1 (Nat.le_of_ble_eq_true rfl) rfl dX0_isRight_67 (fun v u H locs hp hw => ?_)
        obtain ⟨rfl, hp_67⟩ := hp
        have hw := Wd.sub (ws' := [(ed 0, .inr (0, [.ref (ed 1), .ref (ed 3), .ref (ed 4), .ref (ed 6), .ref (ed 8), .ref (ed 10), .ref (ed 12), .ref (ed 14), .int (nI (eSz E)), .int (nI (eLe E)), .int (eNu E), .int (nI (eAS E).toNat), .int (nI (eAN E).toNat), .int (nI (eSt E)), .int (nI (eId E)), .int (eTr E), .int (nI (eTi E))])), (ed 4, .inr (2, [.ref (ed 5), .int (nI G.length)])), (ed 5, .inl (g.2.1 0, 40, .inl fG)), (ed 8, .inr (2, [.ref (ed 9), .int (nI M.length)])), (ed 9, .inl (g.2.1 0, 13, .inl fQ))]) hw [0, 1, 2, 3, 4] rfl rfl
        refine W.eq (g2 := F0 m 70 ls [.int (atL M 2), .int (nI (G.getD 2 0))]) rfl ?_
        refine lv_icmp_ne (tgt := 77) hx hb dX0_isRight_70 (by decide) (fun c_70 => ?_) (fun c_70 => ?_)
        · refine lv_iconst (v := nI 0) hx hb dX0_isRight_77 (by decide) ?_
          exact RQ.zret hF hr hlk hw dX0_isRight_78 (rfl) ⟨by decide, by decide⟩ (()) (rfl) ⟨by first | exact rbt (by rw [ri_34 (by omega) h0 (by omega)]; exact decide_eq_true ((at_eq (hGB.get 2) (hMB.get 2) hMl).mp c_70)) | exact rbf (by rw [ri_34 (by omega) h0 (by omega)]; exact decide_eq_false (fun q => c_70 ((at_eq (hGB.get 2) (hMB.get 2) hMl).mpr q))), trivial⟩
        · refine lv_iconst (v := nI 1) hx hb dX0_isRight_73 (by decide) ?_
          refine lv_goto (tgt := 78) hx hb dX0_isRight_74 (by decide) ?_
          exact RQ.zret hF hr hlk hw dX0_isRight_78 (rfl) ⟨by decide, by decide⟩ (()) (rfl) ⟨by first | exact rbt (by rw [ri_34 (by omega) h0 (by omega)]; exact decide_eq_true ((at_eq (hGB.get 2) (hMB.get 2) hMl).mp c_70)) | exact rbf (by rw [ri_34 (by omega) h0 (by omega)]; exact decide_eq_false (fun q => c_70 ((at_eq (hGB.get 2) (hMB.get 2) hMl).mpr q))), trivial⟩
      · refine r_top (n := 4) (by rw [hcd]) ?_
        refine lv_tableIn (tgt := 56) hx hb dX0_isRight_17 (by decide) (by decide) rfl (by decide) ?_
        refine lv_aload_n hx hb dX0_isRight_56 rfl (lv_at hl 0 rfl) ?_
        refine wget hF hw flX0_22 dX0_isRight_57 0 rfl rfl ?_
        refine Ct.callV (wr := [(ed 0, .inr (0, [.ref (ed 1), .ref (ed 3), .ref (ed 4), .ref (ed 6), .ref (ed 8), .ref (ed 10), .ref (ed 12), .ref (ed 14), .int (nI (eSz E)), .int (nI (eLe E)), .int (eNu E), .int (nI (eAS E).toNat), .int (nI (eAN E).toNat), .int (nI (eSt E)), .int (nI (eId E)), .int (eTr E), .int (nI (eTi E))])), (ed 8, .inr (2, [.ref (ed 9), .int (nI M.length)])), (ed 9, .inl (g.2.1 0, 13, .inl fQ))]) hF hw (c_X3_id l g (ed 4) (ed 5) 40 fG G (by decide) (hG40) (hfG)) mwX0_155 [1, 2] [0, 3, 4] rfl rfl rfl rfl (by decide) 0 rfl rfl ⟨by decide, by decide⟩ ⟨by decide, by decide⟩ rfl hl.1 (Nat.le_of_ble_eq_true rfl) rfl dX0_isRight_60 (fun v u H locs hp hw => ?_)
        obtain ⟨rfl, hp_60⟩ := hp
        have hw := Wd.sub (ws' := [(ed 0, .inr (0, [.ref (ed 1), .ref (ed 3), .ref (ed 4), .ref (ed 6), .ref (ed 8), .ref (ed 10), .ref (ed 12), .ref (ed 14), .int (nI (eSz E)), .int (nI (eLe E)), .int (eNu E), .int (nI (eAS E).toNat), .int (nI (eAN E).toNat), .int (nI (eSt E)), .int (nI (eId E)), .int (eTr E), .int (nI (eTi E))])), (ed 4, .inr (2, [.ref (ed 5), .int (nI G.length)])), (ed 5, .inl (g.2.1 0, 40, .inl fG)), (ed 8, .inr (2, [.ref (ed 9), .int (nI M.length)])), (ed 9, .inl (g.2.1 0, 13, .inl fQ))]) hw [0, 3, 4, 1, 2] rfl rfl
        refine W.eq (g2 := F0 m 63 ls [.int (atL G 2)]) rfl ?_
        refine r_top (n := G.getD 2 0) (by rw [atL_in (by omega)]) ?_
        refine lv_aload_n hx hb dX0_isRight_63 rfl (lv_at hl 0 rfl) ?_
        refine wget hF hw flX0_33 dX0_isRight_64 0 rfl rfl ?_
        refine Ct.callV (wr := [(ed 0, .inr (0, [.ref (ed 1), .ref (ed 3), .ref (ed 4), .ref (ed 6), .ref (ed 8), .ref (ed 10), .ref (ed 12), .ref (ed 14), .int (nI (eSz E)), .int (nI (eLe E)), .int (eNu E), .int (nI (eAS E).toNat), .int (nI (eAN E).toNat), .int (nI (eSt E)), .int (nI (eId E)), .int (eTr E), .int (nI (eTi E))])), (ed 4, .inr (2, [.ref (ed 5), .int (nI G.length)])), (ed 5, .inl (g.2.1 0, 40, .inl fG))]) hF hw (c_X3_id l g (ed 8) (ed 9) 13 fQ M (by decide) (hM13) (hfQ)) mwX0_155 [3, 4] [0, 1, 2] rfl rfl rfl rfl (by decide) 0 rfl rfl ⟨by decide, by decide⟩ ⟨by decide, by decide⟩ rfl hl.1 (Nat.le_of_ble_eq_true rfl) rfl dX0_isRight_67 (fun v u H locs hp hw => ?_)
        obtain ⟨rfl, hp_67⟩ := hp
        have hw := Wd.sub (ws' := [(ed 0, .inr (0, [.ref (ed 1), .ref (ed 3), .ref (ed 4), .ref (ed 6), .ref (ed 8), .ref (ed 10), .ref (ed 12), .ref (ed 14), .int (nI (eSz E)), .int (nI (eLe E)), .int (eNu E), .int (nI (eAS E).toNat), .int (nI (eAN E).toNat), .int (nI (eSt E)), .int (nI (eId E)), .int (eTr E), .int (nI (eTi E))])), (ed 4, .inr (2, [.ref (ed 5), .int (nI G.length)])), (ed 5, .inl (g.2.1 0, 40, .inl fG)), (ed 8, .inr (2, [.ref (ed 9), .int (nI M.length)])), (ed 9, .inl (g.2.1 0, 13, .inl fQ))]) hw [0, 1, 2, 3, 4] rfl rfl
        refine W.eq (g2 := F0 m 70 ls [.int (atL M 2), .int (nI (G.getD 2 0))]) rfl ?_
        refine lv_icmp_ne (tgt := 77) hx hb dX0_isRight_70 (by decide) (fun c_70 => ?_) (fun c_70 => ?_)
        · refine lv_iconst (v := nI 0) hx hb dX0_isRight_77 (by decide) ?_
          exact RQ.zret hF hr hlk hw dX0_isRight_78 (rfl) ⟨by decide, by decide⟩ (()) (rfl) ⟨by first | exact rbt (by rw [ri_34 (by omega) h0 (by omega)]; exact decide_eq_true ((at_eq (hGB.get 2) (hMB.get 2) hMl).mp c_70)) | exact rbf (by rw [ri_34 (by omega) h0 (by omega)]; exact decide_eq_false (fun q => c_70 ((at_eq (hGB.get 2) (hMB.get 2) hMl).mpr q))), trivial⟩
        · refine lv_iconst (v := nI 1) hx hb dX0_isRight_73 (by decide) ?_
          refine lv_goto (tgt := 78) hx hb dX0_isRight_74 (by decide) ?_
          exact RQ.zret hF hr hlk hw dX0_isRight_78 (rfl) ⟨by decide, by decide⟩ (()) (rfl) ⟨by first | exact rbt (by rw [ri_34 (by omega) h0 (by omega)]; exact decide_eq_true ((at_eq (hGB.get 2) (hMB.get 2) hMl).mp c_70)) | exact rbf (by rw [ri_34 (by omega) h0 (by omega)]; exact decide_eq_false (fun q => c_70 ((at_eq (hGB.get 2) (hMB.get 2) hMl).mpr q))), trivial⟩
      · refine lv_tableOut (tgt := 79) hx hb dX0_isRight_17 (by rw [nI_toInt (by omega)]; omega) (by decide) ?_
        refine lv_iconst (v := nI 1) hx hb dX0_isRight_79 (by decide) ?_
        exact RQ.zret hF hr hlk hw dX0_isRight_80 (rfl) ⟨by decide, by decide⟩ (()) (rfl) ⟨rbt (ri_n (by omega)), trivial⟩
    · refine r_topv (y := .int (-1)) (by unfold codeL; rw [if_neg h0]) ?_
      · refine lv_tableOut (tgt := 79) hx hb dX0_isRight_17 (by decide) (by decide) ?_
        refine lv_iconst (v := nI 1) hx hb dX0_isRight_79 (by decide) ?_
        exact RQ.zret hF hr hlk hw dX0_isRight_80 (rfl) ⟨by decide, by decide⟩ (()) (rfl) ⟨rbt (ri_n (by omega)), trivial⟩
  · refine lv_iconst (v := nI 1) hx hb dX0_isRight_8 (by decide) ?_
    exact RQ.zret hF hr hlk hw dX0_isRight_9 (rfl) ⟨by decide, by decide⟩ (()) (rfl) ⟨rbt (ri_s (by omega)), trivial⟩

set_option maxHeartbeats 4000000 in
set_option maxRecDepth 100000 in
theorem c_X0_eventOfPacket (l : Launch) (g : GE) (ed : Nat → Nat) (E : AE) (fG : Nat → Int32) (G : List Nat) (fA : Nat → Int32) (N : List Nat) (hfG : Hd fG G) (hG40 : G.length ≤ 40) (hGB : Bt G) (h5 : 5 ≤ G.length) (hl2 : eLe E < 65536) (hwf : wfL G = true) : Ct l yX0_eventOfPacket cX0_eventOfPacket 1 (some (.object "LineTalk$Event")) { frames := 4, cells := 0, slots := 0, locals := 88 } g [.ref (ed 0)] [(ed 0, .inr (0, [.ref (ed 1), .ref (ed 3), .ref (ed 4), .ref (ed 6), .ref (ed 8), .ref (ed 10), .ref (ed 12), .ref (ed 14), .int (nI (eSz E)), .int (nI (eLe E)), .int (eNu E), .int (nI (eAS E).toNat), .int (nI (eAN E).toNat), .int (nI (eSt E)), .int (nI (eId E)), .int (eTr E), .int (nI (eTi E))])), (ed 4, .inr (2, [.ref (ed 5), .int (nI G.length)])), (ed 5, .inl (g.2.1 0, 40, .inl fG)), (ed 10, .inr (2, [.ref (ed 11), .int (nI N.length)])), (ed 11, .inl (g.2.1 0, 40, .inl fA))] (fun (v : Option Value) (u : (List Nat) × (Nat → Int32)) => v = some (.ref (g.2.2 0 (evP G (eLe E) (eNu E)))) ∧ (G.getD 0 0 = 1 → G.getD 1 0 = 1 → u.1 = ansL G (eLe E) (eNu E) ∧ Hd u.2 u.1)) (fun u : (List Nat) × (Nat → Int32) => [(ed 0, .inr (0, [.ref (ed 1), .ref (ed 3), .ref (ed 4), .ref (ed 6), .ref (ed 8), .ref (ed 10), .ref (ed 12), .ref (ed 14), .int (nI (eSz E)), .int (nI (eLe E)), .int (eNu E), .int (nI (eAS E).toNat), .int (nI (eAN E).toNat), .int (nI (eSt E)), .int (nI (eId E)), .int (eTr E), .int (nI (eTi E))])), (ed 4, .inr (2, [.ref (ed 5), .int (nI G.length)])), (ed 5, .inl (g.2.1 0, 40, .inl fG)), (ed 10, .inr (2, [.ref (ed 11), .int (nI u.1.length)])), (ed 11, .inl (g.2.1 0, 40, .inl u.2))]) := by
  refine Ct.of (own := RX0) rfl rfl (Nat.le_of_ble_eq_true rfl) ?_
  intro P0 e0 s m below meth c ls hF hr hlk hnm hw hl
  have hx := hF.1
  have hb := hF.2.1
  have hl : lv_has ls 1 [(0, .ref (ed 0))] := hl
  have hb1 := hGB.get 1
  have hab := ansCode_b (G := G) (le := eLe E) (nu := eNu E)
  refine lv_aload_n hx hb dX0_eventOfPacket_0 rfl (lv_at hl 0 rfl) ?_
  refine wget hF hw flX0_22 dX0_eventOfPacket_1 0 rfl rfl ?_
  refine Ct.callV (wr := [(ed 0, .inr (0, [.ref (ed 1), .ref (ed 3), .ref (ed 4), .ref (ed 6), .ref (ed 8), .ref (ed 10), .ref (ed 12), .ref (ed 14), .int (nI (eSz E)), .int (nI (eLe E)), .int (eNu E), .int (nI (eAS E).toNat), .int (nI (eAN E).toNat), .int (nI (eSt E)), .int (nI (eId E)), .int (eTr E), .int (nI (eTi E))])), (ed 10, .inr (2, [.ref (ed 11), .int (nI N.length)])), (ed 11, .inl (g.2.1 0, 40, .inl fA))]) hF hw (c_X3_code l g (ed 4) (ed 5) 40 fG G (by decide) (hG40) (by omega) (hfG) (hGB)) mwX0_148 [1, 2] [0, 3, 4] rfl rfl rfl rfl (by decide) 0 rfl rfl ⟨by decide, by decide⟩ ⟨by decide, by decide⟩ rfl hl.1 (Nat.le_of_ble_eq_true rfl) rfl dX0_eventOfPacket_4 (fun v u H locs hp hw => ?_)
  obtain ⟨rfl, hp_4⟩ := hp
  have hw := Wd.sub (ws' := [(ed 0, .inr (0, [.ref (ed 1), .ref (ed 3), .ref (ed 4), .ref (ed 6), .ref (ed 8), .ref (ed 10), .ref (ed 12), .ref (ed 14), .int (nI (eSz E)), .int (nI (eLe E)), .int (eNu E), .int (nI (eAS E).toNat), .int (nI (eAN E).toNat), .int (nI (eSt E)), .int (nI (eId E)), .int (eTr E), .int (nI (eTi E))])), (ed 4, .inr (2, [.ref (ed 5), .int (nI G.length)])), (ed 5, .inl (g.2.1 0, 40, .inl fG)), (ed 10, .inr (2, [.ref (ed 11), .int (nI N.length)])), (ed 11, .inl (g.2.1 0, 40, .inl fA))]) hw [0, 3, 4, 1, 2] rfl rfl
  refine W.eq (g2 := F0 m 7 ls [.int (codeL G)]) rfl ?_
  by_cases h0 : G.getD 0 0 = 1
  · refine r_top (n := G.getD 1 0) (by unfold codeL; rw [if_pos h0]) ?_
    rcases (show G.getD 1 0 = 0 ∨ G.getD 1 0 = 1 ∨ G.getD 1 0 = 2 ∨ G.getD 1 0 = 3 ∨ G.getD 1 0 = 4 ∨ G.getD 1 0 = 5 ∨ G.getD 1 0 = 6 ∨ G.getD 1 0 = 7 ∨ G.getD 1 0 = 8 ∨ G.getD 1 0 = 9 ∨ G.getD 1 0 = 10 ∨ 10 < G.getD 1 0 by omega) with hcd | hcd | hcd | hcd | hcd | hcd | hcd | hcd | hcd | hcd | hcd | hcd
    · refine r_top (n := 0) (by rw [hcd]) ?_
      refine lv_tableIn (tgt := 138) hx hb dX0_eventOfPacket_7 (by decide) (by decide) rfl (by decide) ?_
      refine wgetE (i := 12) hF hw (by decide) rfl tw636 dX0_eventOfPacket_138 ?_
      have hep : evP G (eLe E) (eNu E) = 12 := ep_x h0 (by omega)
      exact RQ.aret hF hr (Or.inl ⟨_, rfl⟩) (Or.inr ⟨_, rfl⟩) hlk hw dX0_eventOfPacket_141 ⟨by decide, by decide⟩ ((N, fA)) (rfl) ⟨by rw [hep], fun _ q => absurd q (by omega)⟩
    · refine r_top (n := 1) (by rw [hcd]) ?_
      refine lv_tableIn (tgt := 72) hx hb dX0_eventOfPacket_7 (by decide) (by decide) rfl (by decide) ?_
      have hwh : wholeW G (G.length - 2) 3 = true := by rw [← wfL_o h0 (by omega)]; exact hwf
      have hok := ansL_ok (nu := eNu E) hGB hG40 hl2 h5 hwh
      refine lv_aload_n hx hb dX0_eventOfPacket_72 rfl (lv_at hl 0 rfl) ?_
      refine Ct.callV (wr := []) hF hw (c_X0_composeAnswer l g ed E fG fA G N (by assumption) (by assumption) (by assumption) (by assumption) (by assumption) (by assumption)) mwX0_193 [0, 1, 2, 3, 4] [] rfl rfl rfl rfl (by decide) 0 rfl rfl ⟨by decide, by decide⟩ ⟨by decide, by decide⟩ rfl hl.1 (Nat.le_of_ble_eq_true rfl) rfl dX0_eventOfPacket_73 (fun v u H locs hp hw => ?_)
      obtain ⟨f2_73, rfl⟩ : ∃ z, z = u := ⟨_, rfl⟩
      obtain ⟨rfl, hp_73⟩ := hp
      try dsimp only at hp_73
      have hw := Wd.sub (ws' := [(ed 0, .inr (0, [.ref (ed 1), .ref (ed 3), .ref (ed 4), .ref (ed 6), .ref (ed 8), .ref (ed 10), .ref (ed 12), .ref (ed 14), .int (nI (eSz E)), .int (nI (eLe E)), .int (eNu E), .int (nI (eAS E).toNat), .int (nI (eAN E).toNat), .int (nI (eSt E)), .int (nI (eId E)), .int (eTr E), .int (nI (eTi E))])), (ed 4, .inr (2, [.ref (ed 5), .int (nI G.length)])), (ed 5, .inl (g.2.1 0, 40, .inl fG)), (ed 10, .inr (2, [.ref (ed 11), .int (nI (ansL G (eLe E) (eNu E)).length)])), (ed 11, .inl (g.2.1 0, 40, .inl f2_73))]) hw [0, 1, 2, 3, 4] rfl rfl
      refine W.eq (g2 := F0 m 76 ls []) rfl ?_
      refine lv_aload_n hx hb dX0_eventOfPacket_76 rfl (lv_at hl 0 rfl) ?_
      refine wget hF hw flX0_36 dX0_eventOfPacket_77 0 rfl rfl ?_
      refine Ct.callV (wr := [(ed 0, .inr (0, [.ref (ed 1), .ref (ed 3), .ref (ed 4), .ref (ed 6), .ref (ed 8), .ref (ed 10), .ref (ed 12), .ref (ed 14), .int (nI (eSz E)), .int (nI (eLe E)), .int (eNu E), .int (nI (eAS E).toNat), .int (nI (eAN E).toNat), .int (nI (eSt E)), .int (nI (eId E)), .int (eTr E), .int (nI (eTi E))])), (ed 4, .inr (2, [.ref (ed 5), .int (nI G.length)])), (ed 5, .inl (g.2.1 0, 40, .inl fG))]) hF hw (c_X3_code l g (ed 10) (ed 11) 40 f2_73 (ansL G (eLe E) (eNu E)) (by decide) (by omega) (by omega) (hp_73) (hok.2.2)) mwX0_148 [3, 4] [0, 1, 2] rfl rfl rfl rfl (by decide) 0 rfl rfl ⟨by decide, by decide⟩ ⟨by decide, by decide⟩ rfl hl.1 (Nat.le_of_ble_eq_true rfl) rfl dX0_eventOfPacket_80 (fun v u H locs hp hw => ?_)
      obtain ⟨rfl, hp_80⟩ := hp
      have hw := Wd.sub (ws' := [(ed 0, .inr (0, [.ref (ed 1), .ref (ed 3), .ref (ed 4), .ref (ed 6), .ref (ed 8), .ref (ed 10), .ref (ed 12), .ref (ed 14), .int (nI (eSz E)), .int (nI (eLe E)), .int (eNu E), .int (nI (eAS E).toNat), .int (nI (eAN E).toNat), .int (nI (eSt E)), .int (nI (eId E)), .int (eTr E), .int (nI (eTi E))])), (ed 4, .inr (2, [.ref (ed 5), .int (nI G.length)])), (ed 5, .inl (g.2.1 0, 40, .inl fG)), (ed 10, .inr (2, [.ref (ed 11), .int (nI (ansL G (eLe E) (eNu E)).length)])), (ed 11, .inl (g.2.1 0, 40, .inl f2_73))]) hw [0, 1, 2, 3, 4] rfl rfl
      refine W.eq (g2 := F0 m 83 ls [.int (codeL (ansL G (eLe E) (eNu E)))]) rfl ?_
      refine r_top (n := ansCode G (eLe E) (eNu E)) (ansL_code) ?_
      refine lv_iconst (v := nI 2) hx hb dX0_eventOfPacket_83 (by decide) ?_
      refine r_ne (tgt := 93) hx hb dX0_eventOfPacket_84 (by decide) (by omega) (by omega) (fun c_84 => ?_) (fun c_84 => ?_)
      · refine wgetE (i := 7) hF hw (by decide) rfl tw614 dX0_eventOfPacket_93 ?_
        have hep : evP G (eLe E) (eNu E) = 7 := ep_1n h0 hcd c_84
        exact RQ.aret hF hr (Or.inl ⟨_, rfl⟩) (Or.inr ⟨_, rfl⟩) hlk hw dX0_eventOfPacket_96 ⟨by decide, by decide⟩ ((ansL G (eLe E) (eNu E), f2_73)) (rfl) ⟨by rw [hep], fun _ _ => ⟨rfl, hp_73⟩⟩
      · refine wgetE (i := 6) hF hw (by decide) rfl tw612 dX0_eventOfPacket_87 ?_
        refine lv_goto (tgt := 96) hx hb dX0_eventOfPacket_90 (by decide) ?_
        have hep : evP G (eLe E) (eNu E) = 6 := ep_1y h0 hcd c_84
        exact RQ.aret hF hr (Or.inl ⟨_, rfl⟩) (Or.inr ⟨_, rfl⟩) hlk hw dX0_eventOfPacket_96 ⟨by decide, by decide⟩ ((ansL G (eLe E) (eNu E), f2_73)) (rfl) ⟨by rw [hep], fun _ _ => ⟨rfl, hp_73⟩⟩
    · refine r_top (n := 2) (by rw [hcd]) ?_
      refine lv_tableIn (tgt := 97) hx hb dX0_eventOfPacket_7 (by decide) (by decide) rfl (by decide) ?_
      refine wgetE (i := 8) hF hw (by decide) rfl tw616 dX0_eventOfPacket_97 ?_
      have hep : evP G (eLe E) (eNu E) = 8 := ep_2 h0 hcd
      exact RQ.aret hF hr (Or.inl ⟨_, rfl⟩) (Or.inr ⟨_, rfl⟩) hlk hw dX0_eventOfPacket_100 ⟨by decide, by decide⟩ ((N, fA)) (rfl) ⟨by rw [hep], fun _ q => absurd q (by omega)⟩
    · refine r_top (n := 3) (by rw [hcd]) ?_
      refine lv_tableIn (tgt := 101) hx hb dX0_eventOfPacket_7 (by decide) (by decide) rfl (by decide) ?_
      refine wgetE (i := 9) hF hw (by decide) rfl tw618 dX0_eventOfPacket_101 ?_
      have hep : evP G (eLe E) (eNu E) = 9 := ep_34 h0 (Or.inl hcd)
      exact RQ.aret hF hr (Or.inl ⟨_, rfl⟩) (Or.inr ⟨_, rfl⟩) hlk hw dX0_eventOfPacket_104 ⟨by decide, by decide⟩ ((N, fA)) (rfl) ⟨by rw [hep], fun _ q => absurd q (by omega)⟩
    · refine r_top (n := 4) (by rw [hcd]) ?_
      refine lv_tableIn (tgt := 101) hx hb dX0_eventOfPacket_7 (by decide) (by decide) rfl (by decide) ?_
      refine wgetE (i := 9) hF hw (by decide) rfl tw618 dX0_eventOfPacket_101 ?_
      have hep : evP G (eLe E) (eNu E) = 9 := ep_34 h0 (Or.inr hcd)
      exact RQ.aret hF hr (Or.inl ⟨_, rfl⟩) (Or.inr ⟨_, rfl⟩) hlk hw dX0_eventOfPacket_104 ⟨by decide, by decide⟩ ((N, fA)) (rfl) ⟨by rw [hep], fun _ q => absurd q (by omega)⟩
    · refine r_top (n := 5) (by rw [hcd]) ?_
      refine lv_tableIn (tgt := 105) hx hb dX0_eventOfPacket_7 (by decide) (by decide) rfl (by decide) ?_
      refine wgetE (i := 10) hF hw (by decide) rfl tw620 dX0_eventOfPacket_105 ?_
      have hep : evP G (eLe E) (eNu E) = 10 := ep_5 h0 hcd
      exact RQ.aret hF hr (Or.inl ⟨_, rfl⟩) (Or.inr ⟨_, rfl⟩) hlk hw dX0_eventOfPacket_108 ⟨by decide, by decide⟩ ((N, fA)) (rfl) ⟨by rw [hep], fun _ q => absurd q (by omega)⟩
    · refine r_top (n := 6) (by rw [hcd]) ?_
      refine lv_tableIn (tgt := 109) hx hb dX0_eventOfPacket_7 (by decide) (by decide) rfl (by decide) ?_
      refine wgetE (i := 11) hF hw (by decide) rfl tw622 dX0_eventOfPacket_109 ?_
      have hep : evP G (eLe E) (eNu E) = 11 := ep_6 h0 hcd
      exact RQ.aret hF hr (Or.inl ⟨_, rfl⟩) (Or.inr ⟨_, rfl⟩) hlk hw dX0_eventOfPacket_112 ⟨by decide, by decide⟩ ((N, fA)) (rfl) ⟨by rw [hep], fun _ q => absurd q (by omega)⟩
    · refine r_top (n := 7) (by rw [hcd]) ?_
      refine lv_tableIn (tgt := 113) hx hb dX0_eventOfPacket_7 (by decide) (by decide) rfl (by decide) ?_
      refine lv_aload_n hx hb dX0_eventOfPacket_113 rfl (lv_at hl 0 rfl) ?_
      refine Ct.callV (wr := [(ed 10, .inr (2, [.ref (ed 11), .int (nI N.length)])), (ed 11, .inl (g.2.1 0, 40, .inl fA))]) hF hw (c_X0_refusesNegotiation l g ed E fG G (by assumption) (by assumption) (by assumption) (by omega)) mwX0_214 [0, 1, 2] [3, 4] rfl rfl rfl rfl (by decide) 0 rfl rfl ⟨by decide, by decide⟩ ⟨by decide, by decide⟩ rfl hl.1 (Nat.le_of_ble_eq_true rfl) rfl dX0_eventOfPacket_114 (fun v u H locs hp hw => ?_)
      obtain ⟨rfl, hp_114⟩ := hp
      have hw := Wd.sub (ws' := [(ed 0, .inr (0, [.ref (ed 1), .ref (ed 3), .ref (ed 4), .ref (ed 6), .ref (ed 8), .ref (ed 10), .ref (ed 12), .ref (ed 14), .int (nI (eSz E)), .int (nI (eLe E)), .int (eNu E), .int (nI (eAS E).toNat), .int (nI (eAN E).toNat), .int (nI (eSt E)), .int (nI (eId E)), .int (eTr E), .int (nI (eTi E))])), (ed 4, .inr (2, [.ref (ed 5), .int (nI G.length)])), (ed 5, .inl (g.2.1 0, 40, .inl fG)), (ed 10, .inr (2, [.ref (ed 11), .int (nI N.length)])), (ed 11, .inl (g.2.1 0, 40, .inl fA))]) hw [2, 3, 4, 0, 1] rfl rfl
      refine W.eq (g2 := F0 m 117 ls [.int (nI (decide (1 ≤ G.getD 3 0 ∧ G.getD 3 0 ≤ 6)).toNat)]) rfl ?_
      have hbr := b_lt (decide (1 ≤ G.getD 3 0 ∧ G.getD 3 0 ≤ 6))
      refine r_eq0 (tgt := 126) hx hb dX0_eventOfPacket_117 (by decide) (by omega) (fun c_117 => ?_) (fun c_117 => ?_)
      · refine wgetE (i := 14) hF hw (by decide) rfl tw630 dX0_eventOfPacket_126 ?_
        have hep : evP G (eLe E) (eNu E) = 14 := by first | exact ep_7y h0 hcd (dnz c_117) | exact ep_7n h0 hcd (dz c_117)
        exact RQ.aret hF hr (Or.inl ⟨_, rfl⟩) (Or.inr ⟨_, rfl⟩) hlk hw dX0_eventOfPacket_129 ⟨by decide, by decide⟩ ((N, fA)) (rfl) ⟨by rw [hep], fun _ q => absurd q (by omega)⟩
      · refine wgetE (i := 13) hF hw (by decide) rfl tw628 dX0_eventOfPacket_120 ?_
        refine lv_goto (tgt := 129) hx hb dX0_eventOfPacket_123 (by decide) ?_
        have hep : evP G (eLe E) (eNu E) = 13 := by first | exact ep_7y h0 hcd (dnz c_117) | exact ep_7n h0 hcd (dz c_117)
        exact RQ.aret hF hr (Or.inl ⟨_, rfl⟩) (Or.inr ⟨_, rfl⟩) hlk hw dX0_eventOfPacket_129 ⟨by decide, by decide⟩ ((N, fA)) (rfl) ⟨by rw [hep], fun _ q => absurd q (by omega)⟩
    · refine r_top (n := 8) (by rw [hcd]) ?_
      refine lv_tableIn (tgt := 138) hx hb dX0_eventOfPacket_7 (by decide) (by decide) rfl (by decide) ?_
      refine wgetE (i := 12) hF hw (by decide) rfl tw636 dX0_eventOfPacket_138 ?_
      have hep : evP G (eLe E) (eNu E) = 12 := ep_x h0 (by omega)
      exact RQ.aret hF hr (Or.inl ⟨_, rfl⟩) (Or.inr ⟨_, rfl⟩) hlk hw dX0_eventOfPacket_141 ⟨by decide, by decide⟩ ((N, fA)) (rfl) ⟨by rw [hep], fun _ q => absurd q (by omega)⟩
    · refine r_top (n := 9) (by rw [hcd]) ?_
      refine lv_tableIn (tgt := 130) hx hb dX0_eventOfPacket_7 (by decide) (by decide) rfl (by decide) ?_
      refine wgetE (i := 15) hF hw (by decide) rfl tw632 dX0_eventOfPacket_130 ?_
      have hep : evP G (eLe E) (eNu E) = 15 := ep_9 h0 hcd
      exact RQ.aret hF hr (Or.inl ⟨_, rfl⟩) (Or.inr ⟨_, rfl⟩) hlk hw dX0_eventOfPacket_133 ⟨by decide, by decide⟩ ((N, fA)) (rfl) ⟨by rw [hep], fun _ q => absurd q (by omega)⟩
    · refine r_top (n := 10) (by rw [hcd]) ?_
      refine lv_tableIn (tgt := 134) hx hb dX0_eventOfPacket_7 (by decide) (by decide) rfl (by decide) ?_
      refine wgetE (i := 16) hF hw (by decide) rfl tw634 dX0_eventOfPacket_134 ?_
      have hep : evP G (eLe E) (eNu E) = 16 := ep_10 h0 hcd
      exact RQ.aret hF hr (Or.inl ⟨_, rfl⟩) (Or.inr ⟨_, rfl⟩) hlk hw dX0_eventOfPacket_137 ⟨by decide, by decide⟩ ((N, fA)) (rfl) ⟨by rw [hep], fun _ q => absurd q (by omega)⟩
    · refine lv_tableOut (tgt := 138) hx hb dX0_eventOfPacket_7 (by right; rw [nI_toInt (by omega)]; omega) (by decide) ?_
      refine wgetE (i := 12) hF hw (by decide) rfl tw636 dX0_eventOfPacket_138 ?_
      have hep : evP G (eLe E) (eNu E) = 12 := ep_x h0 (by omega)
      exact RQ.aret hF hr (Or.inl ⟨_, rfl⟩) (Or.inr ⟨_, rfl⟩) hlk hw dX0_eventOfPacket_141 ⟨by decide, by decide⟩ ((N, fA)) (rfl) ⟨by rw [hep], fun _ q => absurd q (by omega)⟩
  · refine r_topv (y := .int (-1)) (by unfold codeL; rw [if_neg h0]) ?_
    · refine r_topv (y := .int (-1)) rfl ?_
      refine lv_tableIn (tgt := 68) hx hb dX0_eventOfPacket_7 (by decide) (by decide) rfl (by decide) ?_
      refine wgetE (i := 17) hF hw (by decide) rfl tw590 dX0_eventOfPacket_68 ?_
      have hep : evP G (eLe E) (eNu E) = 17 := ep_d h0
      exact RQ.aret hF hr (Or.inl ⟨_, rfl⟩) (Or.inr ⟨_, rfl⟩) hlk hw dX0_eventOfPacket_71 ⟨by decide, by decide⟩ ((N, fA)) (rfl) ⟨by rw [hep], fun q => absurd q h0⟩
