set_option maxHeartbeats 4000000 in
set_option maxRecDepth 100000 in
theorem c_X0_composeAnswer (l : Launch) (g : GE) (ed : Nat → Nat) (E : AE) (fG : Nat → Int32) (fA : Nat → Int32) (G : List Nat) (N : List Nat) (hl2 : eLe E < 65536) (hfG : Hd fG G) (hG40 : G.length ≤ 40) (hGB : Bt G) (h5 : 5 ≤ G.length) (hwh : wholeW G (G.length - 2) 3 = true) : Ct l yX0_composeAnswer cX0_composeAnswer 3 none { frames := 3, cells := 0, slots := 0, locals := 66 } g [.ref (ed 0)] [(ed 0, .inr (0, [.ref (ed 1), .ref (ed 3), .ref (ed 4), .ref (ed 6), .ref (ed 8), .ref (ed 10), .ref (ed 12), .ref (ed 14), .int (nI (eSz E)), .int (nI (eLe E)), .int (eNu E), .int (nI (eAS E).toNat), .int (nI (eAN E).toNat), .int (nI (eSt E)), .int (nI (eId E)), .int (eTr E), .int (nI (eTi E))])), (ed 4, .inr (2, [.ref (ed 5), .int (nI G.length)])), (ed 5, .inl (g.2.1 0, 40, .inl fG)), (ed 10, .inr (2, [.ref (ed 11), .int (nI N.length)])), (ed 11, .inl (g.2.1 0, 40, .inl fA))] (fun (v : Option Value) (u : (Nat → Int32)) => v = none ∧ Hd u (ansL G (eLe E) (eNu E))) (fun u : (Nat → Int32) => [(ed 0, .inr (0, [.ref (ed 1), .ref (ed 3), .ref (ed 4), .ref (ed 6), .ref (ed 8), .ref (ed 10), .ref (ed 12), .ref (ed 14), .int (nI (eSz E)), .int (nI (eLe E)), .int (eNu E), .int (nI (eAS E).toNat), .int (nI (eAN E).toNat), .int (nI (eSt E)), .int (nI (eId E)), .int (eTr E), .int (nI (eTi E))])), (ed 4, .inr (2, [.ref (ed 5), .int (nI G.length)])), (ed 5, .inl (g.2.1 0, 40, .inl fG)), (ed 10, .inr (2, [.ref (ed 11), .int (nI (ansL G (eLe E) (eNu E)).length)])), (ed 11, .inl (g.2.1 0, 40, .inl u))]) := by
  refine Ct.of (own := RX0) rfl rfl (Nat.le_of_ble_eq_true rfl) ?_
  intro P0 e0 s m below meth c ls hF hr hlk hnm hw hl
  have hx := hF.1
  have hb := hF.2.1
  have hl : lv_has ls 3 [(0, .ref (ed 0))] := hl
  have hab := ansCode_b (G := G) (le := eLe E) (nu := eNu E)
  have hb2 := hGB.get 2
  refine lv_aload_n hx hb dX0_composeAnswer_0 rfl (lv_at hl 0 rfl) ?_
  refine Ct.callV (wr := [(ed 10, .inr (2, [.ref (ed 11), .int (nI N.length)])), (ed 11, .inl (g.2.1 0, 40, .inl fA))]) hF hw (c_X0_answerCode l g ed E fG G (by assumption) (by assumption) (by assumption) (by assumption) (by assumption) (by assumption)) mwX0_232 [0, 1, 2] [3, 4] rfl rfl rfl rfl (by decide) 0 rfl rfl ⟨by decide, by decide⟩ ⟨by decide, by decide⟩ rfl hl.1 (Nat.le_of_ble_eq_true rfl) rfl dX0_composeAnswer_1 (fun v u H locs hp hw => ?_)
  obtain ⟨rfl, hp_1⟩ := hp
  have hw := Wd.sub (ws' := [(ed 0, .inr (0, [.ref (ed 1), .ref (ed 3), .ref (ed 4), .ref (ed 6), .ref (ed 8), .ref (ed 10), .ref (ed 12), .ref (ed 14), .int (nI (eSz E)), .int (nI (eLe E)), .int (eNu E), .int (nI (eAS E).toNat), .int (nI (eAN E).toNat), .int (nI (eSt E)), .int (nI (eId E)), .int (eTr E), .int (nI (eTi E))])), (ed 4, .inr (2, [.ref (ed 5), .int (nI G.length)])), (ed 5, .inl (g.2.1 0, 40, .inl fG)), (ed 10, .inr (2, [.ref (ed 11), .int (nI N.length)])), (ed 11, .inl (g.2.1 0, 40, .inl fA))]) hw [2, 3, 4, 0, 1] rfl rfl
  refine W.eq (g2 := F0 m 4 ls [.int (nI (ansCode G (eLe E) (eNu E)))]) rfl ?_
  refine lv_istore_n (lv' := [(1, .int (nI (ansCode G (eLe E) (eNu E)))), (0, .ref (ed 0))]) hx hb dX0_composeAnswer_4 rfl hl (by decide) rfl (fun ls hl => ?_)
  refine lv_aload_n hx hb dX0_composeAnswer_5 rfl (lv_at hl 1 rfl) ?_
  refine wget hF hw flX0_36 dX0_composeAnswer_6 0 rfl rfl ?_
  refine lv_iload_n hx hb dX0_composeAnswer_9 rfl (lv_at hl 0 rfl) ?_
  refine lv_aload_n hx hb dX0_composeAnswer_10 rfl (lv_at hl 1 rfl) ?_
  refine wget hF hw flX0_22 dX0_composeAnswer_11 0 rfl rfl ?_
  refine Ct.callV (wr := [(ed 0, .inr (0, [.ref (ed 1), .ref (ed 3), .ref (ed 4), .ref (ed 6), .ref (ed 8), .ref (ed 10), .ref (ed 12), .ref (ed 14), .int (nI (eSz E)), .int (nI (eLe E)), .int (eNu E), .int (nI (eAS E).toNat), .int (nI (eAN E).toNat), .int (nI (eSt E)), .int (nI (eId E)), .int (eTr E), .int (nI (eTi E))])), (ed 10, .inr (2, [.ref (ed 11), .int (nI N.length)])), (ed 11, .inl (g.2.1 0, 40, .inl fA))]) hF hw (c_X3_id l g (ed 4) (ed 5) 40 fG G (by decide) (hG40) (hfG)) mwX0_155 [1, 2] [0, 3, 4] rfl rfl rfl rfl (by decide) 0 rfl rfl ⟨by decide, by decide⟩ ⟨by decide, by decide⟩ rfl hl.1 (Nat.le_of_ble_eq_true rfl) rfl dX0_composeAnswer_14 (fun v u H locs hp hw => ?_)
  obtain ⟨rfl, hp_14⟩ := hp
  have hw := Wd.sub (ws' := [(ed 0, .inr (0, [.ref (ed 1), .ref (ed 3), .ref (ed 4), .ref (ed 6), .ref (ed 8), .ref (ed 10), .ref (ed 12), .ref (ed 14), .int (nI (eSz E)), .int (nI (eLe E)), .int (eNu E), .int (nI (eAS E).toNat), .int (nI (eAN E).toNat), .int (nI (eSt E)), .int (nI (eId E)), .int (eTr E), .int (nI (eTi E))])), (ed 4, .inr (2, [.ref (ed 5), .int (nI G.length)])), (ed 5, .inl (g.2.1 0, 40, .inl fG)), (ed 10, .inr (2, [.ref (ed 11), .int (nI N.length)])), (ed 11, .inl (g.2.1 0, 40, .inl fA))]) hw [0, 3, 4, 1, 2] rfl rfl
  refine W.eq (g2 := F0 m 17 ls [.int (atL G 2), .int (nI (ansCode G (eLe E) (eNu E))), .ref (ed 10)]) rfl ?_
  refine r_top (n := G.getD 2 0) (by rw [atL_in (by omega)]) ?_
  refine Ct.callV (wr := [(ed 0, .inr (0, [.ref (ed 1), .ref (ed 3), .ref (ed 4), .ref (ed 6), .ref (ed 8), .ref (ed 10), .ref (ed 12), .ref (ed 14), .int (nI (eSz E)), .int (nI (eLe E)), .int (eNu E), .int (nI (eAS E).toNat), .int (nI (eAN E).toNat), .int (nI (eSt E)), .int (nI (eId E)), .int (eTr E), .int (nI (eTi E))])), (ed 4, .inr (2, [.ref (ed 5), .int (nI G.length)])), (ed 5, .inl (g.2.1 0, 40, .inl fG))]) hF hw (c_X3_start l g (ed 10) (ed 11) 40 fA N (ansCode G (eLe E) (eNu E)) (G.getD 2 0) (by decide) (by decide) (by omega) (hb2)) mwX0_84 [3, 4] [0, 1, 2] rfl rfl rfl rfl (by decide) 0 rfl rfl ⟨by decide, by decide⟩ ⟨by decide, by decide⟩ rfl hl.1 (Nat.le_of_ble_eq_true rfl) rfl dX0_composeAnswer_17 (fun v u H locs hp hw => ?_)
  obtain ⟨f2_17, rfl⟩ : ∃ z, z = u := ⟨_, rfl⟩
  obtain ⟨rfl, hp_17⟩ := hp
  try dsimp only at hp_17
  have hw := Wd.sub (ws' := [(ed 0, .inr (0, [.ref (ed 1), .ref (ed 3), .ref (ed 4), .ref (ed 6), .ref (ed 8), .ref (ed 10), .ref (ed 12), .ref (ed 14), .int (nI (eSz E)), .int (nI (eLe E)), .int (eNu E), .int (nI (eAS E).toNat), .int (nI (eAN E).toNat), .int (nI (eSt E)), .int (nI (eId E)), .int (eTr E), .int (nI (eTi E))])), (ed 4, .inr (2, [.ref (ed 5), .int (nI G.length)])), (ed 5, .inl (g.2.1 0, 40, .inl fG)), (ed 10, .inr (2, [.ref (ed 11), .int (nI [1, (ansCode G (eLe E) (eNu E)), (G.getD 2 0)].length)])), (ed 11, .inl (g.2.1 0, 40, .inl f2_17))]) hw [0, 1, 2, 3, 4] rfl rfl
  refine W.eq (g2 := F0 m 20 ls []) rfl ?_
  refine lv_iconst (v := nI 3) hx hb dX0_composeAnswer_20 (by decide) ?_
  refine lv_istore_n (lv' := [(2, .int (nI 3)), (1, .int (nI (ansCode G (eLe E) (eNu E)))), (0, .ref (ed 0))]) hx hb dX0_composeAnswer_21 rfl hl (by decide) rfl (fun ls hl => ?_)
  have lp_22 : ∀ (fuel_22 : Nat) (k : Nat) (a3 : Nat) (Q : List Nat) (M : List Nat) (f4 : Nat → Int32) (H : Heap) (locs : List Loc) (ls : Array Slot), (G.length - k) < fuel_22 → (3 ≤ k ∧ k ≤ G.length - 2) → (wholeW G (G.length - 2) k = true) → (ansCode G (eLe E) (eNu E) = foldO (maxO G (eLe E) (eNu E)) G (G.length - 2) k a3) → (M = [1, ansCode G (eLe E) (eNu E), G.getD 2 0] ++ Q) → (Hd f4 M) → (Q.length ≤ k - 3) → (ansOpt G (eLe E) (eNu E) (ansCode G (eLe E) (eNu E)) = foldO (fun Q k => Q ++ optA G (eLe E) (eNu E) (ansCode G (eLe E) (eNu E)) k) G (G.length - 2) k Q) → Wd g (va_A [(ed 0, .inr (0, [.ref (ed 1), .ref (ed 3), .ref (ed 4), .ref (ed 6), .ref (ed 8), .ref (ed 10), .ref (ed 12), .ref (ed 14), .int (nI (eSz E)), .int (nI (eLe E)), .int (eNu E), .int (nI (eAS E).toNat), .int (nI (eAN E).toNat), .int (nI (eSt E)), .int (nI (eId E)), .int (eTr E), .int (nI (eTi E))])), (ed 4, .inr (2, [.ref (ed 5), .int (nI G.length)])), (ed 5, .inl (g.2.1 0, 40, .inl fG)), (ed 10, .inr (2, [.ref (ed 11), .int (nI N.length)])), (ed 11, .inl (g.2.1 0, 40, .inl fA))] s.heap.size) s H locs [(ed 0, .inr (0, [.ref (ed 1), .ref (ed 3), .ref (ed 4), .ref (ed 6), .ref (ed 8), .ref (ed 10), .ref (ed 12), .ref (ed 14), .int (nI (eSz E)), .int (nI (eLe E)), .int (eNu E), .int (nI (eAS E).toNat), .int (nI (eAN E).toNat), .int (nI (eSt E)), .int (nI (eId E)), .int (eTr E), .int (nI (eTi E))])), (ed 4, .inr (2, [.ref (ed 5), .int (nI G.length)])), (ed 5, .inl (g.2.1 0, 40, .inl fG)), (ed 10, .inr (2, [.ref (ed 11), .int (nI M.length)])), (ed 11, .inl (g.2.1 0, 40, .inl f4))] → lv_has ls 3 [(0, .ref (ed 0)), (1, .int (nI (ansCode G (eLe E) (eNu E)))), (2, .int (nI k))] → W P0 l e0 { frames := 3, cells := 0, slots := 0, locals := 66 } s m ([.ref (ed 0)] : List Value).toArray below meth c H locs 0 0 (RQ below ([.ref (ed 0)] : List Value).toArray s { frames := 3, cells := 0, slots := 0, locals := 66 } g [(ed 0, .inr (0, [.ref (ed 1), .ref (ed 3), .ref (ed 4), .ref (ed 6), .ref (ed 8), .ref (ed 10), .ref (ed 12), .ref (ed 14), .int (nI (eSz E)), .int (nI (eLe E)), .int (eNu E), .int (nI (eAS E).toNat), .int (nI (eAN E).toNat), .int (nI (eSt E)), .int (nI (eId E)), .int (eTr E), .int (nI (eTi E))])), (ed 4, .inr (2, [.ref (ed 5), .int (nI G.length)])), (ed 5, .inl (g.2.1 0, 40, .inl fG)), (ed 10, .inr (2, [.ref (ed 11), .int (nI N.length)])), (ed 11, .inl (g.2.1 0, 40, .inl fA))] (fun (v : Option Value) (u : (Nat → Int32)) => v = none ∧ Hd u (ansL G (eLe E) (eNu E))) (fun u : (Nat → Int32) => [(ed 0, .inr (0, [.ref (ed 1), .ref (ed 3), .ref (ed 4), .ref (ed 6), .ref (ed 8), .ref (ed 10), .ref (ed 12), .ref (ed 14), .int (nI (eSz E)), .int (nI (eLe E)), .int (eNu E), .int (nI (eAS E).toNat), .int (nI (eAN E).toNat), .int (nI (eSt E)), .int (nI (eId E)), .int (eTr E), .int (nI (eTi E))])), (ed 4, .inr (2, [.ref (ed 5), .int (nI G.length)])), (ed 5, .inl (g.2.1 0, 40, .inl fG)), (ed 10, .inr (2, [.ref (ed 11), .int (nI (ansL G (eLe E) (eNu E)).length)])), (ed 11, .inl (g.2.1 0, 40, .inl u))])) (F0 m 22 ls []) := by
    intro fuel_22
    induction fuel_22 with
    | zero => intro k a3 Q M f4 H locs ls hm_22; exact absurd hm_22 (Nat.not_lt_zero _)
    | succ fuel_22 ih_22 =>
      intro k a3 Q M f4 H locs ls hm_22 hk hwk hac hM hf4 hQl hop hw hl
      have hbk := hGB.get k
      have hob := optLen_b (G.getD k 0)
      have hol := oa_le (G := G) (le := eLe E) (nu := eNu E) (k := k)
      refine lv_iload_n hx hb dX0_composeAnswer_22 rfl (lv_at hl 2 rfl) ?_
      refine lv_aload_n hx hb dX0_composeAnswer_23 rfl (lv_at hl 0 rfl) ?_
      refine wget hF hw flX0_22 dX0_composeAnswer_24 0 rfl rfl ?_
      refine Ct.callV (wr := [(ed 0, .inr (0, [.ref (ed 1), .ref (ed 3), .ref (ed 4), .ref (ed 6), .ref (ed 8), .ref (ed 10), .ref (ed 12), .ref (ed 14), .int (nI (eSz E)), .int (nI (eLe E)), .int (eNu E), .int (nI (eAS E).toNat), .int (nI (eAN E).toNat), .int (nI (eSt E)), .int (nI (eId E)), .int (eTr E), .int (nI (eTi E))])), (ed 10, .inr (2, [.ref (ed 11), .int (nI M.length)])), (ed 11, .inl (g.2.1 0, 40, .inl f4))]) hF hw (c_X3_end l g (ed 4) (ed 5) 40 fG G (by decide) (hG40) (by omega)) mwX0_165 [1, 2] [0, 3, 4] rfl rfl rfl rfl (by decide) 0 rfl rfl ⟨by decide, by decide⟩ ⟨by decide, by decide⟩ rfl hl.1 (Nat.le_of_ble_eq_true rfl) rfl dX0_composeAnswer_27 (fun v u H locs hp hw => ?_)
      obtain ⟨rfl, hp_27⟩ := hp
      have hw := Wd.sub (ws' := [(ed 0, .inr (0, [.ref (ed 1), .ref (ed 3), .ref (ed 4), .ref (ed 6), .ref (ed 8), .ref (ed 10), .ref (ed 12), .ref (ed 14), .int (nI (eSz E)), .int (nI (eLe E)), .int (eNu E), .int (nI (eAS E).toNat), .int (nI (eAN E).toNat), .int (nI (eSt E)), .int (nI (eId E)), .int (eTr E), .int (nI (eTi E))])), (ed 4, .inr (2, [.ref (ed 5), .int (nI G.length)])), (ed 5, .inl (g.2.1 0, 40, .inl fG)), (ed 10, .inr (2, [.ref (ed 11), .int (nI M.length)])), (ed 11, .inl (g.2.1 0, 40, .inl f4))]) hw [0, 3, 4, 1, 2] rfl rfl
      refine W.eq (g2 := F0 m 30 ls [.int (nI (G.length - 2)), .int (nI k)]) rfl ?_
      refine r_ge (tgt := 65) hx hb dX0_composeAnswer_30 (by decide) (by omega) (by omega) (fun c_30 => ?_) (fun c_30 => ?_)
      · have hfin : M = ansL G (eLe E) (eNu E) := by rw [hM]; unfold ansL; rw [hop, foldO_o (by omega)]
        exact RQ.vret hF hr hlk hw dX0_composeAnswer_65 ⟨by decide, by decide⟩ ((f4)) (by rw [hfin]) ⟨rfl, by rw [← hfin]; exact hf4⟩
      · have c_30n : k < G.length - 2 := by omega
        have hstp := wholeW_step c_30n hwk
        have hjc : judgeN G (eLe E) (eNu E) k ≤ ansCode G (eLe E) (eNu E) := by rw [hac, foldO_t c_30n]; exact Nat.le_trans judge_le (foldM_ge _ _ _ (Nat.le_refl _))
        have hoe := opt_oa hab hjc
        have hop9 := hop
        rw [foldO_t c_30n] at hop9
        have hMl : M.length = 3 + Q.length := by rw [hM, List.length_append]; rfl
        refine lv_aload_n hx hb dX0_composeAnswer_33 rfl (lv_at hl 0 rfl) ?_
        refine lv_iload_n hx hb dX0_composeAnswer_34 rfl (lv_at hl 2 rfl) ?_
        refine Ct.callV (wr := [(ed 10, .inr (2, [.ref (ed 11), .int (nI M.length)])), (ed 11, .inl (g.2.1 0, 40, .inl f4))]) hF hw (c_X0_optionAnswer l g ed E fG G k (by assumption) (by assumption) (by assumption) (by assumption) (hstp.1)) mwX0_235 [0, 1, 2] [3, 4] rfl rfl rfl rfl (by decide) 0 rfl rfl ⟨by decide, by decide⟩ ⟨by decide, by decide⟩ rfl hl.1 (Nat.le_of_ble_eq_true rfl) rfl dX0_composeAnswer_35 (fun v u H locs hp hw => ?_)
        obtain ⟨rfl, hp_35⟩ := hp
        have hw := Wd.sub (ws' := [(ed 0, .inr (0, [.ref (ed 1), .ref (ed 3), .ref (ed 4), .ref (ed 6), .ref (ed 8), .ref (ed 10), .ref (ed 12), .ref (ed 14), .int (nI (eSz E)), .int (nI (eLe E)), .int (eNu E), .int (nI (eAS E).toNat), .int (nI (eAN E).toNat), .int (nI (eSt E)), .int (nI (eId E)), .int (eTr E), .int (nI (eTi E))])), (ed 4, .inr (2, [.ref (ed 5), .int (nI G.length)])), (ed 5, .inl (g.2.1 0, 40, .inl fG)), (ed 10, .inr (2, [.ref (ed 11), .int (nI M.length)])), (ed 11, .inl (g.2.1 0, 40, .inl f4))]) hw [2, 3, 4, 0, 1] rfl rfl
        refine W.eq (g2 := F0 m 38 ls [.int (nI (oaN G (eLe E) (eNu E) k))]) rfl ?_
        refine lv_iload_n hx hb dX0_composeAnswer_38 rfl (lv_at hl 1 rfl) ?_
        refine r_ne (tgt := 48) hx hb dX0_composeAnswer_39 (by decide) (by omega) (by omega) (fun c_39 => ?_) (fun c_39 => ?_)
        · rw [if_neg c_39] at hoe
          have hM9 := hM
          have hf9 := hf4
          have hQ9 : Q.length ≤ k + optLen (G.getD k 0) - 3 := by omega
          rw [hoe, List.append_nil] at hop9
          refine lv_iload_n hx hb dX0_composeAnswer_48 rfl (lv_at hl 2 rfl) ?_
          refine lv_aload_n hx hb dX0_composeAnswer_49 rfl (lv_at hl 0 rfl) ?_
          refine wget hF hw flX0_22 dX0_composeAnswer_50 0 rfl rfl ?_
          refine lv_iload_n hx hb dX0_composeAnswer_53 rfl (lv_at hl 2 rfl) ?_
          refine Ct.callV (wr := [(ed 0, .inr (0, [.ref (ed 1), .ref (ed 3), .ref (ed 4), .ref (ed 6), .ref (ed 8), .ref (ed 10), .ref (ed 12), .ref (ed 14), .int (nI (eSz E)), .int (nI (eLe E)), .int (eNu E), .int (nI (eAS E).toNat), .int (nI (eAN E).toNat), .int (nI (eSt E)), .int (nI (eId E)), .int (eTr E), .int (nI (eTi E))])), (ed 10, .inr (2, [.ref (ed 11), .int (nI M.length)])), (ed 11, .inl (g.2.1 0, 40, .inl f4))]) hF hw (c_X3_at l g (ed 4) (ed 5) 40 fG G k (by decide) (hG40) (by omega) (hfG)) mwX0_171 [1, 2] [0, 3, 4] rfl rfl rfl rfl (by decide) 0 rfl rfl ⟨by decide, by decide⟩ ⟨by decide, by decide⟩ rfl hl.1 (Nat.le_of_ble_eq_true rfl) rfl dX0_composeAnswer_54 (fun v u H locs hp hw => ?_)
          obtain ⟨rfl, hp_54⟩ := hp
          have hw := Wd.sub (ws' := [(ed 0, .inr (0, [.ref (ed 1), .ref (ed 3), .ref (ed 4), .ref (ed 6), .ref (ed 8), .ref (ed 10), .ref (ed 12), .ref (ed 14), .int (nI (eSz E)), .int (nI (eLe E)), .int (eNu E), .int (nI (eAS E).toNat), .int (nI (eAN E).toNat), .int (nI (eSt E)), .int (nI (eId E)), .int (eTr E), .int (nI (eTi E))])), (ed 4, .inr (2, [.ref (ed 5), .int (nI G.length)])), (ed 5, .inl (g.2.1 0, 40, .inl fG)), (ed 10, .inr (2, [.ref (ed 11), .int (nI M.length)])), (ed 11, .inl (g.2.1 0, 40, .inl f4))]) hw [0, 3, 4, 1, 2] rfl rfl
          refine W.eq (g2 := F0 m 57 ls [.int (nI (G.getD k 0)), .int (nI k)]) rfl ?_
          refine Ct.callS (wr := [(ed 0, .inr (0, [.ref (ed 1), .ref (ed 3), .ref (ed 4), .ref (ed 6), .ref (ed 8), .ref (ed 10), .ref (ed 12), .ref (ed 14), .int (nI (eSz E)), .int (nI (eLe E)), .int (eNu E), .int (nI (eAS E).toNat), .int (nI (eAN E).toNat), .int (nI (eSt E)), .int (nI (eId E)), .int (eTr E), .int (nI (eTi E))])), (ed 4, .inr (2, [.ref (ed 5), .int (nI G.length)])), (ed 5, .inl (g.2.1 0, 40, .inl fG)), (ed 10, .inr (2, [.ref (ed 11), .int (nI M.length)])), (ed 11, .inl (g.2.1 0, 40, .inl f4))]) hF hw (c_X3_optionLength l g (G.getD k 0) (by omega)) mwX0_174 [] [0, 1, 2, 3, 4] rfl rfl rfl rfl (by decide) ⟨by decide, by decide⟩ ⟨by decide, by decide⟩ rfl hl.1 (Nat.le_of_ble_eq_true rfl) rfl dX0_composeAnswer_57 (fun v u H locs hp hw => ?_)
          obtain ⟨rfl, hp_57⟩ := hp
          have hw := Wd.sub (ws' := [(ed 0, .inr (0, [.ref (ed 1), .ref (ed 3), .ref (ed 4), .ref (ed 6), .ref (ed 8), .ref (ed 10), .ref (ed 12), .ref (ed 14), .int (nI (eSz E)), .int (nI (eLe E)), .int (eNu E), .int (nI (eAS E).toNat), .int (nI (eAN E).toNat), .int (nI (eSt E)), .int (nI (eId E)), .int (eTr E), .int (nI (eTi E))])), (ed 4, .inr (2, [.ref (ed 5), .int (nI G.length)])), (ed 5, .inl (g.2.1 0, 40, .inl fG)), (ed 10, .inr (2, [.ref (ed 11), .int (nI M.length)])), (ed 11, .inl (g.2.1 0, 40, .inl f4))]) hw [0, 1, 2, 3, 4] rfl rfl
          refine W.eq (g2 := F0 m 60 ls [.int (nI (optLen (G.getD k 0))), .int (nI k)]) rfl ?_
          refine r_iadd hx hb dX0_composeAnswer_60 ?_
          refine lv_istore_n (lv' := [(2, .int (nI (k + (optLen (G.getD k 0))))), (0, .ref (ed 0)), (1, .int (nI (ansCode G (eLe E) (eNu E))))]) hx hb dX0_composeAnswer_61 rfl hl (by decide) rfl (fun ls hl => ?_)
          refine lv_goto (tgt := 22) hx hb dX0_composeAnswer_62 (by decide) ?_
          exact ih_22 (k + (optLen (G.getD k 0))) (maxO G (eLe E) (eNu E) a3 k) Q M f4 _ _ _ (by omega) (⟨by omega, hstp.1⟩) (hstp.2.1) (by rw [hac]; exact foldO_t c_30n) (hM9) (hf9) (hQ9) (hop9) hw (lv_sub hl [1, 2, 0] rfl)
        · have h35 : ansCode G (eLe E) (eNu E) = 3 → G.getD k 0 = 1 ∨ G.getD k 0 = 5 := fun q => oa_35 (c_39.trans q)
          refine lv_aload_n hx hb dX0_composeAnswer_42 rfl (lv_at hl 0 rfl) ?_
          refine lv_iload_n hx hb dX0_composeAnswer_43 rfl (lv_at hl 1 rfl) ?_
          refine lv_iload_n hx hb dX0_composeAnswer_44 rfl (lv_at hl 2 rfl) ?_
          refine Ct.callV (wr := []) hF hw (c_X0_answerOption l g ed E fG f4 G M (ansCode G (eLe E) (eNu E)) k (by omega) (by assumption) (by assumption) (by assumption) (by assumption) (hstp.1) (hf4) (by omega) (h35)) mwX0_238 [0, 1, 2, 3, 4] [] rfl rfl rfl rfl (by decide) 0 rfl rfl ⟨by decide, by decide⟩ ⟨by decide, by decide⟩ rfl hl.1 (Nat.le_of_ble_eq_true rfl) rfl dX0_composeAnswer_45 (fun v u H locs hp hw => ?_)
          obtain ⟨f2_45, rfl⟩ : ∃ z, z = u := ⟨_, rfl⟩
          obtain ⟨rfl, hp_45⟩ := hp
          try dsimp only at hp_45
          have hw := Wd.sub (ws' := [(ed 0, .inr (0, [.ref (ed 1), .ref (ed 3), .ref (ed 4), .ref (ed 6), .ref (ed 8), .ref (ed 10), .ref (ed 12), .ref (ed 14), .int (nI (eSz E)), .int (nI (eLe E)), .int (eNu E), .int (nI (eAS E).toNat), .int (nI (eAN E).toNat), .int (nI (eSt E)), .int (nI (eId E)), .int (eTr E), .int (nI (eTi E))])), (ed 4, .inr (2, [.ref (ed 5), .int (nI G.length)])), (ed 5, .inl (g.2.1 0, 40, .inl fG)), (ed 10, .inr (2, [.ref (ed 11), .int (nI (M ++ oaL (ansCode G (eLe E) (eNu E)) G (eLe E) (eNu E) k).length)])), (ed 11, .inl (g.2.1 0, 40, .inl f2_45))]) hw [0, 1, 2, 3, 4] rfl rfl
          refine W.eq (g2 := F0 m 48 ls []) rfl ?_
          rw [if_pos c_39] at hoe
          have hM9 : M ++ oaL (ansCode G (eLe E) (eNu E)) G (eLe E) (eNu E) k = [1, ansCode G (eLe E) (eNu E), G.getD 2 0] ++ (Q ++ oaL (ansCode G (eLe E) (eNu E)) G (eLe E) (eNu E) k) := by rw [hM, List.append_assoc]
          have hf9 := hp_45
          have hQ9 : (Q ++ oaL (ansCode G (eLe E) (eNu E)) G (eLe E) (eNu E) k).length ≤ k + optLen (G.getD k 0) - 3 := by rw [List.length_append]; have := oaL_lo (le := eLe E) (nu := eNu E) h35; omega
          rw [hoe] at hop9
          refine lv_iload_n hx hb dX0_composeAnswer_48 rfl (lv_at hl 2 rfl) ?_
          refine lv_aload_n hx hb dX0_composeAnswer_49 rfl (lv_at hl 0 rfl) ?_
          refine wget hF hw flX0_22 dX0_composeAnswer_50 0 rfl rfl ?_
          refine lv_iload_n hx hb dX0_composeAnswer_53 rfl (lv_at hl 2 rfl) ?_
          refine Ct.callV (wr := [(ed 0, .inr (0, [.ref (ed 1), .ref (ed 3), .ref (ed 4), .ref (ed 6), .ref (ed 8), .ref (ed 10), .ref (ed 12), .ref (ed 14), .int (nI (eSz E)), .int (nI (eLe E)), .int (eNu E), .int (nI (eAS E).toNat), .int (nI (eAN E).toNat), .int (nI (eSt E)), .int (nI (eId E)), .int (eTr E), .int (nI (eTi E))])), (ed 10, .inr (2, [.ref (ed 11), .int (nI (M ++ oaL (ansCode G (eLe E) (eNu E)) G (eLe E) (eNu E) k).length)])), (ed 11, .inl (g.2.1 0, 40, .inl f2_45))]) hF hw (c_X3_at l g (ed 4) (ed 5) 40 fG G k (by decide) (hG40) (by omega) (hfG)) mwX0_171 [1, 2] [0, 3, 4] rfl rfl rfl rfl (by decide) 0 rfl rfl ⟨by decide, by decide⟩ ⟨by decide, by decide⟩ rfl hl.1 (Nat.le_of_ble_eq_true rfl) rfl dX0_composeAnswer_54 (fun v u H locs hp hw => ?_)
          obtain ⟨rfl, hp_54⟩ := hp
          have hw := Wd.sub (ws' := [(ed 0, .inr (0, [.ref (ed 1), .ref (ed 3), .ref (ed 4), .ref (ed 6), .ref (ed 8), .ref (ed 10), .ref (ed 12), .ref (ed 14), .int (nI (eSz E)), .int (nI (eLe E)), .int (eNu E), .int (nI (eAS E).toNat), .int (nI (eAN E).toNat), .int (nI (eSt E)), .int (nI (eId E)), .int (eTr E), .int (nI (eTi E))])), (ed 4, .inr (2, [.ref (ed 5), .int (nI G.length)])), (ed 5, .inl (g.2.1 0, 40, .inl fG)), (ed 10, .inr (2, [.ref (ed 11), .int (nI (M ++ oaL (ansCode G (eLe E) (eNu E)) G (eLe E) (eNu E) k).length)])), (ed 11, .inl (g.2.1 0, 40, .inl f2_45))]) hw [0, 3, 4, 1, 2] rfl rfl
          refine W.eq (g2 := F0 m 57 ls [.int (nI (G.getD k 0)), .int (nI k)]) rfl ?_
          refine Ct.callS (wr := [(ed 0, .inr (0, [.ref (ed 1), .ref (ed 3), .ref (ed 4), .ref (ed 6), .ref (ed 8), .ref (ed 10), .ref (ed 12), .ref (ed 14), .int (nI (eSz E)), .int (nI (eLe E)), .int (eNu E), .int (nI (eAS E).toNat), .int (nI (eAN E).toNat), .int (nI (eSt E)), .int (nI (eId E)), .int (eTr E), .int (nI (eTi E))])), (ed 4, .inr (2, [.ref (ed 5), .int (nI G.length)])), (ed 5, .inl (g.2.1 0, 40, .inl fG)), (ed 10, .inr (2, [.ref (ed 11), .int (nI (M ++ oaL (ansCode G (eLe E) (eNu E)) G (eLe E) (eNu E) k).length)])), (ed 11, .inl (g.2.1 0, 40, .inl f2_45))]) hF hw (c_X3_optionLength l g (G.getD k 0) (by omega)) mwX0_174 [] [0, 1, 2, 3, 4] rfl rfl rfl rfl (by decide) ⟨by decide, by decide⟩ ⟨by decide, by decide⟩ rfl hl.1 (Nat.le_of_ble_eq_true rfl) rfl dX0_composeAnswer_57 (fun v u H locs hp hw => ?_)
          obtain ⟨rfl, hp_57⟩ := hp
          have hw := Wd.sub (ws' := [(ed 0, .inr (0, [.ref (ed 1), .ref (ed 3), .ref (ed 4), .ref (ed 6), .ref (ed 8), .ref (ed 10), .ref (ed 12), .ref (ed 14), .int (nI (eSz E)), .int (nI (eLe E)), .int (eNu E), .int (nI (eAS E).toNat), .int (nI (eAN E).toNat), .int (nI (eSt E)), .int (nI (eId E)), .int (eTr E), .int (nI (eTi E))])), (ed 4, .inr (2, [.ref (ed 5), .int (nI G.length)])), (ed 5, .inl (g.2.1 0, 40, .inl fG)), (ed 10, .inr (2, [.ref (ed 11), .int (nI (M ++ oaL (ansCode G (eLe E) (eNu E)) G (eLe E) (eNu E) k).length)])), (ed 11, .inl (g.2.1 0, 40, .inl f2_45))]) hw [0, 1, 2, 3, 4] rfl rfl
          refine W.eq (g2 := F0 m 60 ls [.int (nI (optLen (G.getD k 0))), .int (nI k)]) rfl ?_
          refine r_iadd hx hb dX0_composeAnswer_60 ?_
          refine lv_istore_n (lv' := [(2, .int (nI (k + (optLen (G.getD k 0))))), (0, .ref (ed 0)), (1, .int (nI (ansCode G (eLe E) (eNu E))))]) hx hb dX0_composeAnswer_61 rfl hl (by decide) rfl (fun ls hl => ?_)
          refine lv_goto (tgt := 22) hx hb dX0_composeAnswer_62 (by decide) ?_
          exact ih_22 (k + (optLen (G.getD k 0))) (maxO G (eLe E) (eNu E) a3 k) (Q ++ oaL (ansCode G (eLe E) (eNu E)) G (eLe E) (eNu E) k) (M ++ oaL (ansCode G (eLe E) (eNu E)) G (eLe E) (eNu E) k) f2_45 _ _ _ (by omega) (⟨by omega, hstp.1⟩) (hstp.2.1) (by rw [hac]; exact foldO_t c_30n) (hM9) (hf9) (hQ9) (hop9) hw (lv_sub hl [1, 2, 0] rfl)
  exact lp_22 _ 3 2 [] [1, ansCode G (eLe E) (eNu E), G.getD 2 0] f2_17 _ _ _ (Nat.lt_succ_self _) (by omega) (hwh) (rfl) (by simp) (hp_17) (Nat.zero_le _) (rfl) hw (lv_sub hl [2, 1, 0] rfl)
