set_option maxHeartbeats 4000000 in
set_option maxRecDepth 100000 in
theorem c_X0_answerCode (l : Launch) (g : GE) (ed : Nat → Nat) (E : AE) (fG : Nat → Int32) (G : List Nat) (hl2 : eLe E < 65536) (hfG : Hd fG G) (hG40 : G.length ≤ 40) (hGB : Bt G) (h5 : 5 ≤ G.length) (hwh : wholeW G (G.length - 2) 3 = true) : Ct l yX0_answerCode cX0_answerCode 3 (some .int) { frames := 2, cells := 0, slots := 0, locals := 44 } g [.ref (ed 0)] [(ed 0, .inr (0, [.ref (ed 1), .ref (ed 3), .ref (ed 4), .ref (ed 6), .ref (ed 8), .ref (ed 10), .ref (ed 12), .ref (ed 14), .int (nI (eSz E)), .int (nI (eLe E)), .int (eNu E), .int (nI (eAS E).toNat), .int (nI (eAN E).toNat), .int (nI (eSt E)), .int (nI (eId E)), .int (eTr E), .int (nI (eTi E))])), (ed 4, .inr (2, [.ref (ed 5), .int (nI G.length)])), (ed 5, .inl (g.2.1 0, 40, .inl fG))] (fun (v : Option Value) (u : Unit) => v = some (.int (nI (ansCode G (eLe E) (eNu E)))) ∧ True) (fun u : Unit => [(ed 0, .inr (0, [.ref (ed 1), .ref (ed 3), .ref (ed 4), .ref (ed 6), .ref (ed 8), .ref (ed 10), .ref (ed 12), .ref (ed 14), .int (nI (eSz E)), .int (nI (eLe E)), .int (eNu E), .int (nI (eAS E).toNat), .int (nI (eAN E).toNat), .int (nI (eSt E)), .int (nI (eId E)), .int (eTr E), .int (nI (eTi E))])), (ed 4, .inr (2, [.ref (ed 5), .int (nI G.length)])), (ed 5, .inl (g.2.1 0, 40, .inl fG))]) := by
  refine Ct.of (own := RX0) rfl rfl (Nat.le_of_ble_eq_true rfl) ?_
  intro P0 e0 s m below meth c ls hF hr hlk hnm hw hl
  have hx := hF.1
  have hb := hF.2.1
  have hl : lv_has ls 3 [(0, .ref (ed 0))] := hl
  refine lv_iconst (v := nI 2) hx hb dX0_answerCode_0 (by decide) ?_
  refine lv_istore_n (lv' := [(1, .int (nI 2)), (0, .ref (ed 0))]) hx hb dX0_answerCode_1 rfl hl (by decide) rfl (fun ls hl => ?_)
  refine lv_iconst (v := nI 3) hx hb dX0_answerCode_2 (by decide) ?_
  refine lv_istore_n (lv' := [(2, .int (nI 3)), (1, .int (nI 2)), (0, .ref (ed 0))]) hx hb dX0_answerCode_3 rfl hl (by decide) rfl (fun ls hl => ?_)
  have lp_4 : ∀ (fuel_4 : Nat) (k : Nat) (a3 : Nat) (H : Heap) (locs : List Loc) (ls : Array Slot), (G.length - k) < fuel_4 → (3 ≤ k ∧ k ≤ G.length - 2) → (wholeW G (G.length - 2) k = true) → (2 ≤ a3 ∧ a3 ≤ 4) → (ansCode G (eLe E) (eNu E) = foldO (maxO G (eLe E) (eNu E)) G (G.length - 2) k a3) → Wd g (va_A [(ed 0, .inr (0, [.ref (ed 1), .ref (ed 3), .ref (ed 4), .ref (ed 6), .ref (ed 8), .ref (ed 10), .ref (ed 12), .ref (ed 14), .int (nI (eSz E)), .int (nI (eLe E)), .int (eNu E), .int (nI (eAS E).toNat), .int (nI (eAN E).toNat), .int (nI (eSt E)), .int (nI (eId E)), .int (eTr E), .int (nI (eTi E))])), (ed 4, .inr (2, [.ref (ed 5), .int (nI G.length)])), (ed 5, .inl (g.2.1 0, 40, .inl fG))] s.heap.size) s H locs [(ed 0, .inr (0, [.ref (ed 1), .ref (ed 3), .ref (ed 4), .ref (ed 6), .ref (ed 8), .ref (ed 10), .ref (ed 12), .ref (ed 14), .int (nI (eSz E)), .int (nI (eLe E)), .int (eNu E), .int (nI (eAS E).toNat), .int (nI (eAN E).toNat), .int (nI (eSt E)), .int (nI (eId E)), .int (eTr E), .int (nI (eTi E))])), (ed 4, .inr (2, [.ref (ed 5), .int (nI G.length)])), (ed 5, .inl (g.2.1 0, 40, .inl fG))] → lv_has ls 3 [(0, .ref (ed 0)), (1, .int (nI a3)), (2, .int (nI k))] → W P0 l e0 { frames := 2, cells := 0, slots := 0, locals := 44 } s m ([.ref (ed 0)] : List Value).toArray below meth c H locs 0 0 (RQ below ([.ref (ed 0)] : List Value).toArray s { frames := 2, cells := 0, slots := 0, locals := 44 } g [(ed 0, .inr (0, [.ref (ed 1), .ref (ed 3), .ref (ed 4), .ref (ed 6), .ref (ed 8), .ref (ed 10), .ref (ed 12), .ref (ed 14), .int (nI (eSz E)), .int (nI (eLe E)), .int (eNu E), .int (nI (eAS E).toNat), .int (nI (eAN E).toNat), .int (nI (eSt E)), .int (nI (eId E)), .int (eTr E), .int (nI (eTi E))])), (ed 4, .inr (2, [.ref (ed 5), .int (nI G.length)])), (ed 5, .inl (g.2.1 0, 40, .inl fG))] (fun (v : Option Value) (u : Unit) => v = some (.int (nI (ansCode G (eLe E) (eNu E)))) ∧ True) (fun u : Unit => [(ed 0, .inr (0, [.ref (ed 1), .ref (ed 3), .ref (ed 4), .ref (ed 6), .ref (ed 8), .ref (ed 10), .ref (ed 12), .ref (ed 14), .int (nI (eSz E)), .int (nI (eLe E)), .int (eNu E), .int (nI (eAS E).toNat), .int (nI (eAN E).toNat), .int (nI (eSt E)), .int (nI (eId E)), .int (eTr E), .int (nI (eTi E))])), (ed 4, .inr (2, [.ref (ed 5), .int (nI G.length)])), (ed 5, .inl (g.2.1 0, 40, .inl fG))])) (F0 m 4 ls []) := by
    intro fuel_4
    induction fuel_4 with
    | zero => intro k a3 H locs ls hm_4; exact absurd hm_4 (Nat.not_lt_zero _)
    | succ fuel_4 ih_4 =>
      intro k a3 H locs ls hm_4 hk hwk ha hac hw hl
      have hbk := hGB.get k
      have hob := optLen_b (G.getD k 0)
      have hol := oa_le (G := G) (le := eLe E) (nu := eNu E) (k := k)
      refine lv_iload_n hx hb dX0_answerCode_4 rfl (lv_at hl 2 rfl) ?_
      refine lv_aload_n hx hb dX0_answerCode_5 rfl (lv_at hl 0 rfl) ?_
      refine wget hF hw flX0_22 dX0_answerCode_6 0 rfl rfl ?_
      refine Ct.callV (wr := [(ed 0, .inr (0, [.ref (ed 1), .ref (ed 3), .ref (ed 4), .ref (ed 6), .ref (ed 8), .ref (ed 10), .ref (ed 12), .ref (ed 14), .int (nI (eSz E)), .int (nI (eLe E)), .int (eNu E), .int (nI (eAS E).toNat), .int (nI (eAN E).toNat), .int (nI (eSt E)), .int (nI (eId E)), .int (eTr E), .int (nI (eTi E))]))]) hF hw (c_X3_end l g (ed 4) (ed 5) 40 fG G (by decide) (hG40) (by omega)) mwX0_165 [1, 2] [0] rfl rfl rfl rfl (by decide) 0 rfl rfl ⟨by decide, by decide⟩ ⟨by decide, by decide⟩ rfl hl.1 (Nat.le_of_ble_eq_true rfl) rfl dX0_answerCode_9 (fun v u H locs hp hw => ?_)
      obtain ⟨rfl, hp_9⟩ := hp
      have hw := Wd.sub (ws' := [(ed 0, .inr (0, [.ref (ed 1), .ref (ed 3), .ref (ed 4), .ref (ed 6), .ref (ed 8), .ref (ed 10), .ref (ed 12), .ref (ed 14), .int (nI (eSz E)), .int (nI (eLe E)), .int (eNu E), .int (nI (eAS E).toNat), .int (nI (eAN E).toNat), .int (nI (eSt E)), .int (nI (eId E)), .int (eTr E), .int (nI (eTi E))])), (ed 4, .inr (2, [.ref (ed 5), .int (nI G.length)])), (ed 5, .inl (g.2.1 0, 40, .inl fG))]) hw [0, 1, 2] rfl rfl
      refine W.eq (g2 := F0 m 12 ls [.int (nI (G.length - 2)), .int (nI k)]) rfl ?_
      refine r_ge (tgt := 42) hx hb dX0_answerCode_12 (by decide) (by omega) (by omega) (fun c_12 => ?_) (fun c_12 => ?_)
      · refine lv_iload_n hx hb dX0_answerCode_42 rfl (lv_at hl 1 rfl) ?_
        exact RQ.iret hF hr hlk hw dX0_answerCode_43 ⟨by decide, by decide⟩ (()) (rfl) ⟨by rw [hac, foldO_o (by omega)], trivial⟩
      · have c_12n : k < G.length - 2 := by omega
        have hstp := wholeW_step c_12n hwk
        refine lv_iload_n hx hb dX0_answerCode_15 rfl (lv_at hl 1 rfl) ?_
        refine lv_aload_n hx hb dX0_answerCode_16 rfl (lv_at hl 0 rfl) ?_
        refine lv_iload_n hx hb dX0_answerCode_17 rfl (lv_at hl 2 rfl) ?_
        refine Ct.callV (wr := []) hF hw (c_X0_optionAnswer l g ed E fG G k (by assumption) (by assumption) (by assumption) (by assumption) (hstp.1)) mwX0_235 [0, 1, 2] [] rfl rfl rfl rfl (by decide) 0 rfl rfl ⟨by decide, by decide⟩ ⟨by decide, by decide⟩ rfl hl.1 (Nat.le_of_ble_eq_true rfl) rfl dX0_answerCode_18 (fun v u H locs hp hw => ?_)
        obtain ⟨rfl, hp_18⟩ := hp
        have hw := Wd.sub (ws' := [(ed 0, .inr (0, [.ref (ed 1), .ref (ed 3), .ref (ed 4), .ref (ed 6), .ref (ed 8), .ref (ed 10), .ref (ed 12), .ref (ed 14), .int (nI (eSz E)), .int (nI (eLe E)), .int (eNu E), .int (nI (eAS E).toNat), .int (nI (eAN E).toNat), .int (nI (eSt E)), .int (nI (eId E)), .int (eTr E), .int (nI (eTi E))])), (ed 4, .inr (2, [.ref (ed 5), .int (nI G.length)])), (ed 5, .inl (g.2.1 0, 40, .inl fG))]) hw [0, 1, 2] rfl rfl
        refine W.eq (g2 := F0 m 21 ls [.int (nI (oaN G (eLe E) (eNu E) k)), .int (nI a3)]) rfl ?_
        refine wmax hF hl.1 mwX0_241 ⟨by decide, by decide⟩ ⟨by decide, by decide⟩ (Nat.le_of_ble_eq_true rfl) (by omega) (by omega) dX0_answerCode_21 ?_
        refine lv_istore_n (lv' := [(1, .int (nI (mxN a3 (oaN G (eLe E) (eNu E) k)))), (0, .ref (ed 0)), (2, .int (nI k))]) hx hb dX0_answerCode_24 rfl hl (by decide) rfl (fun ls hl => ?_)
        refine lv_iload_n hx hb dX0_answerCode_25 rfl (lv_at hl 2 rfl) ?_
        refine lv_aload_n hx hb dX0_answerCode_26 rfl (lv_at hl 1 rfl) ?_
        refine wget hF hw flX0_22 dX0_answerCode_27 0 rfl rfl ?_
        refine lv_iload_n hx hb dX0_answerCode_30 rfl (lv_at hl 2 rfl) ?_
        refine Ct.callV (wr := [(ed 0, .inr (0, [.ref (ed 1), .ref (ed 3), .ref (ed 4), .ref (ed 6), .ref (ed 8), .ref (ed 10), .ref (ed 12), .ref (ed 14), .int (nI (eSz E)), .int (nI (eLe E)), .int (eNu E), .int (nI (eAS E).toNat), .int (nI (eAN E).toNat), .int (nI (eSt E)), .int (nI (eId E)), .int (eTr E), .int (nI (eTi E))]))]) hF hw (c_X3_at l g (ed 4) (ed 5) 40 fG G k (by decide) (hG40) (by omega) (hfG)) mwX0_171 [1, 2] [0] rfl rfl rfl rfl (by decide) 0 rfl rfl ⟨by decide, by decide⟩ ⟨by decide, by decide⟩ rfl hl.1 (Nat.le_of_ble_eq_true rfl) rfl dX0_answerCode_31 (fun v u H locs hp hw => ?_)
        obtain ⟨rfl, hp_31⟩ := hp
        have hw := Wd.sub (ws' := [(ed 0, .inr (0, [.ref (ed 1), .ref (ed 3), .ref (ed 4), .ref (ed 6), .ref (ed 8), .ref (ed 10), .ref (ed 12), .ref (ed 14), .int (nI (eSz E)), .int (nI (eLe E)), .int (eNu E), .int (nI (eAS E).toNat), .int (nI (eAN E).toNat), .int (nI (eSt E)), .int (nI (eId E)), .int (eTr E), .int (nI (eTi E))])), (ed 4, .inr (2, [.ref (ed 5), .int (nI G.length)])), (ed 5, .inl (g.2.1 0, 40, .inl fG))]) hw [0, 1, 2] rfl rfl
        refine W.eq (g2 := F0 m 34 ls [.int (nI (G.getD k 0)), .int (nI k)]) rfl ?_
        refine Ct.callS (wr := [(ed 0, .inr (0, [.ref (ed 1), .ref (ed 3), .ref (ed 4), .ref (ed 6), .ref (ed 8), .ref (ed 10), .ref (ed 12), .ref (ed 14), .int (nI (eSz E)), .int (nI (eLe E)), .int (eNu E), .int (nI (eAS E).toNat), .int (nI (eAN E).toNat), .int (nI (eSt E)), .int (nI (eId E)), .int (eTr E), .int (nI (eTi E))])), (ed 4, .inr (2, [.ref (ed 5), .int (nI G.length)])), (ed 5, .inl (g.2.1 0, 40, .inl fG))]) hF hw (c_X3_optionLength l g (G.getD k 0) (by omega)) mwX0_174 [] [0, 1, 2] rfl rfl rfl rfl (by decide) ⟨by decide, by decide⟩ ⟨by decide, by decide⟩ rfl hl.1 (Nat.le_of_ble_eq_true rfl) rfl dX0_answerCode_34 (fun v u H locs hp hw => ?_)
        obtain ⟨rfl, hp_34⟩ := hp
        have hw := Wd.sub (ws' := [(ed 0, .inr (0, [.ref (ed 1), .ref (ed 3), .ref (ed 4), .ref (ed 6), .ref (ed 8), .ref (ed 10), .ref (ed 12), .ref (ed 14), .int (nI (eSz E)), .int (nI (eLe E)), .int (eNu E), .int (nI (eAS E).toNat), .int (nI (eAN E).toNat), .int (nI (eSt E)), .int (nI (eId E)), .int (eTr E), .int (nI (eTi E))])), (ed 4, .inr (2, [.ref (ed 5), .int (nI G.length)])), (ed 5, .inl (g.2.1 0, 40, .inl fG))]) hw [0, 1, 2] rfl rfl
        refine W.eq (g2 := F0 m 37 ls [.int (nI (optLen (G.getD k 0))), .int (nI k)]) rfl ?_
        refine r_iadd hx hb dX0_answerCode_37 ?_
        refine lv_istore_n (lv' := [(2, .int (nI (k + (optLen (G.getD k 0))))), (1, .int (nI (mxN a3 (oaN G (eLe E) (eNu E) k)))), (0, .ref (ed 0))]) hx hb dX0_answerCode_38 rfl hl (by decide) rfl (fun ls hl => ?_)
        refine lv_goto (tgt := 4) hx hb dX0_answerCode_39 (by decide) ?_
        exact ih_4 (k + (optLen (G.getD k 0))) (mxN a3 (oaN G (eLe E) (eNu E) k)) _ _ _ (by omega) (⟨by omega, hstp.1⟩) (hstp.2.1) (by rw [mx_o ha.1]; exact ⟨Nat.le_trans ha.1 maxO_ge, maxO_le ha.2⟩) (by rw [hac, foldO_t c_12n, mx_o ha.1]) hw (lv_sub hl [2, 1, 0] rfl)
  exact lp_4 _ 3 2 _ _ _ (Nat.lt_succ_self _) (by omega) (hwh) (by decide) (rfl) hw (lv_sub hl [2, 1, 0] rfl)
