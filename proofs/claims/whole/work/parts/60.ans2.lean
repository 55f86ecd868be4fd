set_option maxHeartbeats 4000000 in
set_option maxRecDepth 100000 in
theorem c_X0_answerOption (l : Launch) (g : GE) (ed : Nat → Nat) (E : AE) (fG : Nat → Int32) (fA : Nat → Int32) (G : List Nat) (N : List Nat) (c9 : Nat) (k : Nat) (hc9 : c9 < 256) (hl2 : eLe E < 65536) (hfG : Hd fG G) (hG40 : G.length ≤ 40) (hGB : Bt G) (hk2 : k + optLen (G.getD k 0) ≤ G.length - 2) (hfA : Hd fA N) (hN : N.length + optLen (G.getD k 0) ≤ 40) (h35 : c9 = 3 → G.getD k 0 = 1 ∨ G.getD k 0 = 5) : Ct l yX0_answerOption cX0_answerOption 5 none { frames := 2, cells := 0, slots := 0, locals := 42 } g [.ref (ed 0), .int (nI c9), .int (nI k)] [(ed 0, .inr (0, [.ref (ed 1), .ref (ed 3), .ref (ed 4), .ref (ed 6), .ref (ed 8), .ref (ed 10), .ref (ed 12), .ref (ed 14), .int (nI (eSz E)), .int (nI (eLe E)), .int (eNu E), .int (nI (eAS E).toNat), .int (nI (eAN E).toNat), .int (nI (eSt E)), .int (nI (eId E)), .int (eTr E), .int (nI (eTi E))])), (ed 4, .inr (2, [.ref (ed 5), .int (nI G.length)])), (ed 5, .inl (g.2.1 0, 40, .inl fG)), (ed 10, .inr (2, [.ref (ed 11), .int (nI N.length)])), (ed 11, .inl (g.2.1 0, 40, .inl fA))] (fun (v : Option Value) (u : (Nat → Int32)) => v = none ∧ Hd u (N ++ oaL c9 G (eLe E) (eNu E) k)) (fun u : (Nat → Int32) => [(ed 0, .inr (0, [.ref (ed 1), .ref (ed 3), .ref (ed 4), .ref (ed 6), .ref (ed 8), .ref (ed 10), .ref (ed 12), .ref (ed 14), .int (nI (eSz E)), .int (nI (eLe E)), .int (eNu E), .int (nI (eAS E).toNat), .int (nI (eAN E).toNat), .int (nI (eSt E)), .int (nI (eId E)), .int (eTr E), .int (nI (eTi E))])), (ed 4, .inr (2, [.ref (ed 5), .int (nI G.length)])), (ed 5, .inl (g.2.1 0, 40, .inl fG)), (ed 10, .inr (2, [.ref (ed 11), .int (nI (N ++ oaL c9 G (eLe E) (eNu E) k).length)])), (ed 11, .inl (g.2.1 0, 40, .inl u))]) := by
  refine Ct.of (own := RX0) rfl rfl (Nat.le_of_ble_eq_true rfl) ?_
  intro P0 e0 s m below meth c ls hF hr hlk hnm hw hl
  have hx := hF.1
  have hb := hF.2.1
  have hl : lv_has ls 5 [(0, .ref (ed 0)), (1, .int (nI c9)), (2, .int (nI k))] := hl
  have hob := optLen_b (G.getD k 0)
  have hb0 := hGB.get k
  refine lv_aload_n hx hb dX0_answerOption_0 rfl (lv_at hl 0 rfl) ?_
  refine wget hF hw flX0_22 dX0_answerOption_1 0 rfl rfl ?_
  refine lv_iload_n hx hb dX0_answerOption_4 rfl (lv_at hl 2 rfl) ?_
  refine Ct.callV (wr := [(ed 0, .inr (0, [.ref (ed 1), .ref (ed 3), .ref (ed 4), .ref (ed 6), .ref (ed 8), .ref (ed 10), .ref (ed 12), .ref (ed 14), .int (nI (eSz E)), .int (nI (eLe E)), .int (eNu E), .int (nI (eAS E).toNat), .int (nI (eAN E).toNat), .int (nI (eSt E)), .int (nI (eId E)), .int (eTr E), .int (nI (eTi E))])), (ed 10, .inr (2, [.ref (ed 11), .int (nI N.length)])), (ed 11, .inl (g.2.1 0, 40, .inl fA))]) hF hw (c_X3_at l g (ed 4) (ed 5) 40 fG G k (by decide) (hG40) (by omega) (hfG)) mwX0_171 [1, 2] [0, 3, 4] rfl rfl rfl rfl (by decide) 0 rfl rfl ⟨by decide, by decide⟩ ⟨by decide, by decide⟩ rfl hl.1 (Nat.le_of_ble_eq_true rfl) rfl dX0_answerOption_5 (fun v u H locs hp hw => ?_)
  obtain ⟨rfl, hp_5⟩ := hp
  have hw := Wd.sub (ws' := [(ed 0, .inr (0, [.ref (ed 1), .ref (ed 3), .ref (ed 4), .ref (ed 6), .ref (ed 8), .ref (ed 10), .ref (ed 12), .ref (ed 14), .int (nI (eSz E)), .int (nI (eLe E)), .int (eNu E), .int (nI (eAS E).toNat), .int (nI (eAN E).toNat), .int (nI (eSt E)), .int (nI (eId E)), .int (eTr E), .int (nI (eTi E))])), (ed 4, .inr (2, [.ref (ed 5), .int (nI G.length)])), (ed 5, .inl (g.2.1 0, 40, .inl fG)), (ed 10, .inr (2, [.ref (ed 11), .int (nI N.length)])), (ed 11, .inl (g.2.1 0, 40, .inl fA))]) hw [0, 3, 4, 1, 2] rfl rfl
  refine W.eq (g2 := F0 m 8 ls [.int (nI (G.getD k 0))]) rfl ?_
  refine lv_istore_n (lv' := [(3, .int (nI (G.getD k 0))), (0, .ref (ed 0)), (1, .int (nI c9)), (2, .int (nI k))]) hx hb dX0_answerOption_8 rfl hl (by decide) rfl (fun ls hl => ?_)
  refine lv_iload_n hx hb dX0_answerOption_9 rfl (lv_at hl 2 rfl) ?_
  refine lv_iconst (v := nI 3) hx hb dX0_answerOption_10 (by decide) ?_
  refine r_ne (tgt := 33) hx hb dX0_answerOption_11 (by decide) (by omega) (by omega) (fun c_11 => ?_) (fun c_11 => ?_)
  · refine lv_iload_n hx hb dX0_answerOption_33 rfl (lv_at hl 2 rfl) ?_
    refine lv_iconst (v := nI 3) hx hb dX0_answerOption_34 (by decide) ?_
    refine r_ne (tgt := 67) hx hb dX0_answerOption_35 (by decide) (by omega) (by omega) (fun c_35 => ?_) (fun c_35 => ?_)
    · refine lv_iconst (v := nI 0) hx hb dX0_answerOption_67 (by decide) ?_
      refine lv_istore (lv' := [(4, .int (nI 0)), (3, .int (nI (G.getD k 0))), (0, .ref (ed 0)), (1, .int (nI c9)), (2, .int (nI k))]) hx hb dX0_answerOption_68 hl (by decide) rfl (fun ls hl => ?_)
      have lp_70 : ∀ (fuel_70 : Nat) (b : Nat) (Q : List Nat) (f4 : Nat → Int32) (H : Heap) (locs : List Loc) (ls : Array Slot), (optLen (G.getD k 0) - b) < fuel_70 → (b ≤ optLen (G.getD k 0)) → (Q = N ++ (G.drop k).take b) → (Hd f4 Q) → Wd g (va_A [(ed 0, .inr (0, [.ref (ed 1), .ref (ed 3), .ref (ed 4), .ref (ed 6), .ref (ed 8), .ref (ed 10), .ref (ed 12), .ref (ed 14), .int (nI (eSz E)), .int (nI (eLe E)), .int (eNu E), .int (nI (eAS E).toNat), .int (nI (eAN E).toNat), .int (nI (eSt E)), .int (nI (eId E)), .int (eTr E), .int (nI (eTi E))])), (ed 4, .inr (2, [.ref (ed 5), .int (nI G.length)])), (ed 5, .inl (g.2.1 0, 40, .inl fG)), (ed 10, .inr (2, [.ref (ed 11), .int (nI N.length)])), (ed 11, .inl (g.2.1 0, 40, .inl fA))] s.heap.size) s H locs [(ed 0, .inr (0, [.ref (ed 1), .ref (ed 3), .ref (ed 4), .ref (ed 6), .ref (ed 8), .ref (ed 10), .ref (ed 12), .ref (ed 14), .int (nI (eSz E)), .int (nI (eLe E)), .int (eNu E), .int (nI (eAS E).toNat), .int (nI (eAN E).toNat), .int (nI (eSt E)), .int (nI (eId E)), .int (eTr E), .int (nI (eTi E))])), (ed 4, .inr (2, [.ref (ed 5), .int (nI G.length)])), (ed 5, .inl (g.2.1 0, 40, .inl fG)), (ed 10, .inr (2, [.ref (ed 11), .int (nI Q.length)])), (ed 11, .inl (g.2.1 0, 40, .inl f4))] → lv_has ls 5 [(0, .ref (ed 0)), (1, .int (nI c9)), (2, .int (nI k)), (3, .int (nI (G.getD k 0))), (4, .int (nI b))] → W P0 l e0 { frames := 2, cells := 0, slots := 0, locals := 42 } s m ([.ref (ed 0), .int (nI c9), .int (nI k)] : List Value).toArray below meth c H locs 0 0 (RQ below ([.ref (ed 0), .int (nI c9), .int (nI k)] : List Value).toArray s { frames := 2, cells := 0, slots := 0, locals := 42 } g [(ed 0, .inr (0, [.ref (ed 1), .ref (ed 3), .ref (ed 4), .ref (ed 6), .ref (ed 8), .ref (ed 10), .ref (ed 12), .ref (ed 14), .int (nI (eSz E)), .int (nI (eLe E)), .int (eNu E), .int (nI (eAS E).toNat), .int (nI (eAN E).toNat), .int (nI (eSt E)), .int (nI (eId E)), .int (eTr E), .int (nI (eTi E))])), (ed 4, .inr (2, [.ref (ed 5), .int (nI G.length)])), (ed 5, .inl (g.2.1 0, 40, .inl fG)), (ed 10, .inr (2, [.ref (ed 11), .int (nI N.length)])), (ed 11, .inl (g.2.1 0, 40, .inl fA))] (fun (v : Option Value) (u : (Nat → Int32)) => v = none ∧ Hd u (N ++ oaL c9 G (eLe E) (eNu E) k)) (fun u : (Nat → Int32) => [(ed 0, .inr (0, [.ref (ed 1), .ref (ed 3), .ref (ed 4), .ref (ed 6), .ref (ed 8), .ref (ed 10), .ref (ed 12), .ref (ed 14), .int (nI (eSz E)), .int (nI (eLe E)), .int (eNu E), .int (nI (eAS E).toNat), .int (nI (eAN E).toNat), .int (nI (eSt E)), .int (nI (eId E)), .int (eTr E), .int (nI (eTi E))])), (ed 4, .inr (2, [.ref (ed 5), .int (nI G.length)])), (ed 5, .inl (g.2.1 0, 40, .inl fG)), (ed 10, .inr (2, [.ref (ed 11), .int (nI (N ++ oaL c9 G (eLe E) (eNu E) k).length)])), (ed 11, .inl (g.2.1 0, 40, .inl u))])) (F0 m 70 ls []) := by
        intro fuel_70
        induction fuel_70 with
        | zero => intro b Q f4 H locs ls hm_70; exact absurd hm_70 (Nat.not_lt_zero _)
        | succ fuel_70 ih_70 =>
          intro b Q f4 H locs ls hm_70 hbb hQ hf4 hw hl
          have hbb1 := hGB.get (k + b)
          have hlq : Q.length ≤ N.length + b := by rw [hQ, List.length_append, List.length_take]; omega
          refine lv_iload hx hb dX0_answerOption_70 (lv_at hl 4 rfl) ?_
          refine lv_iload_n hx hb dX0_answerOption_72 rfl (lv_at hl 3 rfl) ?_
          refine Ct.callS (wr := [(ed 0, .inr (0, [.ref (ed 1), .ref (ed 3), .ref (ed 4), .ref (ed 6), .ref (ed 8), .ref (ed 10), .ref (ed 12), .ref (ed 14), .int (nI (eSz E)), .int (nI (eLe E)), .int (eNu E), .int (nI (eAS E).toNat), .int (nI (eAN E).toNat), .int (nI (eSt E)), .int (nI (eId E)), .int (eTr E), .int (nI (eTi E))])), (ed 4, .inr (2, [.ref (ed 5), .int (nI G.length)])), (ed 5, .inl (g.2.1 0, 40, .inl fG)), (ed 10, .inr (2, [.ref (ed 11), .int (nI Q.length)])), (ed 11, .inl (g.2.1 0, 40, .inl f4))]) hF hw (c_X3_optionLength l g (G.getD k 0) (by omega)) mwX0_174 [] [0, 1, 2, 3, 4] rfl rfl rfl rfl (by decide) ⟨by decide, by decide⟩ ⟨by decide, by decide⟩ rfl hl.1 (Nat.le_of_ble_eq_true rfl) rfl dX0_answerOption_73 (fun v u H locs hp hw => ?_)
          obtain ⟨rfl, hp_73⟩ := hp
          have hw := Wd.sub (ws' := [(ed 0, .inr (0, [.ref (ed 1), .ref (ed 3), .ref (ed 4), .ref (ed 6), .ref (ed 8), .ref (ed 10), .ref (ed 12), .ref (ed 14), .int (nI (eSz E)), .int (nI (eLe E)), .int (eNu E), .int (nI (eAS E).toNat), .int (nI (eAN E).toNat), .int (nI (eSt E)), .int (nI (eId E)), .int (eTr E), .int (nI (eTi E))])), (ed 4, .inr (2, [.ref (ed 5), .int (nI G.length)])), (ed 5, .inl (g.2.1 0, 40, .inl fG)), (ed 10, .inr (2, [.ref (ed 11), .int (nI Q.length)])), (ed 11, .inl (g.2.1 0, 40, .inl f4))]) hw [0, 1, 2, 3, 4] rfl rfl
          refine W.eq (g2 := F0 m 76 ls [.int (nI (optLen (G.getD k 0))), .int (nI b)]) rfl ?_
          refine r_ge (tgt := 103) hx hb dX0_answerOption_76 (by decide) (by omega) (by omega) (fun c_76 => ?_) (fun c_76 => ?_)
          · have hol : oaL c9 G (eLe E) (eNu E) k = _ := ol_x c_35
            have hbe : b = optLen (G.getD k 0) := by omega
            rw [← hbe] at hol
            have hq9 : N ++ oaL c9 G (eLe E) (eNu E) k = Q := by rw [hol, hQ]
            exact RQ.vret hF hr hlk hw dX0_answerOption_103 ⟨by decide, by decide⟩ ((f4)) (by rw [hq9]) ⟨rfl, by rw [hq9]; exact hf4⟩
          · refine lv_aload_n hx hb dX0_answerOption_79 rfl (lv_at hl 0 rfl) ?_
            refine wget hF hw flX0_36 dX0_answerOption_80 0 rfl rfl ?_
            refine lv_aload_n hx hb dX0_answerOption_83 rfl (lv_at hl 0 rfl) ?_
            refine wget hF hw flX0_22 dX0_answerOption_84 0 rfl rfl ?_
            refine lv_iload_n hx hb dX0_answerOption_87 rfl (lv_at hl 2 rfl) ?_
            refine lv_iload hx hb dX0_answerOption_88 (lv_at hl 4 rfl) ?_
            refine r_iadd hx hb dX0_answerOption_90 ?_
            refine Ct.callV (wr := [(ed 0, .inr (0, [.ref (ed 1), .ref (ed 3), .ref (ed 4), .ref (ed 6), .ref (ed 8), .ref (ed 10), .ref (ed 12), .ref (ed 14), .int (nI (eSz E)), .int (nI (eLe E)), .int (eNu E), .int (nI (eAS E).toNat), .int (nI (eAN E).toNat), .int (nI (eSt E)), .int (nI (eId E)), .int (eTr E), .int (nI (eTi E))])), (ed 10, .inr (2, [.ref (ed 11), .int (nI Q.length)])), (ed 11, .inl (g.2.1 0, 40, .inl f4))]) hF hw (c_X3_at l g (ed 4) (ed 5) 40 fG G (k + b) (by decide) (hG40) (by omega) (hfG)) mwX0_171 [1, 2] [0, 3, 4] rfl rfl rfl rfl (by decide) 0 rfl rfl ⟨by decide, by decide⟩ ⟨by decide, by decide⟩ rfl hl.1 (Nat.le_of_ble_eq_true rfl) rfl dX0_answerOption_91 (fun v u H locs hp hw => ?_)
            obtain ⟨rfl, hp_91⟩ := hp
            have hw := Wd.sub (ws' := [(ed 0, .inr (0, [.ref (ed 1), .ref (ed 3), .ref (ed 4), .ref (ed 6), .ref (ed 8), .ref (ed 10), .ref (ed 12), .ref (ed 14), .int (nI (eSz E)), .int (nI (eLe E)), .int (eNu E), .int (nI (eAS E).toNat), .int (nI (eAN E).toNat), .int (nI (eSt E)), .int (nI (eId E)), .int (eTr E), .int (nI (eTi E))])), (ed 4, .inr (2, [.ref (ed 5), .int (nI G.length)])), (ed 5, .inl (g.2.1 0, 40, .inl fG)), (ed 10, .inr (2, [.ref (ed 11), .int (nI Q.length)])), (ed 11, .inl (g.2.1 0, 40, .inl f4))]) hw [0, 3, 4, 1, 2] rfl rfl
            refine W.eq (g2 := F0 m 94 ls [.int (nI (G.getD (k + b) 0)), .ref (ed 10)]) rfl ?_
            refine Ct.callV (wr := [(ed 0, .inr (0, [.ref (ed 1), .ref (ed 3), .ref (ed 4), .ref (ed 6), .ref (ed 8), .ref (ed 10), .ref (ed 12), .ref (ed 14), .int (nI (eSz E)), .int (nI (eLe E)), .int (eNu E), .int (nI (eAS E).toNat), .int (nI (eAN E).toNat), .int (nI (eSt E)), .int (nI (eId E)), .int (eTr E), .int (nI (eTi E))])), (ed 4, .inr (2, [.ref (ed 5), .int (nI G.length)])), (ed 5, .inl (g.2.1 0, 40, .inl fG))]) hF hw (c_X3_add l g (ed 10) (ed 11) 40 f4 Q (nI (G.getD (k + b) 0)) (G.getD (k + b) 0) (by decide) (by omega) (hf4) (by first | (rw [pk_tn (by omega)]; done) | (rw [pk_tn (by omega)]; omega))) mwX0_73 [3, 4] [0, 1, 2] rfl rfl rfl rfl (by decide) 0 rfl rfl ⟨by decide, by decide⟩ ⟨by decide, by decide⟩ rfl hl.1 (Nat.le_of_ble_eq_true rfl) rfl dX0_answerOption_94 (fun v u H locs hp hw => ?_)
            obtain ⟨f2_94, rfl⟩ : ∃ z, z = u := ⟨_, rfl⟩
            obtain ⟨rfl, hp_94⟩ := hp
            try dsimp only at hp_94
            have hw := Wd.sub (ws' := [(ed 0, .inr (0, [.ref (ed 1), .ref (ed 3), .ref (ed 4), .ref (ed 6), .ref (ed 8), .ref (ed 10), .ref (ed 12), .ref (ed 14), .int (nI (eSz E)), .int (nI (eLe E)), .int (eNu E), .int (nI (eAS E).toNat), .int (nI (eAN E).toNat), .int (nI (eSt E)), .int (nI (eId E)), .int (eTr E), .int (nI (eTi E))])), (ed 4, .inr (2, [.ref (ed 5), .int (nI G.length)])), (ed 5, .inl (g.2.1 0, 40, .inl fG)), (ed 10, .inr (2, [.ref (ed 11), .int (nI (Q ++ [(G.getD (k + b) 0)]).length)])), (ed 11, .inl (g.2.1 0, 40, .inl f2_94))]) hw [0, 1, 2, 3, 4] rfl rfl
            refine W.eq (g2 := F0 m 97 ls []) rfl ?_
            refine r_iinc (k := 4) (d := 1) (lv' := [(4, .int (nI (b + 1))), (0, .ref (ed 0)), (1, .int (nI c9)), (2, .int (nI k)), (3, .int (nI (G.getD k 0)))]) hx hb dX0_answerOption_97 hl rfl (by decide) (by decide) rfl (fun ls hl => ?_)
            refine lv_goto (tgt := 70) hx hb dX0_answerOption_100 (by decide) ?_
            exact ih_70 (b + 1) (Q ++ [G.getD (k + b) 0]) f2_94 _ _ _ (by omega) (by omega) (by rw [hQ, drop_takeD (by omega), List.append_assoc]) (hp_94) hw (lv_sub hl [1, 2, 3, 4, 0] rfl)
      exact lp_70 _ 0 N fA _ _ _ (Nat.lt_succ_self _) (Nat.zero_le _) (by simp) (hfA) hw (lv_sub hl [2, 3, 4, 1, 0] rfl)
    · have ho5 := optLen_5 ((h35 c_35).resolve_left (fun q => by first | exact c_16 q | exact c_11 c_35))
      refine lv_aload_n hx hb dX0_answerOption_38 rfl (lv_at hl 1 rfl) ?_
      refine wget hF hw flX0_36 dX0_answerOption_39 0 rfl rfl ?_
      refine lv_iconst (v := nI 5) hx hb dX0_answerOption_42 (by decide) ?_
      refine Ct.callV (wr := [(ed 0, .inr (0, [.ref (ed 1), .ref (ed 3), .ref (ed 4), .ref (ed 6), .ref (ed 8), .ref (ed 10), .ref (ed 12), .ref (ed 14), .int (nI (eSz E)), .int (nI (eLe E)), .int (eNu E), .int (nI (eAS E).toNat), .int (nI (eAN E).toNat), .int (nI (eSt E)), .int (nI (eId E)), .int (eTr E), .int (nI (eTi E))])), (ed 4, .inr (2, [.ref (ed 5), .int (nI G.length)])), (ed 5, .inl (g.2.1 0, 40, .inl fG))]) hF hw (c_X3_add l g (ed 10) (ed 11) 40 fA N (nI 5) 5 (by decide) (by omega) (hfA) (by decide)) mwX0_73 [3, 4] [0, 1, 2] rfl rfl rfl rfl (by decide) 0 rfl rfl ⟨by decide, by decide⟩ ⟨by decide, by decide⟩ rfl hl.1 (Nat.le_of_ble_eq_true rfl) rfl dX0_answerOption_43 (fun v u H locs hp hw => ?_)
      obtain ⟨f2_43, rfl⟩ : ∃ z, z = u := ⟨_, rfl⟩
      obtain ⟨rfl, hp_43⟩ := hp
      try dsimp only at hp_43
      have hw := Wd.sub (ws' := [(ed 0, .inr (0, [.ref (ed 1), .ref (ed 3), .ref (ed 4), .ref (ed 6), .ref (ed 8), .ref (ed 10), .ref (ed 12), .ref (ed 14), .int (nI (eSz E)), .int (nI (eLe E)), .int (eNu E), .int (nI (eAS E).toNat), .int (nI (eAN E).toNat), .int (nI (eSt E)), .int (nI (eId E)), .int (eTr E), .int (nI (eTi E))])), (ed 4, .inr (2, [.ref (ed 5), .int (nI G.length)])), (ed 5, .inl (g.2.1 0, 40, .inl fG)), (ed 10, .inr (2, [.ref (ed 11), .int (nI (N ++ [5]).length)])), (ed 11, .inl (g.2.1 0, 40, .inl f2_43))]) hw [0, 1, 2, 3, 4] rfl rfl
      refine W.eq (g2 := F0 m 46 ls []) rfl ?_
      refine lv_aload_n hx hb dX0_answerOption_46 rfl (lv_at hl 1 rfl) ?_
      refine wget hF hw flX0_36 dX0_answerOption_47 0 rfl rfl ?_
      refine lv_aload_n hx hb dX0_answerOption_50 rfl (lv_at hl 1 rfl) ?_
      refine wget hF hw flX0_88 dX0_answerOption_51 0 rfl rfl ?_
      refine lv_ldc hx hb hF.2.2.2.1 (hF.2.2.2.2 _ tw611) dX0_answerOption_54 ?_
      refine r_top (n := 1103515245) rfl ?_
      refine lv_imul hx hb dX0_answerOption_56 ?_
      refine lv_sipush (v := nI 12345) hx hb dX0_answerOption_57 (by decide) ?_
      refine lv_iadd hx hb dX0_answerOption_60 ?_
      refine Ct.callV (wr := [(ed 0, .inr (0, [.ref (ed 1), .ref (ed 3), .ref (ed 4), .ref (ed 6), .ref (ed 8), .ref (ed 10), .ref (ed 12), .ref (ed 14), .int (nI (eSz E)), .int (nI (eLe E)), .int (eNu E), .int (nI (eAS E).toNat), .int (nI (eAN E).toNat), .int (nI (eSt E)), .int (nI (eId E)), .int (eTr E), .int (nI (eTi E))])), (ed 4, .inr (2, [.ref (ed 5), .int (nI G.length)])), (ed 5, .inl (g.2.1 0, 40, .inl fG))]) hF hw (c_X3_addNumber l g (ed 10) (ed 11) 40 f2_43 (N ++ [5]) (((eNu E) * (nI 1103515245)) + (nI 12345)) (by decide) (by rw [List.length_append, List.length_singleton]; omega) (hp_43)) mwX0_91 [3, 4] [0, 1, 2] rfl rfl rfl rfl (by decide) 0 rfl rfl ⟨by decide, by decide⟩ ⟨by decide, by decide⟩ rfl hl.1 (Nat.le_of_ble_eq_true rfl) rfl dX0_answerOption_61 (fun v u H locs hp hw => ?_)
      obtain ⟨f2_61, rfl⟩ : ∃ z, z = u := ⟨_, rfl⟩
      obtain ⟨rfl, hp_61⟩ := hp
      try dsimp only at hp_61
      have hw := Wd.sub (ws' := [(ed 0, .inr (0, [.ref (ed 1), .ref (ed 3), .ref (ed 4), .ref (ed 6), .ref (ed 8), .ref (ed 10), .ref (ed 12), .ref (ed 14), .int (nI (eSz E)), .int (nI (eLe E)), .int (eNu E), .int (nI (eAS E).toNat), .int (nI (eAN E).toNat), .int (nI (eSt E)), .int (nI (eId E)), .int (eTr E), .int (nI (eTi E))])), (ed 4, .inr (2, [.ref (ed 5), .int (nI G.length)])), (ed 5, .inl (g.2.1 0, 40, .inl fG)), (ed 10, .inr (2, [.ref (ed 11), .int (nI ((N ++ [5]) ++ nbs (((eNu E) * (nI 1103515245)) + (nI 12345))).length)])), (ed 11, .inl (g.2.1 0, 40, .inl f2_61))]) hw [0, 1, 2, 3, 4] rfl rfl
      refine W.eq (g2 := F0 m 64 ls []) rfl ?_
      refine lv_goto (tgt := 103) hx hb dX0_answerOption_64 (by decide) ?_
      have hol : oaL c9 G (eLe E) (eNu E) k = _ := ol_5 c_35 (fun q => by first | exact c_16 q | exact c_11 c_35)
      have e9 : N ++ [5] ++ nbs (eNu E * nI 1103515245 + nI 12345) = N ++ 5 :: nbs (eNu E * nI 1103515245 + nI 12345) := by rw [List.append_assoc]; rfl
      rw [e9] at hw hp_61
      exact RQ.vret hF hr hlk hw dX0_answerOption_103 ⟨by decide, by decide⟩ ((f2_61)) (by rw [hol]) ⟨rfl, by rw [hol]; exact hp_61⟩
  · refine lv_iload_n hx hb dX0_answerOption_14 rfl (lv_at hl 0 rfl) ?_
    refine lv_iconst (v := nI 1) hx hb dX0_answerOption_15 (by decide) ?_
    refine r_ne (tgt := 33) hx hb dX0_answerOption_16 (by decide) (by omega) (by omega) (fun c_16 => ?_) (fun c_16 => ?_)
    · refine lv_iload_n hx hb dX0_answerOption_33 rfl (lv_at hl 2 rfl) ?_
      refine lv_iconst (v := nI 3) hx hb dX0_answerOption_34 (by decide) ?_
      refine r_ne (tgt := 67) hx hb dX0_answerOption_35 (by decide) (by omega) (by omega) (fun c_35 => ?_) (fun c_35 => ?_)
      · refine lv_iconst (v := nI 0) hx hb dX0_answerOption_67 (by decide) ?_
        refine lv_istore (lv' := [(4, .int (nI 0)), (3, .int (nI (G.getD k 0))), (0, .ref (ed 0)), (1, .int (nI c9)), (2, .int (nI k))]) hx hb dX0_answerOption_68 hl (by decide) rfl (fun ls hl => ?_)
        have lp_70 : ∀ (fuel_70 : Nat) (b : Nat) (Q : List Nat) (f4 : Nat → Int32) (H : Heap) (locs : List Loc) (ls : Array Slot), (optLen (G.getD k 0) - b) < fuel_70 → (b ≤ optLen (G.getD k 0)) → (Q = N ++ (G.drop k).take b) → (Hd f4 Q) → Wd g (va_A [(ed 0, .inr (0, [.ref (ed 1), .ref (ed 3), .ref (ed 4), .ref (ed 6), .ref (ed 8), .ref (ed 10), .ref (ed 12), .ref (ed 14), .int (nI (eSz E)), .int (nI (eLe E)), .int (eNu E), .int (nI (eAS E).toNat), .int (nI (eAN E).toNat), .int (nI (eSt E)), .int (nI (eId E)), .int (eTr E), .int (nI (eTi E))])), (ed 4, .inr (2, [.ref (ed 5), .int (nI G.length)])), (ed 5, .inl (g.2.1 0, 40, .inl fG)), (ed 10, .inr (2, [.ref (ed 11), .int (nI N.length)])), (ed 11, .inl (g.2.1 0, 40, .inl fA))] s.heap.size) s H locs [(ed 0, .inr (0, [.ref (ed 1), .ref (ed 3), .ref (ed 4), .ref (ed 6), .ref (ed 8), .ref (ed 10), .ref (ed 12), .ref (ed 14), .int (nI (eSz E)), .int (nI (eLe E)), .int (eNu E), .int (nI (eAS E).toNat), .int (nI (eAN E).toNat), .int (nI (eSt E)), .int (nI (eId E)), .int (eTr E), .int (nI (eTi E))])), (ed 4, .inr (2, [.ref (ed 5), .int (nI G.length)])), (ed 5, .inl (g.2.1 0, 40, .inl fG)), (ed 10, .inr (2, [.ref (ed 11), .int (nI Q.length)])), (ed 11, .inl (g.2.1 0, 40, .inl f4))] → lv_has ls 5 [(0, .ref (ed 0)), (1, .int (nI c9)), (2, .int (nI k)), (3, .int (nI (G.getD k 0))), (4, .int (nI b))] → W P0 l e0 { frames := 2, cells := 0, slots := 0, locals := 42 } s m ([.ref (ed 0), .int (nI c9), .int (nI k)] : List Value).toArray below meth c H locs 0 0 (RQ below ([.ref (ed 0), .int (nI c9), .int (nI k)] : List Value).toArray s { frames := 2, cells := 0, slots := 0, locals := 42 } g [(ed 0, .inr (0, [.ref (ed 1), .ref (ed 3), .ref (ed 4), .ref (ed 6), .ref (ed 8), .ref (ed 10), .ref (ed 12), .ref (ed 14), .int (nI (eSz E)), .int (nI (eLe E)), .int (eNu E), .int (nI (eAS E).toNat), .int (nI (eAN E).toNat), .int (nI (eSt E)), .int (nI (eId E)), .int (eTr E), .int (nI (eTi E))])), (ed 4, .inr (2, [.ref (ed 5), .int (nI G.length)])), (ed 5, .inl (g.2.1 0, 40, .inl fG)), (ed 10, .inr (2, [.ref (ed 11), .int (nI N.length)])), (ed 11, .inl (g.2.1 0, 40, .inl fA))] (fun (v : Option Value) (u : (Nat → Int32)) => v = none ∧ Hd u (N ++ oaL c9 G (eLe E) (eNu E) k)) (fun u : (Nat → Int32) => [(ed 0, .inr (0, [.ref (ed 1), .ref (ed 3), .ref (ed 4), .ref (ed 6), .ref (ed 8), .ref (ed 10), .ref (ed 12), .ref (ed 14), .int (nI (eSz E)), .int (nI (eLe E)), .int (eNu E), .int (nI (eAS E).toNat), .int (nI (eAN E).toNat), .int (nI (eSt E)), .int (nI (eId E)), .int (eTr E), .int (nI (eTi E))])), (ed 4, .inr (2, [.ref (ed 5), .int (nI G.length)])), (ed 5, .inl (g.2.1 0, 40, .inl fG)), (ed 10, .inr (2, [.ref (ed 11), .int (nI (N ++ oaL c9 G (eLe E) (eNu E) k).length)])), (ed 11, .inl (g.2.1 0, 40, .inl u))])) (F0 m 70 ls []) := by
          intro fuel_70
          induction fuel_70 with
          | zero => intro b Q f4 H locs ls hm_70; exact absurd hm_70 (Nat.not_lt_zero _)
          | succ fuel_70 ih_70 =>
            intro b Q f4 H locs ls hm_70 hbb hQ hf4 hw hl
            have hbb1 := hGB.get (k + b)
            have hlq : Q.length ≤ N.length + b := by rw [hQ, List.length_append, List.length_take]; omega
            refine lv_iload hx hb dX0_answerOption_70 (lv_at hl 4 rfl) ?_
            refine lv_iload_n hx hb dX0_answerOption_72 rfl (lv_at hl 3 rfl) ?_
            refine Ct.callS (wr := [(ed 0, .inr (0, [.ref (ed 1), .ref (ed 3), .ref (ed 4), .ref (ed 6), .ref (ed 8), .ref (ed 10), .ref (ed 12), .ref (ed 14), .int (nI (eSz E)), .int (nI (eLe E)), .int (eNu E), .int (nI (eAS E).toNat), .int (nI (eAN E).toNat), .int (nI (eSt E)), .int (nI (eId E)), .int (eTr E), .int (nI (eTi E))])), (ed 4, .inr (2, [.ref (ed 5), .int (nI G.length)])), (ed 5, .inl (g.2.1 0, 40, .inl fG)), (ed 10, .inr (2, [.ref (ed 11), .int (nI Q.length)])), (ed 11, .inl (g.2.1 0, 40, .inl f4))]) hF hw (c_X3_optionLength l g (G.getD k 0) (by omega)) mwX0_174 [] [0, 1, 2, 3, 4] rfl rfl rfl rfl (by decide) ⟨by decide, by decide⟩ ⟨by decide, by decide⟩ rfl hl.1 (Nat.le_of_ble_eq_true rfl) rfl dX0_answerOption_73 (fun v u H locs hp hw => ?_)
            obtain ⟨rfl, hp_73⟩ := hp
            have hw := Wd.sub (ws' := [(ed 0, .inr (0, [.ref (ed 1), .ref (ed 3), .ref (ed 4), .ref (ed 6), .ref (ed 8), .ref (ed 10), .ref (ed 12), .ref (ed 14), .int (nI (eSz E)), .int (nI (eLe E)), .int (eNu E), .int (nI (eAS E).toNat), .int (nI (eAN E).toNat), .int (nI (eSt E)), .int (nI (eId E)), .int (eTr E), .int (nI (eTi E))])), (ed 4, .inr (2, [.ref (ed 5), .int (nI G.length)])), (ed 5, .inl (g.2.1 0, 40, .inl fG)), (ed 10, .inr (2, [.ref (ed 11), .int (nI Q.length)])), (ed 11, .inl (g.2.1 0, 40, .inl f4))]) hw [0, 1, 2, 3, 4] rfl rfl
            refine W.eq (g2 := F0 m 76 ls [.int (nI (optLen (G.getD k 0))), .int (nI b)]) rfl ?_
            refine r_ge (tgt := 103) hx hb dX0_answerOption_76 (by decide) (by omega) (by omega) (fun c_76 => ?_) (fun c_76 => ?_)
            · have hol : oaL c9 G (eLe E) (eNu E) k = _ := ol_x c_35
              have hbe : b = optLen (G.getD k 0) := by omega
              rw [← hbe] at hol
              have hq9 : N ++ oaL c9 G (eLe E) (eNu E) k = Q := by rw [hol, hQ]
              exact RQ.vret hF hr hlk hw dX0_answerOption_103 ⟨by decide, by decide⟩ ((f4)) (by rw [hq9]) ⟨rfl, by rw [hq9]; exact hf4⟩
            · refine lv_aload_n hx hb dX0_answerOption_79 rfl (lv_at hl 0 rfl) ?_
              refine wget hF hw flX0_36 dX0_answerOption_80 0 rfl rfl ?_
              refine lv_aload_n hx hb dX0_answerOption_83 rfl (lv_at hl 0 rfl) ?_
              refine wget hF hw flX0_22 dX0_answerOption_84 0 rfl rfl ?_
              refine lv_iload_n hx hb dX0_answerOption_87 rfl (lv_at hl 2 rfl) ?_
              refine lv_iload hx hb dX0_answerOption_88 (lv_at hl 4 rfl) ?_
              refine r_iadd hx hb dX0_answerOption_90 ?_
              refine Ct.callV (wr := [(ed 0, .inr (0, [.ref (ed 1), .ref (ed 3), .ref (ed 4), .ref (ed 6), .ref (ed 8), .ref (ed 10), .ref (ed 12), .ref (ed 14), .int (nI (eSz E)), .int (nI (eLe E)), .int (eNu E), .int (nI (eAS E).toNat), .int (nI (eAN E).toNat), .int (nI (eSt E)), .int (nI (eId E)), .int (eTr E), .int (nI (eTi E))])), (ed 10, .inr (2, [.ref (ed 11), .int (nI Q.length)])), (ed 11, .inl (g.2.1 0, 40, .inl f4))]) hF hw (c_X3_at l g (ed 4) (ed 5) 40 fG G (k + b) (by decide) (hG40) (by omega) (hfG)) mwX0_171 [1, 2] [0, 3, 4] rfl rfl rfl rfl (by decide) 0 rfl rfl ⟨by decide, by decide⟩ ⟨by decide, by decide⟩ rfl hl.1 (Nat.le_of_ble_eq_true rfl) rfl dX0_answerOption_91 (fun v u H locs hp hw => ?_)
              obtain ⟨rfl, hp_91⟩ := hp
              have hw := Wd.sub (ws' := [(ed 0, .inr (0, [.ref (ed 1), .ref (ed 3), .ref (ed 4), .ref (ed 6), .ref (ed 8), .ref (ed 10), .ref (ed 12), .ref (ed 14), .int (nI (eSz E)), .int (nI (eLe E)), .int (eNu E), .int (nI (eAS E).toNat), .int (nI (eAN E).toNat), .int (nI (eSt E)), .int (nI (eId E)), .int (eTr E), .int (nI (eTi E))])), (ed 4, .inr (2, [.ref (ed 5), .int (nI G.length)])), (ed 5, .inl (g.2.1 0, 40, .inl fG)), (ed 10, .inr (2, [.ref (ed 11), .int (nI Q.length)])), (ed 11, .inl (g.2.1 0, 40, .inl f4))]) hw [0, 3, 4, 1, 2] rfl rfl
              refine W.eq (g2 := F0 m 94 ls [.int (nI (G.getD (k + b) 0)), .ref (ed 10)]) rfl ?_
              refine Ct.callV (wr := [(ed 0, .inr (0, [.ref (ed 1), .ref (ed 3), .ref (ed 4), .ref (ed 6), .ref (ed 8), .ref (ed 10), .ref (ed 12), .ref (ed 14), .int (nI (eSz E)), .int (nI (eLe E)), .int (eNu E), .int (nI (eAS E).toNat), .int (nI (eAN E).toNat), .int (nI (eSt E)), .int (nI (eId E)), .int (eTr E), .int (nI (eTi E))])), (ed 4, .inr (2, [.ref (ed 5), .int (nI G.length)])), (ed 5, .inl (g.2.1 0, 40, .inl fG))]) hF hw (c_X3_add l g (ed 10) (ed 11) 40 f4 Q (nI (G.getD (k + b) 0)) (G.getD (k + b) 0) (by decide) (by omega) (hf4) (by first | (rw [pk_tn (by omega)]; done) | (rw [pk_tn (by omega)]; omega))) mwX0_73 [3, 4] [0, 1, 2] rfl rfl rfl rfl (by decide) 0 rfl rfl ⟨by decide, by decide⟩ ⟨by decide, by decide⟩ rfl hl.1 (Nat.le_of_ble_eq_true rfl) rfl dX0_answerOption_94 (fun v u H locs hp hw => ?_)
              obtain ⟨f2_94, rfl⟩ : ∃ z, z = u := ⟨_, rfl⟩
              obtain ⟨rfl, hp_94⟩ := hp
              try dsimp only at hp_94
              have hw := Wd.sub (ws' := [(ed 0, .inr (0, [.ref (ed 1), .ref (ed 3), .ref (ed 4), .ref (ed 6), .ref (ed 8), .ref (ed 10), .ref (ed 12), .ref (ed 14), .int (nI (eSz E)), .int (nI (eLe E)), .int (eNu E), .int (nI (eAS E).toNat), .int (nI (eAN E).toNat), .int (nI (eSt E)), .int (nI (eId E)), .int (eTr E), .int (nI (eTi E))])), (ed 4, .inr (2, [.ref (ed 5), .int (nI G.length)])), (ed 5, .inl (g.2.1 0, 40, .inl fG)), (ed 10, .inr (2, [.ref (ed 11), .int (nI (Q ++ [(G.getD (k + b) 0)]).length)])), (ed 11, .inl (g.2.1 0, 40, .inl f2_94))]) hw [0, 1, 2, 3, 4] rfl rfl
              refine W.eq (g2 := F0 m 97 ls []) rfl ?_
              refine r_iinc (k := 4) (d := 1) (lv' := [(4, .int (nI (b + 1))), (0, .ref (ed 0)), (1, .int (nI c9)), (2, .int (nI k)), (3, .int (nI (G.getD k 0)))]) hx hb dX0_answerOption_97 hl rfl (by decide) (by decide) rfl (fun ls hl => ?_)
              refine lv_goto (tgt := 70) hx hb dX0_answerOption_100 (by decide) ?_
              exact ih_70 (b + 1) (Q ++ [G.getD (k + b) 0]) f2_94 _ _ _ (by omega) (by omega) (by rw [hQ, drop_takeD (by omega), List.append_assoc]) (hp_94) hw (lv_sub hl [1, 2, 3, 4, 0] rfl)
        exact lp_70 _ 0 N fA _ _ _ (Nat.lt_succ_self _) (Nat.zero_le _) (by simp) (hfA) hw (lv_sub hl [2, 3, 4, 1, 0] rfl)
      · have ho5 := optLen_5 ((h35 c_35).resolve_left (fun q => by first | exact c_16 q | exact c_11 c_35))
        refine lv_aload_n hx hb dX0_answerOption_38 rfl (lv_at hl 1 rfl) ?_
        refine wget hF hw flX0_36 dX0_answerOption_39 0 rfl rfl ?_
        refine lv_iconst (v := nI 5) hx hb dX0_answerOption_42 (by decide) ?_
        refine Ct.callV (wr := [(ed 0, .inr (0, [.ref (ed 1), .ref (ed 3), .ref (ed 4), .ref (ed 6), .ref (ed 8), .ref (ed 10), .ref (ed 12), .ref (ed 14), .int (nI (eSz E)), .int (nI (eLe E)), .int (eNu E), .int (nI (eAS E).toNat), .int (nI (eAN E).toNat), .int (nI (eSt E)), .int (nI (eId E)), .int (eTr E), .int (nI (eTi E))])), (ed 4, .inr (2, [.ref (ed 5), .int (nI G.length)])), (ed 5, .inl (g.2.1 0, 40, .inl fG))]) hF hw (c_X3_add l g (ed 10) (ed 11) 40 fA N (nI 5) 5 (by decide) (by omega) (hfA) (by decide)) mwX0_73 [3, 4] [0, 1, 2] rfl rfl rfl rfl (by decide) 0 rfl rfl ⟨by decide, by decide⟩ ⟨by decide, by decide⟩ rfl hl.1 (Nat.le_of_ble_eq_true rfl) rfl dX0_answerOption_43 (fun v u H locs hp hw => ?_)
        obtain ⟨f2_43, rfl⟩ : ∃ z, z = u := ⟨_, rfl⟩
        obtain ⟨rfl, hp_43⟩ := hp
        try dsimp only at hp_43
        have hw := Wd.sub (ws' := [(ed 0, .inr (0, [.ref (ed 1), .ref (ed 3), .ref (ed 4), .ref (ed 6), .ref (ed 8), .ref (ed 10), .ref (ed 12), .ref (ed 14), .int (nI (eSz E)), .int (nI (eLe E)), .int (eNu E), .int (nI (eAS E).toNat), .int (nI (eAN E).toNat), .int (nI (eSt E)), .int (nI (eId E)), .int (eTr E), .int (nI (eTi E))])), (ed 4, .inr (2, [.ref (ed 5), .int (nI G.length)])), (ed 5, .inl (g.2.1 0, 40, .inl fG)), (ed 10, .inr (2, [.ref (ed 11), .int (nI (N ++ [5]).length)])), (ed 11, .inl (g.2.1 0, 40, .inl f2_43))]) hw [0, 1, 2, 3, 4] rfl rfl
        refine W.eq (g2 := F0 m 46 ls []) rfl ?_
        refine lv_aload_n hx hb dX0_answerOption_46 rfl (lv_at hl 1 rfl) ?_
        refine wget hF hw flX0_36 dX0_answerOption_47 0 rfl rfl ?_
        refine lv_aload_n hx hb dX0_answerOption_50 rfl (lv_at hl 1 rfl) ?_
        refine wget hF hw flX0_88 dX0_answerOption_51 0 rfl rfl ?_
        refine lv_ldc hx hb hF.2.2.2.1 (hF.2.2.2.2 _ tw611) dX0_answerOption_54 ?_
        refine r_top (n := 1103515245) rfl ?_
        refine lv_imul hx hb dX0_answerOption_56 ?_
        refine lv_sipush (v := nI 12345) hx hb dX0_answerOption_57 (by decide) ?_
        refine lv_iadd hx hb dX0_answerOption_60 ?_
        refine Ct.callV (wr := [(ed 0, .inr (0, [.ref (ed 1), .ref (ed 3), .ref (ed 4), .ref (ed 6), .ref (ed 8), .ref (ed 10), .ref (ed 12), .ref (ed 14), .int (nI (eSz E)), .int (nI (eLe E)), .int (eNu E), .int (nI (eAS E).toNat), .int (nI (eAN E).toNat), .int (nI (eSt E)), .int (nI (eId E)), .int (eTr E), .int (nI (eTi E))])), (ed 4, .inr (2, [.ref (ed 5), .int (nI G.length)])), (ed 5, .inl (g.2.1 0, 40, .inl fG))]) hF hw (c_X3_addNumber l g (ed 10) (ed 11) 40 f2_43 (N ++ [5]) (((eNu E) * (nI 1103515245)) + (nI 12345)) (by decide) (by rw [List.length_append, List.length_singleton]; omega) (hp_43)) mwX0_91 [3, 4] [0, 1, 2] rfl rfl rfl rfl (by decide) 0 rfl rfl ⟨by decide, by decide⟩ ⟨by decide, by decide⟩ rfl hl.1 (Nat.le_of_ble_eq_true rfl) rfl dX0_answerOption_61 (fun v u H locs hp hw => ?_)
        obtain ⟨f2_61, rfl⟩ : ∃ z, z = u := ⟨_, rfl⟩
        obtain ⟨rfl, hp_61⟩ := hp
        try dsimp only at hp_61
        have hw := Wd.sub (ws' := [(ed 0, .inr (0, [.ref (ed 1), .ref (ed 3), .ref (ed 4), .ref (ed 6), .ref (ed 8), .ref (ed 10), .ref (ed 12), .ref (ed 14), .int (nI (eSz E)), .int (nI (eLe E)), .int (eNu E), .int (nI (eAS E).toNat), .int (nI (eAN E).toNat), .int (nI (eSt E)), .int (nI (eId E)), .int (eTr E), .int (nI (eTi E))])), (ed 4, .inr (2, [.ref (ed 5), .int (nI G.length)])), (ed 5, .inl (g.2.1 0, 40, .inl fG)), (ed 10, .inr (2, [.ref (ed 11), .int (nI ((N ++ [5]) ++ nbs (((eNu E) * (nI 1103515245)) + (nI 12345))).length)])), (ed 11, .inl (g.2.1 0, 40, .inl f2_61))]) hw [0, 1, 2, 3, 4] rfl rfl
        refine W.eq (g2 := F0 m 64 ls []) rfl ?_
        refine lv_goto (tgt := 103) hx hb dX0_answerOption_64 (by decide) ?_
        have hol : oaL c9 G (eLe E) (eNu E) k = _ := ol_5 c_35 (fun q => by first | exact c_16 q | exact c_11 c_35)
        have e9 : N ++ [5] ++ nbs (eNu E * nI 1103515245 + nI 12345) = N ++ 5 :: nbs (eNu E * nI 1103515245 + nI 12345) := by rw [List.append_assoc]; rfl
        rw [e9] at hw hp_61
        exact RQ.vret hF hr hlk hw dX0_answerOption_103 ⟨by decide, by decide⟩ ((f2_61)) (by rw [hol]) ⟨rfl, by rw [hol]; exact hp_61⟩
    · have ho1 := optLen_1 c_16
      refine lv_aload_n hx hb dX0_answerOption_19 rfl (lv_at hl 1 rfl) ?_
      refine wget hF hw flX0_36 dX0_answerOption_20 0 rfl rfl ?_
      refine lv_aload_n hx hb dX0_answerOption_23 rfl (lv_at hl 1 rfl) ?_
      refine wget hF hw flX0_50 dX0_answerOption_24 0 rfl rfl ?_
      refine Ct.callV (wr := [(ed 0, .inr (0, [.ref (ed 1), .ref (ed 3), .ref (ed 4), .ref (ed 6), .ref (ed 8), .ref (ed 10), .ref (ed 12), .ref (ed 14), .int (nI (eSz E)), .int (nI (eLe E)), .int (eNu E), .int (nI (eAS E).toNat), .int (nI (eAN E).toNat), .int (nI (eSt E)), .int (nI (eId E)), .int (eTr E), .int (nI (eTi E))])), (ed 4, .inr (2, [.ref (ed 5), .int (nI G.length)])), (ed 5, .inl (g.2.1 0, 40, .inl fG))]) hF hw (c_X3_addSizeOption l g (ed 10) (ed 11) 40 fA N (eLe E) (by decide) (by omega) (hfA) (by omega)) mwX0_247 [3, 4] [0, 1, 2] rfl rfl rfl rfl (by decide) 0 rfl rfl ⟨by decide, by decide⟩ ⟨by decide, by decide⟩ rfl hl.1 (Nat.le_of_ble_eq_true rfl) rfl dX0_answerOption_27 (fun v u H locs hp hw => ?_)
      obtain ⟨f2_27, rfl⟩ : ∃ z, z = u := ⟨_, rfl⟩
      obtain ⟨rfl, hp_27⟩ := hp
      try dsimp only at hp_27
      have hw := Wd.sub (ws' := [(ed 0, .inr (0, [.ref (ed 1), .ref (ed 3), .ref (ed 4), .ref (ed 6), .ref (ed 8), .ref (ed 10), .ref (ed 12), .ref (ed 14), .int (nI (eSz E)), .int (nI (eLe E)), .int (eNu E), .int (nI (eAS E).toNat), .int (nI (eAN E).toNat), .int (nI (eSt E)), .int (nI (eId E)), .int (eTr E), .int (nI (eTi E))])), (ed 4, .inr (2, [.ref (ed 5), .int (nI G.length)])), (ed 5, .inl (g.2.1 0, 40, .inl fG)), (ed 10, .inr (2, [.ref (ed 11), .int (nI (N ++ [1, (eLe E) / 256, (eLe E) % 256]).length)])), (ed 11, .inl (g.2.1 0, 40, .inl f2_27))]) hw [0, 1, 2, 3, 4] rfl rfl
      refine W.eq (g2 := F0 m 30 ls []) rfl ?_
      refine lv_goto (tgt := 103) hx hb dX0_answerOption_30 (by decide) ?_
      have hol : oaL c9 G (eLe E) (eNu E) k = _ := ol_1 c_11 c_16
      exact RQ.vret hF hr hlk hw dX0_answerOption_103 ⟨by decide, by decide⟩ ((f2_27)) (by rw [hol]) ⟨rfl, by rw [hol]; exact hp_27⟩
