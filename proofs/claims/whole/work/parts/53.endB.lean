set_option maxHeartbeats 4000000 in
set_option maxRecDepth 100000 in
theorem c_X0_timerIsOver (l : Launch) (g : GE) (ed : Nat → Nat) (E : AE) (fr : Nat) (fB : Nat → Int32) (fG : Nat → Int32) (fK : Nat → Int32) (fQ : Nat → Int32) (fA : Nat → Int32) (fD : Nat → Int32) (fC : Nat → Int32) (N : List Nat) (D : List Nat) (hX : CX fr fB fG fK fQ fC E) (hT : TmE E) : Ct l yX0_timerIsOver cX0_timerIsOver 1 (some .boolean) { frames := 5, cells := 0, slots := 0, locals := 113 } g [.ref (ed 0)] [(ed 0, .inr (0, [.ref (ed 1), .ref (ed 3), .ref (ed 4), .ref (ed 6), .ref (ed 8), .ref (ed 10), .ref (ed 12), .ref (ed 14), .int (nI (eSz E)), .int (nI (eLe E)), .int (eNu E), .int (nI (eAS E).toNat), .int (nI (eAN E).toNat), .int (nI (eSt E)), .int (nI (eId E)), .int (eTr E), .int (nI (eTi E))])), (ed 1, .inr (1, [.ref (ed 2), .int (nI fr), .int (nI (eB E).length), .int (nI (eLp E).toNat)])), (ed 2, .inl (g.2.1 0, 300, .inl fB)), (ed 3, .inr (3, [.ref (ed 4), .int (nI (eEs E).toNat), .int (nI (eOv E).toNat)])), (ed 4, .inr (2, [.ref (ed 5), .int (nI (eG E).length)])), (ed 5, .inl (g.2.1 0, 40, .inl fG)), (ed 6, .inr (2, [.ref (ed 7), .int (nI (eKl E).length)])), (ed 7, .inl (g.2.1 0, 40, .inl fK)), (ed 8, .inr (2, [.ref (ed 9), .int (nI (eAq E).length)])), (ed 9, .inl (g.2.1 0, 13, .inl fQ)), (ed 10, .inr (2, [.ref (ed 11), .int (nI N.length)])), (ed 11, .inl (g.2.1 0, 40, .inl fA)), (ed 12, .inr (2, [.ref (ed 13), .int (nI D.length)])), (ed 13, .inl (g.2.1 0, 40, .inl fD)), (ed 14, .inl (g.2.1 0, 6, .inl fC))] (fun (v : Option Value) (u : (Nat → Int32) × (Nat → Int32) × (Nat → Int32) × (Nat → Int32) × (Nat → Int32) × (Nat → Int32) × (List Nat) × (List Nat)) => v = some (.int (nI (tikB E).toNat)) ∧ CX fr u.1 fG u.2.1 u.2.2.1 u.2.2.2.2.2.1 (tikE E)) (fun u : (Nat → Int32) × (Nat → Int32) × (Nat → Int32) × (Nat → Int32) × (Nat → Int32) × (Nat → Int32) × (List Nat) × (List Nat) => [(ed 0, .inr (0, [.ref (ed 1), .ref (ed 3), .ref (ed 4), .ref (ed 6), .ref (ed 8), .ref (ed 10), .ref (ed 12), .ref (ed 14), .int (nI (eSz (tikE E))), .int (nI (eLe (tikE E))), .int (eNu (tikE E)), .int (nI (eAS (tikE E)).toNat), .int (nI (eAN (tikE E)).toNat), .int (nI (eSt (tikE E))), .int (nI (eId (tikE E))), .int (eTr (tikE E)), .int (nI (eTi (tikE E)))])), (ed 1, .inr (1, [.ref (ed 2), .int (nI fr), .int (nI (eB (tikE E)).length), .int (nI (eLp (tikE E)).toNat)])), (ed 2, .inl (g.2.1 0, 300, .inl u.1)), (ed 3, .inr (3, [.ref (ed 4), .int (nI (eEs (tikE E)).toNat), .int (nI (eOv (tikE E)).toNat)])), (ed 4, .inr (2, [.ref (ed 5), .int (nI (eG (tikE E)).length)])), (ed 5, .inl (g.2.1 0, 40, .inl fG)), (ed 6, .inr (2, [.ref (ed 7), .int (nI (eKl (tikE E)).length)])), (ed 7, .inl (g.2.1 0, 40, .inl u.2.1)), (ed 8, .inr (2, [.ref (ed 9), .int (nI (eAq (tikE E)).length)])), (ed 9, .inl (g.2.1 0, 13, .inl u.2.2.1)), (ed 10, .inr (2, [.ref (ed 11), .int (nI u.2.2.2.2.2.2.1.length)])), (ed 11, .inl (g.2.1 0, 40, .inl u.2.2.2.1)), (ed 12, .inr (2, [.ref (ed 13), .int (nI u.2.2.2.2.2.2.2.length)])), (ed 13, .inl (g.2.1 0, 40, .inl u.2.2.2.2.1)), (ed 14, .inl (g.2.1 0, 6, .inl u.2.2.2.2.2.1))]) := by
  refine Ct.of (own := RX0) rfl rfl (Nat.le_of_ble_eq_true rfl) ?_
  intro P0 e0 s m below meth c ls hF hr hlk hnm hw hl
  have hx := hF.1
  have hb := hF.2.1
  have hl : lv_has ls 1 [(0, .ref (ed 0))] := hl
  obtain ⟨hI, hR, hfG, hfK, hfQ, hC⟩ := id hX
  have hG40 := hI.2.2.2.2.2.2.2.2.1.1
  have hGB := hI.2.2.2.2.2.2.2.2.1.2.1
  have hi8 := hI.2.2.2.1
  have hst9 := hI.2.2.1
  have hti3 := hI.2.2.2.2.1
  refine lv_aload_n hx hb dX0_timerIsOver_0 rfl (lv_at hl 0 rfl) ?_
  refine wget hF hw flX0_60 dX0_timerIsOver_1 0 rfl rfl ?_
  refine lv_iconst (v := nI 4) hx hb dX0_timerIsOver_4 (by decide) ?_
  refine r_lt (tgt := 17) hx hb dX0_timerIsOver_5 (by decide) (by omega) (by omega) (fun c_5 => ?_) (fun c_5 => ?_)
  · refine lv_iconst (v := nI 0) hx hb dX0_timerIsOver_17 (by decide) ?_
    have htk := tik_no (E := E) (by omega)
    exact RQ.zret hF hr hlk hw dX0_timerIsOver_18 (rfl) ⟨by decide, by decide⟩ ((fB, fK, fQ, fA, fD, fC, N, D)) (by rw [htk.1]) ⟨by rw [htk.2], by rw [htk.1]; exact hX⟩
  · refine lv_aload_n hx hb dX0_timerIsOver_8 rfl (lv_at hl 0 rfl) ?_
    refine wget hF hw flX0_60 dX0_timerIsOver_9 0 rfl rfl ?_
    refine lv_bipush (v := nI 8) hx hb dX0_timerIsOver_12 (by decide) ?_
    refine r_le (tgt := 19) hx hb dX0_timerIsOver_14 (by decide) (by omega) (by omega) (fun c_14 => ?_) (fun c_14 => ?_)
    · have hin9 : 4 ≤ eSt E ∧ eSt E ≤ 8 := ⟨by omega, by omega⟩
      have hti1 := hT hin9.1 hin9.2
      refine lv_aload_n hx hb dX0_timerIsOver_19 rfl (lv_at hl 0 rfl) ?_
      refine lv_dup hx hb dX0_timerIsOver_20 rfl ?_
      refine wget hF hw flX0_106 dX0_timerIsOver_21 0 rfl rfl ?_
      refine lv_iconst (v := nI 1) hx hb dX0_timerIsOver_24 (by decide) ?_
      refine r_isub hx hb dX0_timerIsOver_25 (by omega) ?_
      refine r_put (ws' := [(ed 0, .inr (0, [.ref (ed 1), .ref (ed 3), .ref (ed 4), .ref (ed 6), .ref (ed 8), .ref (ed 10), .ref (ed 12), .ref (ed 14), .int (nI (eSz E)), .int (nI (eLe E)), .int (eNu E), .int (nI (eAS E).toNat), .int (nI (eAN E).toNat), .int (nI (eSt E)), .int (nI (eId E)), .int (eTr E), .int (nI ((eTi E) - 1))])), (ed 1, .inr (1, [.ref (ed 2), .int (nI fr), .int (nI (eB E).length), .int (nI (eLp E).toNat)])), (ed 2, .inl (g.2.1 0, 300, .inl fB)), (ed 3, .inr (3, [.ref (ed 4), .int (nI (eEs E).toNat), .int (nI (eOv E).toNat)])), (ed 4, .inr (2, [.ref (ed 5), .int (nI (eG E).length)])), (ed 5, .inl (g.2.1 0, 40, .inl fG)), (ed 6, .inr (2, [.ref (ed 7), .int (nI (eKl E).length)])), (ed 7, .inl (g.2.1 0, 40, .inl fK)), (ed 8, .inr (2, [.ref (ed 9), .int (nI (eAq E).length)])), (ed 9, .inl (g.2.1 0, 13, .inl fQ)), (ed 10, .inr (2, [.ref (ed 11), .int (nI N.length)])), (ed 11, .inl (g.2.1 0, 40, .inl fA)), (ed 12, .inr (2, [.ref (ed 13), .int (nI D.length)])), (ed 13, .inl (g.2.1 0, 40, .inl fD)), (ed 14, .inl (g.2.1 0, 6, .inl fC))]) hF hw flX0_106 ftX0 dX0_timerIsOver_26 0 rfl rfl rfl rfl (Nat.le_of_ble_eq_true rfl) rfl (fun H locs hw => ?_)
      refine lv_aload_n hx hb dX0_timerIsOver_29 rfl (lv_at hl 0 rfl) ?_
      refine wget hF hw flX0_106 dX0_timerIsOver_30 0 rfl rfl ?_
      refine r_le0 (tgt := 38) hx hb dX0_timerIsOver_33 (by decide) (by omega) (fun c_33 => ?_) (fun c_33 => ?_)
      · refine lv_aload_n hx hb dX0_timerIsOver_38 rfl (lv_at hl 0 rfl) ?_
        refine lv_aload_n hx hb dX0_timerIsOver_39 rfl (lv_at hl 0 rfl) ?_
        refine wget hF hw flX0_109 dX0_timerIsOver_40 0 rfl rfl ?_
        refine lv_if_le (tgt := 52) hx hb dX0_timerIsOver_43 (by decide) (fun c_43 => ?_) (fun c_43 => ?_)
        · have hcn : ¬ 0 < eTr E := by first | exact c_43 | exact Int32.not_lt.mpr c_43
          refine wgetE (i := 5) hF hw (by decide) rfl tw656 dX0_timerIsOver_52 ?_
          refine Ct.callV (wr := []) hF hw (c_X0_happen l g ed (tik0 E) fr fB fG fK fQ fA fD fC N D 0 0 5 (by decide) (hX.ti) (fun q => ev_p5 (by decide) hst9 q) (fun q => ev_pt (by decide) hst9 q) (fun q => ev_pk (by decide) hst9 q)) mwX0_121 [0, 1, 2, 3, 4, 5, 6, 7, 8, 9, 10, 11, 12, 13, 14] [] rfl rfl rfl rfl (by decide) 0 rfl rfl ⟨by decide, by decide⟩ ⟨by decide, by decide⟩ rfl hl.1 (Nat.le_of_ble_eq_true rfl) rfl dX0_timerIsOver_55 (fun v u H locs hp hw => ?_)
          obtain ⟨fB2_55, fK2_55, fQ2_55, fA2_55, fD2_55, fC2_55, N2_55, D2_55⟩ := u
          obtain ⟨rfl, hp_55⟩ := hp
          try dsimp only at hp_55
          have hw := Wd.sub (ws' := [(ed 0, .inr (0, [.ref (ed 1), .ref (ed 3), .ref (ed 4), .ref (ed 6), .ref (ed 8), .ref (ed 10), .ref (ed 12), .ref (ed 14), .int (nI (eSz (happenA 0 0 N (tik0 E) 5))), .int (nI (eLe (happenA 0 0 N (tik0 E) 5))), .int (eNu (happenA 0 0 N (tik0 E) 5)), .int (nI (eAS (happenA 0 0 N (tik0 E) 5)).toNat), .int (nI (eAN (happenA 0 0 N (tik0 E) 5)).toNat), .int (nI (eSt (happenA 0 0 N (tik0 E) 5))), .int (nI (eId (happenA 0 0 N (tik0 E) 5))), .int (eTr (happenA 0 0 N (tik0 E) 5)), .int (nI (eTi (happenA 0 0 N (tik0 E) 5)))])), (ed 1, .inr (1, [.ref (ed 2), .int (nI fr), .int (nI (eB (happenA 0 0 N (tik0 E) 5)).length), .int (nI (eLp (happenA 0 0 N (tik0 E) 5)).toNat)])), (ed 2, .inl (g.2.1 0, 300, .inl fB2_55)), (ed 3, .inr (3, [.ref (ed 4), .int (nI (eEs (happenA 0 0 N (tik0 E) 5)).toNat), .int (nI (eOv (happenA 0 0 N (tik0 E) 5)).toNat)])), (ed 4, .inr (2, [.ref (ed 5), .int (nI (eG (happenA 0 0 N (tik0 E) 5)).length)])), (ed 5, .inl (g.2.1 0, 40, .inl fG)), (ed 6, .inr (2, [.ref (ed 7), .int (nI (eKl (happenA 0 0 N (tik0 E) 5)).length)])), (ed 7, .inl (g.2.1 0, 40, .inl fK2_55)), (ed 8, .inr (2, [.ref (ed 9), .int (nI (eAq (happenA 0 0 N (tik0 E) 5)).length)])), (ed 9, .inl (g.2.1 0, 13, .inl fQ2_55)), (ed 10, .inr (2, [.ref (ed 11), .int (nI N2_55.length)])), (ed 11, .inl (g.2.1 0, 40, .inl fA2_55)), (ed 12, .inr (2, [.ref (ed 13), .int (nI D2_55.length)])), (ed 13, .inl (g.2.1 0, 40, .inl fD2_55)), (ed 14, .inl (g.2.1 0, 6, .inl fC2_55))]) hw [0, 1, 2, 3, 4, 5, 6, 7, 8, 9, 10, 11, 12, 13, 14] rfl rfl
          refine W.eq (g2 := F0 m 58 ls []) rfl ?_
          refine lv_iconst (v := nI 1) hx hb dX0_timerIsOver_58 (by decide) ?_
          have htk := tik_ov (E := E) hin9 (by omega) (v := 5) (by first | exact if_pos hcn | exact if_neg hcn)
          have hce : tikE E = happenA 0 0 N (tik0 E) 5 := htk.1.trans (happenA_c (by decide) hst9)
          exact RQ.zret hF hr hlk hw dX0_timerIsOver_59 (rfl) ⟨by decide, by decide⟩ ((fB2_55, fK2_55, fQ2_55, fA2_55, fD2_55, fC2_55, N2_55, D2_55)) (by rw [hce]) ⟨by rw [htk.2], by rw [hce]; exact hp_55.1⟩
        · have hcn : 0 < eTr E := by first | exact c_43 | exact Int32.not_le.mp c_43
          refine wgetE (i := 4) hF hw (by decide) rfl tw654 dX0_timerIsOver_46 ?_
          refine lv_goto (tgt := 55) hx hb dX0_timerIsOver_49 (by decide) ?_
          refine Ct.callV (wr := []) hF hw (c_X0_happen l g ed (tik0 E) fr fB fG fK fQ fA fD fC N D 0 0 4 (by decide) (hX.ti) (fun q => ev_p5 (by decide) hst9 q) (fun q => ev_pt (by decide) hst9 q) (fun q => ev_pk (by decide) hst9 q)) mwX0_121 [0, 1, 2, 3, 4, 5, 6, 7, 8, 9, 10, 11, 12, 13, 14] [] rfl rfl rfl rfl (by decide) 0 rfl rfl ⟨by decide, by decide⟩ ⟨by decide, by decide⟩ rfl hl.1 (Nat.le_of_ble_eq_true rfl) rfl dX0_timerIsOver_55 (fun v u H locs hp hw => ?_)
          obtain ⟨fB2_55, fK2_55, fQ2_55, fA2_55, fD2_55, fC2_55, N2_55, D2_55⟩ := u
          obtain ⟨rfl, hp_55⟩ := hp
          try dsimp only at hp_55
          have hw := Wd.sub (ws' := [(ed 0, .inr (0, [.ref (ed 1), .ref (ed 3), .ref (ed 4), .ref (ed 6), .ref (ed 8), .ref (ed 10), .ref (ed 12), .ref (ed 14), .int (nI (eSz (happenA 0 0 N (tik0 E) 4))), .int (nI (eLe (happenA 0 0 N (tik0 E) 4))), .int (eNu (happenA 0 0 N (tik0 E) 4)), .int (nI (eAS (happenA 0 0 N (tik0 E) 4)).toNat), .int (nI (eAN (happenA 0 0 N (tik0 E) 4)).toNat), .int (nI (eSt (happenA 0 0 N (tik0 E) 4))), .int (nI (eId (happenA 0 0 N (tik0 E) 4))), .int (eTr (happenA 0 0 N (tik0 E) 4)), .int (nI (eTi (happenA 0 0 N (tik0 E) 4)))])), (ed 1, .inr (1, [.ref (ed 2), .int (nI fr), .int (nI (eB (happenA 0 0 N (tik0 E) 4)).length), .int (nI (eLp (happenA 0 0 N (tik0 E) 4)).toNat)])), (ed 2, .inl (g.2.1 0, 300, .inl fB2_55)), (ed 3, .inr (3, [.ref (ed 4), .int (nI (eEs (happenA 0 0 N (tik0 E) 4)).toNat), .int (nI (eOv (happenA 0 0 N (tik0 E) 4)).toNat)])), (ed 4, .inr (2, [.ref (ed 5), .int (nI (eG (happenA 0 0 N (tik0 E) 4)).length)])), (ed 5, .inl (g.2.1 0, 40, .inl fG)), (ed 6, .inr (2, [.ref (ed 7), .int (nI (eKl (happenA 0 0 N (tik0 E) 4)).length)])), (ed 7, .inl (g.2.1 0, 40, .inl fK2_55)), (ed 8, .inr (2, [.ref (ed 9), .int (nI (eAq (happenA 0 0 N (tik0 E) 4)).length)])), (ed 9, .inl (g.2.1 0, 13, .inl fQ2_55)), (ed 10, .inr (2, [.ref (ed 11), .int (nI N2_55.length)])), (ed 11, .inl (g.2.1 0, 40, .inl fA2_55)), (ed 12, .inr (2, [.ref (ed 13), .int (nI D2_55.length)])), (ed 13, .inl (g.2.1 0, 40, .inl fD2_55)), (ed 14, .inl (g.2.1 0, 6, .inl fC2_55))]) hw [0, 1, 2, 3, 4, 5, 6, 7, 8, 9, 10, 11, 12, 13, 14] rfl rfl
          refine W.eq (g2 := F0 m 58 ls []) rfl ?_
          refine lv_iconst (v := nI 1) hx hb dX0_timerIsOver_58 (by decide) ?_
          have htk := tik_ov (E := E) hin9 (by omega) (v := 4) (by first | exact if_pos hcn | exact if_neg hcn)
          have hce : tikE E = happenA 0 0 N (tik0 E) 4 := htk.1.trans (happenA_c (by decide) hst9)
          exact RQ.zret hF hr hlk hw dX0_timerIsOver_59 (rfl) ⟨by decide, by decide⟩ ((fB2_55, fK2_55, fQ2_55, fA2_55, fD2_55, fC2_55, N2_55, D2_55)) (by rw [hce]) ⟨by rw [htk.2], by rw [hce]; exact hp_55.1⟩
      · refine lv_iconst (v := nI 0) hx hb dX0_timerIsOver_36 (by decide) ?_
        have htk := tik_go (E := E) hin9 (by omega)
        exact RQ.zret hF hr hlk hw dX0_timerIsOver_37 (rfl) ⟨by decide, by decide⟩ ((fB, fK, fQ, fA, fD, fC, N, D)) (by rw [htk.1] <;> rfl) ⟨by rw [htk.2], by rw [htk.1]; exact hX.ti⟩
    · refine lv_iconst (v := nI 0) hx hb dX0_timerIsOver_17 (by decide) ?_
      have htk := tik_no (E := E) (by omega)
      exact RQ.zret hF hr hlk hw dX0_timerIsOver_18 (rfl) ⟨by decide, by decide⟩ ((fB, fK, fQ, fA, fD, fC, N, D)) (by rw [htk.1]) ⟨by rw [htk.2], by rw [htk.1]; exact hX⟩
