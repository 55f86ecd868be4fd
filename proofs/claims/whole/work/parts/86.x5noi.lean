set_option maxHeartbeats 4000000 in
set_option maxRecDepth 100000 in
theorem c_X5_noise (l : Launch) (g : GE) (lt : Nat) (ad : Nat → Nat → Nat) (Z : Nat → AE) (fr : Nat) (fB : Nat → Int32) (fG : Nat → Int32) (fK : Nat → Int32) (fQ : Nat → Int32) (fA : Nat → Int32) (fD : Nat → Int32) (fC : Nat → Int32) (N : List Nat) (D : List Nat) (frv : Nat) (fBv : Nat → Int32) (fGv : Nat → Int32) (fKv : Nat → Int32) (fQv : Nat → Int32) (fAv : Nat → Int32) (fDv : Nat → Int32) (fCv : Nat → Int32) (Nv : List Nat) (Dv : List Nat) (hX : CX fr fB fG fK fQ fC (Z 0)) (hXv : CX frv fBv fGv fKv fQv fCv (Z 1)) : Ct l yX5_noise cX5_noise 3 (some .float) { frames := 0, cells := 0, slots := 0, locals := 0 } g [.ref lt] [(lt, .inr (4, [.ref ((ad 0) 1), .ref ((ad 1) 1), .ref ((ad 0) 0), .ref ((ad 1) 0)])), ((ad 0) 0, .inr (0, [.ref ((ad 0) 1), .ref ((ad 0) 3), .ref ((ad 0) 4), .ref ((ad 0) 6), .ref ((ad 0) 8), .ref ((ad 0) 10), .ref ((ad 0) 12), .ref ((ad 0) 14), .int (nI (eSz (Z 0))), .int (nI (eLe (Z 0))), .int (eNu (Z 0)), .int (nI (eAS (Z 0)).toNat), .int (nI (eAN (Z 0)).toNat), .int (nI (eSt (Z 0))), .int (nI (eId (Z 0))), .int (eTr (Z 0)), .int (nI (eTi (Z 0)))])), ((ad 0) 1, .inr (1, [.ref ((ad 0) 2), .int (nI fr), .int (nI (eB (Z 0)).length), .int (nI (eLp (Z 0)).toNat)])), ((ad 0) 2, .inl (g.2.1 0, 300, .inl fB)), ((ad 0) 3, .inr (3, [.ref ((ad 0) 4), .int (nI (eEs (Z 0)).toNat), .int (nI (eOv (Z 0)).toNat)])), ((ad 0) 4, .inr (2, [.ref ((ad 0) 5), .int (nI (eG (Z 0)).length)])), ((ad 0) 5, .inl (g.2.1 0, 40, .inl fG)), ((ad 0) 6, .inr (2, [.ref ((ad 0) 7), .int (nI (eKl (Z 0)).length)])), ((ad 0) 7, .inl (g.2.1 0, 40, .inl fK)), ((ad 0) 8, .inr (2, [.ref ((ad 0) 9), .int (nI (eAq (Z 0)).length)])), ((ad 0) 9, .inl (g.2.1 0, 13, .inl fQ)), ((ad 0) 10, .inr (2, [.ref ((ad 0) 11), .int (nI N.length)])), ((ad 0) 11, .inl (g.2.1 0, 40, .inl fA)), ((ad 0) 12, .inr (2, [.ref ((ad 0) 13), .int (nI D.length)])), ((ad 0) 13, .inl (g.2.1 0, 40, .inl fD)), ((ad 0) 14, .inl (g.2.1 0, 6, .inl fC)), ((ad 1) 0, .inr (0, [.ref ((ad 1) 1), .ref ((ad 1) 3), .ref ((ad 1) 4), .ref ((ad 1) 6), .ref ((ad 1) 8), .ref ((ad 1) 10), .ref ((ad 1) 12), .ref ((ad 1) 14), .int (nI (eSz (Z 1))), .int (nI (eLe (Z 1))), .int (eNu (Z 1)), .int (nI (eAS (Z 1)).toNat), .int (nI (eAN (Z 1)).toNat), .int (nI (eSt (Z 1))), .int (nI (eId (Z 1))), .int (eTr (Z 1)), .int (nI (eTi (Z 1)))])), ((ad 1) 1, .inr (1, [.ref ((ad 1) 2), .int (nI frv), .int (nI (eB (Z 1)).length), .int (nI (eLp (Z 1)).toNat)])), ((ad 1) 2, .inl (g.2.1 0, 300, .inl fBv)), ((ad 1) 3, .inr (3, [.ref ((ad 1) 4), .int (nI (eEs (Z 1)).toNat), .int (nI (eOv (Z 1)).toNat)])), ((ad 1) 4, .inr (2, [.ref ((ad 1) 5), .int (nI (eG (Z 1)).length)])), ((ad 1) 5, .inl (g.2.1 0, 40, .inl fGv)), ((ad 1) 6, .inr (2, [.ref ((ad 1) 7), .int (nI (eKl (Z 1)).length)])), ((ad 1) 7, .inl (g.2.1 0, 40, .inl fKv)), ((ad 1) 8, .inr (2, [.ref ((ad 1) 9), .int (nI (eAq (Z 1)).length)])), ((ad 1) 9, .inl (g.2.1 0, 13, .inl fQv)), ((ad 1) 10, .inr (2, [.ref ((ad 1) 11), .int (nI Nv.length)])), ((ad 1) 11, .inl (g.2.1 0, 40, .inl fAv)), ((ad 1) 12, .inr (2, [.ref ((ad 1) 13), .int (nI Dv.length)])), ((ad 1) 13, .inl (g.2.1 0, 40, .inl fDv)), ((ad 1) 14, .inl (g.2.1 0, 6, .inl fCv))] (fun (v : Option Value) (u : Unit) => v = some (.float (noiR Z)) ∧ True) (fun u : Unit => [(lt, .inr (4, [.ref ((ad 0) 1), .ref ((ad 1) 1), .ref ((ad 0) 0), .ref ((ad 1) 0)])), ((ad 0) 0, .inr (0, [.ref ((ad 0) 1), .ref ((ad 0) 3), .ref ((ad 0) 4), .ref ((ad 0) 6), .ref ((ad 0) 8), .ref ((ad 0) 10), .ref ((ad 0) 12), .ref ((ad 0) 14), .int (nI (eSz (Z 0))), .int (nI (eLe (Z 0))), .int (eNu (Z 0)), .int (nI (eAS (Z 0)).toNat), .int (nI (eAN (Z 0)).toNat), .int (nI (eSt (Z 0))), .int (nI (eId (Z 0))), .int (eTr (Z 0)), .int (nI (eTi (Z 0)))])), ((ad 0) 1, .inr (1, [.ref ((ad 0) 2), .int (nI fr), .int (nI (eB (Z 0)).length), .int (nI (eLp (Z 0)).toNat)])), ((ad 0) 2, .inl (g.2.1 0, 300, .inl fB)), ((ad 0) 3, .inr (3, [.ref ((ad 0) 4), .int (nI (eEs (Z 0)).toNat), .int (nI (eOv (Z 0)).toNat)])), ((ad 0) 4, .inr (2, [.ref ((ad 0) 5), .int (nI (eG (Z 0)).length)])), ((ad 0) 5, .inl (g.2.1 0, 40, .inl fG)), ((ad 0) 6, .inr (2, [.ref ((ad 0) 7), .int (nI (eKl (Z 0)).length)])), ((ad 0) 7, .inl (g.2.1 0, 40, .inl fK)), ((ad 0) 8, .inr (2, [.ref ((ad 0) 9), .int (nI (eAq (Z 0)).length)])), ((ad 0) 9, .inl (g.2.1 0, 13, .inl fQ)), ((ad 0) 10, .inr (2, [.ref ((ad 0) 11), .int (nI N.length)])), ((ad 0) 11, .inl (g.2.1 0, 40, .inl fA)), ((ad 0) 12, .inr (2, [.ref ((ad 0) 13), .int (nI D.length)])), ((ad 0) 13, .inl (g.2.1 0, 40, .inl fD)), ((ad 0) 14, .inl (g.2.1 0, 6, .inl fC)), ((ad 1) 0, .inr (0, [.ref ((ad 1) 1), .ref ((ad 1) 3), .ref ((ad 1) 4), .ref ((ad 1) 6), .ref ((ad 1) 8), .ref ((ad 1) 10), .ref ((ad 1) 12), .ref ((ad 1) 14), .int (nI (eSz (Z 1))), .int (nI (eLe (Z 1))), .int (eNu (Z 1)), .int (nI (eAS (Z 1)).toNat), .int (nI (eAN (Z 1)).toNat), .int (nI (eSt (Z 1))), .int (nI (eId (Z 1))), .int (eTr (Z 1)), .int (nI (eTi (Z 1)))])), ((ad 1) 1, .inr (1, [.ref ((ad 1) 2), .int (nI frv), .int (nI (eB (Z 1)).length), .int (nI (eLp (Z 1)).toNat)])), ((ad 1) 2, .inl (g.2.1 0, 300, .inl fBv)), ((ad 1) 3, .inr (3, [.ref ((ad 1) 4), .int (nI (eEs (Z 1)).toNat), .int (nI (eOv (Z 1)).toNat)])), ((ad 1) 4, .inr (2, [.ref ((ad 1) 5), .int (nI (eG (Z 1)).length)])), ((ad 1) 5, .inl (g.2.1 0, 40, .inl fGv)), ((ad 1) 6, .inr (2, [.ref ((ad 1) 7), .int (nI (eKl (Z 1)).length)])), ((ad 1) 7, .inl (g.2.1 0, 40, .inl fKv)), ((ad 1) 8, .inr (2, [.ref ((ad 1) 9), .int (nI (eAq (Z 1)).length)])), ((ad 1) 9, .inl (g.2.1 0, 13, .inl fQv)), ((ad 1) 10, .inr (2, [.ref ((ad 1) 11), .int (nI Nv.length)])), ((ad 1) 11, .inl (g.2.1 0, 40, .inl fAv)), ((ad 1) 12, .inr (2, [.ref ((ad 1) 13), .int (nI Dv.length)])), ((ad 1) 13, .inl (g.2.1 0, 40, .inl fDv)), ((ad 1) 14, .inl (g.2.1 0, 6, .inl fCv))]) := by
  refine Ct.of (own := RX5) rfl rfl (Nat.le_of_ble_eq_true rfl) ?_
  intro P0 e0 s m below meth c ls hF hr hlk hnm hw hl
  have hx := hF.1
  have hb := hF.2.1
  have hl : lv_has ls 3 [(0, .ref lt)] := hl
  have hC0 := hX.2.2.2.2.2
  have hC1 := hXv.2.2.2.2.2
  refine lv_aload_n hx hb dX5_noise_0 rfl (lv_at hl 0 rfl) ?_
  refine wget hF hw flX5_24 dX5_noise_1 0 rfl rfl ?_
  refine wget hF hw flX5_175 dX5_noise_4 1 rfl rfl ?_
  refine lv_iconst (v := nI 1) hx hb dX5_noise_7 (by decide) ?_
  refine r_iald hF hw dX5_noise_8 15 rfl (by omega) (by omega) ?_
  refine r_topv (y := .int (eCf (Z 0) 1)) (by rw [hC0 1 (by decide)]) ?_
  refine lv_aload_n hx hb dX5_noise_9 rfl (lv_at hl 0 rfl) ?_
  refine wget hF hw flX5_28 dX5_noise_10 0 rfl rfl ?_
  refine wget hF hw flX5_175 dX5_noise_13 16 rfl rfl ?_
  refine lv_iconst (v := nI 1) hx hb dX5_noise_16 (by decide) ?_
  refine r_iald hF hw dX5_noise_17 30 rfl (by omega) (by omega) ?_
  refine r_topv (y := .int (eCf (Z 1) 1)) (by rw [hC1 1 (by decide)]) ?_
  refine lv_iadd hx hb dX5_noise_18 ?_
  refine lv_istore_n (lv' := [(1, .int ((eCf (Z 0) 1) + (eCf (Z 1) 1))), (0, .ref lt)]) hx hb dX5_noise_19 rfl hl (by decide) rfl (fun ls hl => ?_)
  refine lv_iload_n hx hb dX5_noise_20 rfl (lv_at hl 0 rfl) ?_
  refine lv_aload_n hx hb dX5_noise_21 rfl (lv_at hl 1 rfl) ?_
  refine wget hF hw flX5_24 dX5_noise_22 0 rfl rfl ?_
  refine wget hF hw flX5_175 dX5_noise_25 1 rfl rfl ?_
  refine lv_iconst (v := nI 0) hx hb dX5_noise_28 (by decide) ?_
  refine r_iald hF hw dX5_noise_29 15 rfl (by omega) (by omega) ?_
  refine r_topv (y := .int (eCf (Z 0) 0)) (by rw [hC0 0 (by decide)]) ?_
  refine lv_iadd hx hb dX5_noise_30 ?_
  refine lv_aload_n hx hb dX5_noise_31 rfl (lv_at hl 1 rfl) ?_
  refine wget hF hw flX5_28 dX5_noise_32 0 rfl rfl ?_
  refine wget hF hw flX5_175 dX5_noise_35 16 rfl rfl ?_
  refine lv_iconst (v := nI 0) hx hb dX5_noise_38 (by decide) ?_
  refine r_iald hF hw dX5_noise_39 30 rfl (by omega) (by omega) ?_
  refine r_topv (y := .int (eCf (Z 1) 0)) (by rw [hC1 0 (by decide)]) ?_
  refine lv_iadd hx hb dX5_noise_40 ?_
  refine lv_istore_n (lv' := [(2, .int ((((eCf (Z 0) 1) + (eCf (Z 1) 1)) + (eCf (Z 0) 0)) + (eCf (Z 1) 0))), (1, .int ((eCf (Z 0) 1) + (eCf (Z 1) 1))), (0, .ref lt)]) hx hb dX5_noise_41 rfl hl (by decide) rfl (fun ls hl => ?_)
  refine lv_iload_n hx hb dX5_noise_42 rfl (lv_at hl 0 rfl) ?_
  refine lv_if_ne (tgt := 50) hx hb dX5_noise_43 (by decide) (fun c_43 => ?_) (fun c_43 => ?_)
  · refine lv_iload_n hx hb dX5_noise_50 rfl (lv_at hl 1 rfl) ?_
    refine lv_i2f hx hb dX5_noise_51 ?_
    refine lv_iload_n hx hb dX5_noise_52 rfl (lv_at hl 0 rfl) ?_
    refine lv_i2f hx hb dX5_noise_53 ?_
    refine lv_fdiv hx hb dX5_noise_54 (fl_ok c_43) ?_
    exact RQ.fret hF hr hlk hw dX5_noise_55 ⟨by decide, by decide⟩ (()) (rfl) ⟨by unfold noiR; first | rw [if_pos (show allN Z = 0 from c_43)] | (rw [if_neg (show ¬ allN Z = 0 from c_43)]; rfl), trivial⟩
  · refine lv_fconst0 hx hb dX5_noise_46 ?_
    refine lv_goto (tgt := 55) hx hb dX5_noise_47 (by decide) ?_
    exact RQ.fret hF hr hlk hw dX5_noise_55 ⟨by decide, by decide⟩ (()) (rfl) ⟨by unfold noiR; first | rw [if_pos (show allN Z = 0 from c_43)] | (rw [if_neg (show ¬ allN Z = 0 from c_43)]; rfl), trivial⟩
