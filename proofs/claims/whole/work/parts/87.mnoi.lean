set_option maxHeartbeats 4000000 in
set_option maxRecDepth 100000 in
theorem c_X6_noise (l : Launch) (g : GE) (md : Nat → Nat) (th : Int32) (pn : Nat) (ac : Nat) (ci : Nat) (ck : Nat) (fSz : Nat → Int32) (fNu : Nat → Int32) (fAS : Nat → Int32) (fAN : Nat → Int32) (fId : Nat → Int32) (fCn : Nat → Int32) (fTi : Nat → Int32) (fAk : Nat → Int32) (fAl : Nat → Int32) (fAo : Nat → Int32) (fOl : Nat → Int32) (fBy : Nat → Int32) (fCt : Nat → Int32) (fPk : Nat → Int32) (fAn : Nat → Int32) (fRu : Nat → Int32) (fSt : Nat → Int32) (fLe : Nat → Int32) (fGa : Nat → Int32) (fGt : Nat → Int32) (fEs : Nat → Int32) (fDl : Nat → Int32) (fDb : Nat → Int32) (fLp : Nat → Int32) (Z : Nat → AE) (Q : List Nat) (hRM : RM fSz fNu fAS fAN fId fCn fTi fAk fAl fAo fOl fBy fCt fSt fLe fGt fGa fEs fDl fDb fLp Z) (hSQ : SQ fAn ac Q ci ck) (hRu : ∀ i, i < 160 → fRu i = rulT.getD i 0) : Ct l yX6_noise cX6_noise 5 (some .float) { frames := 0, cells := 0, slots := 0, locals := 0 } g [.ref (md 0)] [(md 0, .inr (5, [.ref (md 1), .int th, .ref (md 2), .ref (md 3), .ref (md 4), .ref (md 5), .ref (md 6), .ref (md 7), .ref (md 8), .ref (md 9), .ref (md 10), .ref (md 11), .ref (md 12), .ref (md 13), .ref (md 14), .ref (md 15), .ref (md 16), .ref (md 17), .ref (md 18), .ref (md 19), .ref (md 20), .ref (md 21), .ref (md 22), .int (nI pn), .ref (md 23), .int (nI ac), .int (nI Q.length), .ref (md 24), .int (nI ci), .int (nI ck)])), (md 3, .inl (g.2.1 0, 2, .inl fSz)), (md 5, .inl (g.2.1 0, 2, .inl fNu)), (md 9, .inl (g.2.1 1, 2, .inl fAS)), (md 10, .inl (g.2.1 1, 2, .inl fAN)), (md 6, .inl (g.2.1 0, 2, .inl fId)), (md 7, .inl (g.2.1 0, 2, .inl fCn)), (md 8, .inl (g.2.1 0, 2, .inl fTi)), (md 11, .inl (g.2.1 0, 2, .inl fAk)), (md 12, .inl (g.2.1 0, 2, .inl fAl)), (md 13, .inl (g.2.1 0, 16, .inl fAo)), (md 14, .inl (g.2.1 0, 2, .inl fOl)), (md 15, .inl (g.2.1 0, 600, .inl fBy)), (md 22, .inl (g.2.1 0, 12, .inl fCt)), (md 23, .inl (g.2.1 0, 64, .inl fPk)), (md 24, .inl (g.2.1 0, 40, .inl fAn)), (md 1, .inl (g.2.1 0, 160, .inl fRu)), (md 2, .inl (g.2.1 0, 2, .inl fSt)), (md 4, .inl (g.2.1 0, 2, .inl fLe)), (md 18, .inl (g.2.1 0, 80, .inl fGa)), (md 17, .inl (g.2.1 0, 2, .inl fGt)), (md 19, .inl (g.2.1 1, 2, .inl fEs)), (md 20, .inl (g.2.1 0, 2, .inl fDl)), (md 21, .inl (g.2.1 0, 80, .inl fDb)), (md 16, .inl (g.2.1 1, 2, .inl fLp))] (fun (v : Option Value) (u : Unit) => v = some (.float (noiR Z)) ∧ True) (fun u : Unit => [(md 0, .inr (5, [.ref (md 1), .int (nI 0), .ref (md 2), .ref (md 3), .ref (md 4), .ref (md 5), .ref (md 6), .ref (md 7), .ref (md 8), .ref (md 9), .ref (md 10), .ref (md 11), .ref (md 12), .ref (md 13), .ref (md 14), .ref (md 15), .ref (md 16), .ref (md 17), .ref (md 18), .ref (md 19), .ref (md 20), .ref (md 21), .ref (md 22), .int (nI pn), .ref (md 23), .int (nI ac), .int (nI Q.length), .ref (md 24), .int (nI ci), .int (nI ck)])), (md 3, .inl (g.2.1 0, 2, .inl fSz)), (md 5, .inl (g.2.1 0, 2, .inl fNu)), (md 9, .inl (g.2.1 1, 2, .inl fAS)), (md 10, .inl (g.2.1 1, 2, .inl fAN)), (md 6, .inl (g.2.1 0, 2, .inl fId)), (md 7, .inl (g.2.1 0, 2, .inl fCn)), (md 8, .inl (g.2.1 0, 2, .inl fTi)), (md 11, .inl (g.2.1 0, 2, .inl fAk)), (md 12, .inl (g.2.1 0, 2, .inl fAl)), (md 13, .inl (g.2.1 0, 16, .inl fAo)), (md 14, .inl (g.2.1 0, 2, .inl fOl)), (md 15, .inl (g.2.1 0, 600, .inl fBy)), (md 22, .inl (g.2.1 0, 12, .inl fCt)), (md 23, .inl (g.2.1 0, 64, .inl fPk)), (md 24, .inl (g.2.1 0, 40, .inl fAn)), (md 1, .inl (g.2.1 0, 160, .inl fRu)), (md 2, .inl (g.2.1 0, 2, .inl fSt)), (md 4, .inl (g.2.1 0, 2, .inl fLe)), (md 18, .inl (g.2.1 0, 80, .inl fGa)), (md 17, .inl (g.2.1 0, 2, .inl fGt)), (md 19, .inl (g.2.1 1, 2, .inl fEs)), (md 20, .inl (g.2.1 0, 2, .inl fDl)), (md 21, .inl (g.2.1 0, 80, .inl fDb)), (md 16, .inl (g.2.1 1, 2, .inl fLp))]) := by
  refine Ct.of (own := RX6) rfl rfl (Nat.le_of_ble_eq_true rfl) ?_
  intro P0 e0 s m below meth c ls hF hr hlk hnm hw hl
  have hx := hF.1
  have hb := hF.2.1
  have hl : lv_has ls 5 [(0, .ref (md 0))] := hl
  have hC0 := (hRM 0 (by decide)).1.1.2.2.2.2.2.2.2.2.2.1
  have hC1 := (hRM 1 (by decide)).1.1.2.2.2.2.2.2.2.2.2.1
  refine lv_aload_n hx hb dX6_noise_0 rfl (lv_at hl 0 rfl) ?_
  refine lv_iconst (v := nI 0) hx hb dX6_noise_1 (by decide) ?_
  refine r_put (ws' := [(md 0, .inr (5, [.ref (md 1), .int (nI 0), .ref (md 2), .ref (md 3), .ref (md 4), .ref (md 5), .ref (md 6), .ref (md 7), .ref (md 8), .ref (md 9), .ref (md 10), .ref (md 11), .ref (md 12), .ref (md 13), .ref (md 14), .ref (md 15), .ref (md 16), .ref (md 17), .ref (md 18), .ref (md 19), .ref (md 20), .ref (md 21), .ref (md 22), .int (nI pn), .ref (md 23), .int (nI ac), .int (nI Q.length), .ref (md 24), .int (nI ci), .int (nI ck)])), (md 3, .inl (g.2.1 0, 2, .inl fSz)), (md 5, .inl (g.2.1 0, 2, .inl fNu)), (md 9, .inl (g.2.1 1, 2, .inl fAS)), (md 10, .inl (g.2.1 1, 2, .inl fAN)), (md 6, .inl (g.2.1 0, 2, .inl fId)), (md 7, .inl (g.2.1 0, 2, .inl fCn)), (md 8, .inl (g.2.1 0, 2, .inl fTi)), (md 11, .inl (g.2.1 0, 2, .inl fAk)), (md 12, .inl (g.2.1 0, 2, .inl fAl)), (md 13, .inl (g.2.1 0, 16, .inl fAo)), (md 14, .inl (g.2.1 0, 2, .inl fOl)), (md 15, .inl (g.2.1 0, 600, .inl fBy)), (md 22, .inl (g.2.1 0, 12, .inl fCt)), (md 23, .inl (g.2.1 0, 64, .inl fPk)), (md 24, .inl (g.2.1 0, 40, .inl fAn)), (md 1, .inl (g.2.1 0, 160, .inl fRu)), (md 2, .inl (g.2.1 0, 2, .inl fSt)), (md 4, .inl (g.2.1 0, 2, .inl fLe)), (md 18, .inl (g.2.1 0, 80, .inl fGa)), (md 17, .inl (g.2.1 0, 2, .inl fGt)), (md 19, .inl (g.2.1 1, 2, .inl fEs)), (md 20, .inl (g.2.1 0, 2, .inl fDl)), (md 21, .inl (g.2.1 0, 80, .inl fDb)), (md 16, .inl (g.2.1 1, 2, .inl fLp))]) hF hw flX6_83 ftX6 dX6_noise_2 0 rfl rfl rfl rfl (Nat.le_of_ble_eq_true rfl) rfl (fun H locs hw => ?_)
  refine lv_aload_n hx hb dX6_noise_5 rfl (lv_at hl 0 rfl) ?_
  refine wget hF hw flX6_74 dX6_noise_6 0 rfl rfl ?_
  refine lv_iconst (v := nI 1) hx hb dX6_noise_9 (by decide) ?_
  refine r_iald hF hw dX6_noise_10 13 rfl (by omega) (by omega) ?_
  refine r_topv (y := .int (eCf (Z 0) 1)) (by rw [show fCt 1 = eCf (Z 0) 1 from hC0 1 (by decide)]) ?_
  refine lv_aload_n hx hb dX6_noise_11 rfl (lv_at hl 0 rfl) ?_
  refine wget hF hw flX6_74 dX6_noise_12 0 rfl rfl ?_
  refine lv_bipush (v := nI 7) hx hb dX6_noise_15 (by decide) ?_
  refine r_iald hF hw dX6_noise_17 13 rfl (by omega) (by omega) ?_
  refine r_topv (y := .int (eCf (Z 1) 1)) (by rw [show fCt 7 = eCf (Z 1) 1 from hC1 1 (by decide)]) ?_
  refine lv_iadd hx hb dX6_noise_18 ?_
  refine lv_istore_n (lv' := [(1, .int ((eCf (Z 0) 1) + (eCf (Z 1) 1))), (0, .ref (md 0))]) hx hb dX6_noise_19 rfl hl (by decide) rfl (fun ls hl => ?_)
  refine lv_iload_n hx hb dX6_noise_20 rfl (lv_at hl 0 rfl) ?_
  refine lv_aload_n hx hb dX6_noise_21 rfl (lv_at hl 1 rfl) ?_
  refine wget hF hw flX6_74 dX6_noise_22 0 rfl rfl ?_
  refine lv_iconst (v := nI 0) hx hb dX6_noise_25 (by decide) ?_
  refine r_iald hF hw dX6_noise_26 13 rfl (by omega) (by omega) ?_
  refine r_topv (y := .int (eCf (Z 0) 0)) (by rw [show fCt 0 = eCf (Z 0) 0 from hC0 0 (by decide)]) ?_
  refine lv_iadd hx hb dX6_noise_27 ?_
  refine lv_aload_n hx hb dX6_noise_28 rfl (lv_at hl 1 rfl) ?_
  refine wget hF hw flX6_74 dX6_noise_29 0 rfl rfl ?_
  refine lv_bipush (v := nI 6) hx hb dX6_noise_32 (by decide) ?_
  refine r_iald hF hw dX6_noise_34 13 rfl (by omega) (by omega) ?_
  refine r_topv (y := .int (eCf (Z 1) 0)) (by rw [show fCt 6 = eCf (Z 1) 0 from hC1 0 (by decide)]) ?_
  refine lv_iadd hx hb dX6_noise_35 ?_
  refine lv_istore_n (lv' := [(2, .int ((((eCf (Z 0) 1) + (eCf (Z 1) 1)) + (eCf (Z 0) 0)) + (eCf (Z 1) 0))), (1, .int ((eCf (Z 0) 1) + (eCf (Z 1) 1))), (0, .ref (md 0))]) hx hb dX6_noise_36 rfl hl (by decide) rfl (fun ls hl => ?_)
  refine lv_iload_n hx hb dX6_noise_37 rfl (lv_at hl 0 rfl) ?_
  refine lv_if_ne (tgt := 43) hx hb dX6_noise_38 (by decide) (fun c_38 => ?_) (fun c_38 => ?_)
  · refine lv_iload_n hx hb dX6_noise_43 rfl (lv_at hl 1 rfl) ?_
    refine lv_i2f hx hb dX6_noise_44 ?_
    refine lv_fstore_n (lv' := [(3, .float (FP.i2f ((eCf (Z 0) 1) + (eCf (Z 1) 1)))), (2, .int ((((eCf (Z 0) 1) + (eCf (Z 1) 1)) + (eCf (Z 0) 0)) + (eCf (Z 1) 0))), (1, .int ((eCf (Z 0) 1) + (eCf (Z 1) 1))), (0, .ref (md 0))]) hx hb dX6_noise_45 rfl hl (by decide) rfl (fun ls hl => ?_)
    refine lv_iload_n hx hb dX6_noise_46 rfl (lv_at hl 1 rfl) ?_
    refine lv_i2f hx hb dX6_noise_47 ?_
    refine lv_fstore (lv' := [(4, .float (FP.i2f ((((eCf (Z 0) 1) + (eCf (Z 1) 1)) + (eCf (Z 0) 0)) + (eCf (Z 1) 0)))), (3, .float (FP.i2f ((eCf (Z 0) 1) + (eCf (Z 1) 1)))), (2, .int ((((eCf (Z 0) 1) + (eCf (Z 1) 1)) + (eCf (Z 0) 0)) + (eCf (Z 1) 0))), (1, .int ((eCf (Z 0) 1) + (eCf (Z 1) 1))), (0, .ref (md 0))]) hx hb dX6_noise_48 hl (by decide) rfl (fun ls hl => ?_)
    refine lv_fload_n hx hb dX6_noise_50 rfl (lv_at hl 1 rfl) ?_
    refine lv_fload hx hb dX6_noise_51 (lv_at hl 0 rfl) ?_
    refine lv_fdiv hx hb dX6_noise_53 (fl_ok c_38) ?_
    exact RQ.fret hF hr hlk hw dX6_noise_54 ⟨by decide, by decide⟩ (()) (rfl) ⟨by unfold noiR; first | rw [if_pos (show allN Z = 0 from c_38)] | (rw [if_neg (show ¬ allN Z = 0 from c_38)]; rfl), trivial⟩
  · refine lv_fconst0 hx hb dX6_noise_41 ?_
    exact RQ.fret hF hr hlk hw dX6_noise_42 ⟨by decide, by decide⟩ (()) (rfl) ⟨by unfold noiR; first | rw [if_pos (show allN Z = 0 from c_38)] | (rw [if_neg (show ¬ allN Z = 0 from c_38)]; rfl), trivial⟩
