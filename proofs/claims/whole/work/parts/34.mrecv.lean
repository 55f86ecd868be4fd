set_option maxHeartbeats 4000000 in
set_option maxRecDepth 100000 in
theorem c_X6_receive (l : Launch) (g : GE) (md : Nat → Nat) (th : Int32) (pn : Nat) (ac : Nat) (ci : Nat) (ck : Nat) (fSz : Nat → Int32) (fNu : Nat → Int32) (fAS : Nat → Int32) (fAN : Nat → Int32) (fId : Nat → Int32) (fCn : Nat → Int32) (fTi : Nat → Int32) (fAk : Nat → Int32) (fAl : Nat → Int32) (fAo : Nat → Int32) (fOl : Nat → Int32) (fBy : Nat → Int32) (fCt : Nat → Int32) (fPk : Nat → Int32) (fAn : Nat → Int32) (fRu : Nat → Int32) (fSt : Nat → Int32) (fLe : Nat → Int32) (fGa : Nat → Int32) (fGt : Nat → Int32) (fEs : Nat → Int32) (fDl : Nat → Int32) (fDb : Nat → Int32) (fLp : Nat → Int32) (e : Nat) (E : AE) (Q : List Nat) (b : Nat) (he : e < 2) (hRT : RT fSz fNu fAS fAN fId fCn fTi fAk fAl fAo fOl fBy fCt fSt fLe fGt fGa fEs fDl fDb fLp e E) (hSQ : SQ fAn ac Q ci ck) (hRu : ∀ i, i < 160 → fRu i = rulT.getD i 0) (hb8 : b < 256) : Ct l yX6_receive cX6_receive 4 none { frames := 7, cells := 0, slots := 0, locals := 165 } g [.ref (md 0), .int (nI e), .int (nI b)] [(md 0, .inr (5, [.ref (md 1), .int th, .ref (md 2), .ref (md 3), .ref (md 4), .ref (md 5), .ref (md 6), .ref (md 7), .ref (md 8), .ref (md 9), .ref (md 10), .ref (md 11), .ref (md 12), .ref (md 13), .ref (md 14), .ref (md 15), .ref (md 16), .ref (md 17), .ref (md 18), .ref (md 19), .ref (md 20), .ref (md 21), .ref (md 22), .int (nI pn), .ref (md 23), .int (nI ac), .int (nI Q.length), .ref (md 24), .int (nI ci), .int (nI ck)])), (md 3, .inl (g.2.1 0, 2, .inl fSz)), (md 5, .inl (g.2.1 0, 2, .inl fNu)), (md 9, .inl (g.2.1 1, 2, .inl fAS)), (md 10, .inl (g.2.1 1, 2, .inl fAN)), (md 6, .inl (g.2.1 0, 2, .inl fId)), (md 7, .inl (g.2.1 0, 2, .inl fCn)), (md 8, .inl (g.2.1 0, 2, .inl fTi)), (md 11, .inl (g.2.1 0, 2, .inl fAk)), (md 12, .inl (g.2.1 0, 2, .inl fAl)), (md 13, .inl (g.2.1 0, 16, .inl fAo)), (md 14, .inl (g.2.1 0, 2, .inl fOl)), (md 15, .inl (g.2.1 0, 600, .inl fBy)), (md 22, .inl (g.2.1 0, 12, .inl fCt)), (md 23, .inl (g.2.1 0, 64, .inl fPk)), (md 24, .inl (g.2.1 0, 40, .inl fAn)), (md 1, .inl (g.2.1 0, 160, .inl fRu)), (md 2, .inl (g.2.1 0, 2, .inl fSt)), (md 4, .inl (g.2.1 0, 2, .inl fLe)), (md 18, .inl (g.2.1 0, 80, .inl fGa)), (md 17, .inl (g.2.1 0, 2, .inl fGt)), (md 19, .inl (g.2.1 1, 2, .inl fEs)), (md 20, .inl (g.2.1 0, 2, .inl fDl)), (md 21, .inl (g.2.1 0, 80, .inl fDb)), (md 16, .inl (g.2.1 1, 2, .inl fLp))] (fun (v : Option Value) (u : Nat × Nat × (List Nat) × Nat × Nat × (Nat → Int32) × (Nat → Int32) × (Nat → Int32) × (Nat → Int32) × (Nat → Int32) × (Nat → Int32) × (Nat → Int32) × (Nat → Int32) × (Nat → Int32) × (Nat → Int32) × (Nat → Int32) × (Nat → Int32) × (Nat → Int32) × (Nat → Int32) × (Nat → Int32) × (Nat → Int32) × (Nat → Int32) × (Nat → Int32) × (Nat → Int32) × (Nat → Int32) × (Nat → Int32)) => v = none ∧ RT u.2.2.2.2.2.1 u.2.2.2.2.2.2.1 u.2.2.2.2.2.2.2.1 u.2.2.2.2.2.2.2.2.1 u.2.2.2.2.2.2.2.2.2.1 u.2.2.2.2.2.2.2.2.2.2.1 u.2.2.2.2.2.2.2.2.2.2.2.1 u.2.2.2.2.2.2.2.2.2.2.2.2.1 u.2.2.2.2.2.2.2.2.2.2.2.2.2.1 u.2.2.2.2.2.2.2.2.2.2.2.2.2.2.1 u.2.2.2.2.2.2.2.2.2.2.2.2.2.2.2.1 u.2.2.2.2.2.2.2.2.2.2.2.2.2.2.2.2.1 u.2.2.2.2.2.2.2.2.2.2.2.2.2.2.2.2.2.1 u.2.2.2.2.2.2.2.2.2.2.2.2.2.2.2.2.2.2.2.2.1 fLe u.2.2.2.2.2.2.2.2.2.2.2.2.2.2.2.2.2.2.2.2.2.1 u.2.2.2.2.2.2.2.2.2.2.2.2.2.2.2.2.2.2.2.2.2.2.2.2.2 u.2.2.2.2.2.2.2.2.2.2.2.2.2.2.2.2.2.2.2.2.2.2.1 u.2.2.2.2.2.2.2.2.2.2.2.2.2.2.2.2.2.2.2.2.2.2.2.1 u.2.2.2.2.2.2.2.2.2.2.2.2.2.2.2.2.2.2.2.2.2.2.2.2.1 fLp e (recvA E b) ∧ RTF fSz fNu fAS fAN fId fCn fTi fAk fAl fAo fOl fBy fCt fSt fLe fGt fGa fEs fDl fDb fLp u.2.2.2.2.2.1 u.2.2.2.2.2.2.1 u.2.2.2.2.2.2.2.1 u.2.2.2.2.2.2.2.2.1 u.2.2.2.2.2.2.2.2.2.1 u.2.2.2.2.2.2.2.2.2.2.1 u.2.2.2.2.2.2.2.2.2.2.2.1 u.2.2.2.2.2.2.2.2.2.2.2.2.1 u.2.2.2.2.2.2.2.2.2.2.2.2.2.1 u.2.2.2.2.2.2.2.2.2.2.2.2.2.2.1 u.2.2.2.2.2.2.2.2.2.2.2.2.2.2.2.1 u.2.2.2.2.2.2.2.2.2.2.2.2.2.2.2.2.1 u.2.2.2.2.2.2.2.2.2.2.2.2.2.2.2.2.2.1 u.2.2.2.2.2.2.2.2.2.2.2.2.2.2.2.2.2.2.2.2.1 fLe u.2.2.2.2.2.2.2.2.2.2.2.2.2.2.2.2.2.2.2.2.2.1 u.2.2.2.2.2.2.2.2.2.2.2.2.2.2.2.2.2.2.2.2.2.2.2.2.2 u.2.2.2.2.2.2.2.2.2.2.2.2.2.2.2.2.2.2.2.2.2.2.1 u.2.2.2.2.2.2.2.2.2.2.2.2.2.2.2.2.2.2.2.2.2.2.2.1 u.2.2.2.2.2.2.2.2.2.2.2.2.2.2.2.2.2.2.2.2.2.2.2.2.1 fLp e ∧ SQ u.2.2.2.2.2.2.2.2.2.2.2.2.2.2.2.2.2.2.2.1 u.2.1 u.2.2.1 u.2.2.2.1 u.2.2.2.2.1) (fun u : Nat × Nat × (List Nat) × Nat × Nat × (Nat → Int32) × (Nat → Int32) × (Nat → Int32) × (Nat → Int32) × (Nat → Int32) × (Nat → Int32) × (Nat → Int32) × (Nat → Int32) × (Nat → Int32) × (Nat → Int32) × (Nat → Int32) × (Nat → Int32) × (Nat → Int32) × (Nat → Int32) × (Nat → Int32) × (Nat → Int32) × (Nat → Int32) × (Nat → Int32) × (Nat → Int32) × (Nat → Int32) × (Nat → Int32) => [(md 0, .inr (5, [.ref (md 1), .int th, .ref (md 2), .ref (md 3), .ref (md 4), .ref (md 5), .ref (md 6), .ref (md 7), .ref (md 8), .ref (md 9), .ref (md 10), .ref (md 11), .ref (md 12), .ref (md 13), .ref (md 14), .ref (md 15), .ref (md 16), .ref (md 17), .ref (md 18), .ref (md 19), .ref (md 20), .ref (md 21), .ref (md 22), .int (nI u.1), .ref (md 23), .int (nI u.2.1), .int (nI u.2.2.1.length), .ref (md 24), .int (nI u.2.2.2.1), .int (nI u.2.2.2.2.1)])), (md 3, .inl (g.2.1 0, 2, .inl u.2.2.2.2.2.1)), (md 5, .inl (g.2.1 0, 2, .inl u.2.2.2.2.2.2.1)), (md 9, .inl (g.2.1 1, 2, .inl u.2.2.2.2.2.2.2.1)), (md 10, .inl (g.2.1 1, 2, .inl u.2.2.2.2.2.2.2.2.1)), (md 6, .inl (g.2.1 0, 2, .inl u.2.2.2.2.2.2.2.2.2.1)), (md 7, .inl (g.2.1 0, 2, .inl u.2.2.2.2.2.2.2.2.2.2.1)), (md 8, .inl (g.2.1 0, 2, .inl u.2.2.2.2.2.2.2.2.2.2.2.1)), (md 11, .inl (g.2.1 0, 2, .inl u.2.2.2.2.2.2.2.2.2.2.2.2.1)), (md 12, .inl (g.2.1 0, 2, .inl u.2.2.2.2.2.2.2.2.2.2.2.2.2.1)), (md 13, .inl (g.2.1 0, 16, .inl u.2.2.2.2.2.2.2.2.2.2.2.2.2.2.1)), (md 14, .inl (g.2.1 0, 2, .inl u.2.2.2.2.2.2.2.2.2.2.2.2.2.2.2.1)), (md 15, .inl (g.2.1 0, 600, .inl u.2.2.2.2.2.2.2.2.2.2.2.2.2.2.2.2.1)), (md 22, .inl (g.2.1 0, 12, .inl u.2.2.2.2.2.2.2.2.2.2.2.2.2.2.2.2.2.1)), (md 23, .inl (g.2.1 0, 64, .inl u.2.2.2.2.2.2.2.2.2.2.2.2.2.2.2.2.2.2.1)), (md 24, .inl (g.2.1 0, 40, .inl u.2.2.2.2.2.2.2.2.2.2.2.2.2.2.2.2.2.2.2.1)), (md 1, .inl (g.2.1 0, 160, .inl fRu)), (md 2, .inl (g.2.1 0, 2, .inl u.2.2.2.2.2.2.2.2.2.2.2.2.2.2.2.2.2.2.2.2.1)), (md 4, .inl (g.2.1 0, 2, .inl fLe)), (md 18, .inl (g.2.1 0, 80, .inl u.2.2.2.2.2.2.2.2.2.2.2.2.2.2.2.2.2.2.2.2.2.2.2.2.2)), (md 17, .inl (g.2.1 0, 2, .inl u.2.2.2.2.2.2.2.2.2.2.2.2.2.2.2.2.2.2.2.2.2.1)), (md 19, .inl (g.2.1 1, 2, .inl u.2.2.2.2.2.2.2.2.2.2.2.2.2.2.2.2.2.2.2.2.2.2.1)), (md 20, .inl (g.2.1 0, 2, .inl u.2.2.2.2.2.2.2.2.2.2.2.2.2.2.2.2.2.2.2.2.2.2.2.1)), (md 21, .inl (g.2.1 0, 80, .inl u.2.2.2.2.2.2.2.2.2.2.2.2.2.2.2.2.2.2.2.2.2.2.2.2.1)), (md 16, .inl (g.2.1 1, 2, .inl fLp))]) := by
  refine Ct.of (own := RX6) rfl rfl (Nat.le_of_ble_eq_true rfl) ?_
  intro P0 e0 s m below meth c ls hF hr hlk hnm hw hl
  have hx := hF.1
  have hb := hF.2.1
  have hl : lv_has ls 4 [(0, .ref (md 0)), (1, .int (nI e)), (2, .int (nI b))] := hl
  obtain ⟨hRA, hSt, hLe, hGt, hEs, hDt, hLp⟩ := id hRT
  obtain ⟨h1, h2, h3, h4, h5, h6, h7, h8, h9, h10, h11⟩ := id hRA
  obtain ⟨⟨v1, v2⟩, ⟨v3, v4⟩, v5, v6, v7, v8, ⟨v9, v10⟩, v11, v12, v13⟩ := id h11
  have hG := hGt.2
  have hGl := v12.1
  have hBG := v12.2.1
  have hov40 := v12.2.2
  have hlo := b_lt (eOv E)
  have hle := b_lt (eEs E)
  have hxx : b ^^^ 32 < 256 := Nat.xor_lt_two_pow (n := 8) hb8 (by decide)
  refine lv_iload_n hx hb dX6_receive_0 rfl (lv_at hl 2 rfl) ?_
  refine lv_bipush (v := nI 126) hx hb dX6_receive_1 (by decide) ?_
  refine r_ne (tgt := 14) hx hb dX6_receive_3 (by decide) (by omega) (by omega) (fun c_3 => ?_) (fun c_3 => ?_)
  · refine lv_iload_n hx hb dX6_receive_14 rfl (lv_at hl 2 rfl) ?_
    refine lv_bipush (v := nI 125) hx hb dX6_receive_15 (by decide) ?_
    refine r_ne (tgt := 39) hx hb dX6_receive_17 (by decide) (by omega) (by omega) (fun c_17 => ?_) (fun c_17 => ?_)
    · have hn125 : eEs E = false → ¬ b = 125 := fun q h => by first | exact c_17 h | (rw [bnz c_26] at q; cases q)
      refine lv_aload_n hx hb dX6_receive_39 rfl (lv_at hl 0 rfl) ?_
      refine wget hF hw flX6_65 dX6_receive_40 0 rfl rfl ?_
      refine lv_iload_n hx hb dX6_receive_43 rfl (lv_at hl 1 rfl) ?_
      refine r_zald hF hw dX6_receive_44 21 rfl (by omega) (by omega) ?_
      refine r_top (n := (eEs E).toNat) (hEs) ?_
      refine r_eq0 (tgt := 55) hx hb dX6_receive_45 (by decide) (by omega) (fun c_45 => ?_) (fun c_45 => ?_)
      · have hn125 := hn125 (bz c_45)
        refine lv_iload_n hx hb dX6_receive_55 rfl (lv_at hl 2 rfl) ?_
        refine lv_istore_n (lv' := [(3, .int (nI b)), (0, .ref (md 0)), (1, .int (nI e)), (2, .int (nI b))]) hx hb dX6_receive_56 rfl hl (by decide) rfl (fun ls hl => ?_)
        refine lv_aload_n hx hb dX6_receive_57 rfl (lv_at hl 1 rfl) ?_
        refine wget hF hw flX6_65 dX6_receive_58 0 rfl rfl ?_
        refine lv_iload_n hx hb dX6_receive_61 rfl (lv_at hl 2 rfl) ?_
        refine lv_iconst (v := nI 0) hx hb dX6_receive_62 (by decide) ?_
        refine r_zast (ws' := [(md 0, .inr (5, [.ref (md 1), .int th, .ref (md 2), .ref (md 3), .ref (md 4), .ref (md 5), .ref (md 6), .ref (md 7), .ref (md 8), .ref (md 9), .ref (md 10), .ref (md 11), .ref (md 12), .ref (md 13), .ref (md 14), .ref (md 15), .ref (md 16), .ref (md 17), .ref (md 18), .ref (md 19), .ref (md 20), .ref (md 21), .ref (md 22), .int (nI pn), .ref (md 23), .int (nI ac), .int (nI Q.length), .ref (md 24), .int (nI ci), .int (nI ck)])), (md 3, .inl (g.2.1 0, 2, .inl fSz)), (md 5, .inl (g.2.1 0, 2, .inl fNu)), (md 9, .inl (g.2.1 1, 2, .inl fAS)), (md 10, .inl (g.2.1 1, 2, .inl fAN)), (md 6, .inl (g.2.1 0, 2, .inl fId)), (md 7, .inl (g.2.1 0, 2, .inl fCn)), (md 8, .inl (g.2.1 0, 2, .inl fTi)), (md 11, .inl (g.2.1 0, 2, .inl fAk)), (md 12, .inl (g.2.1 0, 2, .inl fAl)), (md 13, .inl (g.2.1 0, 16, .inl fAo)), (md 14, .inl (g.2.1 0, 2, .inl fOl)), (md 15, .inl (g.2.1 0, 600, .inl fBy)), (md 22, .inl (g.2.1 0, 12, .inl fCt)), (md 23, .inl (g.2.1 0, 64, .inl fPk)), (md 24, .inl (g.2.1 0, 40, .inl fAn)), (md 1, .inl (g.2.1 0, 160, .inl fRu)), (md 2, .inl (g.2.1 0, 2, .inl fSt)), (md 4, .inl (g.2.1 0, 2, .inl fLe)), (md 18, .inl (g.2.1 0, 80, .inl fGa)), (md 17, .inl (g.2.1 0, 2, .inl fGt)), (md 19, .inl (g.2.1 1, 2, .inl (upd fEs e (nI 0)))), (md 20, .inl (g.2.1 0, 2, .inl fDl)), (md 21, .inl (g.2.1 0, 80, .inl fDb)), (md 16, .inl (g.2.1 1, 2, .inl fLp))]) hF hw dX6_receive_63 21 rfl (by omega) (by omega) (rfl) rfl (fun H locs hw => ?_)
        refine lv_aload_n hx hb dX6_receive_64 rfl (lv_at hl 1 rfl) ?_
        refine wget hF hw flX6_59 dX6_receive_65 0 rfl rfl ?_
        refine lv_iload_n hx hb dX6_receive_68 rfl (lv_at hl 2 rfl) ?_
        refine r_iald hF hw dX6_receive_69 20 rfl (by omega) (by omega) ?_
        refine r_top (n := (eG E).length + (eOv E).toNat) (hGt.1) ?_
        refine lv_bipush (v := nI 40) hx hb dX6_receive_70 (by decide) ?_
        refine r_ge (tgt := 92) hx hb dX6_receive_72 (by decide) (by omega) (by omega) (fun c_72 => ?_) (fun c_72 => ?_)
        · have hg40 := ge40 hov40 c_72
          refine lv_aload_n hx hb dX6_receive_92 rfl (lv_at hl 1 rfl) ?_
          refine wget hF hw flX6_59 dX6_receive_93 0 rfl rfl ?_
          refine lv_iload_n hx hb dX6_receive_96 rfl (lv_at hl 2 rfl) ?_
          refine lv_aload_n hx hb dX6_receive_97 rfl (lv_at hl 1 rfl) ?_
          refine wget hF hw flX6_59 dX6_receive_98 0 rfl rfl ?_
          refine lv_iload_n hx hb dX6_receive_101 rfl (lv_at hl 2 rfl) ?_
          refine r_iald hF hw dX6_receive_102 20 rfl (by omega) (by omega) ?_
          refine r_top (n := (eG E).length + (eOv E).toNat) (hGt.1) ?_
          refine lv_bipush (v := nI 41) hx hb dX6_receive_103 (by decide) ?_
          refine r_ge (tgt := 119) hx hb dX6_receive_105 (by decide) (by omega) (by omega) (fun c_105 => ?_) (fun c_105 => ?_)
          · refine lv_bipush (v := nI 41) hx hb dX6_receive_119 (by decide) ?_
            refine r_iast (ws' := [(md 0, .inr (5, [.ref (md 1), .int th, .ref (md 2), .ref (md 3), .ref (md 4), .ref (md 5), .ref (md 6), .ref (md 7), .ref (md 8), .ref (md 9), .ref (md 10), .ref (md 11), .ref (md 12), .ref (md 13), .ref (md 14), .ref (md 15), .ref (md 16), .ref (md 17), .ref (md 18), .ref (md 19), .ref (md 20), .ref (md 21), .ref (md 22), .int (nI pn), .ref (md 23), .int (nI ac), .int (nI Q.length), .ref (md 24), .int (nI ci), .int (nI ck)])), (md 3, .inl (g.2.1 0, 2, .inl fSz)), (md 5, .inl (g.2.1 0, 2, .inl fNu)), (md 9, .inl (g.2.1 1, 2, .inl fAS)), (md 10, .inl (g.2.1 1, 2, .inl fAN)), (md 6, .inl (g.2.1 0, 2, .inl fId)), (md 7, .inl (g.2.1 0, 2, .inl fCn)), (md 8, .inl (g.2.1 0, 2, .inl fTi)), (md 11, .inl (g.2.1 0, 2, .inl fAk)), (md 12, .inl (g.2.1 0, 2, .inl fAl)), (md 13, .inl (g.2.1 0, 16, .inl fAo)), (md 14, .inl (g.2.1 0, 2, .inl fOl)), (md 15, .inl (g.2.1 0, 600, .inl fBy)), (md 22, .inl (g.2.1 0, 12, .inl fCt)), (md 23, .inl (g.2.1 0, 64, .inl fPk)), (md 24, .inl (g.2.1 0, 40, .inl fAn)), (md 1, .inl (g.2.1 0, 160, .inl fRu)), (md 2, .inl (g.2.1 0, 2, .inl fSt)), (md 4, .inl (g.2.1 0, 2, .inl fLe)), (md 18, .inl (g.2.1 0, 80, .inl fGa)), (md 17, .inl (g.2.1 0, 2, .inl (upd fGt e (nI 41)))), (md 19, .inl (g.2.1 1, 2, .inl (upd fEs e (nI 0)))), (md 20, .inl (g.2.1 0, 2, .inl fDl)), (md 21, .inl (g.2.1 0, 80, .inl fDb)), (md 16, .inl (g.2.1 1, 2, .inl fLp))]) hF hw dX6_receive_121 20 rfl (by omega) (by omega) rfl (fun H locs hw => ?_)
            have hq9 := rv_full (n := 41) hRT he c_3 (rcv_b (fun q => by first | exact absurd q hn125 | exact bnz c_45) hg40) (by omega) (by omega)
            exact RQ.vret hF hr hlk hw dX6_receive_122 ⟨by decide, by decide⟩ ((pn, ac, Q, ci, ck, fSz, fNu, fAS, fAN, fId, fCn, fTi, fAk, fAl, fAo, fOl, fBy, fCt, fPk, fAn, fSt, upd fGt e (nI 41), upd fEs e (nI 0), fDl, fDb, fGa)) (rfl) ⟨rfl, ⟨hq9.1, hq9.2, hSQ⟩⟩
          · refine lv_aload_n hx hb dX6_receive_108 rfl (lv_at hl 1 rfl) ?_
            refine wget hF hw flX6_59 dX6_receive_109 0 rfl rfl ?_
            refine lv_iload_n hx hb dX6_receive_112 rfl (lv_at hl 2 rfl) ?_
            refine r_iald hF hw dX6_receive_113 20 rfl (by omega) (by omega) ?_
            refine r_top (n := (eG E).length + (eOv E).toNat) (hGt.1) ?_
            refine lv_iconst (v := nI 1) hx hb dX6_receive_114 (by decide) ?_
            refine r_iadd hx hb dX6_receive_115 ?_
            refine lv_goto (tgt := 121) hx hb dX6_receive_116 (by decide) ?_
            refine r_iast (ws' := [(md 0, .inr (5, [.ref (md 1), .int th, .ref (md 2), .ref (md 3), .ref (md 4), .ref (md 5), .ref (md 6), .ref (md 7), .ref (md 8), .ref (md 9), .ref (md 10), .ref (md 11), .ref (md 12), .ref (md 13), .ref (md 14), .ref (md 15), .ref (md 16), .ref (md 17), .ref (md 18), .ref (md 19), .ref (md 20), .ref (md 21), .ref (md 22), .int (nI pn), .ref (md 23), .int (nI ac), .int (nI Q.length), .ref (md 24), .int (nI ci), .int (nI ck)])), (md 3, .inl (g.2.1 0, 2, .inl fSz)), (md 5, .inl (g.2.1 0, 2, .inl fNu)), (md 9, .inl (g.2.1 1, 2, .inl fAS)), (md 10, .inl (g.2.1 1, 2, .inl fAN)), (md 6, .inl (g.2.1 0, 2, .inl fId)), (md 7, .inl (g.2.1 0, 2, .inl fCn)), (md 8, .inl (g.2.1 0, 2, .inl fTi)), (md 11, .inl (g.2.1 0, 2, .inl fAk)), (md 12, .inl (g.2.1 0, 2, .inl fAl)), (md 13, .inl (g.2.1 0, 16, .inl fAo)), (md 14, .inl (g.2.1 0, 2, .inl fOl)), (md 15, .inl (g.2.1 0, 600, .inl fBy)), (md 22, .inl (g.2.1 0, 12, .inl fCt)), (md 23, .inl (g.2.1 0, 64, .inl fPk)), (md 24, .inl (g.2.1 0, 40, .inl fAn)), (md 1, .inl (g.2.1 0, 160, .inl fRu)), (md 2, .inl (g.2.1 0, 2, .inl fSt)), (md 4, .inl (g.2.1 0, 2, .inl fLe)), (md 18, .inl (g.2.1 0, 80, .inl fGa)), (md 17, .inl (g.2.1 0, 2, .inl (upd fGt e (nI (((eG E).length + (eOv E).toNat) + 1))))), (md 19, .inl (g.2.1 1, 2, .inl (upd fEs e (nI 0)))), (md 20, .inl (g.2.1 0, 2, .inl fDl)), (md 21, .inl (g.2.1 0, 80, .inl fDb)), (md 16, .inl (g.2.1 1, 2, .inl fLp))]) hF hw dX6_receive_121 20 rfl (by omega) (by omega) rfl (fun H locs hw => ?_)
            have hq9 := rv_full (n := (eG E).length + (eOv E).toNat + 1) hRT he c_3 (rcv_b (fun q => by first | exact absurd q hn125 | exact bnz c_45) hg40) (by omega) (by omega)
            exact RQ.vret hF hr hlk hw dX6_receive_122 ⟨by decide, by decide⟩ ((pn, ac, Q, ci, ck, fSz, fNu, fAS, fAN, fId, fCn, fTi, fAk, fAl, fAo, fOl, fBy, fCt, fPk, fAn, fSt, upd fGt e (nI (((eG E).length + (eOv E).toNat) + 1)), upd fEs e (nI 0), fDl, fDb, fGa)) (rfl) ⟨rfl, ⟨hq9.1, hq9.2, hSQ⟩⟩
        · have hovf := n_ov hov40 (by omega)
          have hov0 : (eOv E).toNat = 0 := by rw [hovf]; rfl
          have hl40 : (eG E).length < 40 := by omega
          refine lv_aload_n hx hb dX6_receive_75 rfl (lv_at hl 1 rfl) ?_
          refine wget hF hw flX6_62 dX6_receive_76 0 rfl rfl ?_
          refine lv_bipush (v := nI 40) hx hb dX6_receive_79 (by decide) ?_
          refine lv_iload_n hx hb dX6_receive_81 rfl (lv_at hl 2 rfl) ?_
          refine r_imul hx hb dX6_receive_82 ?_
          refine lv_aload_n hx hb dX6_receive_83 rfl (lv_at hl 1 rfl) ?_
          refine wget hF hw flX6_59 dX6_receive_84 0 rfl rfl ?_
          refine lv_iload_n hx hb dX6_receive_87 rfl (lv_at hl 2 rfl) ?_
          refine r_iald hF hw dX6_receive_88 20 rfl (by omega) (by omega) ?_
          refine r_top (n := (eG E).length + (eOv E).toNat) (hGt.1) ?_
          refine r_iadd hx hb dX6_receive_89 ?_
          refine lv_iload_n hx hb dX6_receive_90 rfl (lv_at hl 0 rfl) ?_
          refine r_iast (ws' := [(md 0, .inr (5, [.ref (md 1), .int th, .ref (md 2), .ref (md 3), .ref (md 4), .ref (md 5), .ref (md 6), .ref (md 7), .ref (md 8), .ref (md 9), .ref (md 10), .ref (md 11), .ref (md 12), .ref (md 13), .ref (md 14), .ref (md 15), .ref (md 16), .ref (md 17), .ref (md 18), .ref (md 19), .ref (md 20), .ref (md 21), .ref (md 22), .int (nI pn), .ref (md 23), .int (nI ac), .int (nI Q.length), .ref (md 24), .int (nI ci), .int (nI ck)])), (md 3, .inl (g.2.1 0, 2, .inl fSz)), (md 5, .inl (g.2.1 0, 2, .inl fNu)), (md 9, .inl (g.2.1 1, 2, .inl fAS)), (md 10, .inl (g.2.1 1, 2, .inl fAN)), (md 6, .inl (g.2.1 0, 2, .inl fId)), (md 7, .inl (g.2.1 0, 2, .inl fCn)), (md 8, .inl (g.2.1 0, 2, .inl fTi)), (md 11, .inl (g.2.1 0, 2, .inl fAk)), (md 12, .inl (g.2.1 0, 2, .inl fAl)), (md 13, .inl (g.2.1 0, 16, .inl fAo)), (md 14, .inl (g.2.1 0, 2, .inl fOl)), (md 15, .inl (g.2.1 0, 600, .inl fBy)), (md 22, .inl (g.2.1 0, 12, .inl fCt)), (md 23, .inl (g.2.1 0, 64, .inl fPk)), (md 24, .inl (g.2.1 0, 40, .inl fAn)), (md 1, .inl (g.2.1 0, 160, .inl fRu)), (md 2, .inl (g.2.1 0, 2, .inl fSt)), (md 4, .inl (g.2.1 0, 2, .inl fLe)), (md 18, .inl (g.2.1 0, 80, .inl (upd fGa ((40 * e) + ((eG E).length + (eOv E).toNat)) (nI b)))), (md 17, .inl (g.2.1 0, 2, .inl fGt)), (md 19, .inl (g.2.1 1, 2, .inl (upd fEs e (nI 0)))), (md 20, .inl (g.2.1 0, 2, .inl fDl)), (md 21, .inl (g.2.1 0, 80, .inl fDb)), (md 16, .inl (g.2.1 1, 2, .inl fLp))]) hF hw dX6_receive_91 19 rfl (by omega) (by omega) rfl (fun H locs hw => ?_)
          refine lv_aload_n hx hb dX6_receive_92 rfl (lv_at hl 1 rfl) ?_
          refine wget hF hw flX6_59 dX6_receive_93 0 rfl rfl ?_
          refine lv_iload_n hx hb dX6_receive_96 rfl (lv_at hl 2 rfl) ?_
          refine lv_aload_n hx hb dX6_receive_97 rfl (lv_at hl 1 rfl) ?_
          refine wget hF hw flX6_59 dX6_receive_98 0 rfl rfl ?_
          refine lv_iload_n hx hb dX6_receive_101 rfl (lv_at hl 2 rfl) ?_
          refine r_iald hF hw dX6_receive_102 20 rfl (by omega) (by omega) ?_
          refine r_top (n := (eG E).length + (eOv E).toNat) (hGt.1) ?_
          refine lv_bipush (v := nI 41) hx hb dX6_receive_103 (by decide) ?_
          refine r_ge (tgt := 119) hx hb dX6_receive_105 (by decide) (by omega) (by omega) (fun c_105 => ?_) (fun c_105 => ?_)
          · exact absurd c_105 (by omega)
          · refine lv_aload_n hx hb dX6_receive_108 rfl (lv_at hl 1 rfl) ?_
            refine wget hF hw flX6_59 dX6_receive_109 0 rfl rfl ?_
            refine lv_iload_n hx hb dX6_receive_112 rfl (lv_at hl 2 rfl) ?_
            refine r_iald hF hw dX6_receive_113 20 rfl (by omega) (by omega) ?_
            refine r_top (n := (eG E).length + (eOv E).toNat) (hGt.1) ?_
            refine lv_iconst (v := nI 1) hx hb dX6_receive_114 (by decide) ?_
            refine r_iadd hx hb dX6_receive_115 ?_
            refine lv_goto (tgt := 121) hx hb dX6_receive_116 (by decide) ?_
            refine r_iast (ws' := [(md 0, .inr (5, [.ref (md 1), .int th, .ref (md 2), .ref (md 3), .ref (md 4), .ref (md 5), .ref (md 6), .ref (md 7), .ref (md 8), .ref (md 9), .ref (md 10), .ref (md 11), .ref (md 12), .ref (md 13), .ref (md 14), .ref (md 15), .ref (md 16), .ref (md 17), .ref (md 18), .ref (md 19), .ref (md 20), .ref (md 21), .ref (md 22), .int (nI pn), .ref (md 23), .int (nI ac), .int (nI Q.length), .ref (md 24), .int (nI ci), .int (nI ck)])), (md 3, .inl (g.2.1 0, 2, .inl fSz)), (md 5, .inl (g.2.1 0, 2, .inl fNu)), (md 9, .inl (g.2.1 1, 2, .inl fAS)), (md 10, .inl (g.2.1 1, 2, .inl fAN)), (md 6, .inl (g.2.1 0, 2, .inl fId)), (md 7, .inl (g.2.1 0, 2, .inl fCn)), (md 8, .inl (g.2.1 0, 2, .inl fTi)), (md 11, .inl (g.2.1 0, 2, .inl fAk)), (md 12, .inl (g.2.1 0, 2, .inl fAl)), (md 13, .inl (g.2.1 0, 16, .inl fAo)), (md 14, .inl (g.2.1 0, 2, .inl fOl)), (md 15, .inl (g.2.1 0, 600, .inl fBy)), (md 22, .inl (g.2.1 0, 12, .inl fCt)), (md 23, .inl (g.2.1 0, 64, .inl fPk)), (md 24, .inl (g.2.1 0, 40, .inl fAn)), (md 1, .inl (g.2.1 0, 160, .inl fRu)), (md 2, .inl (g.2.1 0, 2, .inl fSt)), (md 4, .inl (g.2.1 0, 2, .inl fLe)), (md 18, .inl (g.2.1 0, 80, .inl (upd fGa ((40 * e) + ((eG E).length + (eOv E).toNat)) (nI b)))), (md 17, .inl (g.2.1 0, 2, .inl (upd fGt e (nI (((eG E).length + (eOv E).toNat) + 1))))), (md 19, .inl (g.2.1 1, 2, .inl (upd fEs e (nI 0)))), (md 20, .inl (g.2.1 0, 2, .inl fDl)), (md 21, .inl (g.2.1 0, 80, .inl fDb)), (md 16, .inl (g.2.1 1, 2, .inl fLp))]) hF hw dX6_receive_121 20 rfl (by omega) (by omega) rfl (fun H locs hw => ?_)
            have hq9 := rv_add (x := b) (n := (eG E).length + (eOv E).toNat + 1) (k := 40 * e + ((eG E).length + (eOv E).toNat)) hRT he c_3 (rcv_d hn125 hl40 (bz c_45)) hovf hl40 (by omega) (by omega) (by omega)
            exact RQ.vret hF hr hlk hw dX6_receive_122 ⟨by decide, by decide⟩ ((pn, ac, Q, ci, ck, fSz, fNu, fAS, fAN, fId, fCn, fTi, fAk, fAl, fAo, fOl, fBy, fCt, fPk, fAn, fSt, upd fGt e (nI (((eG E).length + (eOv E).toNat) + 1)), upd fEs e (nI 0), fDl, fDb, upd fGa ((40 * e) + ((eG E).length + (eOv E).toNat)) (nI b))) (rfl) ⟨rfl, ⟨hq9.1, hq9.2, hSQ⟩⟩
      · refine lv_iload_n hx hb dX6_receive_48 rfl (lv_at hl 2 rfl) ?_
        refine lv_bipush (v := nI 32) hx hb dX6_receive_49 (by decide) ?_
        refine r_ixor hx hb dX6_receive_51 ?_
        refine lv_goto (tgt := 56) hx hb dX6_receive_52 (by decide) ?_
        refine lv_istore_n (lv' := [(3, .int (nI (b ^^^ 32))), (0, .ref (md 0)), (1, .int (nI e)), (2, .int (nI b))]) hx hb dX6_receive_56 rfl hl (by decide) rfl (fun ls hl => ?_)
        refine lv_aload_n hx hb dX6_receive_57 rfl (lv_at hl 1 rfl) ?_
        refine wget hF hw flX6_65 dX6_receive_58 0 rfl rfl ?_
        refine lv_iload_n hx hb dX6_receive_61 rfl (lv_at hl 2 rfl) ?_
        refine lv_iconst (v := nI 0) hx hb dX6_receive_62 (by decide) ?_
        refine r_zast (ws' := [(md 0, .inr (5, [.ref (md 1), .int th, .ref (md 2), .ref (md 3), .ref (md 4), .ref (md 5), .ref (md 6), .ref (md 7), .ref (md 8), .ref (md 9), .ref (md 10), .ref (md 11), .ref (md 12), .ref (md 13), .ref (md 14), .ref (md 15), .ref (md 16), .ref (md 17), .ref (md 18), .ref (md 19), .ref (md 20), .ref (md 21), .ref (md 22), .int (nI pn), .ref (md 23), .int (nI ac), .int (nI Q.length), .ref (md 24), .int (nI ci), .int (nI ck)])), (md 3, .inl (g.2.1 0, 2, .inl fSz)), (md 5, .inl (g.2.1 0, 2, .inl fNu)), (md 9, .inl (g.2.1 1, 2, .inl fAS)), (md 10, .inl (g.2.1 1, 2, .inl fAN)), (md 6, .inl (g.2.1 0, 2, .inl fId)), (md 7, .inl (g.2.1 0, 2, .inl fCn)), (md 8, .inl (g.2.1 0, 2, .inl fTi)), (md 11, .inl (g.2.1 0, 2, .inl fAk)), (md 12, .inl (g.2.1 0, 2, .inl fAl)), (md 13, .inl (g.2.1 0, 16, .inl fAo)), (md 14, .inl (g.2.1 0, 2, .inl fOl)), (md 15, .inl (g.2.1 0, 600, .inl fBy)), (md 22, .inl (g.2.1 0, 12, .inl fCt)), (md 23, .inl (g.2.1 0, 64, .inl fPk)), (md 24, .inl (g.2.1 0, 40, .inl fAn)), (md 1, .inl (g.2.1 0, 160, .inl fRu)), (md 2, .inl (g.2.1 0, 2, .inl fSt)), (md 4, .inl (g.2.1 0, 2, .inl fLe)), (md 18, .inl (g.2.1 0, 80, .inl fGa)), (md 17, .inl (g.2.1 0, 2, .inl fGt)), (md 19, .inl (g.2.1 1, 2, .inl (upd fEs e (nI 0)))), (md 20, .inl (g.2.1 0, 2, .inl fDl)), (md 21, .inl (g.2.1 0, 80, .inl fDb)), (md 16, .inl (g.2.1 1, 2, .inl fLp))]) hF hw dX6_receive_63 21 rfl (by omega) (by omega) (rfl) rfl (fun H locs hw => ?_)
        refine lv_aload_n hx hb dX6_receive_64 rfl (lv_at hl 1 rfl) ?_
        refine wget hF hw flX6_59 dX6_receive_65 0 rfl rfl ?_
        refine lv_iload_n hx hb dX6_receive_68 rfl (lv_at hl 2 rfl) ?_
        refine r_iald hF hw dX6_receive_69 20 rfl (by omega) (by omega) ?_
        refine r_top (n := (eG E).length + (eOv E).toNat) (hGt.1) ?_
        refine lv_bipush (v := nI 40) hx hb dX6_receive_70 (by decide) ?_
        refine r_ge (tgt := 92) hx hb dX6_receive_72 (by decide) (by omega) (by omega) (fun c_72 => ?_) (fun c_72 => ?_)
        · have hg40 := ge40 hov40 c_72
          refine lv_aload_n hx hb dX6_receive_92 rfl (lv_at hl 1 rfl) ?_
          refine wget hF hw flX6_59 dX6_receive_93 0 rfl rfl ?_
          refine lv_iload_n hx hb dX6_receive_96 rfl (lv_at hl 2 rfl) ?_
          refine lv_aload_n hx hb dX6_receive_97 rfl (lv_at hl 1 rfl) ?_
          refine wget hF hw flX6_59 dX6_receive_98 0 rfl rfl ?_
          refine lv_iload_n hx hb dX6_receive_101 rfl (lv_at hl 2 rfl) ?_
          refine r_iald hF hw dX6_receive_102 20 rfl (by omega) (by omega) ?_
          refine r_top (n := (eG E).length + (eOv E).toNat) (hGt.1) ?_
          refine lv_bipush (v := nI 41) hx hb dX6_receive_103 (by decide) ?_
          refine r_ge (tgt := 119) hx hb dX6_receive_105 (by decide) (by omega) (by omega) (fun c_105 => ?_) (fun c_105 => ?_)
          · refine lv_bipush (v := nI 41) hx hb dX6_receive_119 (by decide) ?_
            refine r_iast (ws' := [(md 0, .inr (5, [.ref (md 1), .int th, .ref (md 2), .ref (md 3), .ref (md 4), .ref (md 5), .ref (md 6), .ref (md 7), .ref (md 8), .ref (md 9), .ref (md 10), .ref (md 11), .ref (md 12), .ref (md 13), .ref (md 14), .ref (md 15), .ref (md 16), .ref (md 17), .ref (md 18), .ref (md 19), .ref (md 20), .ref (md 21), .ref (md 22), .int (nI pn), .ref (md 23), .int (nI ac), .int (nI Q.length), .ref (md 24), .int (nI ci), .int (nI ck)])), (md 3, .inl (g.2.1 0, 2, .inl fSz)), (md 5, .inl (g.2.1 0, 2, .inl fNu)), (md 9, .inl (g.2.1 1, 2, .inl fAS)), (md 10, .inl (g.2.1 1, 2, .inl fAN)), (md 6, .inl (g.2.1 0, 2, .inl fId)), (md 7, .inl (g.2.1 0, 2, .inl fCn)), (md 8, .inl (g.2.1 0, 2, .inl fTi)), (md 11, .inl (g.2.1 0, 2, .inl fAk)), (md 12, .inl (g.2.1 0, 2, .inl fAl)), (md 13, .inl (g.2.1 0, 16, .inl fAo)), (md 14, .inl (g.2.1 0, 2, .inl fOl)), (md 15, .inl (g.2.1 0, 600, .inl fBy)), (md 22, .inl (g.2.1 0, 12, .inl fCt)), (md 23, .inl (g.2.1 0, 64, .inl fPk)), (md 24, .inl (g.2.1 0, 40, .inl fAn)), (md 1, .inl (g.2.1 0, 160, .inl fRu)), (md 2, .inl (g.2.1 0, 2, .inl fSt)), (md 4, .inl (g.2.1 0, 2, .inl fLe)), (md 18, .inl (g.2.1 0, 80, .inl fGa)), (md 17, .inl (g.2.1 0, 2, .inl (upd fGt e (nI 41)))), (md 19, .inl (g.2.1 1, 2, .inl (upd fEs e (nI 0)))), (md 20, .inl (g.2.1 0, 2, .inl fDl)), (md 21, .inl (g.2.1 0, 80, .inl fDb)), (md 16, .inl (g.2.1 1, 2, .inl fLp))]) hF hw dX6_receive_121 20 rfl (by omega) (by omega) rfl (fun H locs hw => ?_)
            have hq9 := rv_full (n := 41) hRT he c_3 (rcv_b (fun q => by first | exact absurd q hn125 | exact bnz c_45) hg40) (by omega) (by omega)
            exact RQ.vret hF hr hlk hw dX6_receive_122 ⟨by decide, by decide⟩ ((pn, ac, Q, ci, ck, fSz, fNu, fAS, fAN, fId, fCn, fTi, fAk, fAl, fAo, fOl, fBy, fCt, fPk, fAn, fSt, upd fGt e (nI 41), upd fEs e (nI 0), fDl, fDb, fGa)) (rfl) ⟨rfl, ⟨hq9.1, hq9.2, hSQ⟩⟩
          · refine lv_aload_n hx hb dX6_receive_108 rfl (lv_at hl 1 rfl) ?_
            refine wget hF hw flX6_59 dX6_receive_109 0 rfl rfl ?_
            refine lv_iload_n hx hb dX6_receive_112 rfl (lv_at hl 2 rfl) ?_
            refine r_iald hF hw dX6_receive_113 20 rfl (by omega) (by omega) ?_
            refine r_top (n := (eG E).length + (eOv E).toNat) (hGt.1) ?_
            refine lv_iconst (v := nI 1) hx hb dX6_receive_114 (by decide) ?_
            refine r_iadd hx hb dX6_receive_115 ?_
            refine lv_goto (tgt := 121) hx hb dX6_receive_116 (by decide) ?_
            refine r_iast (ws' := [(md 0, .inr (5, [.ref (md 1), .int th, .ref (md 2), .ref (md 3), .ref (md 4), .ref (md 5), .ref (md 6), .ref (md 7), .ref (md 8), .ref (md 9), .ref (md 10), .ref (md 11), .ref (md 12), .ref (md 13), .ref (md 14), .ref (md 15), .ref (md 16), .ref (md 17), .ref (md 18), .ref (md 19), .ref (md 20), .ref (md 21), .ref (md 22), .int (nI pn), .ref (md 23), .int (nI ac), .int (nI Q.length), .ref (md 24), .int (nI ci), .int (nI ck)])), (md 3, .inl (g.2.1 0, 2, .inl fSz)), (md 5, .inl (g.2.1 0, 2, .inl fNu)), (md 9, .inl (g.2.1 1, 2, .inl fAS)), (md 10, .inl (g.2.1 1, 2, .inl fAN)), (md 6, .inl (g.2.1 0, 2, .inl fId)), (md 7, .inl (g.2.1 0, 2, .inl fCn)), (md 8, .inl (g.2.1 0, 2, .inl fTi)), (md 11, .inl (g.2.1 0, 2, .inl fAk)), (md 12, .inl (g.2.1 0, 2, .inl fAl)), (md 13, .inl (g.2.1 0, 16, .inl fAo)), (md 14, .inl (g.2.1 0, 2, .inl fOl)), (md 15, .inl (g.2.1 0, 600, .inl fBy)), (md 22, .inl (g.2.1 0, 12, .inl fCt)), (md 23, .inl (g.2.1 0, 64, .inl fPk)), (md 24, .inl (g.2.1 0, 40, .inl fAn)), (md 1, .inl (g.2.1 0, 160, .inl fRu)), (md 2, .inl (g.2.1 0, 2, .inl fSt)), (md 4, .inl (g.2.1 0, 2, .inl fLe)), (md 18, .inl (g.2.1 0, 80, .inl fGa)), (md 17, .inl (g.2.1 0, 2, .inl (upd fGt e (nI (((eG E).length + (eOv E).toNat) + 1))))), (md 19, .inl (g.2.1 1, 2, .inl (upd fEs e (nI 0)))), (md 20, .inl (g.2.1 0, 2, .inl fDl)), (md 21, .inl (g.2.1 0, 80, .inl fDb)), (md 16, .inl (g.2.1 1, 2, .inl fLp))]) hF hw dX6_receive_121 20 rfl (by omega) (by omega) rfl (fun H locs hw => ?_)
            have hq9 := rv_full (n := (eG E).length + (eOv E).toNat + 1) hRT he c_3 (rcv_b (fun q => by first | exact absurd q hn125 | exact bnz c_45) hg40) (by omega) (by omega)
            exact RQ.vret hF hr hlk hw dX6_receive_122 ⟨by decide, by decide⟩ ((pn, ac, Q, ci, ck, fSz, fNu, fAS, fAN, fId, fCn, fTi, fAk, fAl, fAo, fOl, fBy, fCt, fPk, fAn, fSt, upd fGt e (nI (((eG E).length + (eOv E).toNat) + 1)), upd fEs e (nI 0), fDl, fDb, fGa)) (rfl) ⟨rfl, ⟨hq9.1, hq9.2, hSQ⟩⟩
        · have hovf := n_ov hov40 (by omega)
          have hov0 : (eOv E).toNat = 0 := by rw [hovf]; rfl
          have hl40 : (eG E).length < 40 := by omega
          refine lv_aload_n hx hb dX6_receive_75 rfl (lv_at hl 1 rfl) ?_
          refine wget hF hw flX6_62 dX6_receive_76 0 rfl rfl ?_
          refine lv_bipush (v := nI 40) hx hb dX6_receive_79 (by decide) ?_
          refine lv_iload_n hx hb dX6_receive_81 rfl (lv_at hl 2 rfl) ?_
          refine r_imul hx hb dX6_receive_82 ?_
          refine lv_aload_n hx hb dX6_receive_83 rfl (lv_at hl 1 rfl) ?_
          refine wget hF hw flX6_59 dX6_receive_84 0 rfl rfl ?_
          refine lv_iload_n hx hb dX6_receive_87 rfl (lv_at hl 2 rfl) ?_
          refine r_iald hF hw dX6_receive_88 20 rfl (by omega) (by omega) ?_
          refine r_top (n := (eG E).length + (eOv E).toNat) (hGt.1) ?_
          refine r_iadd hx hb dX6_receive_89 ?_
          refine lv_iload_n hx hb dX6_receive_90 rfl (lv_at hl 0 rfl) ?_
          refine r_iast (ws' := [(md 0, .inr (5, [.ref (md 1), .int th, .ref (md 2), .ref (md 3), .ref (md 4), .ref (md 5), .ref (md 6), .ref (md 7), .ref (md 8), .ref (md 9), .ref (md 10), .ref (md 11), .ref (md 12), .ref (md 13), .ref (md 14), .ref (md 15), .ref (md 16), .ref (md 17), .ref (md 18), .ref (md 19), .ref (md 20), .ref (md 21), .ref (md 22), .int (nI pn), .ref (md 23), .int (nI ac), .int (nI Q.length), .ref (md 24), .int (nI ci), .int (nI ck)])), (md 3, .inl (g.2.1 0, 2, .inl fSz)), (md 5, .inl (g.2.1 0, 2, .inl fNu)), (md 9, .inl (g.2.1 1, 2, .inl fAS)), (md 10, .inl (g.2.1 1, 2, .inl fAN)), (md 6, .inl (g.2.1 0, 2, .inl fId)), (md 7, .inl (g.2.1 0, 2, .inl fCn)), (md 8, .inl (g.2.1 0, 2, .inl fTi)), (md 11, .inl (g.2.1 0, 2, .inl fAk)), (md 12, .inl (g.2.1 0, 2, .inl fAl)), (md 13, .inl (g.2.1 0, 16, .inl fAo)), (md 14, .inl (g.2.1 0, 2, .inl fOl)), (md 15, .inl (g.2.1 0, 600, .inl fBy)), (md 22, .inl (g.2.1 0, 12, .inl fCt)), (md 23, .inl (g.2.1 0, 64, .inl fPk)), (md 24, .inl (g.2.1 0, 40, .inl fAn)), (md 1, .inl (g.2.1 0, 160, .inl fRu)), (md 2, .inl (g.2.1 0, 2, .inl fSt)), (md 4, .inl (g.2.1 0, 2, .inl fLe)), (md 18, .inl (g.2.1 0, 80, .inl (upd fGa ((40 * e) + ((eG E).length + (eOv E).toNat)) (nI (b ^^^ 32))))), (md 17, .inl (g.2.1 0, 2, .inl fGt)), (md 19, .inl (g.2.1 1, 2, .inl (upd fEs e (nI 0)))), (md 20, .inl (g.2.1 0, 2, .inl fDl)), (md 21, .inl (g.2.1 0, 80, .inl fDb)), (md 16, .inl (g.2.1 1, 2, .inl fLp))]) hF hw dX6_receive_91 19 rfl (by omega) (by omega) rfl (fun H locs hw => ?_)
          refine lv_aload_n hx hb dX6_receive_92 rfl (lv_at hl 1 rfl) ?_
          refine wget hF hw flX6_59 dX6_receive_93 0 rfl rfl ?_
          refine lv_iload_n hx hb dX6_receive_96 rfl (lv_at hl 2 rfl) ?_
          refine lv_aload_n hx hb dX6_receive_97 rfl (lv_at hl 1 rfl) ?_
          refine wget hF hw flX6_59 dX6_receive_98 0 rfl rfl ?_
          refine lv_iload_n hx hb dX6_receive_101 rfl (lv_at hl 2 rfl) ?_
          refine r_iald hF hw dX6_receive_102 20 rfl (by omega) (by omega) ?_
          refine r_top (n := (eG E).length + (eOv E).toNat) (hGt.1) ?_
          refine lv_bipush (v := nI 41) hx hb dX6_receive_103 (by decide) ?_
          refine r_ge (tgt := 119) hx hb dX6_receive_105 (by decide) (by omega) (by omega) (fun c_105 => ?_) (fun c_105 => ?_)
          · exact absurd c_105 (by omega)
          · refine lv_aload_n hx hb dX6_receive_108 rfl (lv_at hl 1 rfl) ?_
            refine wget hF hw flX6_59 dX6_receive_109 0 rfl rfl ?_
            refine lv_iload_n hx hb dX6_receive_112 rfl (lv_at hl 2 rfl) ?_
            refine r_iald hF hw dX6_receive_113 20 rfl (by omega) (by omega) ?_
            refine r_top (n := (eG E).length + (eOv E).toNat) (hGt.1) ?_
            refine lv_iconst (v := nI 1) hx hb dX6_receive_114 (by decide) ?_
            refine r_iadd hx hb dX6_receive_115 ?_
            refine lv_goto (tgt := 121) hx hb dX6_receive_116 (by decide) ?_
            refine r_iast (ws' := [(md 0, .inr (5, [.ref (md 1), .int th, .ref (md 2), .ref (md 3), .ref (md 4), .ref (md 5), .ref (md 6), .ref (md 7), .ref (md 8), .ref (md 9), .ref (md 10), .ref (md 11), .ref (md 12), .ref (md 13), .ref (md 14), .ref (md 15), .ref (md 16), .ref (md 17), .ref (md 18), .ref (md 19), .ref (md 20), .ref (md 21), .ref (md 22), .int (nI pn), .ref (md 23), .int (nI ac), .int (nI Q.length), .ref (md 24), .int (nI ci), .int (nI ck)])), (md 3, .inl (g.2.1 0, 2, .inl fSz)), (md 5, .inl (g.2.1 0, 2, .inl fNu)), (md 9, .inl (g.2.1 1, 2, .inl fAS)), (md 10, .inl (g.2.1 1, 2, .inl fAN)), (md 6, .inl (g.2.1 0, 2, .inl fId)), (md 7, .inl (g.2.1 0, 2, .inl fCn)), (md 8, .inl (g.2.1 0, 2, .inl fTi)), (md 11, .inl (g.2.1 0, 2, .inl fAk)), (md 12, .inl (g.2.1 0, 2, .inl fAl)), (md 13, .inl (g.2.1 0, 16, .inl fAo)), (md 14, .inl (g.2.1 0, 2, .inl fOl)), (md 15, .inl (g.2.1 0, 600, .inl fBy)), (md 22, .inl (g.2.1 0, 12, .inl fCt)), (md 23, .inl (g.2.1 0, 64, .inl fPk)), (md 24, .inl (g.2.1 0, 40, .inl fAn)), (md 1, .inl (g.2.1 0, 160, .inl fRu)), (md 2, .inl (g.2.1 0, 2, .inl fSt)), (md 4, .inl (g.2.1 0, 2, .inl fLe)), (md 18, .inl (g.2.1 0, 80, .inl (upd fGa ((40 * e) + ((eG E).length + (eOv E).toNat)) (nI (b ^^^ 32))))), (md 17, .inl (g.2.1 0, 2, .inl (upd fGt e (nI (((eG E).length + (eOv E).toNat) + 1))))), (md 19, .inl (g.2.1 1, 2, .inl (upd fEs e (nI 0)))), (md 20, .inl (g.2.1 0, 2, .inl fDl)), (md 21, .inl (g.2.1 0, 80, .inl fDb)), (md 16, .inl (g.2.1 1, 2, .inl fLp))]) hF hw dX6_receive_121 20 rfl (by omega) (by omega) rfl (fun H locs hw => ?_)
            have hq9 := rv_add (x := b ^^^ 32) (n := (eG E).length + (eOv E).toNat + 1) (k := 40 * e + ((eG E).length + (eOv E).toNat)) hRT he c_3 (rcv_c (fun _ => bnz c_45) hl40 (bnz c_45)) hovf hl40 (by omega) (by omega) (by omega)
            exact RQ.vret hF hr hlk hw dX6_receive_122 ⟨by decide, by decide⟩ ((pn, ac, Q, ci, ck, fSz, fNu, fAS, fAN, fId, fCn, fTi, fAk, fAl, fAo, fOl, fBy, fCt, fPk, fAn, fSt, upd fGt e (nI (((eG E).length + (eOv E).toNat) + 1)), upd fEs e (nI 0), fDl, fDb, upd fGa ((40 * e) + ((eG E).length + (eOv E).toNat)) (nI (b ^^^ 32)))) (rfl) ⟨rfl, ⟨hq9.1, hq9.2, hSQ⟩⟩
    · refine lv_aload_n hx hb dX6_receive_20 rfl (lv_at hl 0 rfl) ?_
      refine wget hF hw flX6_65 dX6_receive_21 0 rfl rfl ?_
      refine lv_iload_n hx hb dX6_receive_24 rfl (lv_at hl 1 rfl) ?_
      refine r_zald hF hw dX6_receive_25 21 rfl (by omega) (by omega) ?_
      refine r_top (n := (eEs E).toNat) (hEs) ?_
      refine r_ne0 (tgt := 39) hx hb dX6_receive_26 (by decide) (by omega) (fun c_26 => ?_) (fun c_26 => ?_)
      · have hn125 : eEs E = false → ¬ b = 125 := fun q h => by first | exact c_17 h | (rw [bnz c_26] at q; cases q)
        refine lv_aload_n hx hb dX6_receive_39 rfl (lv_at hl 0 rfl) ?_
        refine wget hF hw flX6_65 dX6_receive_40 0 rfl rfl ?_
        refine lv_iload_n hx hb dX6_receive_43 rfl (lv_at hl 1 rfl) ?_
        refine r_zald hF hw dX6_receive_44 21 rfl (by omega) (by omega) ?_
        refine r_top (n := (eEs E).toNat) (hEs) ?_
        refine r_eq0 (tgt := 55) hx hb dX6_receive_45 (by decide) (by omega) (fun c_45 => ?_) (fun c_45 => ?_)
        · have hn125 := hn125 (bz c_45)
          refine lv_iload_n hx hb dX6_receive_55 rfl (lv_at hl 2 rfl) ?_
          refine lv_istore_n (lv' := [(3, .int (nI b)), (0, .ref (md 0)), (1, .int (nI e)), (2, .int (nI b))]) hx hb dX6_receive_56 rfl hl (by decide) rfl (fun ls hl => ?_)
          refine lv_aload_n hx hb dX6_receive_57 rfl (lv_at hl 1 rfl) ?_
          refine wget hF hw flX6_65 dX6_receive_58 0 rfl rfl ?_
          refine lv_iload_n hx hb dX6_receive_61 rfl (lv_at hl 2 rfl) ?_
          refine lv_iconst (v := nI 0) hx hb dX6_receive_62 (by decide) ?_
          refine r_zast (ws' := [(md 0, .inr (5, [.ref (md 1), .int th, .ref (md 2), .ref (md 3), .ref (md 4), .ref (md 5), .ref (md 6), .ref (md 7), .ref (md 8), .ref (md 9), .ref (md 10), .ref (md 11), .ref (md 12), .ref (md 13), .ref (md 14), .ref (md 15), .ref (md 16), .ref (md 17), .ref (md 18), .ref (md 19), .ref (md 20), .ref (md 21), .ref (md 22), .int (nI pn), .ref (md 23), .int (nI ac), .int (nI Q.length), .ref (md 24), .int (nI ci), .int (nI ck)])), (md 3, .inl (g.2.1 0, 2, .inl fSz)), (md 5, .inl (g.2.1 0, 2, .inl fNu)), (md 9, .inl (g.2.1 1, 2, .inl fAS)), (md 10, .inl (g.2.1 1, 2, .inl fAN)), (md 6, .inl (g.2.1 0, 2, .inl fId)), (md 7, .inl (g.2.1 0, 2, .inl fCn)), (md 8, .inl (g.2.1 0, 2, .inl fTi)), (md 11, .inl (g.2.1 0, 2, .inl fAk)), (md 12, .inl (g.2.1 0, 2, .inl fAl)), (md 13, .inl (g.2.1 0, 16, .inl fAo)), (md 14, .inl (g.2.1 0, 2, .inl fOl)), (md 15, .inl (g.2.1 0, 600, .inl fBy)), (md 22, .inl (g.2.1 0, 12, .inl fCt)), (md 23, .inl (g.2.1 0, 64, .inl fPk)), (md 24, .inl (g.2.1 0, 40, .inl fAn)), (md 1, .inl (g.2.1 0, 160, .inl fRu)), (md 2, .inl (g.2.1 0, 2, .inl fSt)), (md 4, .inl (g.2.1 0, 2, .inl fLe)), (md 18, .inl (g.2.1 0, 80, .inl fGa)), (md 17, .inl (g.2.1 0, 2, .inl fGt)), (md 19, .inl (g.2.1 1, 2, .inl (upd fEs e (nI 0)))), (md 20, .inl (g.2.1 0, 2, .inl fDl)), (md 21, .inl (g.2.1 0, 80, .inl fDb)), (md 16, .inl (g.2.1 1, 2, .inl fLp))]) hF hw dX6_receive_63 21 rfl (by omega) (by omega) (rfl) rfl (fun H locs hw => ?_)
          refine lv_aload_n hx hb dX6_receive_64 rfl (lv_at hl 1 rfl) ?_
          refine wget hF hw flX6_59 dX6_receive_65 0 rfl rfl ?_
          refine lv_iload_n hx hb dX6_receive_68 rfl (lv_at hl 2 rfl) ?_
          refine r_iald hF hw dX6_receive_69 20 rfl (by omega) (by omega) ?_
          refine r_top (n := (eG E).length + (eOv E).toNat) (hGt.1) ?_
          refine lv_bipush (v := nI 40) hx hb dX6_receive_70 (by decide) ?_
          refine r_ge (tgt := 92) hx hb dX6_receive_72 (by decide) (by omega) (by omega) (fun c_72 => ?_) (fun c_72 => ?_)
          · have hg40 := ge40 hov40 c_72
            refine lv_aload_n hx hb dX6_receive_92 rfl (lv_at hl 1 rfl) ?_
            refine wget hF hw flX6_59 dX6_receive_93 0 rfl rfl ?_
            refine lv_iload_n hx hb dX6_receive_96 rfl (lv_at hl 2 rfl) ?_
            refine lv_aload_n hx hb dX6_receive_97 rfl (lv_at hl 1 rfl) ?_
            refine wget hF hw flX6_59 dX6_receive_98 0 rfl rfl ?_
            refine lv_iload_n hx hb dX6_receive_101 rfl (lv_at hl 2 rfl) ?_
            refine r_iald hF hw dX6_receive_102 20 rfl (by omega) (by omega) ?_
            refine r_top (n := (eG E).length + (eOv E).toNat) (hGt.1) ?_
            refine lv_bipush (v := nI 41) hx hb dX6_receive_103 (by decide) ?_
            refine r_ge (tgt := 119) hx hb dX6_receive_105 (by decide) (by omega) (by omega) (fun c_105 => ?_) (fun c_105 => ?_)
            · refine lv_bipush (v := nI 41) hx hb dX6_receive_119 (by decide) ?_
              refine r_iast (ws' := [(md 0, .inr (5, [.ref (md 1), .int th, .ref (md 2), .ref (md 3), .ref (md 4), .ref (md 5), .ref (md 6), .ref (md 7), .ref (md 8), .ref (md 9), .ref (md 10), .ref (md 11), .ref (md 12), .ref (md 13), .ref (md 14), .ref (md 15), .ref (md 16), .ref (md 17), .ref (md 18), .ref (md 19), .ref (md 20), .ref (md 21), .ref (md 22), .int (nI pn), .ref (md 23), .int (nI ac), .int (nI Q.length), .ref (md 24), .int (nI ci), .int (nI ck)])), (md 3, .inl (g.2.1 0, 2, .inl fSz)), (md 5, .inl (g.2.1 0, 2, .inl fNu)), (md 9, .inl (g.2.1 1, 2, .inl fAS)), (md 10, .inl (g.2.1 1, 2, .inl fAN)), (md 6, .inl (g.2.1 0, 2, .inl fId)), (md 7, .inl (g.2.1 0, 2, .inl fCn)), (md 8, .inl (g.2.1 0, 2, .inl fTi)), (md 11, .inl (g.2.1 0, 2, .inl fAk)), (md 12, .inl (g.2.1 0, 2, .inl fAl)), (md 13, .inl (g.2.1 0, 16, .inl fAo)), (md 14, .inl (g.2.1 0, 2, .inl fOl)), (md 15, .inl (g.2.1 0, 600, .inl fBy)), (md 22, .inl (g.2.1 0, 12, .inl fCt)), (md 23, .inl (g.2.1 0, 64, .inl fPk)), (md 24, .inl (g.2.1 0, 40, .inl fAn)), (md 1, .inl (g.2.1 0, 160, .inl fRu)), (md 2, .inl (g.2.1 0, 2, .inl fSt)), (md 4, .inl (g.2.1 0, 2, .inl fLe)), (md 18, .inl (g.2.1 0, 80, .inl fGa)), (md 17, .inl (g.2.1 0, 2, .inl (upd fGt e (nI 41)))), (md 19, .inl (g.2.1 1, 2, .inl (upd fEs e (nI 0)))), (md 20, .inl (g.2.1 0, 2, .inl fDl)), (md 21, .inl (g.2.1 0, 80, .inl fDb)), (md 16, .inl (g.2.1 1, 2, .inl fLp))]) hF hw dX6_receive_121 20 rfl (by omega) (by omega) rfl (fun H locs hw => ?_)
              have hq9 := rv_full (n := 41) hRT he c_3 (rcv_b (fun q => by first | exact absurd q hn125 | exact bnz c_45) hg40) (by omega) (by omega)
              exact RQ.vret hF hr hlk hw dX6_receive_122 ⟨by decide, by decide⟩ ((pn, ac, Q, ci, ck, fSz, fNu, fAS, fAN, fId, fCn, fTi, fAk, fAl, fAo, fOl, fBy, fCt, fPk, fAn, fSt, upd fGt e (nI 41), upd fEs e (nI 0), fDl, fDb, fGa)) (rfl) ⟨rfl, ⟨hq9.1, hq9.2, hSQ⟩⟩
            · refine lv_aload_n hx hb dX6_receive_108 rfl (lv_at hl 1 rfl) ?_
              refine wget hF hw flX6_59 dX6_receive_109 0 rfl rfl ?_
              refine lv_iload_n hx hb dX6_receive_112 rfl (lv_at hl 2 rfl) ?_
              refine r_iald hF hw dX6_receive_113 20 rfl (by omega) (by omega) ?_
              refine r_top (n := (eG E).length + (eOv E).toNat) (hGt.1) ?_
              refine lv_iconst (v := nI 1) hx hb dX6_receive_114 (by decide) ?_
              refine r_iadd hx hb dX6_receive_115 ?_
              refine lv_goto (tgt := 121) hx hb dX6_receive_116 (by decide) ?_
              refine r_iast (ws' := [(md 0, .inr (5, [.ref (md 1), .int th, .ref (md 2), .ref (md 3), .ref (md 4), .ref (md 5), .ref (md 6), .ref (md 7), .ref (md 8), .ref (md 9), .ref (md 10), .ref (md 11), .ref (md 12), .ref (md 13), .ref (md 14), .ref (md 15), .ref (md 16), .ref (md 17), .ref (md 18), .ref (md 19), .ref (md 20), .ref (md 21), .ref (md 22), .int (nI pn), .ref (md 23), .int (nI ac), .int (nI Q.length), .ref (md 24), .int (nI ci), .int (nI ck)])), (md 3, .inl (g.2.1 0, 2, .inl fSz)), (md 5, .inl (g.2.1 0, 2, .inl fNu)), (md 9, .inl (g.2.1 1, 2, .inl fAS)), (md 10, .inl (g.2.1 1, 2, .inl fAN)), (md 6, .inl (g.2.1 0, 2, .inl fId)), (md 7, .inl (g.2.1 0, 2, .inl fCn)), (md 8, .inl (g.2.1 0, 2, .inl fTi)), (md 11, .inl (g.2.1 0, 2, .inl fAk)), (md 12, .inl (g.2.1 0, 2, .inl fAl)), (md 13, .inl (g.2.1 0, 16, .inl fAo)), (md 14, .inl (g.2.1 0, 2, .inl fOl)), (md 15, .inl (g.2.1 0, 600, .inl fBy)), (md 22, .inl (g.2.1 0, 12, .inl fCt)), (md 23, .inl (g.2.1 0, 64, .inl fPk)), (md 24, .inl (g.2.1 0, 40, .inl fAn)), (md 1, .inl (g.2.1 0, 160, .inl fRu)), (md 2, .inl (g.2.1 0, 2, .inl fSt)), (md 4, .inl (g.2.1 0, 2, .inl fLe)), (md 18, .inl (g.2.1 0, 80, .inl fGa)), (md 17, .inl (g.2.1 0, 2, .inl (upd fGt e (nI (((eG E).length + (eOv E).toNat) + 1))))), (md 19, .inl (g.2.1 1, 2, .inl (upd fEs e (nI 0)))), (md 20, .inl (g.2.1 0, 2, .inl fDl)), (md 21, .inl (g.2.1 0, 80, .inl fDb)), (md 16, .inl (g.2.1 1, 2, .inl fLp))]) hF hw dX6_receive_121 20 rfl (by omega) (by omega) rfl (fun H locs hw => ?_)
              have hq9 := rv_full (n := (eG E).length + (eOv E).toNat + 1) hRT he c_3 (rcv_b (fun q => by first | exact absurd q hn125 | exact bnz c_45) hg40) (by omega) (by omega)
              exact RQ.vret hF hr hlk hw dX6_receive_122 ⟨by decide, by decide⟩ ((pn, ac, Q, ci, ck, fSz, fNu, fAS, fAN, fId, fCn, fTi, fAk, fAl, fAo, fOl, fBy, fCt, fPk, fAn, fSt, upd fGt e (nI (((eG E).length + (eOv E).toNat) + 1)), upd fEs e (nI 0), fDl, fDb, fGa)) (rfl) ⟨rfl, ⟨hq9.1, hq9.2, hSQ⟩⟩
          · have hovf := n_ov hov40 (by omega)
            have hov0 : (eOv E).toNat = 0 := by rw [hovf]; rfl
            have hl40 : (eG E).length < 40 := by omega
            refine lv_aload_n hx hb dX6_receive_75 rfl (lv_at hl 1 rfl) ?_
            refine wget hF hw flX6_62 dX6_receive_76 0 rfl rfl ?_
            refine lv_bipush (v := nI 40) hx hb dX6_receive_79 (by decide) ?_
            refine lv_iload_n hx hb dX6_receive_81 rfl (lv_at hl 2 rfl) ?_
            refine r_imul hx hb dX6_receive_82 ?_
            refine lv_aload_n hx hb dX6_receive_83 rfl (lv_at hl 1 rfl) ?_
            refine wget hF hw flX6_59 dX6_receive_84 0 rfl rfl ?_
            refine lv_iload_n hx hb dX6_receive_87 rfl (lv_at hl 2 rfl) ?_
            refine r_iald hF hw dX6_receive_88 20 rfl (by omega) (by omega) ?_
            refine r_top (n := (eG E).length + (eOv E).toNat) (hGt.1) ?_
            refine r_iadd hx hb dX6_receive_89 ?_
            refine lv_iload_n hx hb dX6_receive_90 rfl (lv_at hl 0 rfl) ?_
            refine r_iast (ws' := [(md 0, .inr (5, [.ref (md 1), .int th, .ref (md 2), .ref (md 3), .ref (md 4), .ref (md 5), .ref (md 6), .ref (md 7), .ref (md 8), .ref (md 9), .ref (md 10), .ref (md 11), .ref (md 12), .ref (md 13), .ref (md 14), .ref (md 15), .ref (md 16), .ref (md 17), .ref (md 18), .ref (md 19), .ref (md 20), .ref (md 21), .ref (md 22), .int (nI pn), .ref (md 23), .int (nI ac), .int (nI Q.length), .ref (md 24), .int (nI ci), .int (nI ck)])), (md 3, .inl (g.2.1 0, 2, .inl fSz)), (md 5, .inl (g.2.1 0, 2, .inl fNu)), (md 9, .inl (g.2.1 1, 2, .inl fAS)), (md 10, .inl (g.2.1 1, 2, .inl fAN)), (md 6, .inl (g.2.1 0, 2, .inl fId)), (md 7, .inl (g.2.1 0, 2, .inl fCn)), (md 8, .inl (g.2.1 0, 2, .inl fTi)), (md 11, .inl (g.2.1 0, 2, .inl fAk)), (md 12, .inl (g.2.1 0, 2, .inl fAl)), (md 13, .inl (g.2.1 0, 16, .inl fAo)), (md 14, .inl (g.2.1 0, 2, .inl fOl)), (md 15, .inl (g.2.1 0, 600, .inl fBy)), (md 22, .inl (g.2.1 0, 12, .inl fCt)), (md 23, .inl (g.2.1 0, 64, .inl fPk)), (md 24, .inl (g.2.1 0, 40, .inl fAn)), (md 1, .inl (g.2.1 0, 160, .inl fRu)), (md 2, .inl (g.2.1 0, 2, .inl fSt)), (md 4, .inl (g.2.1 0, 2, .inl fLe)), (md 18, .inl (g.2.1 0, 80, .inl (upd fGa ((40 * e) + ((eG E).length + (eOv E).toNat)) (nI b)))), (md 17, .inl (g.2.1 0, 2, .inl fGt)), (md 19, .inl (g.2.1 1, 2, .inl (upd fEs e (nI 0)))), (md 20, .inl (g.2.1 0, 2, .inl fDl)), (md 21, .inl (g.2.1 0, 80, .inl fDb)), (md 16, .inl (g.2.1 1, 2, .inl fLp))]) hF hw dX6_receive_91 19 rfl (by omega) (by omega) rfl (fun H locs hw => ?_)
            refine lv_aload_n hx hb dX6_receive_92 rfl (lv_at hl 1 rfl) ?_
            refine wget hF hw flX6_59 dX6_receive_93 0 rfl rfl ?_
            refine lv_iload_n hx hb dX6_receive_96 rfl (lv_at hl 2 rfl) ?_
            refine lv_aload_n hx hb dX6_receive_97 rfl (lv_at hl 1 rfl) ?_
            refine wget hF hw flX6_59 dX6_receive_98 0 rfl rfl ?_
            refine lv_iload_n hx hb dX6_receive_101 rfl (lv_at hl 2 rfl) ?_
            refine r_iald hF hw dX6_receive_102 20 rfl (by omega) (by omega) ?_
            refine r_top (n := (eG E).length + (eOv E).toNat) (hGt.1) ?_
            refine lv_bipush (v := nI 41) hx hb dX6_receive_103 (by decide) ?_
            refine r_ge (tgt := 119) hx hb dX6_receive_105 (by decide) (by omega) (by omega) (fun c_105 => ?_) (fun c_105 => ?_)
            · exact absurd c_105 (by omega)
            · refine lv_aload_n hx hb dX6_receive_108 rfl (lv_at hl 1 rfl) ?_
              refine wget hF hw flX6_59 dX6_receive_109 0 rfl rfl ?_
              refine lv_iload_n hx hb dX6_receive_112 rfl (lv_at hl 2 rfl) ?_
              refine r_iald hF hw dX6_receive_113 20 rfl (by omega) (by omega) ?_
              refine r_top (n := (eG E).length + (eOv E).toNat) (hGt.1) ?_
              refine lv_iconst (v := nI 1) hx hb dX6_receive_114 (by decide) ?_
              refine r_iadd hx hb dX6_receive_115 ?_
              refine lv_goto (tgt := 121) hx hb dX6_receive_116 (by decide) ?_
              refine r_iast (ws' := [(md 0, .inr (5, [.ref (md 1), .int th, .ref (md 2), .ref (md 3), .ref (md 4), .ref (md 5), .ref (md 6), .ref (md 7), .ref (md 8), .ref (md 9), .ref (md 10), .ref (md 11), .ref (md 12), .ref (md 13), .ref (md 14), .ref (md 15), .ref (md 16), .ref (md 17), .ref (md 18), .ref (md 19), .ref (md 20), .ref (md 21), .ref (md 22), .int (nI pn), .ref (md 23), .int (nI ac), .int (nI Q.length), .ref (md 24), .int (nI ci), .int (nI ck)])), (md 3, .inl (g.2.1 0, 2, .inl fSz)), (md 5, .inl (g.2.1 0, 2, .inl fNu)), (md 9, .inl (g.2.1 1, 2, .inl fAS)), (md 10, .inl (g.2.1 1, 2, .inl fAN)), (md 6, .inl (g.2.1 0, 2, .inl fId)), (md 7, .inl (g.2.1 0, 2, .inl fCn)), (md 8, .inl (g.2.1 0, 2, .inl fTi)), (md 11, .inl (g.2.1 0, 2, .inl fAk)), (md 12, .inl (g.2.1 0, 2, .inl fAl)), (md 13, .inl (g.2.1 0, 16, .inl fAo)), (md 14, .inl (g.2.1 0, 2, .inl fOl)), (md 15, .inl (g.2.1 0, 600, .inl fBy)), (md 22, .inl (g.2.1 0, 12, .inl fCt)), (md 23, .inl (g.2.1 0, 64, .inl fPk)), (md 24, .inl (g.2.1 0, 40, .inl fAn)), (md 1, .inl (g.2.1 0, 160, .inl fRu)), (md 2, .inl (g.2.1 0, 2, .inl fSt)), (md 4, .inl (g.2.1 0, 2, .inl fLe)), (md 18, .inl (g.2.1 0, 80, .inl (upd fGa ((40 * e) + ((eG E).length + (eOv E).toNat)) (nI b)))), (md 17, .inl (g.2.1 0, 2, .inl (upd fGt e (nI (((eG E).length + (eOv E).toNat) + 1))))), (md 19, .inl (g.2.1 1, 2, .inl (upd fEs e (nI 0)))), (md 20, .inl (g.2.1 0, 2, .inl fDl)), (md 21, .inl (g.2.1 0, 80, .inl fDb)), (md 16, .inl (g.2.1 1, 2, .inl fLp))]) hF hw dX6_receive_121 20 rfl (by omega) (by omega) rfl (fun H locs hw => ?_)
              have hq9 := rv_add (x := b) (n := (eG E).length + (eOv E).toNat + 1) (k := 40 * e + ((eG E).length + (eOv E).toNat)) hRT he c_3 (rcv_d hn125 hl40 (bz c_45)) hovf hl40 (by omega) (by omega) (by omega)
              exact RQ.vret hF hr hlk hw dX6_receive_122 ⟨by decide, by decide⟩ ((pn, ac, Q, ci, ck, fSz, fNu, fAS, fAN, fId, fCn, fTi, fAk, fAl, fAo, fOl, fBy, fCt, fPk, fAn, fSt, upd fGt e (nI (((eG E).length + (eOv E).toNat) + 1)), upd fEs e (nI 0), fDl, fDb, upd fGa ((40 * e) + ((eG E).length + (eOv E).toNat)) (nI b))) (rfl) ⟨rfl, ⟨hq9.1, hq9.2, hSQ⟩⟩
        · refine lv_iload_n hx hb dX6_receive_48 rfl (lv_at hl 2 rfl) ?_
          refine lv_bipush (v := nI 32) hx hb dX6_receive_49 (by decide) ?_
          refine r_ixor hx hb dX6_receive_51 ?_
          refine lv_goto (tgt := 56) hx hb dX6_receive_52 (by decide) ?_
          refine lv_istore_n (lv' := [(3, .int (nI (b ^^^ 32))), (0, .ref (md 0)), (1, .int (nI e)), (2, .int (nI b))]) hx hb dX6_receive_56 rfl hl (by decide) rfl (fun ls hl => ?_)
          refine lv_aload_n hx hb dX6_receive_57 rfl (lv_at hl 1 rfl) ?_
          refine wget hF hw flX6_65 dX6_receive_58 0 rfl rfl ?_
          refine lv_iload_n hx hb dX6_receive_61 rfl (lv_at hl 2 rfl) ?_
          refine lv_iconst (v := nI 0) hx hb dX6_receive_62 (by decide) ?_
          refine r_zast (ws' := [(md 0, .inr (5, [.ref (md 1), .int th, .ref (md 2), .ref (md 3), .ref (md 4), .ref (md 5), .ref (md 6), .ref (md 7), .ref (md 8), .ref (md 9), .ref (md 10), .ref (md 11), .ref (md 12), .ref (md 13), .ref (md 14), .ref (md 15), .ref (md 16), .ref (md 17), .ref (md 18), .ref (md 19), .ref (md 20), .ref (md 21), .ref (md 22), .int (nI pn), .ref (md 23), .int (nI ac), .int (nI Q.length), .ref (md 24), .int (nI ci), .int (nI ck)])), (md 3, .inl (g.2.1 0, 2, .inl fSz)), (md 5, .inl (g.2.1 0, 2, .inl fNu)), (md 9, .inl (g.2.1 1, 2, .inl fAS)), (md 10, .inl (g.2.1 1, 2, .inl fAN)), (md 6, .inl (g.2.1 0, 2, .inl fId)), (md 7, .inl (g.2.1 0, 2, .inl fCn)), (md 8, .inl (g.2.1 0, 2, .inl fTi)), (md 11, .inl (g.2.1 0, 2, .inl fAk)), (md 12, .inl (g.2.1 0, 2, .inl fAl)), (md 13, .inl (g.2.1 0, 16, .inl fAo)), (md 14, .inl (g.2.1 0, 2, .inl fOl)), (md 15, .inl (g.2.1 0, 600, .inl fBy)), (md 22, .inl (g.2.1 0, 12, .inl fCt)), (md 23, .inl (g.2.1 0, 64, .inl fPk)), (md 24, .inl (g.2.1 0, 40, .inl fAn)), (md 1, .inl (g.2.1 0, 160, .inl fRu)), (md 2, .inl (g.2.1 0, 2, .inl fSt)), (md 4, .inl (g.2.1 0, 2, .inl fLe)), (md 18, .inl (g.2.1 0, 80, .inl fGa)), (md 17, .inl (g.2.1 0, 2, .inl fGt)), (md 19, .inl (g.2.1 1, 2, .inl (upd fEs e (nI 0)))), (md 20, .inl (g.2.1 0, 2, .inl fDl)), (md 21, .inl (g.2.1 0, 80, .inl fDb)), (md 16, .inl (g.2.1 1, 2, .inl fLp))]) hF hw dX6_receive_63 21 rfl (by omega) (by omega) (rfl) rfl (fun H locs hw => ?_)
          refine lv_aload_n hx hb dX6_receive_64 rfl (lv_at hl 1 rfl) ?_
          refine wget hF hw flX6_59 dX6_receive_65 0 rfl rfl ?_
          refine lv_iload_n hx hb dX6_receive_68 rfl (lv_at hl 2 rfl) ?_
          refine r_iald hF hw dX6_receive_69 20 rfl (by omega) (by omega) ?_
          refine r_top (n := (eG E).length + (eOv E).toNat) (hGt.1) ?_
          refine lv_bipush (v := nI 40) hx hb dX6_receive_70 (by decide) ?_
          refine r_ge (tgt := 92) hx hb dX6_receive_72 (by decide) (by omega) (by omega) (fun c_72 => ?_) (fun c_72 => ?_)
          · have hg40 := ge40 hov40 c_72
            refine lv_aload_n hx hb dX6_receive_92 rfl (lv_at hl 1 rfl) ?_
            refine wget hF hw flX6_59 dX6_receive_93 0 rfl rfl ?_
            refine lv_iload_n hx hb dX6_receive_96 rfl (lv_at hl 2 rfl) ?_
            refine lv_aload_n hx hb dX6_receive_97 rfl (lv_at hl 1 rfl) ?_
            refine wget hF hw flX6_59 dX6_receive_98 0 rfl rfl ?_
            refine lv_iload_n hx hb dX6_receive_101 rfl (lv_at hl 2 rfl) ?_
            refine r_iald hF hw dX6_receive_102 20 rfl (by omega) (by omega) ?_
            refine r_top (n := (eG E).length + (eOv E).toNat) (hGt.1) ?_
            refine lv_bipush (v := nI 41) hx hb dX6_receive_103 (by decide) ?_
            refine r_ge (tgt := 119) hx hb dX6_receive_105 (by decide) (by omega) (by omega) (fun c_105 => ?_) (fun c_105 => ?_)
            · refine lv_bipush (v := nI 41) hx hb dX6_receive_119 (by decide) ?_
              refine r_iast (ws' := [(md 0, .inr (5, [.ref (md 1), .int th, .ref (md 2), .ref (md 3), .ref (md 4), .ref (md 5), .ref (md 6), .ref (md 7), .ref (md 8), .ref (md 9), .ref (md 10), .ref (md 11), .ref (md 12), .ref (md 13), .ref (md 14), .ref (md 15), .ref (md 16), .ref (md 17), .ref (md 18), .ref (md 19), .ref (md 20), .ref (md 21), .ref (md 22), .int (nI pn), .ref (md 23), .int (nI ac), .int (nI Q.length), .ref (md 24), .int (nI ci), .int (nI ck)])), (md 3, .inl (g.2.1 0, 2, .inl fSz)), (md 5, .inl (g.2.1 0, 2, .inl fNu)), (md 9, .inl (g.2.1 1, 2, .inl fAS)), (md 10, .inl (g.2.1 1, 2, .inl fAN)), (md 6, .inl (g.2.1 0, 2, .inl fId)), (md 7, .inl (g.2.1 0, 2, .inl fCn)), (md 8, .inl (g.2.1 0, 2, .inl fTi)), (md 11, .inl (g.2.1 0, 2, .inl fAk)), (md 12, .inl (g.2.1 0, 2, .inl fAl)), (md 13, .inl (g.2.1 0, 16, .inl fAo)), (md 14, .inl (g.2.1 0, 2, .inl fOl)), (md 15, .inl (g.2.1 0, 600, .inl fBy)), (md 22, .inl (g.2.1 0, 12, .inl fCt)), (md 23, .inl (g.2.1 0, 64, .inl fPk)), (md 24, .inl (g.2.1 0, 40, .inl fAn)), (md 1, .inl (g.2.1 0, 160, .inl fRu)), (md 2, .inl (g.2.1 0, 2, .inl fSt)), (md 4, .inl (g.2.1 0, 2, .inl fLe)), (md 18, .inl (g.2.1 0, 80, .inl fGa)), (md 17, .inl (g.2.1 0, 2, .inl (upd fGt e (nI 41)))), (md 19, .inl (g.2.1 1, 2, .inl (upd fEs e (nI 0)))), (md 20, .inl (g.2.1 0, 2, .inl fDl)), (md 21, .inl (g.2.1 0, 80, .inl fDb)), (md 16, .inl (g.2.1 1, 2, .inl fLp))]) hF hw dX6_receive_121 20 rfl (by omega) (by omega) rfl (fun H locs hw => ?_)
              have hq9 := rv_full (n := 41) hRT he c_3 (rcv_b (fun q => by first | exact absurd q hn125 | exact bnz c_45) hg40) (by omega) (by omega)
              exact RQ.vret hF hr hlk hw dX6_receive_122 ⟨by decide, by decide⟩ ((pn, ac, Q, ci, ck, fSz, fNu, fAS, fAN, fId, fCn, fTi, fAk, fAl, fAo, fOl, fBy, fCt, fPk, fAn, fSt, upd fGt e (nI 41), upd fEs e (nI 0), fDl, fDb, fGa)) (rfl) ⟨rfl, ⟨hq9.1, hq9.2, hSQ⟩⟩
            · refine lv_aload_n hx hb dX6_receive_108 rfl (lv_at hl 1 rfl) ?_
              refine wget hF hw flX6_59 dX6_receive_109 0 rfl rfl ?_
              refine lv_iload_n hx hb dX6_receive_112 rfl (lv_at hl 2 rfl) ?_
              refine r_iald hF hw dX6_receive_113 20 rfl (by omega) (by omega) ?_
              refine r_top (n := (eG E).length + (eOv E).toNat) (hGt.1) ?_
              refine lv_iconst (v := nI 1) hx hb dX6_receive_114 (by decide) ?_
              refine r_iadd hx hb dX6_receive_115 ?_
              refine lv_goto (tgt := 121) hx hb dX6_receive_116 (by decide) ?_
              refine r_iast (ws' := [(md 0, .inr (5, [.ref (md 1), .int th, .ref (md 2), .ref (md 3), .ref (md 4), .ref (md 5), .ref (md 6), .ref (md 7), .ref (md 8), .ref (md 9), .ref (md 10), .ref (md 11), .ref (md 12), .ref (md 13), .ref (md 14), .ref (md 15), .ref (md 16), .ref (md 17), .ref (md 18), .ref (md 19), .ref (md 20), .ref (md 21), .ref (md 22), .int (nI pn), .ref (md 23), .int (nI ac), .int (nI Q.length), .ref (md 24), .int (nI ci), .int (nI ck)])), (md 3, .inl (g.2.1 0, 2, .inl fSz)), (md 5, .inl (g.2.1 0, 2, .inl fNu)), (md 9, .inl (g.2.1 1, 2, .inl fAS)), (md 10, .inl (g.2.1 1, 2, .inl fAN)), (md 6, .inl (g.2.1 0, 2, .inl fId)), (md 7, .inl (g.2.1 0, 2, .inl fCn)), (md 8, .inl (g.2.1 0, 2, .inl fTi)), (md 11, .inl (g.2.1 0, 2, .inl fAk)), (md 12, .inl (g.2.1 0, 2, .inl fAl)), (md 13, .inl (g.2.1 0, 16, .inl fAo)), (md 14, .inl (g.2.1 0, 2, .inl fOl)), (md 15, .inl (g.2.1 0, 600, .inl fBy)), (md 22, .inl (g.2.1 0, 12, .inl fCt)), (md 23, .inl (g.2.1 0, 64, .inl fPk)), (md 24, .inl (g.2.1 0, 40, .inl fAn)), (md 1, .inl (g.2.1 0, 160, .inl fRu)), (md 2, .inl (g.2.1 0, 2, .inl fSt)), (md 4, .inl (g.2.1 0, 2, .inl fLe)), (md 18, .inl (g.2.1 0, 80, .inl fGa)), (md 17, .inl (g.2.1 0, 2, .inl (upd fGt e (nI (((eG E).length + (eOv E).toNat) + 1))))), (md 19, .inl (g.2.1 1, 2, .inl (upd fEs e (nI 0)))), (md 20, .inl (g.2.1 0, 2, .inl fDl)), (md 21, .inl (g.2.1 0, 80, .inl fDb)), (md 16, .inl (g.2.1 1, 2, .inl fLp))]) hF hw dX6_receive_121 20 rfl (by omega) (by omega) rfl (fun H locs hw => ?_)
              have hq9 := rv_full (n := (eG E).length + (eOv E).toNat + 1) hRT he c_3 (rcv_b (fun q => by first | exact absurd q hn125 | exact bnz c_45) hg40) (by omega) (by omega)
              exact RQ.vret hF hr hlk hw dX6_receive_122 ⟨by decide, by decide⟩ ((pn, ac, Q, ci, ck, fSz, fNu, fAS, fAN, fId, fCn, fTi, fAk, fAl, fAo, fOl, fBy, fCt, fPk, fAn, fSt, upd fGt e (nI (((eG E).length + (eOv E).toNat) + 1)), upd fEs e (nI 0), fDl, fDb, fGa)) (rfl) ⟨rfl, ⟨hq9.1, hq9.2, hSQ⟩⟩
          · have hovf := n_ov hov40 (by omega)
            have hov0 : (eOv E).toNat = 0 := by rw [hovf]; rfl
            have hl40 : (eG E).length < 40 := by omega
            refine lv_aload_n hx hb dX6_receive_75 rfl (lv_at hl 1 rfl) ?_
            refine wget hF hw flX6_62 dX6_receive_76 0 rfl rfl ?_
            refine lv_bipush (v := nI 40) hx hb dX6_receive_79 (by decide) ?_
            refine lv_iload_n hx hb dX6_receive_81 rfl (lv_at hl 2 rfl) ?_
            refine r_imul hx hb dX6_receive_82 ?_
            refine lv_aload_n hx hb dX6_receive_83 rfl (lv_at hl 1 rfl) ?_
            refine wget hF hw flX6_59 dX6_receive_84 0 rfl rfl ?_
            refine lv_iload_n hx hb dX6_receive_87 rfl (lv_at hl 2 rfl) ?_
            refine r_iald hF hw dX6_receive_88 20 rfl (by omega) (by omega) ?_
            refine r_top (n := (eG E).length + (eOv E).toNat) (hGt.1) ?_
            refine r_iadd hx hb dX6_receive_89 ?_
            refine lv_iload_n hx hb dX6_receive_90 rfl (lv_at hl 0 rfl) ?_
            refine r_iast (ws' := [(md 0, .inr (5, [.ref (md 1), .int th, .ref (md 2), .ref (md 3), .ref (md 4), .ref (md 5), .ref (md 6), .ref (md 7), .ref (md 8), .ref (md 9), .ref (md 10), .ref (md 11), .ref (md 12), .ref (md 13), .ref (md 14), .ref (md 15), .ref (md 16), .ref (md 17), .ref (md 18), .ref (md 19), .ref (md 20), .ref (md 21), .ref (md 22), .int (nI pn), .ref (md 23), .int (nI ac), .int (nI Q.length), .ref (md 24), .int (nI ci), .int (nI ck)])), (md 3, .inl (g.2.1 0, 2, .inl fSz)), (md 5, .inl (g.2.1 0, 2, .inl fNu)), (md 9, .inl (g.2.1 1, 2, .inl fAS)), (md 10, .inl (g.2.1 1, 2, .inl fAN)), (md 6, .inl (g.2.1 0, 2, .inl fId)), (md 7, .inl (g.2.1 0, 2, .inl fCn)), (md 8, .inl (g.2.1 0, 2, .inl fTi)), (md 11, .inl (g.2.1 0, 2, .inl fAk)), (md 12, .inl (g.2.1 0, 2, .inl fAl)), (md 13, .inl (g.2.1 0, 16, .inl fAo)), (md 14, .inl (g.2.1 0, 2, .inl fOl)), (md 15, .inl (g.2.1 0, 600, .inl fBy)), (md 22, .inl (g.2.1 0, 12, .inl fCt)), (md 23, .inl (g.2.1 0, 64, .inl fPk)), (md 24, .inl (g.2.1 0, 40, .inl fAn)), (md 1, .inl (g.2.1 0, 160, .inl fRu)), (md 2, .inl (g.2.1 0, 2, .inl fSt)), (md 4, .inl (g.2.1 0, 2, .inl fLe)), (md 18, .inl (g.2.1 0, 80, .inl (upd fGa ((40 * e) + ((eG E).length + (eOv E).toNat)) (nI (b ^^^ 32))))), (md 17, .inl (g.2.1 0, 2, .inl fGt)), (md 19, .inl (g.2.1 1, 2, .inl (upd fEs e (nI 0)))), (md 20, .inl (g.2.1 0, 2, .inl fDl)), (md 21, .inl (g.2.1 0, 80, .inl fDb)), (md 16, .inl (g.2.1 1, 2, .inl fLp))]) hF hw dX6_receive_91 19 rfl (by omega) (by omega) rfl (fun H locs hw => ?_)
            refine lv_aload_n hx hb dX6_receive_92 rfl (lv_at hl 1 rfl) ?_
            refine wget hF hw flX6_59 dX6_receive_93 0 rfl rfl ?_
            refine lv_iload_n hx hb dX6_receive_96 rfl (lv_at hl 2 rfl) ?_
            refine lv_aload_n hx hb dX6_receive_97 rfl (lv_at hl 1 rfl) ?_
            refine wget hF hw flX6_59 dX6_receive_98 0 rfl rfl ?_
            refine lv_iload_n hx hb dX6_receive_101 rfl (lv_at hl 2 rfl) ?_
            refine r_iald hF hw dX6_receive_102 20 rfl (by omega) (by omega) ?_
            refine r_top (n := (eG E).length + (eOv E).toNat) (hGt.1) ?_
            refine lv_bipush (v := nI 41) hx hb dX6_receive_103 (by decide) ?_
            refine r_ge (tgt := 119) hx hb dX6_receive_105 (by decide) (by omega) (by omega) (fun c_105 => ?_) (fun c_105 => ?_)
            · exact absurd c_105 (by omega)
            · refine lv_aload_n hx hb dX6_receive_108 rfl (lv_at hl 1 rfl) ?_
              refine wget hF hw flX6_59 dX6_receive_109 0 rfl rfl ?_
              refine lv_iload_n hx hb dX6_receive_112 rfl (lv_at hl 2 rfl) ?_
              refine r_iald hF hw dX6_receive_113 20 rfl (by omega) (by omega) ?_
              refine r_top (n := (eG E).length + (eOv E).toNat) (hGt.1) ?_
              refine lv_iconst (v := nI 1) hx hb dX6_receive_114 (by decide) ?_
              refine r_iadd hx hb dX6_receive_115 ?_
              refine lv_goto (tgt := 121) hx hb dX6_receive_116 (by decide) ?_
              refine r_iast (ws' := [(md 0, .inr (5, [.ref (md 1), .int th, .ref (md 2), .ref (md 3), .ref (md 4), .ref (md 5), .ref (md 6), .ref (md 7), .ref (md 8), .ref (md 9), .ref (md 10), .ref (md 11), .ref (md 12), .ref (md 13), .ref (md 14), .ref (md 15), .ref (md 16), .ref (md 17), .ref (md 18), .ref (md 19), .ref (md 20), .ref (md 21), .ref (md 22), .int (nI pn), .ref (md 23), .int (nI ac), .int (nI Q.length), .ref (md 24), .int (nI ci), .int (nI ck)])), (md 3, .inl (g.2.1 0, 2, .inl fSz)), (md 5, .inl (g.2.1 0, 2, .inl fNu)), (md 9, .inl (g.2.1 1, 2, .inl fAS)), (md 10, .inl (g.2.1 1, 2, .inl fAN)), (md 6, .inl (g.2.1 0, 2, .inl fId)), (md 7, .inl (g.2.1 0, 2, .inl fCn)), (md 8, .inl (g.2.1 0, 2, .inl fTi)), (md 11, .inl (g.2.1 0, 2, .inl fAk)), (md 12, .inl (g.2.1 0, 2, .inl fAl)), (md 13, .inl (g.2.1 0, 16, .inl fAo)), (md 14, .inl (g.2.1 0, 2, .inl fOl)), (md 15, .inl (g.2.1 0, 600, .inl fBy)), (md 22, .inl (g.2.1 0, 12, .inl fCt)), (md 23, .inl (g.2.1 0, 64, .inl fPk)), (md 24, .inl (g.2.1 0, 40, .inl fAn)), (md 1, .inl (g.2.1 0, 160, .inl fRu)), (md 2, .inl (g.2.1 0, 2, .inl fSt)), (md 4, .inl (g.2.1 0, 2, .inl fLe)), (md 18, .inl (g.2.1 0, 80, .inl (upd fGa ((40 * e) + ((eG E).length + (eOv E).toNat)) (nI (b ^^^ 32))))), (md 17, .inl (g.2.1 0, 2, .inl (upd fGt e (nI (((eG E).length + (eOv E).toNat) + 1))))), (md 19, .inl (g.2.1 1, 2, .inl (upd fEs e (nI 0)))), (md 20, .inl (g.2.1 0, 2, .inl fDl)), (md 21, .inl (g.2.1 0, 80, .inl fDb)), (md 16, .inl (g.2.1 1, 2, .inl fLp))]) hF hw dX6_receive_121 20 rfl (by omega) (by omega) rfl (fun H locs hw => ?_)
              have hq9 := rv_add (x := b ^^^ 32) (n := (eG E).length + (eOv E).toNat + 1) (k := 40 * e + ((eG E).length + (eOv E).toNat)) hRT he c_3 (rcv_c (fun _ => bnz c_45) hl40 (bnz c_45)) hovf hl40 (by omega) (by omega) (by omega)
              exact RQ.vret hF hr hlk hw dX6_receive_122 ⟨by decide, by decide⟩ ((pn, ac, Q, ci, ck, fSz, fNu, fAS, fAN, fId, fCn, fTi, fAk, fAl, fAo, fOl, fBy, fCt, fPk, fAn, fSt, upd fGt e (nI (((eG E).length + (eOv E).toNat) + 1)), upd fEs e (nI 0), fDl, fDb, upd fGa ((40 * e) + ((eG E).length + (eOv E).toNat)) (nI (b ^^^ 32)))) (rfl) ⟨rfl, ⟨hq9.1, hq9.2, hSQ⟩⟩
      · refine lv_aload_n hx hb dX6_receive_29 rfl (lv_at hl 0 rfl) ?_
        refine wget hF hw flX6_65 dX6_receive_30 0 rfl rfl ?_
        refine lv_iload_n hx hb dX6_receive_33 rfl (lv_at hl 1 rfl) ?_
        refine lv_iconst (v := nI 1) hx hb dX6_receive_34 (by decide) ?_
        refine r_zast (ws' := [(md 0, .inr (5, [.ref (md 1), .int th, .ref (md 2), .ref (md 3), .ref (md 4), .ref (md 5), .ref (md 6), .ref (md 7), .ref (md 8), .ref (md 9), .ref (md 10), .ref (md 11), .ref (md 12), .ref (md 13), .ref (md 14), .ref (md 15), .ref (md 16), .ref (md 17), .ref (md 18), .ref (md 19), .ref (md 20), .ref (md 21), .ref (md 22), .int (nI pn), .ref (md 23), .int (nI ac), .int (nI Q.length), .ref (md 24), .int (nI ci), .int (nI ck)])), (md 3, .inl (g.2.1 0, 2, .inl fSz)), (md 5, .inl (g.2.1 0, 2, .inl fNu)), (md 9, .inl (g.2.1 1, 2, .inl fAS)), (md 10, .inl (g.2.1 1, 2, .inl fAN)), (md 6, .inl (g.2.1 0, 2, .inl fId)), (md 7, .inl (g.2.1 0, 2, .inl fCn)), (md 8, .inl (g.2.1 0, 2, .inl fTi)), (md 11, .inl (g.2.1 0, 2, .inl fAk)), (md 12, .inl (g.2.1 0, 2, .inl fAl)), (md 13, .inl (g.2.1 0, 16, .inl fAo)), (md 14, .inl (g.2.1 0, 2, .inl fOl)), (md 15, .inl (g.2.1 0, 600, .inl fBy)), (md 22, .inl (g.2.1 0, 12, .inl fCt)), (md 23, .inl (g.2.1 0, 64, .inl fPk)), (md 24, .inl (g.2.1 0, 40, .inl fAn)), (md 1, .inl (g.2.1 0, 160, .inl fRu)), (md 2, .inl (g.2.1 0, 2, .inl fSt)), (md 4, .inl (g.2.1 0, 2, .inl fLe)), (md 18, .inl (g.2.1 0, 80, .inl fGa)), (md 17, .inl (g.2.1 0, 2, .inl fGt)), (md 19, .inl (g.2.1 1, 2, .inl (upd fEs e (nI 1)))), (md 20, .inl (g.2.1 0, 2, .inl fDl)), (md 21, .inl (g.2.1 0, 80, .inl fDb)), (md 16, .inl (g.2.1 1, 2, .inl fLp))]) hF hw dX6_receive_35 21 rfl (by omega) (by omega) (rfl) rfl (fun H locs hw => ?_)
        refine lv_goto (tgt := 122) hx hb dX6_receive_36 (by decide) ?_
        have hq9 := rv_esc hRT he c_3 c_17 (bz c_26)
        exact RQ.vret hF hr hlk hw dX6_receive_122 ⟨by decide, by decide⟩ ((pn, ac, Q, ci, ck, fSz, fNu, fAS, fAN, fId, fCn, fTi, fAk, fAl, fAo, fOl, fBy, fCt, fPk, fAn, fSt, fGt, upd fEs e (nI 1), fDl, fDb, fGa)) (rfl) ⟨rfl, ⟨hq9.1, hq9.2, hSQ⟩⟩
  · refine lv_aload_n hx hb dX6_receive_6 rfl (lv_at hl 0 rfl) ?_
    refine lv_iload_n hx hb dX6_receive_7 rfl (lv_at hl 1 rfl) ?_
    refine Ct.callV (wr := []) hF hw (c_X6_whole l g md th pn ac ci ck fSz fNu fAS fAN fId fCn fTi fAk fAl fAo fOl fBy fCt fPk fAn fRu fSt fLe fGa fGt fEs fDl fDb fLp e E Q (by assumption) (by assumption) (by assumption) (by assumption)) mwX6_193 [0, 1, 2, 3, 4, 5, 6, 7, 8, 9, 10, 11, 12, 13, 14, 15, 16, 17, 18, 19, 20, 21, 22, 23, 24] [] rfl rfl rfl rfl (by decide) 0 rfl rfl ⟨by decide, by decide⟩ ⟨by decide, by decide⟩ rfl hl.1 (Nat.le_of_ble_eq_true rfl) rfl dX6_receive_8 (fun v u H locs hp hw => ?_)
    obtain ⟨pn2_8, ac2_8, Q2_8, ci2_8, ck2_8, z2_8, u2_8, x2_8, w2_8, d2_8, c2_8, t2_8, a2_8, l2_8, o2_8, n2_8, y2_8, k2_8, pk2_8, f2_8, s2_8, gt2_8, es2_8, dl2_8, db2_8⟩ := u
    obtain ⟨rfl, hp_8⟩ := hp
    try dsimp only at hp_8
    have hw := Wd.sub (ws' := [(md 0, .inr (5, [.ref (md 1), .int th, .ref (md 2), .ref (md 3), .ref (md 4), .ref (md 5), .ref (md 6), .ref (md 7), .ref (md 8), .ref (md 9), .ref (md 10), .ref (md 11), .ref (md 12), .ref (md 13), .ref (md 14), .ref (md 15), .ref (md 16), .ref (md 17), .ref (md 18), .ref (md 19), .ref (md 20), .ref (md 21), .ref (md 22), .int (nI pn2_8), .ref (md 23), .int (nI ac2_8), .int (nI Q2_8.length), .ref (md 24), .int (nI ci2_8), .int (nI ck2_8)])), (md 3, .inl (g.2.1 0, 2, .inl z2_8)), (md 5, .inl (g.2.1 0, 2, .inl u2_8)), (md 9, .inl (g.2.1 1, 2, .inl x2_8)), (md 10, .inl (g.2.1 1, 2, .inl w2_8)), (md 6, .inl (g.2.1 0, 2, .inl d2_8)), (md 7, .inl (g.2.1 0, 2, .inl c2_8)), (md 8, .inl (g.2.1 0, 2, .inl t2_8)), (md 11, .inl (g.2.1 0, 2, .inl a2_8)), (md 12, .inl (g.2.1 0, 2, .inl l2_8)), (md 13, .inl (g.2.1 0, 16, .inl o2_8)), (md 14, .inl (g.2.1 0, 2, .inl n2_8)), (md 15, .inl (g.2.1 0, 600, .inl y2_8)), (md 22, .inl (g.2.1 0, 12, .inl k2_8)), (md 23, .inl (g.2.1 0, 64, .inl pk2_8)), (md 24, .inl (g.2.1 0, 40, .inl f2_8)), (md 1, .inl (g.2.1 0, 160, .inl fRu)), (md 2, .inl (g.2.1 0, 2, .inl s2_8)), (md 4, .inl (g.2.1 0, 2, .inl fLe)), (md 18, .inl (g.2.1 0, 80, .inl fGa)), (md 17, .inl (g.2.1 0, 2, .inl gt2_8)), (md 19, .inl (g.2.1 1, 2, .inl es2_8)), (md 20, .inl (g.2.1 0, 2, .inl dl2_8)), (md 21, .inl (g.2.1 0, 80, .inl db2_8)), (md 16, .inl (g.2.1 1, 2, .inl fLp))]) hw [0, 1, 2, 3, 4, 5, 6, 7, 8, 9, 10, 11, 12, 13, 14, 15, 16, 17, 18, 19, 20, 21, 22, 23, 24] rfl rfl
    refine W.eq (g2 := F0 m 11 ls []) rfl ?_
    refine lv_goto (tgt := 122) hx hb dX6_receive_11 (by decide) ?_
    have hq9 := hp_8.1
    rw [← recvA_m (E := E) c_3] at hq9
    exact RQ.vret hF hr hlk hw dX6_receive_122 ⟨by decide, by decide⟩ ((pn2_8, ac2_8, Q2_8, ci2_8, ck2_8, z2_8, u2_8, x2_8, w2_8, d2_8, c2_8, t2_8, a2_8, l2_8, o2_8, n2_8, y2_8, k2_8, pk2_8, f2_8, s2_8, gt2_8, es2_8, dl2_8, db2_8, fGa)) (rfl) ⟨rfl, ⟨hq9, hp_8.2.1, hp_8.2.2⟩⟩
