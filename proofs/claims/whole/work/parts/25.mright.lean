set_option maxHeartbeats 4000000 in
set_option maxRecDepth 100000 in
theorem c_X6_isRight (l : Launch) (g : GE) (md : Nat → Nat) (th : Int32) (pn : Nat) (ac : Nat) (an : Nat) (ci : Nat) (ck : Nat) (fGa : Nat → Int32) (fAk : Nat → Int32) (fAl : Nat → Int32) (fAo : Nat → Int32) (e : Nat) (G : List Nat) (Aq : List Nat) (he : e < 2) (hG : GaM fGa e G) (hB : Bt G) (h5 : 5 ≤ G.length) (hA : AkM fAk fAl fAo e Aq) (hBA : Bt Aq) (hAl : Aq = [] ∨ (5 ≤ Aq.length ∧ Aq.length ≤ 13)) : Ct l yX6_isRight cX6_isRight 5 (some .boolean) { frames := 1, cells := 0, slots := 0, locals := 22 } g [.ref (md 0), .int (nI e), .int (nI (G.length - 2))] [(md 0, .inr (5, [.ref (md 1), .int th, .ref (md 2), .ref (md 3), .ref (md 4), .ref (md 5), .ref (md 6), .ref (md 7), .ref (md 8), .ref (md 9), .ref (md 10), .ref (md 11), .ref (md 12), .ref (md 13), .ref (md 14), .ref (md 15), .ref (md 16), .ref (md 17), .ref (md 18), .ref (md 19), .ref (md 20), .ref (md 21), .ref (md 22), .int (nI pn), .ref (md 23), .int (nI ac), .int (nI an), .ref (md 24), .int (nI ci), .int (nI ck)])), (md 18, .inl (g.2.1 0, 80, .inl fGa)), (md 11, .inl (g.2.1 0, 2, .inl fAk)), (md 12, .inl (g.2.1 0, 2, .inl fAl)), (md 13, .inl (g.2.1 0, 16, .inl fAo))] (fun (v : Option Value) (u : Unit) => v = some (.int (nI (rightG G Aq).toNat)) ∧ True) (fun u : Unit => [(md 0, .inr (5, [.ref (md 1), .int th, .ref (md 2), .ref (md 3), .ref (md 4), .ref (md 5), .ref (md 6), .ref (md 7), .ref (md 8), .ref (md 9), .ref (md 10), .ref (md 11), .ref (md 12), .ref (md 13), .ref (md 14), .ref (md 15), .ref (md 16), .ref (md 17), .ref (md 18), .ref (md 19), .ref (md 20), .ref (md 21), .ref (md 22), .int (nI pn), .ref (md 23), .int (nI ac), .int (nI an), .ref (md 24), .int (nI ci), .int (nI ck)])), (md 18, .inl (g.2.1 0, 80, .inl fGa)), (md 11, .inl (g.2.1 0, 2, .inl fAk)), (md 12, .inl (g.2.1 0, 2, .inl fAl)), (md 13, .inl (g.2.1 0, 16, .inl fAo))]) := by
  refine Ct.of (own := RX6) rfl rfl (Nat.le_of_ble_eq_true rfl) ?_
  intro P0 e0 s m below meth c ls hF hr hlk hnm hw hl
  have hx := hF.1
  have hb := hF.2.1
  have hl : lv_has ls 5 [(0, .ref (md 0)), (1, .int (nI e)), (2, .int (nI (G.length - 2)))] := hl
  have hG1 := hG.1
  have hb1 := hB.get 1
  have hb2 := hB.get 2
  have hba2 := hBA.get 2
  refine lv_aload_n hx hb dX6_isRight_0 rfl (lv_at hl 0 rfl) ?_
  refine lv_iload_n hx hb dX6_isRight_1 rfl (lv_at hl 1 rfl) ?_
  refine lv_iconst (v := nI 2) hx hb dX6_isRight_2 (by decide) ?_
  refine Ct.callV (wr := [(md 11, .inl (g.2.1 0, 2, .inl fAk)), (md 12, .inl (g.2.1 0, 2, .inl fAl)), (md 13, .inl (g.2.1 0, 16, .inl fAo))]) hF hw (c_X6_at l g md th pn ac an ci ck fGa e G 2 (by assumption) (by assumption) (by omega)) mwX6_149 [0, 1] [2, 3, 4] rfl rfl rfl rfl (by decide) 0 rfl rfl ⟨by decide, by decide⟩ ⟨by decide, by decide⟩ rfl hl.1 (Nat.le_of_ble_eq_true rfl) rfl dX6_isRight_3 (fun v u H locs hp hw => ?_)
  obtain ⟨rfl, hp_3⟩ := hp
  have hw := Wd.sub (ws' := [(md 0, .inr (5, [.ref (md 1), .int th, .ref (md 2), .ref (md 3), .ref (md 4), .ref (md 5), .ref (md 6), .ref (md 7), .ref (md 8), .ref (md 9), .ref (md 10), .ref (md 11), .ref (md 12), .ref (md 13), .ref (md 14), .ref (md 15), .ref (md 16), .ref (md 17), .ref (md 18), .ref (md 19), .ref (md 20), .ref (md 21), .ref (md 22), .int (nI pn), .ref (md 23), .int (nI ac), .int (nI an), .ref (md 24), .int (nI ci), .int (nI ck)])), (md 18, .inl (g.2.1 0, 80, .inl fGa)), (md 11, .inl (g.2.1 0, 2, .inl fAk)), (md 12, .inl (g.2.1 0, 2, .inl fAl)), (md 13, .inl (g.2.1 0, 16, .inl fAo))]) hw [3, 4, 0, 1, 2] rfl rfl
  refine W.eq (g2 := F0 m 6 ls [.int (nI (G.getD 2 0))]) rfl ?_
  refine lv_aload_n hx hb dX6_isRight_6 rfl (lv_at hl 0 rfl) ?_
  refine wget hF hw flX6_41 dX6_isRight_7 0 rfl rfl ?_
  refine lv_iload_n hx hb dX6_isRight_10 rfl (lv_at hl 1 rfl) ?_
  refine r_iald hF hw dX6_isRight_11 2 rfl (by omega) (by omega) ?_
  refine r_topv (y := .int (atL Aq 2)) (by rw [ak_at hA hAl]) ?_
  refine lv_icmp_ne (tgt := 19) hx hb dX6_isRight_12 (by decide) (fun c_12 => ?_) (fun c_12 => ?_)
  · rw [at_eq hb2 hba2 hAl] at c_12
    refine lv_iconst (v := nI 0) hx hb dX6_isRight_19 (by decide) ?_
    refine lv_istore_n (lv' := [(3, .int (nI 0)), (0, .ref (md 0)), (1, .int (nI e)), (2, .int (nI (G.length - 2)))]) hx hb dX6_isRight_20 rfl hl (by decide) rfl (fun ls hl => ?_)
    refine lv_aload_n hx hb dX6_isRight_21 rfl (lv_at hl 1 rfl) ?_
    refine lv_iload_n hx hb dX6_isRight_22 rfl (lv_at hl 2 rfl) ?_
    refine lv_iconst (v := nI 1) hx hb dX6_isRight_23 (by decide) ?_
    refine Ct.callV (wr := [(md 11, .inl (g.2.1 0, 2, .inl fAk)), (md 12, .inl (g.2.1 0, 2, .inl fAl)), (md 13, .inl (g.2.1 0, 16, .inl fAo))]) hF hw (c_X6_at l g md th pn ac an ci ck fGa e G 1 (by assumption) (by assumption) (by omega)) mwX6_149 [0, 1] [2, 3, 4] rfl rfl rfl rfl (by decide) 0 rfl rfl ⟨by decide, by decide⟩ ⟨by decide, by decide⟩ rfl hl.1 (Nat.le_of_ble_eq_true rfl) rfl dX6_isRight_24 (fun v u H locs hp hw => ?_)
    obtain ⟨rfl, hp_24⟩ := hp
    have hw := Wd.sub (ws' := [(md 0, .inr (5, [.ref (md 1), .int th, .ref (md 2), .ref (md 3), .ref (md 4), .ref (md 5), .ref (md 6), .ref (md 7), .ref (md 8), .ref (md 9), .ref (md 10), .ref (md 11), .ref (md 12), .ref (md 13), .ref (md 14), .ref (md 15), .ref (md 16), .ref (md 17), .ref (md 18), .ref (md 19), .ref (md 20), .ref (md 21), .ref (md 22), .int (nI pn), .ref (md 23), .int (nI ac), .int (nI an), .ref (md 24), .int (nI ci), .int (nI ck)])), (md 18, .inl (g.2.1 0, 80, .inl fGa)), (md 11, .inl (g.2.1 0, 2, .inl fAk)), (md 12, .inl (g.2.1 0, 2, .inl fAl)), (md 13, .inl (g.2.1 0, 16, .inl fAo))]) hw [3, 4, 0, 1, 2] rfl rfl
    refine W.eq (g2 := F0 m 27 ls [.int (nI (G.getD 1 0))]) rfl ?_
    refine lv_iconst (v := nI 2) hx hb dX6_isRight_27 (by decide) ?_
    refine r_ne (tgt := 102) hx hb dX6_isRight_28 (by decide) (by omega) (by omega) (fun c_28 => ?_) (fun c_28 => ?_)
    · refine lv_iload_n hx hb dX6_isRight_102 rfl (lv_at hl 0 rfl) ?_
      exact RQ.zret hF hr hlk hw dX6_isRight_103 (rfl) ⟨by decide, by decide⟩ (()) (rfl) ⟨by first | exact rbt (rg_a c_28 c_12) | exact rbf (rg_b c_28 c_12) | exact rbf (rg_c c_28 h5 c_12) | exact rbf (rg_d c_28 (by omega)) | exact rbt (by rw [rg_e c_28 (by omega) c_12.2 h5 heq, eqW_o (by omega)]) | exact rbf (by rw [rg_e c_28 (by omega) c_12.2 h5 heq, eqW_f (by omega) c_87]), trivial⟩
    · refine lv_iload_n hx hb dX6_isRight_31 rfl (lv_at hl 0 rfl) ?_
      refine r_eq0 (tgt := 51) hx hb dX6_isRight_32 (by decide) (by omega) (fun c_32 => ?_) (fun c_32 => ?_)
      · refine lv_iconst (v := nI 0) hx hb dX6_isRight_51 (by decide) ?_
        refine lv_istore_n (lv' := [(3, .int (nI 0)), (0, .ref (md 0)), (1, .int (nI e)), (2, .int (nI (G.length - 2)))]) hx hb dX6_isRight_52 rfl hl (by decide) rfl (fun ls hl => ?_)
        refine lv_iconst (v := nI 3) hx hb dX6_isRight_53 (by decide) ?_
        refine lv_istore (lv' := [(4, .int (nI 3)), (3, .int (nI 0)), (0, .ref (md 0)), (1, .int (nI e)), (2, .int (nI (G.length - 2)))]) hx hb dX6_isRight_54 hl (by decide) rfl (fun ls hl => ?_)
        refine lv_iload hx hb dX6_isRight_56 (lv_at hl 0 rfl) ?_
        refine lv_iload_n hx hb dX6_isRight_58 rfl (lv_at hl 4 rfl) ?_
        refine r_ge (tgt := 102) hx hb dX6_isRight_59 (by decide) (by omega) (by omega) (fun c_59 => ?_) (fun c_59 => ?_)
        · refine lv_iload_n hx hb dX6_isRight_102 rfl (lv_at hl 1 rfl) ?_
          exact RQ.zret hF hr hlk hw dX6_isRight_103 (rfl) ⟨by decide, by decide⟩ (()) (rfl) ⟨by first | exact rbt (rg_a c_28 c_12) | exact rbf (rg_b c_28 c_12) | exact rbf (rg_c c_28 h5 c_12) | exact rbf (rg_d c_28 (by omega)) | exact rbt (by rw [rg_e c_28 (by omega) c_12.2 h5 heq, eqW_o (by omega)]) | exact rbf (by rw [rg_e c_28 (by omega) c_12.2 h5 heq, eqW_f (by omega) c_87]), trivial⟩
        · refine lv_iload_n hx hb dX6_isRight_62 rfl (lv_at hl 1 rfl) ?_
          refine r_eq0 (tgt := 102) hx hb dX6_isRight_63 (by decide) (by omega) (fun c_63 => ?_) (fun c_63 => ?_)
          · refine lv_iload_n hx hb dX6_isRight_102 rfl (lv_at hl 1 rfl) ?_
            exact RQ.zret hF hr hlk hw dX6_isRight_103 (rfl) ⟨by decide, by decide⟩ (()) (rfl) ⟨by first | exact rbt (rg_a c_28 c_12) | exact rbf (rg_b c_28 c_12) | exact rbf (rg_c c_28 h5 c_12) | exact rbf (rg_d c_28 (by omega)) | exact rbt (by rw [rg_e c_28 (by omega) c_12.2 h5 heq, eqW_o (by omega)]) | exact rbf (by rw [rg_e c_28 (by omega) c_12.2 h5 heq, eqW_f (by omega) c_87]), trivial⟩
          · exact absurd rfl c_63
      · exact absurd rfl c_32
  · rw [at_eq hb2 hba2 hAl] at c_12
    have hl5 := hAl.resolve_left c_12.1
    refine lv_iconst (v := nI 1) hx hb dX6_isRight_15 (by decide) ?_
    refine lv_goto (tgt := 20) hx hb dX6_isRight_16 (by decide) ?_
    refine lv_istore_n (lv' := [(3, .int (nI 1)), (0, .ref (md 0)), (1, .int (nI e)), (2, .int (nI (G.length - 2)))]) hx hb dX6_isRight_20 rfl hl (by decide) rfl (fun ls hl => ?_)
    refine lv_aload_n hx hb dX6_isRight_21 rfl (lv_at hl 1 rfl) ?_
    refine lv_iload_n hx hb dX6_isRight_22 rfl (lv_at hl 2 rfl) ?_
    refine lv_iconst (v := nI 1) hx hb dX6_isRight_23 (by decide) ?_
    refine Ct.callV (wr := [(md 11, .inl (g.2.1 0, 2, .inl fAk)), (md 12, .inl (g.2.1 0, 2, .inl fAl)), (md 13, .inl (g.2.1 0, 16, .inl fAo))]) hF hw (c_X6_at l g md th pn ac an ci ck fGa e G 1 (by assumption) (by assumption) (by omega)) mwX6_149 [0, 1] [2, 3, 4] rfl rfl rfl rfl (by decide) 0 rfl rfl ⟨by decide, by decide⟩ ⟨by decide, by decide⟩ rfl hl.1 (Nat.le_of_ble_eq_true rfl) rfl dX6_isRight_24 (fun v u H locs hp hw => ?_)
    obtain ⟨rfl, hp_24⟩ := hp
    have hw := Wd.sub (ws' := [(md 0, .inr (5, [.ref (md 1), .int th, .ref (md 2), .ref (md 3), .ref (md 4), .ref (md 5), .ref (md 6), .ref (md 7), .ref (md 8), .ref (md 9), .ref (md 10), .ref (md 11), .ref (md 12), .ref (md 13), .ref (md 14), .ref (md 15), .ref (md 16), .ref (md 17), .ref (md 18), .ref (md 19), .ref (md 20), .ref (md 21), .ref (md 22), .int (nI pn), .ref (md 23), .int (nI ac), .int (nI an), .ref (md 24), .int (nI ci), .int (nI ck)])), (md 18, .inl (g.2.1 0, 80, .inl fGa)), (md 11, .inl (g.2.1 0, 2, .inl fAk)), (md 12, .inl (g.2.1 0, 2, .inl fAl)), (md 13, .inl (g.2.1 0, 16, .inl fAo))]) hw [3, 4, 0, 1, 2] rfl rfl
    refine W.eq (g2 := F0 m 27 ls [.int (nI (G.getD 1 0))]) rfl ?_
    refine lv_iconst (v := nI 2) hx hb dX6_isRight_27 (by decide) ?_
    refine r_ne (tgt := 102) hx hb dX6_isRight_28 (by decide) (by omega) (by omega) (fun c_28 => ?_) (fun c_28 => ?_)
    · refine lv_iload_n hx hb dX6_isRight_102 rfl (lv_at hl 0 rfl) ?_
      exact RQ.zret hF hr hlk hw dX6_isRight_103 (rfl) ⟨by decide, by decide⟩ (()) (rfl) ⟨by first | exact rbt (rg_a c_28 c_12) | exact rbf (rg_b c_28 c_12) | exact rbf (rg_c c_28 h5 c_12) | exact rbf (rg_d c_28 (by omega)) | exact rbt (by rw [rg_e c_28 (by omega) c_12.2 h5 heq, eqW_o (by omega)]) | exact rbf (by rw [rg_e c_28 (by omega) c_12.2 h5 heq, eqW_f (by omega) c_87]), trivial⟩
    · refine lv_iload_n hx hb dX6_isRight_31 rfl (lv_at hl 0 rfl) ?_
      refine r_eq0 (tgt := 51) hx hb dX6_isRight_32 (by decide) (by omega) (fun c_32 => ?_) (fun c_32 => ?_)
      · exact absurd c_32 (by decide)
      · refine lv_iload_n hx hb dX6_isRight_35 rfl (lv_at hl 3 rfl) ?_
        refine lv_iconst (v := nI 3) hx hb dX6_isRight_36 (by decide) ?_
        refine r_isub hx hb dX6_isRight_37 (by omega) ?_
        refine lv_aload_n hx hb dX6_isRight_38 rfl (lv_at hl 1 rfl) ?_
        refine wget hF hw flX6_44 dX6_isRight_39 0 rfl rfl ?_
        refine lv_iload_n hx hb dX6_isRight_42 rfl (lv_at hl 2 rfl) ?_
        refine r_iald hF hw dX6_isRight_43 3 rfl (by omega) (by omega) ?_
        refine r_top (n := Aq.length - 5) ((hA.2 c_12.1).2.1) ?_
        refine r_ne (tgt := 51) hx hb dX6_isRight_44 (by decide) (by omega) (by omega) (fun c_44 => ?_) (fun c_44 => ?_)
        · refine lv_iconst (v := nI 0) hx hb dX6_isRight_51 (by decide) ?_
          refine lv_istore_n (lv' := [(3, .int (nI 0)), (0, .ref (md 0)), (1, .int (nI e)), (2, .int (nI (G.length - 2)))]) hx hb dX6_isRight_52 rfl hl (by decide) rfl (fun ls hl => ?_)
          refine lv_iconst (v := nI 3) hx hb dX6_isRight_53 (by decide) ?_
          refine lv_istore (lv' := [(4, .int (nI 3)), (3, .int (nI 0)), (0, .ref (md 0)), (1, .int (nI e)), (2, .int (nI (G.length - 2)))]) hx hb dX6_isRight_54 hl (by decide) rfl (fun ls hl => ?_)
          refine lv_iload hx hb dX6_isRight_56 (lv_at hl 0 rfl) ?_
          refine lv_iload_n hx hb dX6_isRight_58 rfl (lv_at hl 4 rfl) ?_
          refine r_ge (tgt := 102) hx hb dX6_isRight_59 (by decide) (by omega) (by omega) (fun c_59 => ?_) (fun c_59 => ?_)
          · refine lv_iload_n hx hb dX6_isRight_102 rfl (lv_at hl 1 rfl) ?_
            exact RQ.zret hF hr hlk hw dX6_isRight_103 (rfl) ⟨by decide, by decide⟩ (()) (rfl) ⟨by first | exact rbt (rg_a c_28 c_12) | exact rbf (rg_b c_28 c_12) | exact rbf (rg_c c_28 h5 c_12) | exact rbf (rg_d c_28 (by omega)) | exact rbt (by rw [rg_e c_28 (by omega) c_12.2 h5 heq, eqW_o (by omega)]) | exact rbf (by rw [rg_e c_28 (by omega) c_12.2 h5 heq, eqW_f (by omega) c_87]), trivial⟩
          · refine lv_iload_n hx hb dX6_isRight_62 rfl (lv_at hl 1 rfl) ?_
            refine r_eq0 (tgt := 102) hx hb dX6_isRight_63 (by decide) (by omega) (fun c_63 => ?_) (fun c_63 => ?_)
            · refine lv_iload_n hx hb dX6_isRight_102 rfl (lv_at hl 1 rfl) ?_
              exact RQ.zret hF hr hlk hw dX6_isRight_103 (rfl) ⟨by decide, by decide⟩ (()) (rfl) ⟨by first | exact rbt (rg_a c_28 c_12) | exact rbf (rg_b c_28 c_12) | exact rbf (rg_c c_28 h5 c_12) | exact rbf (rg_d c_28 (by omega)) | exact rbt (by rw [rg_e c_28 (by omega) c_12.2 h5 heq, eqW_o (by omega)]) | exact rbf (by rw [rg_e c_28 (by omega) c_12.2 h5 heq, eqW_f (by omega) c_87]), trivial⟩
            · exact absurd rfl c_63
        · refine lv_iconst (v := nI 1) hx hb dX6_isRight_47 (by decide) ?_
          refine lv_goto (tgt := 52) hx hb dX6_isRight_48 (by decide) ?_
          refine lv_istore_n (lv' := [(3, .int (nI 1)), (0, .ref (md 0)), (1, .int (nI e)), (2, .int (nI (G.length - 2)))]) hx hb dX6_isRight_52 rfl hl (by decide) rfl (fun ls hl => ?_)
          refine lv_iconst (v := nI 3) hx hb dX6_isRight_53 (by decide) ?_
          refine lv_istore (lv' := [(4, .int (nI 3)), (3, .int (nI 1)), (0, .ref (md 0)), (1, .int (nI e)), (2, .int (nI (G.length - 2)))]) hx hb dX6_isRight_54 hl (by decide) rfl (fun ls hl => ?_)
          have lp_56 : ∀ (fuel_56 : Nat) (k : Nat) (H : Heap) (locs : List Loc) (ls : Array Slot), (G.length - k) < fuel_56 → (3 ≤ k ∧ k ≤ G.length - 2) → (eqW G Aq (G.length - 2) 3 = eqW G Aq (G.length - 2) k) → Wd g (va_A [(md 0, .inr (5, [.ref (md 1), .int th, .ref (md 2), .ref (md 3), .ref (md 4), .ref (md 5), .ref (md 6), .ref (md 7), .ref (md 8), .ref (md 9), .ref (md 10), .ref (md 11), .ref (md 12), .ref (md 13), .ref (md 14), .ref (md 15), .ref (md 16), .ref (md 17), .ref (md 18), .ref (md 19), .ref (md 20), .ref (md 21), .ref (md 22), .int (nI pn), .ref (md 23), .int (nI ac), .int (nI an), .ref (md 24), .int (nI ci), .int (nI ck)])), (md 18, .inl (g.2.1 0, 80, .inl fGa)), (md 11, .inl (g.2.1 0, 2, .inl fAk)), (md 12, .inl (g.2.1 0, 2, .inl fAl)), (md 13, .inl (g.2.1 0, 16, .inl fAo))] s.heap.size) s H locs [(md 0, .inr (5, [.ref (md 1), .int th, .ref (md 2), .ref (md 3), .ref (md 4), .ref (md 5), .ref (md 6), .ref (md 7), .ref (md 8), .ref (md 9), .ref (md 10), .ref (md 11), .ref (md 12), .ref (md 13), .ref (md 14), .ref (md 15), .ref (md 16), .ref (md 17), .ref (md 18), .ref (md 19), .ref (md 20), .ref (md 21), .ref (md 22), .int (nI pn), .ref (md 23), .int (nI ac), .int (nI an), .ref (md 24), .int (nI ci), .int (nI ck)])), (md 18, .inl (g.2.1 0, 80, .inl fGa)), (md 11, .inl (g.2.1 0, 2, .inl fAk)), (md 12, .inl (g.2.1 0, 2, .inl fAl)), (md 13, .inl (g.2.1 0, 16, .inl fAo))] → lv_has ls 5 [(0, .ref (md 0)), (1, .int (nI e)), (2, .int (nI (G.length - 2))), (3, .int (nI 1)), (4, .int (nI k))] → W P0 l e0 { frames := 1, cells := 0, slots := 0, locals := 22 } s m ([.ref (md 0), .int (nI e), .int (nI (G.length - 2))] : List Value).toArray below meth c H locs 0 0 (RQ below ([.ref (md 0), .int (nI e), .int (nI (G.length - 2))] : List Value).toArray s { frames := 1, cells := 0, slots := 0, locals := 22 } g [(md 0, .inr (5, [.ref (md 1), .int th, .ref (md 2), .ref (md 3), .ref (md 4), .ref (md 5), .ref (md 6), .ref (md 7), .ref (md 8), .ref (md 9), .ref (md 10), .ref (md 11), .ref (md 12), .ref (md 13), .ref (md 14), .ref (md 15), .ref (md 16), .ref (md 17), .ref (md 18), .ref (md 19), .ref (md 20), .ref (md 21), .ref (md 22), .int (nI pn), .ref (md 23), .int (nI ac), .int (nI an), .ref (md 24), .int (nI ci), .int (nI ck)])), (md 18, .inl (g.2.1 0, 80, .inl fGa)), (md 11, .inl (g.2.1 0, 2, .inl fAk)), (md 12, .inl (g.2.1 0, 2, .inl fAl)), (md 13, .inl (g.2.1 0, 16, .inl fAo))] (fun (v : Option Value) (u : Unit) => v = some (.int (nI (rightG G Aq).toNat)) ∧ True) (fun u : Unit => [(md 0, .inr (5, [.ref (md 1), .int th, .ref (md 2), .ref (md 3), .ref (md 4), .ref (md 5), .ref (md 6), .ref (md 7), .ref (md 8), .ref (md 9), .ref (md 10), .ref (md 11), .ref (md 12), .ref (md 13), .ref (md 14), .ref (md 15), .ref (md 16), .ref (md 17), .ref (md 18), .ref (md 19), .ref (md 20), .ref (md 21), .ref (md 22), .int (nI pn), .ref (md 23), .int (nI ac), .int (nI an), .ref (md 24), .int (nI ci), .int (nI ck)])), (md 18, .inl (g.2.1 0, 80, .inl fGa)), (md 11, .inl (g.2.1 0, 2, .inl fAk)), (md 12, .inl (g.2.1 0, 2, .inl fAl)), (md 13, .inl (g.2.1 0, 16, .inl fAo))])) (F0 m 56 ls []) := by
            intro fuel_56
            induction fuel_56 with
            | zero => intro k H locs ls hm_56; exact absurd hm_56 (Nat.not_lt_zero _)
            | succ fuel_56 ih_56 =>
              intro k H locs ls hm_56 hk heq hw hl
              have hbk := hB.get k
              have hbak := hBA.get k
              refine lv_iload hx hb dX6_isRight_56 (lv_at hl 4 rfl) ?_
              refine lv_iload_n hx hb dX6_isRight_58 rfl (lv_at hl 2 rfl) ?_
              refine r_ge (tgt := 102) hx hb dX6_isRight_59 (by decide) (by omega) (by omega) (fun c_59 => ?_) (fun c_59 => ?_)
              · refine lv_iload_n hx hb dX6_isRight_102 rfl (lv_at hl 3 rfl) ?_
                exact RQ.zret hF hr hlk hw dX6_isRight_103 (rfl) ⟨by decide, by decide⟩ (()) (rfl) ⟨by first | exact rbt (rg_a c_28 c_12) | exact rbf (rg_b c_28 c_12) | exact rbf (rg_c c_28 h5 c_12) | exact rbf (rg_d c_28 (by omega)) | exact rbt (by rw [rg_e c_28 (by omega) c_12.2 h5 heq, eqW_o (by omega)]) | exact rbf (by rw [rg_e c_28 (by omega) c_12.2 h5 heq, eqW_f (by omega) c_87]), trivial⟩
              · refine lv_iload_n hx hb dX6_isRight_62 rfl (lv_at hl 3 rfl) ?_
                refine r_eq0 (tgt := 102) hx hb dX6_isRight_63 (by decide) (by omega) (fun c_63 => ?_) (fun c_63 => ?_)
                · exact absurd c_63 (by decide)
                · refine lv_aload_n hx hb dX6_isRight_66 rfl (lv_at hl 0 rfl) ?_
                  refine lv_iload_n hx hb dX6_isRight_67 rfl (lv_at hl 1 rfl) ?_
                  refine lv_iload hx hb dX6_isRight_68 (lv_at hl 4 rfl) ?_
                  refine Ct.callV (wr := [(md 11, .inl (g.2.1 0, 2, .inl fAk)), (md 12, .inl (g.2.1 0, 2, .inl fAl)), (md 13, .inl (g.2.1 0, 16, .inl fAo))]) hF hw (c_X6_at l g md th pn ac an ci ck fGa e G k (by assumption) (by assumption) (by omega)) mwX6_149 [0, 1] [2, 3, 4] rfl rfl rfl rfl (by decide) 0 rfl rfl ⟨by decide, by decide⟩ ⟨by decide, by decide⟩ rfl hl.1 (Nat.le_of_ble_eq_true rfl) rfl dX6_isRight_70 (fun v u H locs hp hw => ?_)
                  obtain ⟨rfl, hp_70⟩ := hp
                  have hw := Wd.sub (ws' := [(md 0, .inr (5, [.ref (md 1), .int th, .ref (md 2), .ref (md 3), .ref (md 4), .ref (md 5), .ref (md 6), .ref (md 7), .ref (md 8), .ref (md 9), .ref (md 10), .ref (md 11), .ref (md 12), .ref (md 13), .ref (md 14), .ref (md 15), .ref (md 16), .ref (md 17), .ref (md 18), .ref (md 19), .ref (md 20), .ref (md 21), .ref (md 22), .int (nI pn), .ref (md 23), .int (nI ac), .int (nI an), .ref (md 24), .int (nI ci), .int (nI ck)])), (md 18, .inl (g.2.1 0, 80, .inl fGa)), (md 11, .inl (g.2.1 0, 2, .inl fAk)), (md 12, .inl (g.2.1 0, 2, .inl fAl)), (md 13, .inl (g.2.1 0, 16, .inl fAo))]) hw [3, 4, 0, 1, 2] rfl rfl
                  refine W.eq (g2 := F0 m 73 ls [.int (nI (G.getD k 0))]) rfl ?_
                  refine lv_aload_n hx hb dX6_isRight_73 rfl (lv_at hl 0 rfl) ?_
                  refine wget hF hw flX6_47 dX6_isRight_74 0 rfl rfl ?_
                  refine lv_bipush (v := nI 8) hx hb dX6_isRight_77 (by decide) ?_
                  refine lv_iload_n hx hb dX6_isRight_79 rfl (lv_at hl 1 rfl) ?_
                  refine r_imul hx hb dX6_isRight_80 ?_
                  refine lv_iload hx hb dX6_isRight_81 (lv_at hl 4 rfl) ?_
                  refine r_iadd hx hb dX6_isRight_83 ?_
                  refine lv_iconst (v := nI 3) hx hb dX6_isRight_84 (by decide) ?_
                  refine r_isub hx hb dX6_isRight_85 (by omega) ?_
                  refine r_iald hF hw dX6_isRight_86 4 rfl (by omega) (by omega) ?_
                  refine r_top (n := Aq.getD k 0) (by rw [show 8 * e + k - 3 = 8 * e + (k - 3) by omega, (hA.2 c_12.1).2.2 (k - 3) (by omega), show 3 + (k - 3) = k by omega]) ?_
                  refine r_ne (tgt := 94) hx hb dX6_isRight_87 (by decide) (by omega) (by omega) (fun c_87 => ?_) (fun c_87 => ?_)
                  · refine lv_iconst (v := nI 0) hx hb dX6_isRight_94 (by decide) ?_
                    refine lv_istore_n (lv' := [(3, .int (nI 0)), (0, .ref (md 0)), (1, .int (nI e)), (2, .int (nI (G.length - 2))), (4, .int (nI k))]) hx hb dX6_isRight_95 rfl hl (by decide) rfl (fun ls hl => ?_)
                    refine r_iinc (k := 4) (d := 1) (lv' := [(4, .int (nI (k + 1))), (3, .int (nI 0)), (0, .ref (md 0)), (1, .int (nI e)), (2, .int (nI (G.length - 2)))]) hx hb dX6_isRight_96 hl rfl (by decide) (by decide) rfl (fun ls hl => ?_)
                    refine lv_goto (tgt := 56) hx hb dX6_isRight_99 (by decide) ?_
                    refine lv_iload hx hb dX6_isRight_56 (lv_at hl 0 rfl) ?_
                    refine lv_iload_n hx hb dX6_isRight_58 rfl (lv_at hl 4 rfl) ?_
                    refine r_ge (tgt := 102) hx hb dX6_isRight_59 (by decide) (by omega) (by omega) (fun c_59 => ?_) (fun c_59 => ?_)
                    · refine lv_iload_n hx hb dX6_isRight_102 rfl (lv_at hl 1 rfl) ?_
                      exact RQ.zret hF hr hlk hw dX6_isRight_103 (rfl) ⟨by decide, by decide⟩ (()) (rfl) ⟨by first | exact rbt (rg_a c_28 c_12) | exact rbf (rg_b c_28 c_12) | exact rbf (rg_c c_28 h5 c_12) | exact rbf (rg_d c_28 (by omega)) | exact rbt (by rw [rg_e c_28 (by omega) c_12.2 h5 heq, eqW_o (by omega)]) | exact rbf (by rw [rg_e c_28 (by omega) c_12.2 h5 heq, eqW_f (by omega) c_87]), trivial⟩
                    · refine lv_iload_n hx hb dX6_isRight_62 rfl (lv_at hl 1 rfl) ?_
                      refine r_eq0 (tgt := 102) hx hb dX6_isRight_63 (by decide) (by omega) (fun c_63 => ?_) (fun c_63 => ?_)
                      · refine lv_iload_n hx hb dX6_isRight_102 rfl (lv_at hl 1 rfl) ?_
                        exact RQ.zret hF hr hlk hw dX6_isRight_103 (rfl) ⟨by decide, by decide⟩ (()) (rfl) ⟨by first | exact rbt (rg_a c_28 c_12) | exact rbf (rg_b c_28 c_12) | exact rbf (rg_c c_28 h5 c_12) | exact rbf (rg_d c_28 (by omega)) | exact rbt (by rw [rg_e c_28 (by omega) c_12.2 h5 heq, eqW_o (by omega)]) | exact rbf (by rw [rg_e c_28 (by omega) c_12.2 h5 heq, eqW_f (by omega) c_87]), trivial⟩
                      · exact absurd rfl c_63
                  · refine lv_iconst (v := nI 1) hx hb dX6_isRight_90 (by decide) ?_
                    refine lv_goto (tgt := 95) hx hb dX6_isRight_91 (by decide) ?_
                    refine lv_istore_n (lv' := [(3, .int (nI 1)), (0, .ref (md 0)), (1, .int (nI e)), (2, .int (nI (G.length - 2))), (4, .int (nI k))]) hx hb dX6_isRight_95 rfl hl (by decide) rfl (fun ls hl => ?_)
                    refine r_iinc (k := 4) (d := 1) (lv' := [(4, .int (nI (k + 1))), (3, .int (nI 1)), (0, .ref (md 0)), (1, .int (nI e)), (2, .int (nI (G.length - 2)))]) hx hb dX6_isRight_96 hl rfl (by decide) (by decide) rfl (fun ls hl => ?_)
                    refine lv_goto (tgt := 56) hx hb dX6_isRight_99 (by decide) ?_
                    exact ih_56 (k + 1) _ _ _ (by omega) (by omega) (by rw [heq, eqW_t (by omega) c_87]) hw (lv_sub hl [2, 3, 4, 1, 0] rfl)
          exact lp_56 _ 3 _ _ _ (Nat.lt_succ_self _) (by omega) (rfl) hw (lv_sub hl [2, 3, 4, 1, 0] rfl)
