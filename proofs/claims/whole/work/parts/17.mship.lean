set_option maxHeartbeats 4000000 in
set_option maxRecDepth 100000 in
theorem c_X6_ship (l : Launch) (g : GE) (md : Nat → Nat) (th : Int32) (ac : Nat) (an : Nat) (ci : Nat) (ck : Nat) (fPk : Nat → Int32) (fBy : Nat → Int32) (fOl : Nat → Int32) (fCt : Nat → Int32) (e : Nat) (P : List Nat) (B : List Nat) (cf : Nat → Int32) (he : e < 2) (hP : Hd fPk P) (hPl : P.length + 2 ≤ 64) (hBt : Bt P) (hL : LnM fBy fOl e B) (hC : CtM fCt e cf) : Ct l yX6_ship cX6_ship 5 none { frames := 1, cells := 0, slots := 0, locals := 23 } g [.ref (md 0), .int (nI e)] [(md 0, .inr (5, [.ref (md 1), .int th, .ref (md 2), .ref (md 3), .ref (md 4), .ref (md 5), .ref (md 6), .ref (md 7), .ref (md 8), .ref (md 9), .ref (md 10), .ref (md 11), .ref (md 12), .ref (md 13), .ref (md 14), .ref (md 15), .ref (md 16), .ref (md 17), .ref (md 18), .ref (md 19), .ref (md 20), .ref (md 21), .ref (md 22), .int (nI P.length), .ref (md 23), .int (nI ac), .int (nI an), .ref (md 24), .int (nI ci), .int (nI ck)])), (md 23, .inl (g.2.1 0, 64, .inl fPk)), (md 15, .inl (g.2.1 0, 600, .inl fBy)), (md 14, .inl (g.2.1 0, 2, .inl fOl)), (md 22, .inl (g.2.1 0, 12, .inl fCt))] (fun (v : Option Value) (u : (Nat → Int32) × (Nat → Int32) × (Nat → Int32) × (Nat → Int32)) => v = none ∧ LnM u.2.1 u.2.2.1 e (shB B P) ∧ LnO fBy fOl u.2.1 u.2.2.1 e ∧ CtM u.2.2.2 e (shC B cf P) ∧ CtO fCt u.2.2.2 e) (fun u : (Nat → Int32) × (Nat → Int32) × (Nat → Int32) × (Nat → Int32) => [(md 0, .inr (5, [.ref (md 1), .int th, .ref (md 2), .ref (md 3), .ref (md 4), .ref (md 5), .ref (md 6), .ref (md 7), .ref (md 8), .ref (md 9), .ref (md 10), .ref (md 11), .ref (md 12), .ref (md 13), .ref (md 14), .ref (md 15), .ref (md 16), .ref (md 17), .ref (md 18), .ref (md 19), .ref (md 20), .ref (md 21), .ref (md 22), .int (nI (sealL P).length), .ref (md 23), .int (nI ac), .int (nI an), .ref (md 24), .int (nI ci), .int (nI ck)])), (md 23, .inl (g.2.1 0, 64, .inl u.1)), (md 15, .inl (g.2.1 0, 600, .inl u.2.1)), (md 14, .inl (g.2.1 0, 2, .inl u.2.2.1)), (md 22, .inl (g.2.1 0, 12, .inl u.2.2.2))]) := by
  refine Ct.of (own := RX6) rfl rfl (Nat.le_of_ble_eq_true rfl) ?_
  intro P0 e0 s m below meth c ls hF hr hlk hnm hw hl
  have hx := hF.1
  have hb := hF.2.1
  have hl : lv_has ls 5 [(0, .ref (md 0)), (1, .int (nI e))] := hl
  have hcr := crc_lt hBt
  have hL2 := hL.2.1
  have hQb := sealL_bt hBt
  have hQl := sealL_len P
  refine lv_ldc hx hb hF.2.2.2.1 (hF.2.2.2.2 _ tw902) dX6_ship_0 ?_
  refine r_top (n := 65535) rfl ?_
  refine lv_istore_n (lv' := [(2, .int (nI 65535)), (0, .ref (md 0)), (1, .int (nI e))]) hx hb dX6_ship_2 rfl hl (by decide) rfl (fun ls hl => ?_)
  refine lv_iconst (v := nI 0) hx hb dX6_ship_3 (by decide) ?_
  refine lv_istore_n (lv' := [(3, .int (nI 0)), (2, .int (nI 65535)), (0, .ref (md 0)), (1, .int (nI e))]) hx hb dX6_ship_4 rfl hl (by decide) rfl (fun ls hl => ?_)
  have lp_5 : ∀ (fuel_5 : Nat) (i : Nat) (cv : Nat) (H : Heap) (locs : List Loc) (ls : Array Slot), (P.length - i) < fuel_5 → (i ≤ P.length) → (cv = crcF (P.take i)) → Wd g (va_A [(md 0, .inr (5, [.ref (md 1), .int th, .ref (md 2), .ref (md 3), .ref (md 4), .ref (md 5), .ref (md 6), .ref (md 7), .ref (md 8), .ref (md 9), .ref (md 10), .ref (md 11), .ref (md 12), .ref (md 13), .ref (md 14), .ref (md 15), .ref (md 16), .ref (md 17), .ref (md 18), .ref (md 19), .ref (md 20), .ref (md 21), .ref (md 22), .int (nI P.length), .ref (md 23), .int (nI ac), .int (nI an), .ref (md 24), .int (nI ci), .int (nI ck)])), (md 23, .inl (g.2.1 0, 64, .inl fPk)), (md 15, .inl (g.2.1 0, 600, .inl fBy)), (md 14, .inl (g.2.1 0, 2, .inl fOl)), (md 22, .inl (g.2.1 0, 12, .inl fCt))] s.heap.size) s H locs [(md 0, .inr (5, [.ref (md 1), .int th, .ref (md 2), .ref (md 3), .ref (md 4), .ref (md 5), .ref (md 6), .ref (md 7), .ref (md 8), .ref (md 9), .ref (md 10), .ref (md 11), .ref (md 12), .ref (md 13), .ref (md 14), .ref (md 15), .ref (md 16), .ref (md 17), .ref (md 18), .ref (md 19), .ref (md 20), .ref (md 21), .ref (md 22), .int (nI P.length), .ref (md 23), .int (nI ac), .int (nI an), .ref (md 24), .int (nI ci), .int (nI ck)])), (md 23, .inl (g.2.1 0, 64, .inl fPk)), (md 15, .inl (g.2.1 0, 600, .inl fBy)), (md 14, .inl (g.2.1 0, 2, .inl fOl)), (md 22, .inl (g.2.1 0, 12, .inl fCt))] → lv_has ls 5 [(0, .ref (md 0)), (1, .int (nI e)), (2, .int (nI cv)), (3, .int (nI i))] → W P0 l e0 { frames := 1, cells := 0, slots := 0, locals := 23 } s m ([.ref (md 0), .int (nI e)] : List Value).toArray below meth c H locs 0 0 (RQ below ([.ref (md 0), .int (nI e)] : List Value).toArray s { frames := 1, cells := 0, slots := 0, locals := 23 } g [(md 0, .inr (5, [.ref (md 1), .int th, .ref (md 2), .ref (md 3), .ref (md 4), .ref (md 5), .ref (md 6), .ref (md 7), .ref (md 8), .ref (md 9), .ref (md 10), .ref (md 11), .ref (md 12), .ref (md 13), .ref (md 14), .ref (md 15), .ref (md 16), .ref (md 17), .ref (md 18), .ref (md 19), .ref (md 20), .ref (md 21), .ref (md 22), .int (nI P.length), .ref (md 23), .int (nI ac), .int (nI an), .ref (md 24), .int (nI ci), .int (nI ck)])), (md 23, .inl (g.2.1 0, 64, .inl fPk)), (md 15, .inl (g.2.1 0, 600, .inl fBy)), (md 14, .inl (g.2.1 0, 2, .inl fOl)), (md 22, .inl (g.2.1 0, 12, .inl fCt))] (fun (v : Option Value) (u : (Nat → Int32) × (Nat → Int32) × (Nat → Int32) × (Nat → Int32)) => v = none ∧ LnM u.2.1 u.2.2.1 e (shB B P) ∧ LnO fBy fOl u.2.1 u.2.2.1 e ∧ CtM u.2.2.2 e (shC B cf P) ∧ CtO fCt u.2.2.2 e) (fun u : (Nat → Int32) × (Nat → Int32) × (Nat → Int32) × (Nat → Int32) => [(md 0, .inr (5, [.ref (md 1), .int th, .ref (md 2), .ref (md 3), .ref (md 4), .ref (md 5), .ref (md 6), .ref (md 7), .ref (md 8), .ref (md 9), .ref (md 10), .ref (md 11), .ref (md 12), .ref (md 13), .ref (md 14), .ref (md 15), .ref (md 16), .ref (md 17), .ref (md 18), .ref (md 19), .ref (md 20), .ref (md 21), .ref (md 22), .int (nI (sealL P).length), .ref (md 23), .int (nI ac), .int (nI an), .ref (md 24), .int (nI ci), .int (nI ck)])), (md 23, .inl (g.2.1 0, 64, .inl u.1)), (md 15, .inl (g.2.1 0, 600, .inl u.2.1)), (md 14, .inl (g.2.1 0, 2, .inl u.2.2.1)), (md 22, .inl (g.2.1 0, 12, .inl u.2.2.2))])) (F0 m 5 ls []) := by
    intro fuel_5
    induction fuel_5 with
    | zero => intro i cv H locs ls hm_5; exact absurd hm_5 (Nat.not_lt_zero _)
    | succ fuel_5 ih_5 =>
      intro i cv H locs ls hm_5 hi hc hw hl
      have hcl : cv < 65536 := by rw [hc]; exact crcF_lt (hBt.take i)
      have hbi := hBt.get i
      refine lv_iload_n hx hb dX6_ship_5 rfl (lv_at hl 3 rfl) ?_
      refine lv_aload_n hx hb dX6_ship_6 rfl (lv_at hl 0 rfl) ?_
      refine wget hF hw flX6_92 dX6_ship_7 0 rfl rfl ?_
      refine r_ge (tgt := 30) hx hb dX6_ship_10 (by decide) (by omega) (by omega) (fun c_10 => ?_) (fun c_10 => ?_)
      · refine lv_iload_n hx hb dX6_ship_30 rfl (lv_at hl 2 rfl) ?_
        refine lv_ldc hx hb hF.2.2.2.1 (hF.2.2.2.2 _ tw902) dX6_ship_31 ?_
        refine r_top (n := 65535) rfl ?_
        refine r_ixor hx hb dX6_ship_33 ?_
        refine r_top (n := crc P) (by rw [hc, show i = P.length by omega, List.take_length]; rfl) ?_
        refine lv_istore_n (lv' := [(2, .int (nI (crc P))), (0, .ref (md 0)), (1, .int (nI e)), (3, .int (nI i))]) hx hb dX6_ship_34 rfl hl (by decide) rfl (fun ls hl => ?_)
        refine lv_aload_n hx hb dX6_ship_35 rfl (lv_at hl 1 rfl) ?_
        refine lv_iload_n hx hb dX6_ship_36 rfl (lv_at hl 0 rfl) ?_
        refine lv_sipush (v := nI 255) hx hb dX6_ship_37 (by decide) ?_
        refine r_iand hx hb dX6_ship_40 8 (by omega) (by decide) ?_
        refine Ct.callV (wr := [(md 15, .inl (g.2.1 0, 600, .inl fBy)), (md 14, .inl (g.2.1 0, 2, .inl fOl)), (md 22, .inl (g.2.1 0, 12, .inl fCt))]) hF hw (c_X6_add l g md th ac an ci ck fPk P (crc P % 256) (by assumption) (by omega)) mwX6_95 [0, 1] [2, 3, 4] rfl rfl rfl rfl (by decide) 0 rfl rfl ⟨by decide, by decide⟩ ⟨by decide, by decide⟩ rfl hl.1 (Nat.le_of_ble_eq_true rfl) rfl dX6_ship_41 (fun v u H locs hp hw => ?_)
        obtain ⟨f2_41, rfl⟩ : ∃ z, z = u := ⟨_, rfl⟩
        obtain ⟨rfl, hp_41⟩ := hp
        try dsimp only at hp_41
        have hw := Wd.sub (ws' := [(md 0, .inr (5, [.ref (md 1), .int th, .ref (md 2), .ref (md 3), .ref (md 4), .ref (md 5), .ref (md 6), .ref (md 7), .ref (md 8), .ref (md 9), .ref (md 10), .ref (md 11), .ref (md 12), .ref (md 13), .ref (md 14), .ref (md 15), .ref (md 16), .ref (md 17), .ref (md 18), .ref (md 19), .ref (md 20), .ref (md 21), .ref (md 22), .int (nI (P ++ [(crc P % 256)]).length), .ref (md 23), .int (nI ac), .int (nI an), .ref (md 24), .int (nI ci), .int (nI ck)])), (md 23, .inl (g.2.1 0, 64, .inl f2_41)), (md 15, .inl (g.2.1 0, 600, .inl fBy)), (md 14, .inl (g.2.1 0, 2, .inl fOl)), (md 22, .inl (g.2.1 0, 12, .inl fCt))]) hw [3, 4, 0, 1, 2] rfl rfl
        refine W.eq (g2 := F0 m 44 ls []) rfl ?_
        refine lv_aload_n hx hb dX6_ship_44 rfl (lv_at hl 1 rfl) ?_
        refine lv_iload_n hx hb dX6_ship_45 rfl (lv_at hl 0 rfl) ?_
        refine lv_bipush (v := nI 8) hx hb dX6_ship_46 (by decide) ?_
        refine r_ishr hx hb dX6_ship_48 (by omega) (by decide) ?_
        refine Ct.callV (wr := [(md 15, .inl (g.2.1 0, 600, .inl fBy)), (md 14, .inl (g.2.1 0, 2, .inl fOl)), (md 22, .inl (g.2.1 0, 12, .inl fCt))]) hF hw (c_X6_add l g md th ac an ci ck f2_41 (P ++ [(crc P % 256)]) (crc P / 256) (hp_41) (by simp only [List.length_append, List.length_cons, List.length_nil]; omega)) mwX6_95 [0, 1] [2, 3, 4] rfl rfl rfl rfl (by decide) 0 rfl rfl ⟨by decide, by decide⟩ ⟨by decide, by decide⟩ rfl hl.1 (Nat.le_of_ble_eq_true rfl) rfl dX6_ship_49 (fun v u H locs hp hw => ?_)
        obtain ⟨f2_49, rfl⟩ : ∃ z, z = u := ⟨_, rfl⟩
        obtain ⟨rfl, hp_49⟩ := hp
        try dsimp only at hp_49
        have hw := Wd.sub (ws' := [(md 0, .inr (5, [.ref (md 1), .int th, .ref (md 2), .ref (md 3), .ref (md 4), .ref (md 5), .ref (md 6), .ref (md 7), .ref (md 8), .ref (md 9), .ref (md 10), .ref (md 11), .ref (md 12), .ref (md 13), .ref (md 14), .ref (md 15), .ref (md 16), .ref (md 17), .ref (md 18), .ref (md 19), .ref (md 20), .ref (md 21), .ref (md 22), .int (nI ((P ++ [(crc P % 256)]) ++ [(crc P / 256)]).length), .ref (md 23), .int (nI ac), .int (nI an), .ref (md 24), .int (nI ci), .int (nI ck)])), (md 23, .inl (g.2.1 0, 64, .inl f2_49)), (md 15, .inl (g.2.1 0, 600, .inl fBy)), (md 14, .inl (g.2.1 0, 2, .inl fOl)), (md 22, .inl (g.2.1 0, 12, .inl fCt))]) hw [3, 4, 0, 1, 2] rfl rfl
        refine W.eq (g2 := F0 m 52 ls []) rfl ?_
        have hpq : Hd f2_49 (sealL P) := hp_49
        refine lv_iconst (v := nI 2) hx hb dX6_ship_52 (by decide) ?_
        refine lv_istore_n (lv' := [(3, .int (nI 2)), (2, .int (nI (crc P))), (0, .ref (md 0)), (1, .int (nI e))]) hx hb dX6_ship_53 rfl hl (by decide) rfl (fun ls hl => ?_)
        refine lv_iconst (v := nI 0) hx hb dX6_ship_54 (by decide) ?_
        refine lv_istore (lv' := [(4, .int (nI 0)), (3, .int (nI 2)), (2, .int (nI (crc P))), (0, .ref (md 0)), (1, .int (nI e))]) hx hb dX6_ship_55 hl (by decide) rfl (fun ls hl => ?_)
        have lp_57 : ∀ (fuel_57 : Nat) (j : Nat) (nd : Nat) (H : Heap) (locs : List Loc) (ls : Array Slot), ((sealL P).length - j) < fuel_57 → (j ≤ (sealL P).length) → (nd = (escL ((sealL P).take j)).length + 2) → Wd g (va_A [(md 0, .inr (5, [.ref (md 1), .int th, .ref (md 2), .ref (md 3), .ref (md 4), .ref (md 5), .ref (md 6), .ref (md 7), .ref (md 8), .ref (md 9), .ref (md 10), .ref (md 11), .ref (md 12), .ref (md 13), .ref (md 14), .ref (md 15), .ref (md 16), .ref (md 17), .ref (md 18), .ref (md 19), .ref (md 20), .ref (md 21), .ref (md 22), .int (nI P.length), .ref (md 23), .int (nI ac), .int (nI an), .ref (md 24), .int (nI ci), .int (nI ck)])), (md 23, .inl (g.2.1 0, 64, .inl fPk)), (md 15, .inl (g.2.1 0, 600, .inl fBy)), (md 14, .inl (g.2.1 0, 2, .inl fOl)), (md 22, .inl (g.2.1 0, 12, .inl fCt))] s.heap.size) s H locs [(md 0, .inr (5, [.ref (md 1), .int th, .ref (md 2), .ref (md 3), .ref (md 4), .ref (md 5), .ref (md 6), .ref (md 7), .ref (md 8), .ref (md 9), .ref (md 10), .ref (md 11), .ref (md 12), .ref (md 13), .ref (md 14), .ref (md 15), .ref (md 16), .ref (md 17), .ref (md 18), .ref (md 19), .ref (md 20), .ref (md 21), .ref (md 22), .int (nI (sealL P).length), .ref (md 23), .int (nI ac), .int (nI an), .ref (md 24), .int (nI ci), .int (nI ck)])), (md 23, .inl (g.2.1 0, 64, .inl f2_49)), (md 15, .inl (g.2.1 0, 600, .inl fBy)), (md 14, .inl (g.2.1 0, 2, .inl fOl)), (md 22, .inl (g.2.1 0, 12, .inl fCt))] → lv_has ls 5 [(0, .ref (md 0)), (1, .int (nI e)), (2, .int (nI (crc P))), (3, .int (nI nd)), (4, .int (nI j))] → W P0 l e0 { frames := 1, cells := 0, slots := 0, locals := 23 } s m ([.ref (md 0), .int (nI e)] : List Value).toArray below meth c H locs 0 0 (RQ below ([.ref (md 0), .int (nI e)] : List Value).toArray s { frames := 1, cells := 0, slots := 0, locals := 23 } g [(md 0, .inr (5, [.ref (md 1), .int th, .ref (md 2), .ref (md 3), .ref (md 4), .ref (md 5), .ref (md 6), .ref (md 7), .ref (md 8), .ref (md 9), .ref (md 10), .ref (md 11), .ref (md 12), .ref (md 13), .ref (md 14), .ref (md 15), .ref (md 16), .ref (md 17), .ref (md 18), .ref (md 19), .ref (md 20), .ref (md 21), .ref (md 22), .int (nI P.length), .ref (md 23), .int (nI ac), .int (nI an), .ref (md 24), .int (nI ci), .int (nI ck)])), (md 23, .inl (g.2.1 0, 64, .inl fPk)), (md 15, .inl (g.2.1 0, 600, .inl fBy)), (md 14, .inl (g.2.1 0, 2, .inl fOl)), (md 22, .inl (g.2.1 0, 12, .inl fCt))] (fun (v : Option Value) (u : (Nat → Int32) × (Nat → Int32) × (Nat → Int32) × (Nat → Int32)) => v = none ∧ LnM u.2.1 u.2.2.1 e (shB B P) ∧ LnO fBy fOl u.2.1 u.2.2.1 e ∧ CtM u.2.2.2 e (shC B cf P) ∧ CtO fCt u.2.2.2 e) (fun u : (Nat → Int32) × (Nat → Int32) × (Nat → Int32) × (Nat → Int32) => [(md 0, .inr (5, [.ref (md 1), .int th, .ref (md 2), .ref (md 3), .ref (md 4), .ref (md 5), .ref (md 6), .ref (md 7), .ref (md 8), .ref (md 9), .ref (md 10), .ref (md 11), .ref (md 12), .ref (md 13), .ref (md 14), .ref (md 15), .ref (md 16), .ref (md 17), .ref (md 18), .ref (md 19), .ref (md 20), .ref (md 21), .ref (md 22), .int (nI (sealL P).length), .ref (md 23), .int (nI ac), .int (nI an), .ref (md 24), .int (nI ci), .int (nI ck)])), (md 23, .inl (g.2.1 0, 64, .inl u.1)), (md 15, .inl (g.2.1 0, 600, .inl u.2.1)), (md 14, .inl (g.2.1 0, 2, .inl u.2.2.1)), (md 22, .inl (g.2.1 0, 12, .inl u.2.2.2))])) (F0 m 57 ls []) := by
          intro fuel_57
          induction fuel_57 with
          | zero => intro j nd H locs ls hm_57; exact absurd hm_57 (Nat.not_lt_zero _)
          | succ fuel_57 ih_57 =>
            intro j nd H locs ls hm_57 hj hnd hw hl
            have hbj := hQb.get j
            have hle := (escL_le ((sealL P).take j)).2
            rw [List.length_take] at hle
            refine lv_iload hx hb dX6_ship_57 (lv_at hl 4 rfl) ?_
            refine lv_aload_n hx hb dX6_ship_59 rfl (lv_at hl 0 rfl) ?_
            refine wget hF hw flX6_92 dX6_ship_60 0 rfl rfl ?_
            refine r_ge (tgt := 95) hx hb dX6_ship_63 (by decide) (by omega) (by omega) (fun c_63 => ?_) (fun c_63 => ?_)
            · refine lv_aload_n hx hb dX6_ship_95 rfl (lv_at hl 0 rfl) ?_
              refine wget hF hw flX6_50 dX6_ship_96 0 rfl rfl ?_
              refine lv_iload_n hx hb dX6_ship_99 rfl (lv_at hl 1 rfl) ?_
              have hnf : nd = (frameL P).length := by rw [hnd, frameL_len, show j = (sealL P).length by omega, List.take_length]
              have hfl := frameL_len P
              refine r_iald hF hw dX6_ship_100 3 rfl (by omega) (by omega) ?_
              refine r_top (n := B.length) (hL.1) ?_
              refine lv_iload_n hx hb dX6_ship_101 rfl (lv_at hl 3 rfl) ?_
              refine r_iadd hx hb dX6_ship_102 ?_
              refine lv_sipush (v := nI 300) hx hb dX6_ship_103 (by decide) ?_
              refine r_le (tgt := 116) hx hb dX6_ship_106 (by decide) (by omega) (by omega) (fun c_106 => ?_) (fun c_106 => ?_)
              · refine lv_aload_n hx hb dX6_ship_116 rfl (lv_at hl 0 rfl) ?_
                refine lv_iload_n hx hb dX6_ship_117 rfl (lv_at hl 1 rfl) ?_
                refine lv_bipush (v := nI 126) hx hb dX6_ship_118 (by decide) ?_
                refine Ct.callV (wr := [(md 23, .inl (g.2.1 0, 64, .inl f2_49)), (md 22, .inl (g.2.1 0, 12, .inl fCt))]) hF hw (c_X6_lay l g md th (sealL P).length ac an ci ck fBy fOl e B 126 (by assumption) (by assumption) (by omega)) mwX6_112 [0, 2, 3] [1, 4] rfl rfl rfl rfl (by decide) 0 rfl rfl ⟨by decide, by decide⟩ ⟨by decide, by decide⟩ rfl hl.1 (Nat.le_of_ble_eq_true rfl) rfl dX6_ship_120 (fun v u H locs hp hw => ?_)
                obtain ⟨y2_120, o2_120⟩ := u
                obtain ⟨rfl, hp_120⟩ := hp
                try dsimp only at hp_120
                have hw := Wd.sub (ws' := [(md 0, .inr (5, [.ref (md 1), .int th, .ref (md 2), .ref (md 3), .ref (md 4), .ref (md 5), .ref (md 6), .ref (md 7), .ref (md 8), .ref (md 9), .ref (md 10), .ref (md 11), .ref (md 12), .ref (md 13), .ref (md 14), .ref (md 15), .ref (md 16), .ref (md 17), .ref (md 18), .ref (md 19), .ref (md 20), .ref (md 21), .ref (md 22), .int (nI (sealL P).length), .ref (md 23), .int (nI ac), .int (nI an), .ref (md 24), .int (nI ci), .int (nI ck)])), (md 23, .inl (g.2.1 0, 64, .inl f2_49)), (md 15, .inl (g.2.1 0, 600, .inl y2_120)), (md 14, .inl (g.2.1 0, 2, .inl o2_120)), (md 22, .inl (g.2.1 0, 12, .inl fCt))]) hw [2, 0, 3, 4, 1] rfl rfl
                refine W.eq (g2 := F0 m 123 ls []) rfl ?_
                refine lv_iconst (v := nI 0) hx hb dX6_ship_123 (by decide) ?_
                refine lv_istore (lv' := [(4, .int (nI 0)), (0, .ref (md 0)), (1, .int (nI e)), (2, .int (nI (crc P))), (3, .int (nI nd))]) hx hb dX6_ship_124 hl (by decide) rfl (fun ls hl => ?_)
                have lp_126 : ∀ (fuel_126 : Nat) (i2 : Nat) (y3 : Nat → Int32) (o3 : Nat → Int32) (H : Heap) (locs : List Loc) (ls : Array Slot), ((sealL P).length - i2) < fuel_126 → (i2 ≤ (sealL P).length) → (LnM y3 o3 e (B ++ [126] ++ escL ((sealL P).take i2))) → (LnO fBy fOl y3 o3 e) → Wd g (va_A [(md 0, .inr (5, [.ref (md 1), .int th, .ref (md 2), .ref (md 3), .ref (md 4), .ref (md 5), .ref (md 6), .ref (md 7), .ref (md 8), .ref (md 9), .ref (md 10), .ref (md 11), .ref (md 12), .ref (md 13), .ref (md 14), .ref (md 15), .ref (md 16), .ref (md 17), .ref (md 18), .ref (md 19), .ref (md 20), .ref (md 21), .ref (md 22), .int (nI P.length), .ref (md 23), .int (nI ac), .int (nI an), .ref (md 24), .int (nI ci), .int (nI ck)])), (md 23, .inl (g.2.1 0, 64, .inl fPk)), (md 15, .inl (g.2.1 0, 600, .inl fBy)), (md 14, .inl (g.2.1 0, 2, .inl fOl)), (md 22, .inl (g.2.1 0, 12, .inl fCt))] s.heap.size) s H locs [(md 0, .inr (5, [.ref (md 1), .int th, .ref (md 2), .ref (md 3), .ref (md 4), .ref (md 5), .ref (md 6), .ref (md 7), .ref (md 8), .ref (md 9), .ref (md 10), .ref (md 11), .ref (md 12), .ref (md 13), .ref (md 14), .ref (md 15), .ref (md 16), .ref (md 17), .ref (md 18), .ref (md 19), .ref (md 20), .ref (md 21), .ref (md 22), .int (nI (sealL P).length), .ref (md 23), .int (nI ac), .int (nI an), .ref (md 24), .int (nI ci), .int (nI ck)])), (md 23, .inl (g.2.1 0, 64, .inl f2_49)), (md 15, .inl (g.2.1 0, 600, .inl y3)), (md 14, .inl (g.2.1 0, 2, .inl o3)), (md 22, .inl (g.2.1 0, 12, .inl fCt))] → lv_has ls 5 [(0, .ref (md 0)), (1, .int (nI e)), (2, .int (nI (crc P))), (3, .int (nI nd)), (4, .int (nI i2))] → W P0 l e0 { frames := 1, cells := 0, slots := 0, locals := 23 } s m ([.ref (md 0), .int (nI e)] : List Value).toArray below meth c H locs 0 0 (RQ below ([.ref (md 0), .int (nI e)] : List Value).toArray s { frames := 1, cells := 0, slots := 0, locals := 23 } g [(md 0, .inr (5, [.ref (md 1), .int th, .ref (md 2), .ref (md 3), .ref (md 4), .ref (md 5), .ref (md 6), .ref (md 7), .ref (md 8), .ref (md 9), .ref (md 10), .ref (md 11), .ref (md 12), .ref (md 13), .ref (md 14), .ref (md 15), .ref (md 16), .ref (md 17), .ref (md 18), .ref (md 19), .ref (md 20), .ref (md 21), .ref (md 22), .int (nI P.length), .ref (md 23), .int (nI ac), .int (nI an), .ref (md 24), .int (nI ci), .int (nI ck)])), (md 23, .inl (g.2.1 0, 64, .inl fPk)), (md 15, .inl (g.2.1 0, 600, .inl fBy)), (md 14, .inl (g.2.1 0, 2, .inl fOl)), (md 22, .inl (g.2.1 0, 12, .inl fCt))] (fun (v : Option Value) (u : (Nat → Int32) × (Nat → Int32) × (Nat → Int32) × (Nat → Int32)) => v = none ∧ LnM u.2.1 u.2.2.1 e (shB B P) ∧ LnO fBy fOl u.2.1 u.2.2.1 e ∧ CtM u.2.2.2 e (shC B cf P) ∧ CtO fCt u.2.2.2 e) (fun u : (Nat → Int32) × (Nat → Int32) × (Nat → Int32) × (Nat → Int32) => [(md 0, .inr (5, [.ref (md 1), .int th, .ref (md 2), .ref (md 3), .ref (md 4), .ref (md 5), .ref (md 6), .ref (md 7), .ref (md 8), .ref (md 9), .ref (md 10), .ref (md 11), .ref (md 12), .ref (md 13), .ref (md 14), .ref (md 15), .ref (md 16), .ref (md 17), .ref (md 18), .ref (md 19), .ref (md 20), .ref (md 21), .ref (md 22), .int (nI (sealL P).length), .ref (md 23), .int (nI ac), .int (nI an), .ref (md 24), .int (nI ci), .int (nI ck)])), (md 23, .inl (g.2.1 0, 64, .inl u.1)), (md 15, .inl (g.2.1 0, 600, .inl u.2.1)), (md 14, .inl (g.2.1 0, 2, .inl u.2.2.1)), (md 22, .inl (g.2.1 0, 12, .inl u.2.2.2))])) (F0 m 126 ls []) := by
                  intro fuel_126
                  induction fuel_126 with
                  | zero => intro i2 y3 o3 H locs ls hm_126; exact absurd hm_126 (Nat.not_lt_zero _)
                  | succ fuel_126 ih_126 =>
                    intro i2 y3 o3 H locs ls hm_126 hi2 hL3 hO3 hw hl
                    have hbj := hQb.get i2
                    have hel : (escL ((sealL P).take i2)).length + (escL ((sealL P).drop i2)).length = (escL (sealL P)).length := by rw [← List.length_append, show escL ((sealL P).take i2) ++ escL ((sealL P).drop i2) = escL (sealL P) by rw [escL, escL, escL, ← List.flatMap_append, List.take_append_drop]]
                    have hdl := escL_le ((sealL P).drop i2)
                    rw [List.length_drop] at hdl
                    refine lv_iload hx hb dX6_ship_126 (lv_at hl 4 rfl) ?_
                    refine lv_aload_n hx hb dX6_ship_128 rfl (lv_at hl 0 rfl) ?_
                    refine wget hF hw flX6_92 dX6_ship_129 0 rfl rfl ?_
                    refine r_ge (tgt := 199) hx hb dX6_ship_132 (by decide) (by omega) (by omega) (fun c_132 => ?_) (fun c_132 => ?_)
                    · refine lv_aload_n hx hb dX6_ship_199 rfl (lv_at hl 0 rfl) ?_
                      refine lv_iload_n hx hb dX6_ship_200 rfl (lv_at hl 1 rfl) ?_
                      refine lv_bipush (v := nI 126) hx hb dX6_ship_201 (by decide) ?_
                      refine Ct.callV (wr := [(md 23, .inl (g.2.1 0, 64, .inl f2_49)), (md 22, .inl (g.2.1 0, 12, .inl fCt))]) hF hw (c_X6_lay l g md th (sealL P).length ac an ci ck y3 o3 e (B ++ [126] ++ escL ((sealL P).take i2)) 126 (by assumption) (hL3) (by simp only [List.length_append, List.length_cons, List.length_nil]; omega)) mwX6_112 [0, 2, 3] [1, 4] rfl rfl rfl rfl (by decide) 0 rfl rfl ⟨by decide, by decide⟩ ⟨by decide, by decide⟩ rfl hl.1 (Nat.le_of_ble_eq_true rfl) rfl dX6_ship_203 (fun v u H locs hp hw => ?_)
                      obtain ⟨y2_203, o2_203⟩ := u
                      obtain ⟨rfl, hp_203⟩ := hp
                      try dsimp only at hp_203
                      have hw := Wd.sub (ws' := [(md 0, .inr (5, [.ref (md 1), .int th, .ref (md 2), .ref (md 3), .ref (md 4), .ref (md 5), .ref (md 6), .ref (md 7), .ref (md 8), .ref (md 9), .ref (md 10), .ref (md 11), .ref (md 12), .ref (md 13), .ref (md 14), .ref (md 15), .ref (md 16), .ref (md 17), .ref (md 18), .ref (md 19), .ref (md 20), .ref (md 21), .ref (md 22), .int (nI (sealL P).length), .ref (md 23), .int (nI ac), .int (nI an), .ref (md 24), .int (nI ci), .int (nI ck)])), (md 23, .inl (g.2.1 0, 64, .inl f2_49)), (md 15, .inl (g.2.1 0, 600, .inl y2_203)), (md 14, .inl (g.2.1 0, 2, .inl o2_203)), (md 22, .inl (g.2.1 0, 12, .inl fCt))]) hw [2, 0, 3, 4, 1] rfl rfl
                      refine W.eq (g2 := F0 m 206 ls []) rfl ?_
                      have e9 : B ++ [126] ++ escL ((sealL P).take i2) ++ [126] = B ++ frameL P := by rw [show i2 = (sealL P).length by omega, List.take_length]; simp [frameL]
                      rw [e9] at hp_203
                      exact RQ.vret hF hr hlk hw dX6_ship_206 ⟨by decide, by decide⟩ ((f2_49, y2_203, o2_203, fCt)) (rfl) ⟨rfl, ⟨by rw [shB, if_pos (by omega)]; exact hp_203.1, hO3.trans hp_203.2, by rw [shC, if_pos (by omega)]; exact hC, CtO.refl⟩⟩
                    · refine lv_aload_n hx hb dX6_ship_135 rfl (lv_at hl 0 rfl) ?_
                      refine wget hF hw flX6_77 dX6_ship_136 0 rfl rfl ?_
                      refine lv_iload hx hb dX6_ship_139 (lv_at hl 4 rfl) ?_
                      refine r_iald hF hw dX6_ship_141 1 rfl (by omega) (by omega) ?_
                      refine r_top (n := (sealL P).getD i2 0) (hpq i2 (by omega)) ?_
                      refine Ct.callS (wr := [(md 0, .inr (5, [.ref (md 1), .int th, .ref (md 2), .ref (md 3), .ref (md 4), .ref (md 5), .ref (md 6), .ref (md 7), .ref (md 8), .ref (md 9), .ref (md 10), .ref (md 11), .ref (md 12), .ref (md 13), .ref (md 14), .ref (md 15), .ref (md 16), .ref (md 17), .ref (md 18), .ref (md 19), .ref (md 20), .ref (md 21), .ref (md 22), .int (nI (sealL P).length), .ref (md 23), .int (nI ac), .int (nI an), .ref (md 24), .int (nI ci), .int (nI ck)])), (md 23, .inl (g.2.1 0, 64, .inl f2_49)), (md 15, .inl (g.2.1 0, 600, .inl y3)), (md 14, .inl (g.2.1 0, 2, .inl o3)), (md 22, .inl (g.2.1 0, 12, .inl fCt))]) hF hw (c_X6_special l g ((sealL P).getD i2 0) (by omega)) mwX6_104 [] [0, 1, 2, 3, 4] rfl rfl rfl rfl (by decide) ⟨by decide, by decide⟩ ⟨by decide, by decide⟩ rfl hl.1 (Nat.le_of_ble_eq_true rfl) rfl dX6_ship_142 (fun v u H locs hp hw => ?_)
                      obtain ⟨rfl, hp_142⟩ := hp
                      have hw := Wd.sub (ws' := [(md 0, .inr (5, [.ref (md 1), .int th, .ref (md 2), .ref (md 3), .ref (md 4), .ref (md 5), .ref (md 6), .ref (md 7), .ref (md 8), .ref (md 9), .ref (md 10), .ref (md 11), .ref (md 12), .ref (md 13), .ref (md 14), .ref (md 15), .ref (md 16), .ref (md 17), .ref (md 18), .ref (md 19), .ref (md 20), .ref (md 21), .ref (md 22), .int (nI (sealL P).length), .ref (md 23), .int (nI ac), .int (nI an), .ref (md 24), .int (nI ci), .int (nI ck)])), (md 23, .inl (g.2.1 0, 64, .inl f2_49)), (md 15, .inl (g.2.1 0, 600, .inl y3)), (md 14, .inl (g.2.1 0, 2, .inl o3)), (md 22, .inl (g.2.1 0, 12, .inl fCt))]) hw [0, 1, 2, 3, 4] rfl rfl
                      refine W.eq (g2 := F0 m 145 ls [.int (nI (decide (((sealL P).getD i2 0) = 125 ∨ ((sealL P).getD i2 0) = 126)).toNat)]) rfl ?_
                      have hbl := b_lt (decide ((sealL P).getD i2 0 = 125 ∨ (sealL P).getD i2 0 = 126))
                      refine r_eq0 (tgt := 155) hx hb dX6_ship_145 (by decide) (by omega) (fun c_145 => ?_) (fun c_145 => ?_)
                      · refine lv_aload_n hx hb dX6_ship_155 rfl (lv_at hl 0 rfl) ?_
                        refine lv_iload_n hx hb dX6_ship_156 rfl (lv_at hl 1 rfl) ?_
                        refine lv_aload_n hx hb dX6_ship_157 rfl (lv_at hl 0 rfl) ?_
                        refine wget hF hw flX6_77 dX6_ship_158 0 rfl rfl ?_
                        refine lv_iload hx hb dX6_ship_161 (lv_at hl 4 rfl) ?_
                        refine r_iald hF hw dX6_ship_163 1 rfl (by omega) (by omega) ?_
                        refine r_top (n := (sealL P).getD i2 0) (hpq i2 (by omega)) ?_
                        refine Ct.callS (wr := [(md 0, .inr (5, [.ref (md 1), .int th, .ref (md 2), .ref (md 3), .ref (md 4), .ref (md 5), .ref (md 6), .ref (md 7), .ref (md 8), .ref (md 9), .ref (md 10), .ref (md 11), .ref (md 12), .ref (md 13), .ref (md 14), .ref (md 15), .ref (md 16), .ref (md 17), .ref (md 18), .ref (md 19), .ref (md 20), .ref (md 21), .ref (md 22), .int (nI (sealL P).length), .ref (md 23), .int (nI ac), .int (nI an), .ref (md 24), .int (nI ci), .int (nI ck)])), (md 23, .inl (g.2.1 0, 64, .inl f2_49)), (md 15, .inl (g.2.1 0, 600, .inl y3)), (md 14, .inl (g.2.1 0, 2, .inl o3)), (md 22, .inl (g.2.1 0, 12, .inl fCt))]) hF hw (c_X6_special l g ((sealL P).getD i2 0) (by omega)) mwX6_104 [] [0, 1, 2, 3, 4] rfl rfl rfl rfl (by decide) ⟨by decide, by decide⟩ ⟨by decide, by decide⟩ rfl hl.1 (Nat.le_of_ble_eq_true rfl) rfl dX6_ship_164 (fun v u H locs hp hw => ?_)
                        obtain ⟨rfl, hp_164⟩ := hp
                        have hw := Wd.sub (ws' := [(md 0, .inr (5, [.ref (md 1), .int th, .ref (md 2), .ref (md 3), .ref (md 4), .ref (md 5), .ref (md 6), .ref (md 7), .ref (md 8), .ref (md 9), .ref (md 10), .ref (md 11), .ref (md 12), .ref (md 13), .ref (md 14), .ref (md 15), .ref (md 16), .ref (md 17), .ref (md 18), .ref (md 19), .ref (md 20), .ref (md 21), .ref (md 22), .int (nI (sealL P).length), .ref (md 23), .int (nI ac), .int (nI an), .ref (md 24), .int (nI ci), .int (nI ck)])), (md 23, .inl (g.2.1 0, 64, .inl f2_49)), (md 15, .inl (g.2.1 0, 600, .inl y3)), (md 14, .inl (g.2.1 0, 2, .inl o3)), (md 22, .inl (g.2.1 0, 12, .inl fCt))]) hw [0, 1, 2, 3, 4] rfl rfl
                        refine W.eq (g2 := F0 m 167 ls [.int (nI (decide (((sealL P).getD i2 0) = 125 ∨ ((sealL P).getD i2 0) = 126)).toNat), .int (nI e), .ref (md 0)]) rfl ?_
                        refine r_eq0 (tgt := 183) hx hb dX6_ship_167 (by decide) (by omega) (fun c_167 => ?_) (fun c_167 => ?_)
                        · refine lv_aload_n hx hb dX6_ship_183 rfl (lv_at hl 0 rfl) ?_
                          refine wget hF hw flX6_77 dX6_ship_184 0 rfl rfl ?_
                          refine lv_iload hx hb dX6_ship_187 (lv_at hl 4 rfl) ?_
                          refine r_iald hF hw dX6_ship_189 1 rfl (by omega) (by omega) ?_
                          refine r_top (n := (sealL P).getD i2 0) (hpq i2 (by omega)) ?_
                          refine Ct.callV (wr := [(md 23, .inl (g.2.1 0, 64, .inl f2_49)), (md 22, .inl (g.2.1 0, 12, .inl fCt))]) hF hw (c_X6_lay l g md th (sealL P).length ac an ci ck y3 o3 e (B ++ [126] ++ escL ((sealL P).take i2)) ((sealL P).getD i2 0) (by assumption) (hL3) (by simp only [List.length_append, List.length_cons, List.length_nil]; omega)) mwX6_112 [0, 2, 3] [1, 4] rfl rfl rfl rfl (by decide) 0 rfl rfl ⟨by decide, by decide⟩ ⟨by decide, by decide⟩ rfl hl.1 (Nat.le_of_ble_eq_true rfl) rfl dX6_ship_190 (fun v u H locs hp hw => ?_)
                          obtain ⟨y2_190, o2_190⟩ := u
                          obtain ⟨rfl, hp_190⟩ := hp
                          try dsimp only at hp_190
                          have hw := Wd.sub (ws' := [(md 0, .inr (5, [.ref (md 1), .int th, .ref (md 2), .ref (md 3), .ref (md 4), .ref (md 5), .ref (md 6), .ref (md 7), .ref (md 8), .ref (md 9), .ref (md 10), .ref (md 11), .ref (md 12), .ref (md 13), .ref (md 14), .ref (md 15), .ref (md 16), .ref (md 17), .ref (md 18), .ref (md 19), .ref (md 20), .ref (md 21), .ref (md 22), .int (nI (sealL P).length), .ref (md 23), .int (nI ac), .int (nI an), .ref (md 24), .int (nI ci), .int (nI ck)])), (md 23, .inl (g.2.1 0, 64, .inl f2_49)), (md 15, .inl (g.2.1 0, 600, .inl y2_190)), (md 14, .inl (g.2.1 0, 2, .inl o2_190)), (md 22, .inl (g.2.1 0, 12, .inl fCt))]) hw [2, 0, 3, 4, 1] rfl rfl
                          refine W.eq (g2 := F0 m 193 ls []) rfl ?_
                          refine r_iinc (k := 4) (d := 1) (lv' := [(4, .int (nI (i2 + 1))), (0, .ref (md 0)), (1, .int (nI e)), (2, .int (nI (crc P))), (3, .int (nI nd))]) hx hb dX6_ship_193 hl rfl (by decide) (by decide) rfl (fun ls hl => ?_)
                          refine lv_goto (tgt := 126) hx hb dX6_ship_196 (by decide) ?_
                          have e9 : B ++ [126] ++ escL ((sealL P).take i2) ++ [(sealL P).getD i2 0] = B ++ [126] ++ escL ((sealL P).take (i2 + 1)) := by rw [take_succD (by omega), escL_snoc, escB_len_f (dz c_145)]; simp
                          rw [e9] at hp_190
                          have hO4 := hO3.trans hp_190.2
                          exact ih_126 (i2 + 1) y2_190 o2_190 _ _ _ (by omega) (by omega) (hp_190.1) (hO4) hw (lv_sub hl [1, 2, 3, 4, 0] rfl)
                        · exact absurd c_145 c_167
                      · refine lv_aload_n hx hb dX6_ship_148 rfl (lv_at hl 0 rfl) ?_
                        refine lv_iload_n hx hb dX6_ship_149 rfl (lv_at hl 1 rfl) ?_
                        refine lv_bipush (v := nI 125) hx hb dX6_ship_150 (by decide) ?_
                        refine Ct.callV (wr := [(md 23, .inl (g.2.1 0, 64, .inl f2_49)), (md 22, .inl (g.2.1 0, 12, .inl fCt))]) hF hw (c_X6_lay l g md th (sealL P).length ac an ci ck y3 o3 e (B ++ [126] ++ escL ((sealL P).take i2)) 125 (by assumption) (hL3) (by simp only [List.length_append, List.length_cons, List.length_nil]; omega)) mwX6_112 [0, 2, 3] [1, 4] rfl rfl rfl rfl (by decide) 0 rfl rfl ⟨by decide, by decide⟩ ⟨by decide, by decide⟩ rfl hl.1 (Nat.le_of_ble_eq_true rfl) rfl dX6_ship_152 (fun v u H locs hp hw => ?_)
                        obtain ⟨y2_152, o2_152⟩ := u
                        obtain ⟨rfl, hp_152⟩ := hp
                        try dsimp only at hp_152
                        have hw := Wd.sub (ws' := [(md 0, .inr (5, [.ref (md 1), .int th, .ref (md 2), .ref (md 3), .ref (md 4), .ref (md 5), .ref (md 6), .ref (md 7), .ref (md 8), .ref (md 9), .ref (md 10), .ref (md 11), .ref (md 12), .ref (md 13), .ref (md 14), .ref (md 15), .ref (md 16), .ref (md 17), .ref (md 18), .ref (md 19), .ref (md 20), .ref (md 21), .ref (md 22), .int (nI (sealL P).length), .ref (md 23), .int (nI ac), .int (nI an), .ref (md 24), .int (nI ci), .int (nI ck)])), (md 23, .inl (g.2.1 0, 64, .inl f2_49)), (md 15, .inl (g.2.1 0, 600, .inl y2_152)), (md 14, .inl (g.2.1 0, 2, .inl o2_152)), (md 22, .inl (g.2.1 0, 12, .inl fCt))]) hw [2, 0, 3, 4, 1] rfl rfl
                        refine W.eq (g2 := F0 m 155 ls []) rfl ?_
                        refine lv_aload_n hx hb dX6_ship_155 rfl (lv_at hl 0 rfl) ?_
                        refine lv_iload_n hx hb dX6_ship_156 rfl (lv_at hl 1 rfl) ?_
                        refine lv_aload_n hx hb dX6_ship_157 rfl (lv_at hl 0 rfl) ?_
                        refine wget hF hw flX6_77 dX6_ship_158 0 rfl rfl ?_
                        refine lv_iload hx hb dX6_ship_161 (lv_at hl 4 rfl) ?_
                        refine r_iald hF hw dX6_ship_163 1 rfl (by omega) (by omega) ?_
                        refine r_top (n := (sealL P).getD i2 0) (hpq i2 (by omega)) ?_
                        refine Ct.callS (wr := [(md 0, .inr (5, [.ref (md 1), .int th, .ref (md 2), .ref (md 3), .ref (md 4), .ref (md 5), .ref (md 6), .ref (md 7), .ref (md 8), .ref (md 9), .ref (md 10), .ref (md 11), .ref (md 12), .ref (md 13), .ref (md 14), .ref (md 15), .ref (md 16), .ref (md 17), .ref (md 18), .ref (md 19), .ref (md 20), .ref (md 21), .ref (md 22), .int (nI (sealL P).length), .ref (md 23), .int (nI ac), .int (nI an), .ref (md 24), .int (nI ci), .int (nI ck)])), (md 23, .inl (g.2.1 0, 64, .inl f2_49)), (md 15, .inl (g.2.1 0, 600, .inl y2_152)), (md 14, .inl (g.2.1 0, 2, .inl o2_152)), (md 22, .inl (g.2.1 0, 12, .inl fCt))]) hF hw (c_X6_special l g ((sealL P).getD i2 0) (by omega)) mwX6_104 [] [0, 1, 2, 3, 4] rfl rfl rfl rfl (by decide) ⟨by decide, by decide⟩ ⟨by decide, by decide⟩ rfl hl.1 (Nat.le_of_ble_eq_true rfl) rfl dX6_ship_164 (fun v u H locs hp hw => ?_)
                        obtain ⟨rfl, hp_164⟩ := hp
                        have hw := Wd.sub (ws' := [(md 0, .inr (5, [.ref (md 1), .int th, .ref (md 2), .ref (md 3), .ref (md 4), .ref (md 5), .ref (md 6), .ref (md 7), .ref (md 8), .ref (md 9), .ref (md 10), .ref (md 11), .ref (md 12), .ref (md 13), .ref (md 14), .ref (md 15), .ref (md 16), .ref (md 17), .ref (md 18), .ref (md 19), .ref (md 20), .ref (md 21), .ref (md 22), .int (nI (sealL P).length), .ref (md 23), .int (nI ac), .int (nI an), .ref (md 24), .int (nI ci), .int (nI ck)])), (md 23, .inl (g.2.1 0, 64, .inl f2_49)), (md 15, .inl (g.2.1 0, 600, .inl y2_152)), (md 14, .inl (g.2.1 0, 2, .inl o2_152)), (md 22, .inl (g.2.1 0, 12, .inl fCt))]) hw [0, 1, 2, 3, 4] rfl rfl
                        refine W.eq (g2 := F0 m 167 ls [.int (nI (decide (((sealL P).getD i2 0) = 125 ∨ ((sealL P).getD i2 0) = 126)).toNat), .int (nI e), .ref (md 0)]) rfl ?_
                        refine r_eq0 (tgt := 183) hx hb dX6_ship_167 (by decide) (by omega) (fun c_167 => ?_) (fun c_167 => ?_)
                        · exact absurd c_167 c_145
                        · refine lv_aload_n hx hb dX6_ship_170 rfl (lv_at hl 0 rfl) ?_
                          refine wget hF hw flX6_77 dX6_ship_171 0 rfl rfl ?_
                          refine lv_iload hx hb dX6_ship_174 (lv_at hl 4 rfl) ?_
                          refine r_iald hF hw dX6_ship_176 1 rfl (by omega) (by omega) ?_
                          refine r_top (n := (sealL P).getD i2 0) (hpq i2 (by omega)) ?_
                          refine lv_bipush (v := nI 32) hx hb dX6_ship_177 (by decide) ?_
                          refine r_ixor hx hb dX6_ship_179 ?_
                          refine lv_goto (tgt := 190) hx hb dX6_ship_180 (by decide) ?_
                          refine Ct.callV (wr := [(md 23, .inl (g.2.1 0, 64, .inl f2_49)), (md 22, .inl (g.2.1 0, 12, .inl fCt))]) hF hw (c_X6_lay l g md th (sealL P).length ac an ci ck y2_152 o2_152 e (B ++ [126] ++ escL ((sealL P).take i2) ++ [125]) (((sealL P).getD i2 0) ^^^ 32) (by assumption) (hp_152.1) (by have h1 := escL_dropc (show i2 < (sealL P).length by omega); rw [escB_len_t (dnz c_145)] at h1; simp only [List.length_append, List.length_cons, List.length_nil] at h1 ⊢; omega)) mwX6_112 [0, 2, 3] [1, 4] rfl rfl rfl rfl (by decide) 0 rfl rfl ⟨by decide, by decide⟩ ⟨by decide, by decide⟩ rfl hl.1 (Nat.le_of_ble_eq_true rfl) rfl dX6_ship_190 (fun v u H locs hp hw => ?_)
                          obtain ⟨y2_190, o2_190⟩ := u
                          obtain ⟨rfl, hp_190⟩ := hp
                          try dsimp only at hp_190
                          have hw := Wd.sub (ws' := [(md 0, .inr (5, [.ref (md 1), .int th, .ref (md 2), .ref (md 3), .ref (md 4), .ref (md 5), .ref (md 6), .ref (md 7), .ref (md 8), .ref (md 9), .ref (md 10), .ref (md 11), .ref (md 12), .ref (md 13), .ref (md 14), .ref (md 15), .ref (md 16), .ref (md 17), .ref (md 18), .ref (md 19), .ref (md 20), .ref (md 21), .ref (md 22), .int (nI (sealL P).length), .ref (md 23), .int (nI ac), .int (nI an), .ref (md 24), .int (nI ci), .int (nI ck)])), (md 23, .inl (g.2.1 0, 64, .inl f2_49)), (md 15, .inl (g.2.1 0, 600, .inl y2_190)), (md 14, .inl (g.2.1 0, 2, .inl o2_190)), (md 22, .inl (g.2.1 0, 12, .inl fCt))]) hw [2, 0, 3, 4, 1] rfl rfl
                          refine W.eq (g2 := F0 m 193 ls []) rfl ?_
                          refine r_iinc (k := 4) (d := 1) (lv' := [(4, .int (nI (i2 + 1))), (0, .ref (md 0)), (1, .int (nI e)), (2, .int (nI (crc P))), (3, .int (nI nd))]) hx hb dX6_ship_193 hl rfl (by decide) (by decide) rfl (fun ls hl => ?_)
                          refine lv_goto (tgt := 126) hx hb dX6_ship_196 (by decide) ?_
                          have e9 : B ++ [126] ++ escL ((sealL P).take i2) ++ [125] ++ [(sealL P).getD i2 0 ^^^ 32] = B ++ [126] ++ escL ((sealL P).take (i2 + 1)) := by rw [take_succD (by omega), escL_snoc, escB_len_t (dnz c_145)]; simp
                          rw [e9] at hp_190
                          have hO4 := (hO3.trans hp_152.2).trans hp_190.2
                          exact ih_126 (i2 + 1) y2_190 o2_190 _ _ _ (by omega) (by omega) (hp_190.1) (hO4) hw (lv_sub hl [1, 2, 3, 4, 0] rfl)
                exact lp_126 _ 0 y2_120 o2_120 _ _ _ (Nat.lt_succ_self _) (by omega) (by simpa [escL] using hp_120.1) (hp_120.2) hw (lv_sub hl [1, 2, 3, 4, 0] rfl)
              · refine lv_aload_n hx hb dX6_ship_109 rfl (lv_at hl 0 rfl) ?_
                refine lv_iload_n hx hb dX6_ship_110 rfl (lv_at hl 1 rfl) ?_
                refine lv_iconst (v := nI 2) hx hb dX6_ship_111 (by decide) ?_
                refine Ct.callV (wr := [(md 23, .inl (g.2.1 0, 64, .inl f2_49)), (md 15, .inl (g.2.1 0, 600, .inl fBy)), (md 14, .inl (g.2.1 0, 2, .inl fOl))]) hF hw (c_X6_tally l g md th (sealL P).length ac an ci ck fCt e 2 (by assumption) (by decide)) mwX6_108 [0, 4] [1, 2, 3] rfl rfl rfl rfl (by decide) 0 rfl rfl ⟨by decide, by decide⟩ ⟨by decide, by decide⟩ rfl hl.1 (Nat.le_of_ble_eq_true rfl) rfl dX6_ship_112 (fun v u H locs hp hw => ?_)
                obtain ⟨rfl, hp_112⟩ := hp
                have hw := Wd.sub (ws' := [(md 0, .inr (5, [.ref (md 1), .int th, .ref (md 2), .ref (md 3), .ref (md 4), .ref (md 5), .ref (md 6), .ref (md 7), .ref (md 8), .ref (md 9), .ref (md 10), .ref (md 11), .ref (md 12), .ref (md 13), .ref (md 14), .ref (md 15), .ref (md 16), .ref (md 17), .ref (md 18), .ref (md 19), .ref (md 20), .ref (md 21), .ref (md 22), .int (nI (sealL P).length), .ref (md 23), .int (nI ac), .int (nI an), .ref (md 24), .int (nI ci), .int (nI ck)])), (md 23, .inl (g.2.1 0, 64, .inl f2_49)), (md 15, .inl (g.2.1 0, 600, .inl fBy)), (md 14, .inl (g.2.1 0, 2, .inl fOl)), (md 22, .inl (g.2.1 0, 12, .inl (upd fCt (6 * e + 2) (fCt (6 * e + 2) + nI 1))))]) hw [3, 0, 1, 2, 4] rfl rfl
                refine W.eq (g2 := F0 m 115 ls []) rfl ?_
                exact RQ.vret hF hr hlk hw dX6_ship_115 ⟨by decide, by decide⟩ ((f2_49, fBy, fOl, upd fCt (6 * e + 2) (fCt (6 * e + 2) + nI 1))) (rfl) ⟨rfl, ⟨by rw [shB, if_neg (by omega)]; exact hL, LnO.refl, by rw [shC, if_neg (by omega)]; exact hC.tally (by decide), CtO.tally he (by decide)⟩⟩
            · refine lv_aload_n hx hb dX6_ship_66 rfl (lv_at hl 0 rfl) ?_
              refine wget hF hw flX6_77 dX6_ship_67 0 rfl rfl ?_
              refine lv_iload hx hb dX6_ship_70 (lv_at hl 4 rfl) ?_
              refine r_iald hF hw dX6_ship_72 1 rfl (by omega) (by omega) ?_
              refine r_top (n := (sealL P).getD j 0) (hpq j (by omega)) ?_
              refine Ct.callS (wr := [(md 0, .inr (5, [.ref (md 1), .int th, .ref (md 2), .ref (md 3), .ref (md 4), .ref (md 5), .ref (md 6), .ref (md 7), .ref (md 8), .ref (md 9), .ref (md 10), .ref (md 11), .ref (md 12), .ref (md 13), .ref (md 14), .ref (md 15), .ref (md 16), .ref (md 17), .ref (md 18), .ref (md 19), .ref (md 20), .ref (md 21), .ref (md 22), .int (nI (sealL P).length), .ref (md 23), .int (nI ac), .int (nI an), .ref (md 24), .int (nI ci), .int (nI ck)])), (md 23, .inl (g.2.1 0, 64, .inl f2_49)), (md 15, .inl (g.2.1 0, 600, .inl fBy)), (md 14, .inl (g.2.1 0, 2, .inl fOl)), (md 22, .inl (g.2.1 0, 12, .inl fCt))]) hF hw (c_X6_special l g ((sealL P).getD j 0) (by omega)) mwX6_104 [] [0, 1, 2, 3, 4] rfl rfl rfl rfl (by decide) ⟨by decide, by decide⟩ ⟨by decide, by decide⟩ rfl hl.1 (Nat.le_of_ble_eq_true rfl) rfl dX6_ship_73 (fun v u H locs hp hw => ?_)
              obtain ⟨rfl, hp_73⟩ := hp
              have hw := Wd.sub (ws' := [(md 0, .inr (5, [.ref (md 1), .int th, .ref (md 2), .ref (md 3), .ref (md 4), .ref (md 5), .ref (md 6), .ref (md 7), .ref (md 8), .ref (md 9), .ref (md 10), .ref (md 11), .ref (md 12), .ref (md 13), .ref (md 14), .ref (md 15), .ref (md 16), .ref (md 17), .ref (md 18), .ref (md 19), .ref (md 20), .ref (md 21), .ref (md 22), .int (nI (sealL P).length), .ref (md 23), .int (nI ac), .int (nI an), .ref (md 24), .int (nI ci), .int (nI ck)])), (md 23, .inl (g.2.1 0, 64, .inl f2_49)), (md 15, .inl (g.2.1 0, 600, .inl fBy)), (md 14, .inl (g.2.1 0, 2, .inl fOl)), (md 22, .inl (g.2.1 0, 12, .inl fCt))]) hw [0, 1, 2, 3, 4] rfl rfl
              refine W.eq (g2 := F0 m 76 ls [.int (nI (decide (((sealL P).getD j 0) = 125 ∨ ((sealL P).getD j 0) = 126)).toNat)]) rfl ?_
              have hbl := b_lt (decide ((sealL P).getD j 0 = 125 ∨ (sealL P).getD j 0 = 126))
              refine r_eq0 (tgt := 85) hx hb dX6_ship_76 (by decide) (by omega) (fun c_76 => ?_) (fun c_76 => ?_)
              · refine lv_iload_n hx hb dX6_ship_85 rfl (lv_at hl 3 rfl) ?_
                refine lv_iconst (v := nI 1) hx hb dX6_ship_86 (by decide) ?_
                refine r_iadd hx hb dX6_ship_87 ?_
                refine lv_istore_n (lv' := [(3, .int (nI (nd + 1))), (0, .ref (md 0)), (1, .int (nI e)), (2, .int (nI (crc P))), (4, .int (nI j))]) hx hb dX6_ship_88 rfl hl (by decide) rfl (fun ls hl => ?_)
                refine r_iinc (k := 4) (d := 1) (lv' := [(4, .int (nI (j + 1))), (3, .int (nI (nd + 1))), (0, .ref (md 0)), (1, .int (nI e)), (2, .int (nI (crc P)))]) hx hb dX6_ship_89 hl rfl (by decide) (by decide) rfl (fun ls hl => ?_)
                refine lv_goto (tgt := 57) hx hb dX6_ship_92 (by decide) ?_
                exact ih_57 (j + 1) (nd + 1) _ _ _ (by omega) (by omega) (by first | (rw [take_succD (by omega), escL_snoc, List.length_append, escB_len_t (dnz c_76), List.length_cons, List.length_singleton]; omega) | (rw [take_succD (by omega), escL_snoc, List.length_append, escB_len_f (dz c_76), List.length_singleton]; omega)) hw (lv_sub hl [2, 3, 4, 1, 0] rfl)
              · refine lv_iload_n hx hb dX6_ship_79 rfl (lv_at hl 3 rfl) ?_
                refine lv_iconst (v := nI 2) hx hb dX6_ship_80 (by decide) ?_
                refine r_iadd hx hb dX6_ship_81 ?_
                refine lv_goto (tgt := 88) hx hb dX6_ship_82 (by decide) ?_
                refine lv_istore_n (lv' := [(3, .int (nI (nd + 2))), (0, .ref (md 0)), (1, .int (nI e)), (2, .int (nI (crc P))), (4, .int (nI j))]) hx hb dX6_ship_88 rfl hl (by decide) rfl (fun ls hl => ?_)
                refine r_iinc (k := 4) (d := 1) (lv' := [(4, .int (nI (j + 1))), (3, .int (nI (nd + 2))), (0, .ref (md 0)), (1, .int (nI e)), (2, .int (nI (crc P)))]) hx hb dX6_ship_89 hl rfl (by decide) (by decide) rfl (fun ls hl => ?_)
                refine lv_goto (tgt := 57) hx hb dX6_ship_92 (by decide) ?_
                exact ih_57 (j + 1) (nd + 2) _ _ _ (by omega) (by omega) (by first | (rw [take_succD (by omega), escL_snoc, List.length_append, escB_len_t (dnz c_76), List.length_cons, List.length_singleton]; omega) | (rw [take_succD (by omega), escL_snoc, List.length_append, escB_len_f (dz c_76), List.length_singleton]; omega)) hw (lv_sub hl [2, 3, 4, 1, 0] rfl)
        exact lp_57 _ 0 2 _ _ _ (Nat.lt_succ_self _) (by omega) (by simp [escL]) hw (lv_sub hl [3, 4, 2, 1, 0] rfl)
      · refine lv_iload_n hx hb dX6_ship_13 rfl (lv_at hl 2 rfl) ?_
        refine lv_aload_n hx hb dX6_ship_14 rfl (lv_at hl 0 rfl) ?_
        refine wget hF hw flX6_77 dX6_ship_15 0 rfl rfl ?_
        refine lv_iload_n hx hb dX6_ship_18 rfl (lv_at hl 3 rfl) ?_
        refine r_iald hF hw dX6_ship_19 1 rfl (by omega) (by omega) ?_
        refine r_top (n := P.getD i 0) (hP i (by omega)) ?_
        refine Ct.callS (wr := [(md 0, .inr (5, [.ref (md 1), .int th, .ref (md 2), .ref (md 3), .ref (md 4), .ref (md 5), .ref (md 6), .ref (md 7), .ref (md 8), .ref (md 9), .ref (md 10), .ref (md 11), .ref (md 12), .ref (md 13), .ref (md 14), .ref (md 15), .ref (md 16), .ref (md 17), .ref (md 18), .ref (md 19), .ref (md 20), .ref (md 21), .ref (md 22), .int (nI P.length), .ref (md 23), .int (nI ac), .int (nI an), .ref (md 24), .int (nI ci), .int (nI ck)])), (md 23, .inl (g.2.1 0, 64, .inl fPk)), (md 15, .inl (g.2.1 0, 600, .inl fBy)), (md 14, .inl (g.2.1 0, 2, .inl fOl)), (md 22, .inl (g.2.1 0, 12, .inl fCt))]) hF hw (c_X6_check l g cv (P.getD i 0) (hcl) (hbi)) mwX6_100 [] [0, 1, 2, 3, 4] rfl rfl rfl rfl (by decide) ⟨by decide, by decide⟩ ⟨by decide, by decide⟩ rfl hl.1 (Nat.le_of_ble_eq_true rfl) rfl dX6_ship_20 (fun v u H locs hp hw => ?_)
        obtain ⟨rfl, hp_20⟩ := hp
        have hw := Wd.sub (ws' := [(md 0, .inr (5, [.ref (md 1), .int th, .ref (md 2), .ref (md 3), .ref (md 4), .ref (md 5), .ref (md 6), .ref (md 7), .ref (md 8), .ref (md 9), .ref (md 10), .ref (md 11), .ref (md 12), .ref (md 13), .ref (md 14), .ref (md 15), .ref (md 16), .ref (md 17), .ref (md 18), .ref (md 19), .ref (md 20), .ref (md 21), .ref (md 22), .int (nI P.length), .ref (md 23), .int (nI ac), .int (nI an), .ref (md 24), .int (nI ci), .int (nI ck)])), (md 23, .inl (g.2.1 0, 64, .inl fPk)), (md 15, .inl (g.2.1 0, 600, .inl fBy)), (md 14, .inl (g.2.1 0, 2, .inl fOl)), (md 22, .inl (g.2.1 0, 12, .inl fCt))]) hw [0, 1, 2, 3, 4] rfl rfl
        refine W.eq (g2 := F0 m 23 ls [.int (nI (crcS cv (P.getD i 0)))]) rfl ?_
        refine lv_istore_n (lv' := [(2, .int (nI (crcS cv (P.getD i 0)))), (0, .ref (md 0)), (1, .int (nI e)), (3, .int (nI i))]) hx hb dX6_ship_23 rfl hl (by decide) rfl (fun ls hl => ?_)
        refine r_iinc (k := 3) (d := 1) (lv' := [(3, .int (nI (i + 1))), (2, .int (nI (crcS cv (P.getD i 0)))), (0, .ref (md 0)), (1, .int (nI e))]) hx hb dX6_ship_24 hl rfl (by decide) (by decide) rfl (fun ls hl => ?_)
        refine lv_goto (tgt := 5) hx hb dX6_ship_27 (by decide) ?_
        exact ih_5 (i + 1) (crcS cv (P.getD i 0)) _ _ _ (by omega) (by omega) (by rw [take_succD (by omega), crcF_snoc, ← hc]) hw (lv_sub hl [2, 3, 1, 0] rfl)
  exact lp_5 _ 0 65535 _ _ _ (Nat.lt_succ_self _) (by omega) (rfl) hw (lv_sub hl [2, 3, 1, 0] rfl)
