set_option maxHeartbeats 4000000 in
set_option maxRecDepth 100000 in
theorem c_X4_gather (l : Launch) (g : GE) (o : Nat) (a : Nat) (r : Nat) (f : Nat → Int32) (G : List Nat) (es : Bool) (ov : Bool) (b : Nat) (hG : G.length ≤ 40) (hf : Hd f G) (hb8 : b < 256) : Ct l yX4_gather cX4_gather 2 none { frames := 1, cells := 0, slots := 0, locals := 21 } g [.ref o, .int (nI b)] [(o, .inr (3, [.ref a, .int (nI es.toNat), .int (nI ov.toNat)])), (a, .inr (2, [.ref r, .int (nI G.length)])), (r, .inl (g.2.1 0, 40, .inl f))] (fun (v : Option Value) (u : (Nat → Int32)) => v = none ∧ Hd u (rcv (G, es, ov) b).1) (fun u : (Nat → Int32) => [(o, .inr (3, [.ref a, .int (nI (rcv (G, es, ov) b).2.1.toNat), .int (nI (rcv (G, es, ov) b).2.2.toNat)])), (a, .inr (2, [.ref r, .int (nI (rcv (G, es, ov) b).1.length)])), (r, .inl (g.2.1 0, 40, .inl u))]) := by
  refine Ct.of (own := RX4) rfl rfl (Nat.le_of_ble_eq_true rfl) ?_
  intro P0 e0 s m below meth c ls hF hr hlk hnm hw hl
  have hx := hF.1
  have hb := hF.2.1
  have hl : lv_has ls 2 [(0, .ref o), (1, .int (nI b))] := hl
  have hbe := b_lt es
  have hbo := b_lt ov
  have hxx : b ^^^ 32 < 256 := Nat.xor_lt_two_pow (n := 8) hb8 (by decide)
  refine lv_iload_n hx hb dX4_gather_0 rfl (lv_at hl 1 rfl) ?_
  refine lv_bipush (v := nI 125) hx hb dX4_gather_1 (by decide) ?_
  refine r_ne (tgt := 19) hx hb dX4_gather_3 (by decide) (by omega) (by omega) (fun c_3 => ?_) (fun c_3 => ?_)
  · refine lv_aload_n hx hb dX4_gather_19 rfl (lv_at hl 0 rfl) ?_
    refine wget hF hw flX4_14 dX4_gather_20 0 rfl rfl ?_
    refine wget hF hw flX4_24 dX4_gather_23 1 rfl rfl ?_
    refine lv_bipush (v := nI 40) hx hb dX4_gather_26 (by decide) ?_
    refine r_lt (tgt := 36) hx hb dX4_gather_28 (by decide) (by omega) (by omega) (fun c_28 => ?_) (fun c_28 => ?_)
    · refine lv_aload_n hx hb dX4_gather_36 rfl (lv_at hl 0 rfl) ?_
      refine wget hF hw flX4_14 dX4_gather_37 0 rfl rfl ?_
      refine lv_aload_n hx hb dX4_gather_40 rfl (lv_at hl 0 rfl) ?_
      refine wget hF hw flX4_20 dX4_gather_41 0 rfl rfl ?_
      refine r_eq0 (tgt := 54) hx hb dX4_gather_44 (by decide) (by omega) (fun c_44 => ?_) (fun c_44 => ?_)
      · refine lv_iload_n hx hb dX4_gather_54 rfl (lv_at hl 1 rfl) ?_
        refine Ct.callV (wr := [(o, .inr (3, [.ref a, .int (nI es.toNat), .int (nI ov.toNat)]))]) hF hw (c_X3_add l g a r 40 f G (nI b) b (by decide) (by omega) (by assumption) (by first | (rw [pk_tn (by omega)]; done) | (rw [pk_tn (by omega)]; omega))) mwX4_31 [1, 2] [0] rfl rfl rfl rfl (by decide) 0 rfl rfl ⟨by decide, by decide⟩ ⟨by decide, by decide⟩ rfl hl.1 (Nat.le_of_ble_eq_true rfl) rfl dX4_gather_55 (fun v u H locs hp hw => ?_)
        obtain ⟨f2_55, rfl⟩ : ∃ z, z = u := ⟨_, rfl⟩
        obtain ⟨rfl, hp_55⟩ := hp
        try dsimp only at hp_55
        have hw := Wd.sub (ws' := [(o, .inr (3, [.ref a, .int (nI es.toNat), .int (nI ov.toNat)])), (a, .inr (2, [.ref r, .int (nI (G ++ [b]).length)])), (r, .inl (g.2.1 0, 40, .inl f2_55))]) hw [0, 1, 2] rfl rfl
        refine W.eq (g2 := F0 m 58 ls []) rfl ?_
        refine lv_aload_n hx hb dX4_gather_58 rfl (lv_at hl 0 rfl) ?_
        refine lv_iconst (v := nI 0) hx hb dX4_gather_59 (by decide) ?_
        refine r_put (ws' := [(o, .inr (3, [.ref a, .int (nI 0), .int (nI ov.toNat)])), (a, .inr (2, [.ref r, .int (nI (G ++ [b]).length)])), (r, .inl (g.2.1 0, 40, .inl f2_55))]) hF hw flX4_20 ftX4 dX4_gather_60 0 rfl rfl rfl rfl (Nat.le_of_ble_eq_true rfl) rfl (fun H locs hw => ?_)
        exact RQ.vret hF hr hlk hw dX4_gather_63 ⟨by decide, by decide⟩ ((f2_55)) (by rw [rcv_d (fun h => absurd h (by omega)) (by show G.length < 40; omega) (bz c_44)]; rfl) ⟨rfl, by rw [rcv_d (fun h => absurd h (by omega)) (by show G.length < 40; omega) (bz c_44)]; exact hp_55⟩
      · refine lv_iload_n hx hb dX4_gather_47 rfl (lv_at hl 1 rfl) ?_
        refine lv_bipush (v := nI 32) hx hb dX4_gather_48 (by decide) ?_
        refine r_ixor hx hb dX4_gather_50 ?_
        refine lv_goto (tgt := 55) hx hb dX4_gather_51 (by decide) ?_
        refine Ct.callV (wr := [(o, .inr (3, [.ref a, .int (nI es.toNat), .int (nI ov.toNat)]))]) hF hw (c_X3_add l g a r 40 f G (nI (b ^^^ 32)) (b ^^^ 32) (by decide) (by omega) (by assumption) (by first | (rw [pk_tn (by omega)]; done) | (rw [pk_tn (by omega)]; omega))) mwX4_31 [1, 2] [0] rfl rfl rfl rfl (by decide) 0 rfl rfl ⟨by decide, by decide⟩ ⟨by decide, by decide⟩ rfl hl.1 (Nat.le_of_ble_eq_true rfl) rfl dX4_gather_55 (fun v u H locs hp hw => ?_)
        obtain ⟨f2_55, rfl⟩ : ∃ z, z = u := ⟨_, rfl⟩
        obtain ⟨rfl, hp_55⟩ := hp
        try dsimp only at hp_55
        have hw := Wd.sub (ws' := [(o, .inr (3, [.ref a, .int (nI es.toNat), .int (nI ov.toNat)])), (a, .inr (2, [.ref r, .int (nI (G ++ [(b ^^^ 32)]).length)])), (r, .inl (g.2.1 0, 40, .inl f2_55))]) hw [0, 1, 2] rfl rfl
        refine W.eq (g2 := F0 m 58 ls []) rfl ?_
        refine lv_aload_n hx hb dX4_gather_58 rfl (lv_at hl 0 rfl) ?_
        refine lv_iconst (v := nI 0) hx hb dX4_gather_59 (by decide) ?_
        refine r_put (ws' := [(o, .inr (3, [.ref a, .int (nI 0), .int (nI ov.toNat)])), (a, .inr (2, [.ref r, .int (nI (G ++ [(b ^^^ 32)]).length)])), (r, .inl (g.2.1 0, 40, .inl f2_55))]) hF hw flX4_20 ftX4 dX4_gather_60 0 rfl rfl rfl rfl (Nat.le_of_ble_eq_true rfl) rfl (fun H locs hw => ?_)
        exact RQ.vret hF hr hlk hw dX4_gather_63 ⟨by decide, by decide⟩ ((f2_55)) (by rw [rcv_c (fun _ => bnz c_44) (by show G.length < 40; omega) (bnz c_44)]; rfl) ⟨rfl, by rw [rcv_c (fun _ => bnz c_44) (by show G.length < 40; omega) (bnz c_44)]; exact hp_55⟩
    · refine lv_aload_n hx hb dX4_gather_31 rfl (lv_at hl 0 rfl) ?_
      refine lv_iconst (v := nI 1) hx hb dX4_gather_32 (by decide) ?_
      refine r_put (ws' := [(o, .inr (3, [.ref a, .int (nI es.toNat), .int (nI 1)])), (a, .inr (2, [.ref r, .int (nI G.length)])), (r, .inl (g.2.1 0, 40, .inl f))]) hF hw flX4_28 ftX4 dX4_gather_33 0 rfl rfl rfl rfl (Nat.le_of_ble_eq_true rfl) rfl (fun H locs hw => ?_)
      refine lv_aload_n hx hb dX4_gather_36 rfl (lv_at hl 0 rfl) ?_
      refine wget hF hw flX4_14 dX4_gather_37 0 rfl rfl ?_
      refine lv_aload_n hx hb dX4_gather_40 rfl (lv_at hl 0 rfl) ?_
      refine wget hF hw flX4_20 dX4_gather_41 0 rfl rfl ?_
      refine r_eq0 (tgt := 54) hx hb dX4_gather_44 (by decide) (by omega) (fun c_44 => ?_) (fun c_44 => ?_)
      · refine lv_iload_n hx hb dX4_gather_54 rfl (lv_at hl 1 rfl) ?_
        refine Ct.callV (wr := [(o, .inr (3, [.ref a, .int (nI es.toNat), .int (nI 1)]))]) hF hw (c_X3_addF l g a r 40 f G (nI b) (by decide) (by omega)) mwX4_31 [1, 2] [0] rfl rfl rfl rfl (by decide) 0 rfl rfl ⟨by decide, by decide⟩ ⟨by decide, by decide⟩ rfl hl.1 (Nat.le_of_ble_eq_true rfl) rfl dX4_gather_55 (fun v u H locs hp hw => ?_)
        obtain ⟨rfl, hp_55⟩ := hp
        have hw := Wd.sub (ws' := [(o, .inr (3, [.ref a, .int (nI es.toNat), .int (nI 1)])), (a, .inr (2, [.ref r, .int (nI G.length)])), (r, .inl (g.2.1 0, 40, .inl f))]) hw [0, 1, 2] rfl rfl
        refine W.eq (g2 := F0 m 58 ls []) rfl ?_
        refine lv_aload_n hx hb dX4_gather_58 rfl (lv_at hl 0 rfl) ?_
        refine lv_iconst (v := nI 0) hx hb dX4_gather_59 (by decide) ?_
        refine r_put (ws' := [(o, .inr (3, [.ref a, .int (nI 0), .int (nI 1)])), (a, .inr (2, [.ref r, .int (nI G.length)])), (r, .inl (g.2.1 0, 40, .inl f))]) hF hw flX4_20 ftX4 dX4_gather_60 0 rfl rfl rfl rfl (Nat.le_of_ble_eq_true rfl) rfl (fun H locs hw => ?_)
        exact RQ.vret hF hr hlk hw dX4_gather_63 ⟨by decide, by decide⟩ ((f)) (by rw [rcv_b (fun h => by first | exact absurd h c_3 | exact bnz c_10) (by show 40 ≤ G.length; omega)]; rfl) ⟨rfl, by rw [rcv_b (fun h => by first | exact absurd h c_3 | exact bnz c_10) (by show 40 ≤ G.length; omega)]; exact hf⟩
      · refine lv_iload_n hx hb dX4_gather_47 rfl (lv_at hl 1 rfl) ?_
        refine lv_bipush (v := nI 32) hx hb dX4_gather_48 (by decide) ?_
        refine r_ixor hx hb dX4_gather_50 ?_
        refine lv_goto (tgt := 55) hx hb dX4_gather_51 (by decide) ?_
        refine Ct.callV (wr := [(o, .inr (3, [.ref a, .int (nI es.toNat), .int (nI 1)]))]) hF hw (c_X3_addF l g a r 40 f G (nI (b ^^^ 32)) (by decide) (by omega)) mwX4_31 [1, 2] [0] rfl rfl rfl rfl (by decide) 0 rfl rfl ⟨by decide, by decide⟩ ⟨by decide, by decide⟩ rfl hl.1 (Nat.le_of_ble_eq_true rfl) rfl dX4_gather_55 (fun v u H locs hp hw => ?_)
        obtain ⟨rfl, hp_55⟩ := hp
        have hw := Wd.sub (ws' := [(o, .inr (3, [.ref a, .int (nI es.toNat), .int (nI 1)])), (a, .inr (2, [.ref r, .int (nI G.length)])), (r, .inl (g.2.1 0, 40, .inl f))]) hw [0, 1, 2] rfl rfl
        refine W.eq (g2 := F0 m 58 ls []) rfl ?_
        refine lv_aload_n hx hb dX4_gather_58 rfl (lv_at hl 0 rfl) ?_
        refine lv_iconst (v := nI 0) hx hb dX4_gather_59 (by decide) ?_
        refine r_put (ws' := [(o, .inr (3, [.ref a, .int (nI 0), .int (nI 1)])), (a, .inr (2, [.ref r, .int (nI G.length)])), (r, .inl (g.2.1 0, 40, .inl f))]) hF hw flX4_20 ftX4 dX4_gather_60 0 rfl rfl rfl rfl (Nat.le_of_ble_eq_true rfl) rfl (fun H locs hw => ?_)
        exact RQ.vret hF hr hlk hw dX4_gather_63 ⟨by decide, by decide⟩ ((f)) (by rw [rcv_b (fun h => by first | exact absurd h c_3 | exact bnz c_10) (by show 40 ≤ G.length; omega)]; rfl) ⟨rfl, by rw [rcv_b (fun h => by first | exact absurd h c_3 | exact bnz c_10) (by show 40 ≤ G.length; omega)]; exact hf⟩
  · refine lv_aload_n hx hb dX4_gather_6 rfl (lv_at hl 0 rfl) ?_
    refine wget hF hw flX4_20 dX4_gather_7 0 rfl rfl ?_
    refine r_ne0 (tgt := 19) hx hb dX4_gather_10 (by decide) (by omega) (fun c_10 => ?_) (fun c_10 => ?_)
    · refine lv_aload_n hx hb dX4_gather_19 rfl (lv_at hl 0 rfl) ?_
      refine wget hF hw flX4_14 dX4_gather_20 0 rfl rfl ?_
      refine wget hF hw flX4_24 dX4_gather_23 1 rfl rfl ?_
      refine lv_bipush (v := nI 40) hx hb dX4_gather_26 (by decide) ?_
      refine r_lt (tgt := 36) hx hb dX4_gather_28 (by decide) (by omega) (by omega) (fun c_28 => ?_) (fun c_28 => ?_)
      · refine lv_aload_n hx hb dX4_gather_36 rfl (lv_at hl 0 rfl) ?_
        refine wget hF hw flX4_14 dX4_gather_37 0 rfl rfl ?_
        refine lv_aload_n hx hb dX4_gather_40 rfl (lv_at hl 0 rfl) ?_
        refine wget hF hw flX4_20 dX4_gather_41 0 rfl rfl ?_
        refine r_eq0 (tgt := 54) hx hb dX4_gather_44 (by decide) (by omega) (fun c_44 => ?_) (fun c_44 => ?_)
        · refine lv_iload_n hx hb dX4_gather_54 rfl (lv_at hl 1 rfl) ?_
          refine Ct.callV (wr := [(o, .inr (3, [.ref a, .int (nI es.toNat), .int (nI ov.toNat)]))]) hF hw (c_X3_add l g a r 40 f G (nI b) b (by decide) (by omega) (by assumption) (by first | (rw [pk_tn (by omega)]; done) | (rw [pk_tn (by omega)]; omega))) mwX4_31 [1, 2] [0] rfl rfl rfl rfl (by decide) 0 rfl rfl ⟨by decide, by decide⟩ ⟨by decide, by decide⟩ rfl hl.1 (Nat.le_of_ble_eq_true rfl) rfl dX4_gather_55 (fun v u H locs hp hw => ?_)
          obtain ⟨f2_55, rfl⟩ : ∃ z, z = u := ⟨_, rfl⟩
          obtain ⟨rfl, hp_55⟩ := hp
          try dsimp only at hp_55
          have hw := Wd.sub (ws' := [(o, .inr (3, [.ref a, .int (nI es.toNat), .int (nI ov.toNat)])), (a, .inr (2, [.ref r, .int (nI (G ++ [b]).length)])), (r, .inl (g.2.1 0, 40, .inl f2_55))]) hw [0, 1, 2] rfl rfl
          refine W.eq (g2 := F0 m 58 ls []) rfl ?_
          refine lv_aload_n hx hb dX4_gather_58 rfl (lv_at hl 0 rfl) ?_
          refine lv_iconst (v := nI 0) hx hb dX4_gather_59 (by decide) ?_
          refine r_put (ws' := [(o, .inr (3, [.ref a, .int (nI 0), .int (nI ov.toNat)])), (a, .inr (2, [.ref r, .int (nI (G ++ [b]).length)])), (r, .inl (g.2.1 0, 40, .inl f2_55))]) hF hw flX4_20 ftX4 dX4_gather_60 0 rfl rfl rfl rfl (Nat.le_of_ble_eq_true rfl) rfl (fun H locs hw => ?_)
          exact RQ.vret hF hr hlk hw dX4_gather_63 ⟨by decide, by decide⟩ ((f2_55)) (by rw [rcv_d (fun h => absurd h (by omega)) (by show G.length < 40; omega) (bz c_44)]; rfl) ⟨rfl, by rw [rcv_d (fun h => absurd h (by omega)) (by show G.length < 40; omega) (bz c_44)]; exact hp_55⟩
        · refine lv_iload_n hx hb dX4_gather_47 rfl (lv_at hl 1 rfl) ?_
          refine lv_bipush (v := nI 32) hx hb dX4_gather_48 (by decide) ?_
          refine r_ixor hx hb dX4_gather_50 ?_
          refine lv_goto (tgt := 55) hx hb dX4_gather_51 (by decide) ?_
          refine Ct.callV (wr := [(o, .inr (3, [.ref a, .int (nI es.toNat), .int (nI ov.toNat)]))]) hF hw (c_X3_add l g a r 40 f G (nI (b ^^^ 32)) (b ^^^ 32) (by decide) (by omega) (by assumption) (by first | (rw [pk_tn (by omega)]; done) | (rw [pk_tn (by omega)]; omega))) mwX4_31 [1, 2] [0] rfl rfl rfl rfl (by decide) 0 rfl rfl ⟨by decide, by decide⟩ ⟨by decide, by decide⟩ rfl hl.1 (Nat.le_of_ble_eq_true rfl) rfl dX4_gather_55 (fun v u H locs hp hw => ?_)
          obtain ⟨f2_55, rfl⟩ : ∃ z, z = u := ⟨_, rfl⟩
          obtain ⟨rfl, hp_55⟩ := hp
          try dsimp only at hp_55
          have hw := Wd.sub (ws' := [(o, .inr (3, [.ref a, .int (nI es.toNat), .int (nI ov.toNat)])), (a, .inr (2, [.ref r, .int (nI (G ++ [(b ^^^ 32)]).length)])), (r, .inl (g.2.1 0, 40, .inl f2_55))]) hw [0, 1, 2] rfl rfl
          refine W.eq (g2 := F0 m 58 ls []) rfl ?_
          refine lv_aload_n hx hb dX4_gather_58 rfl (lv_at hl 0 rfl) ?_
          refine lv_iconst (v := nI 0) hx hb dX4_gather_59 (by decide) ?_
          refine r_put (ws' := [(o, .inr (3, [.ref a, .int (nI 0), .int (nI ov.toNat)])), (a, .inr (2, [.ref r, .int (nI (G ++ [(b ^^^ 32)]).length)])), (r, .inl (g.2.1 0, 40, .inl f2_55))]) hF hw flX4_20 ftX4 dX4_gather_60 0 rfl rfl rfl rfl (Nat.le_of_ble_eq_true rfl) rfl (fun H locs hw => ?_)
          exact RQ.vret hF hr hlk hw dX4_gather_63 ⟨by decide, by decide⟩ ((f2_55)) (by rw [rcv_c (fun _ => bnz c_44) (by show G.length < 40; omega) (bnz c_44)]; rfl) ⟨rfl, by rw [rcv_c (fun _ => bnz c_44) (by show G.length < 40; omega) (bnz c_44)]; exact hp_55⟩
      · refine lv_aload_n hx hb dX4_gather_31 rfl (lv_at hl 0 rfl) ?_
        refine lv_iconst (v := nI 1) hx hb dX4_gather_32 (by decide) ?_
        refine r_put (ws' := [(o, .inr (3, [.ref a, .int (nI es.toNat), .int (nI 1)])), (a, .inr (2, [.ref r, .int (nI G.length)])), (r, .inl (g.2.1 0, 40, .inl f))]) hF hw flX4_28 ftX4 dX4_gather_33 0 rfl rfl rfl rfl (Nat.le_of_ble_eq_true rfl) rfl (fun H locs hw => ?_)
        refine lv_aload_n hx hb dX4_gather_36 rfl (lv_at hl 0 rfl) ?_
        refine wget hF hw flX4_14 dX4_gather_37 0 rfl rfl ?_
        refine lv_aload_n hx hb dX4_gather_40 rfl (lv_at hl 0 rfl) ?_
        refine wget hF hw flX4_20 dX4_gather_41 0 rfl rfl ?_
        refine r_eq0 (tgt := 54) hx hb dX4_gather_44 (by decide) (by omega) (fun c_44 => ?_) (fun c_44 => ?_)
        · refine lv_iload_n hx hb dX4_gather_54 rfl (lv_at hl 1 rfl) ?_
          refine Ct.callV (wr := [(o, .inr (3, [.ref a, .int (nI es.toNat), .int (nI 1)]))]) hF hw (c_X3_addF l g a r 40 f G (nI b) (by decide) (by omega)) mwX4_31 [1, 2] [0] rfl rfl rfl rfl (by decide) 0 rfl rfl ⟨by decide, by decide⟩ ⟨by decide, by decide⟩ rfl hl.1 (Nat.le_of_ble_eq_true rfl) rfl dX4_gather_55 (fun v u H locs hp hw => ?_)
          obtain ⟨rfl, hp_55⟩ := hp
          have hw := Wd.sub (ws' := [(o, .inr (3, [.ref a, .int (nI es.toNat), .int (nI 1)])), (a, .inr (2, [.ref r, .int (nI G.length)])), (r, .inl (g.2.1 0, 40, .inl f))]) hw [0, 1, 2] rfl rfl
          refine W.eq (g2 := F0 m 58 ls []) rfl ?_
          refine lv_aload_n hx hb dX4_gather_58 rfl (lv_at hl 0 rfl) ?_
          refine lv_iconst (v := nI 0) hx hb dX4_gather_59 (by decide) ?_
          refine r_put (ws' := [(o, .inr (3, [.ref a, .int (nI 0), .int (nI 1)])), (a, .inr (2, [.ref r, .int (nI G.length)])), (r, .inl (g.2.1 0, 40, .inl f))]) hF hw flX4_20 ftX4 dX4_gather_60 0 rfl rfl rfl rfl (Nat.le_of_ble_eq_true rfl) rfl (fun H locs hw => ?_)
          exact RQ.vret hF hr hlk hw dX4_gather_63 ⟨by decide, by decide⟩ ((f)) (by rw [rcv_b (fun h => by first | exact absurd h c_3 | exact bnz c_10) (by show 40 ≤ G.length; omega)]; rfl) ⟨rfl, by rw [rcv_b (fun h => by first | exact absurd h c_3 | exact bnz c_10) (by show 40 ≤ G.length; omega)]; exact hf⟩
        · refine lv_iload_n hx hb dX4_gather_47 rfl (lv_at hl 1 rfl) ?_
          refine lv_bipush (v := nI 32) hx hb dX4_gather_48 (by decide) ?_
          refine r_ixor hx hb dX4_gather_50 ?_
          refine lv_goto (tgt := 55) hx hb dX4_gather_51 (by decide) ?_
          refine Ct.callV (wr := [(o, .inr (3, [.ref a, .int (nI es.toNat), .int (nI 1)]))]) hF hw (c_X3_addF l g a r 40 f G (nI (b ^^^ 32)) (by decide) (by omega)) mwX4_31 [1, 2] [0] rfl rfl rfl rfl (by decide) 0 rfl rfl ⟨by decide, by decide⟩ ⟨by decide, by decide⟩ rfl hl.1 (Nat.le_of_ble_eq_true rfl) rfl dX4_gather_55 (fun v u H locs hp hw => ?_)
          obtain ⟨rfl, hp_55⟩ := hp
          have hw := Wd.sub (ws' := [(o, .inr (3, [.ref a, .int (nI es.toNat), .int (nI 1)])), (a, .inr (2, [.ref r, .int (nI G.length)])), (r, .inl (g.2.1 0, 40, .inl f))]) hw [0, 1, 2] rfl rfl
          refine W.eq (g2 := F0 m 58 ls []) rfl ?_
          refine lv_aload_n hx hb dX4_gather_58 rfl (lv_at hl 0 rfl) ?_
          refine lv_iconst (v := nI 0) hx hb dX4_gather_59 (by decide) ?_
          refine r_put (ws' := [(o, .inr (3, [.ref a, .int (nI 0), .int (nI 1)])), (a, .inr (2, [.ref r, .int (nI G.length)])), (r, .inl (g.2.1 0, 40, .inl f))]) hF hw flX4_20 ftX4 dX4_gather_60 0 rfl rfl rfl rfl (Nat.le_of_ble_eq_true rfl) rfl (fun H locs hw => ?_)
          exact RQ.vret hF hr hlk hw dX4_gather_63 ⟨by decide, by decide⟩ ((f)) (by rw [rcv_b (fun h => by first | exact absurd h c_3 | exact bnz c_10) (by show 40 ≤ G.length; omega)]; rfl) ⟨rfl, by rw [rcv_b (fun h => by first | exact absurd h c_3 | exact bnz c_10) (by show 40 ≤ G.length; omega)]; exact hf⟩
    · refine lv_aload_n hx hb dX4_gather_13 rfl (lv_at hl 0 rfl) ?_
      refine lv_iconst (v := nI 1) hx hb dX4_gather_14 (by decide) ?_
      refine r_put (ws' := [(o, .inr (3, [.ref a, .int (nI 1), .int (nI ov.toNat)])), (a, .inr (2, [.ref r, .int (nI G.length)])), (r, .inl (g.2.1 0, 40, .inl f))]) hF hw flX4_20 ftX4 dX4_gather_15 0 rfl rfl rfl rfl (Nat.le_of_ble_eq_true rfl) rfl (fun H locs hw => ?_)
      exact RQ.vret hF hr hlk hw dX4_gather_18 ⟨by decide, by decide⟩ ((f)) (by rw [rcv_a c_3 (bz c_10)]; rfl) ⟨rfl, by rw [rcv_a c_3 (bz c_10)]; exact hf⟩

set_option maxHeartbeats 4000000 in
set_option maxRecDepth 100000 in
theorem c_X4_isEmpty (l : Launch) (g : GE) (o : Nat) (a : Nat) (r : Nat) (f : Nat → Int32) (G : List Nat) (es : Bool) (ov : Bool) (hG : G.length ≤ 40) (hf : Hd f G) : Ct l yX4_isEmpty cX4_isEmpty 1 (some .boolean) { frames := 0, cells := 0, slots := 0, locals := 0 } g [.ref o] [(o, .inr (3, [.ref a, .int (nI es.toNat), .int (nI ov.toNat)])), (a, .inr (2, [.ref r, .int (nI G.length)])), (r, .inl (g.2.1 0, 40, .inl f))] (fun (v : Option Value) (u : Unit) => v = some (.int (nI (decide (G = [] ∧ es = false)).toNat)) ∧ True) (fun u : Unit => [(o, .inr (3, [.ref a, .int (nI es.toNat), .int (nI ov.toNat)])), (a, .inr (2, [.ref r, .int (nI G.length)])), (r, .inl (g.2.1 0, 40, .inl f))]) := by
  refine Ct.of (own := RX4) rfl rfl (Nat.le_of_ble_eq_true rfl) ?_
  intro P0 e0 s m below meth c ls hF hr hlk hnm hw hl
  have hx := hF.1
  have hb := hF.2.1
  have hl : lv_has ls 1 [(0, .ref o)] := hl
  have hbe := b_lt es
  have hG0 : G.length = 0 ↔ G = [] := List.length_eq_zero_iff
  refine lv_aload_n hx hb dX4_isEmpty_0 rfl (lv_at hl 0 rfl) ?_
  refine wget hF hw flX4_14 dX4_isEmpty_1 0 rfl rfl ?_
  refine wget hF hw flX4_24 dX4_isEmpty_4 1 rfl rfl ?_
  refine r_ne0 (tgt := 21) hx hb dX4_isEmpty_7 (by decide) (by omega) (fun c_7 => ?_) (fun c_7 => ?_)
  · refine lv_iconst (v := nI 0) hx hb dX4_isEmpty_21 (by decide) ?_
    exact RQ.zret hF hr hlk hw dX4_isEmpty_22 (rfl) ⟨by decide, by decide⟩ (()) (rfl) ⟨by first | exact rbt (decide_eq_true ⟨hG0.mp c_7, bz c_14⟩) | exact rbf (decide_eq_false (fun q => c_7 (hG0.mpr q.1))) | exact rbf (decide_eq_false (fun q => by rw [bnz c_14] at q; exact absurd q.2 (by decide))), trivial⟩
  · refine lv_aload_n hx hb dX4_isEmpty_10 rfl (lv_at hl 0 rfl) ?_
    refine wget hF hw flX4_20 dX4_isEmpty_11 0 rfl rfl ?_
    refine r_ne0 (tgt := 21) hx hb dX4_isEmpty_14 (by decide) (by omega) (fun c_14 => ?_) (fun c_14 => ?_)
    · refine lv_iconst (v := nI 0) hx hb dX4_isEmpty_21 (by decide) ?_
      exact RQ.zret hF hr hlk hw dX4_isEmpty_22 (rfl) ⟨by decide, by decide⟩ (()) (rfl) ⟨by first | exact rbt (decide_eq_true ⟨hG0.mp c_7, bz c_14⟩) | exact rbf (decide_eq_false (fun q => c_7 (hG0.mpr q.1))) | exact rbf (decide_eq_false (fun q => by rw [bnz c_14] at q; exact absurd q.2 (by decide))), trivial⟩
    · refine lv_iconst (v := nI 1) hx hb dX4_isEmpty_17 (by decide) ?_
      refine lv_goto (tgt := 22) hx hb dX4_isEmpty_18 (by decide) ?_
      exact RQ.zret hF hr hlk hw dX4_isEmpty_22 (rfl) ⟨by decide, by decide⟩ (()) (rfl) ⟨by first | exact rbt (decide_eq_true ⟨hG0.mp c_7, bz c_14⟩) | exact rbf (decide_eq_false (fun q => c_7 (hG0.mpr q.1))) | exact rbf (decide_eq_false (fun q => by rw [bnz c_14] at q; exact absurd q.2 (by decide))), trivial⟩

set_option maxHeartbeats 4000000 in
set_option maxRecDepth 100000 in
theorem c_X4_holdsPacket (l : Launch) (g : GE) (o : Nat) (a : Nat) (r : Nat) (f : Nat → Int32) (G : List Nat) (es : Bool) (ov : Bool) (hG : G.length ≤ 40) (hf : Hd f G) (hB : Bt G) : Ct l yX4_holdsPacket cX4_holdsPacket 1 (some .boolean) { frames := 2, cells := 0, slots := 0, locals := 44 } g [.ref o] [(o, .inr (3, [.ref a, .int (nI es.toNat), .int (nI ov.toNat)])), (a, .inr (2, [.ref r, .int (nI G.length)])), (r, .inl (g.2.1 0, 40, .inl f))] (fun (v : Option Value) (u : Unit) => v = some (.int (nI (holdsP (G, es, ov)).toNat)) ∧ True) (fun u : Unit => [(o, .inr (3, [.ref a, .int (nI es.toNat), .int (nI ov.toNat)])), (a, .inr (2, [.ref r, .int (nI G.length)])), (r, .inl (g.2.1 0, 40, .inl f))]) := by
  refine Ct.of (own := RX4) rfl rfl (Nat.le_of_ble_eq_true rfl) ?_
  intro P0 e0 s m below meth c ls hF hr hlk hnm hw hl
  have hx := hF.1
  have hb := hF.2.1
  have hl : lv_has ls 1 [(0, .ref o)] := hl
  have hbe := b_lt es
  have hbo := b_lt ov
  have hbs := b_lt (isSeal G)
  refine lv_aload_n hx hb dX4_holdsPacket_0 rfl (lv_at hl 0 rfl) ?_
  refine wget hF hw flX4_28 dX4_holdsPacket_1 0 rfl rfl ?_
  refine r_ne0 (tgt := 28) hx hb dX4_holdsPacket_4 (by decide) (by omega) (fun c_4 => ?_) (fun c_4 => ?_)
  · refine lv_iconst (v := nI 0) hx hb dX4_holdsPacket_28 (by decide) ?_
    exact RQ.zret hF hr hlk hw dX4_holdsPacket_29 (rfl) ⟨by decide, by decide⟩ (()) (rfl) ⟨by first | exact rbt (by unfold holdsP; rw [bz c_4, bz c_11, bnz c_21]; rfl) | exact rbf (by unfold holdsP; rw [bnz c_4]; rfl) | exact rbf (by unfold holdsP; rw [bnz c_11]; exact Bool.and_false _) | exact rbf (by unfold holdsP; rw [bz c_21]; simp), trivial⟩
  · refine lv_aload_n hx hb dX4_holdsPacket_7 rfl (lv_at hl 0 rfl) ?_
    refine wget hF hw flX4_20 dX4_holdsPacket_8 0 rfl rfl ?_
    refine r_ne0 (tgt := 28) hx hb dX4_holdsPacket_11 (by decide) (by omega) (fun c_11 => ?_) (fun c_11 => ?_)
    · refine lv_iconst (v := nI 0) hx hb dX4_holdsPacket_28 (by decide) ?_
      exact RQ.zret hF hr hlk hw dX4_holdsPacket_29 (rfl) ⟨by decide, by decide⟩ (()) (rfl) ⟨by first | exact rbt (by unfold holdsP; rw [bz c_4, bz c_11, bnz c_21]; rfl) | exact rbf (by unfold holdsP; rw [bnz c_4]; rfl) | exact rbf (by unfold holdsP; rw [bnz c_11]; exact Bool.and_false _) | exact rbf (by unfold holdsP; rw [bz c_21]; simp), trivial⟩
    · refine lv_aload_n hx hb dX4_holdsPacket_14 rfl (lv_at hl 0 rfl) ?_
      refine wget hF hw flX4_14 dX4_holdsPacket_15 0 rfl rfl ?_
      refine Ct.callV (wr := [(o, .inr (3, [.ref a, .int (nI es.toNat), .int (nI ov.toNat)]))]) hF hw (c_X3_isSealed l g a r 40 f G (by decide) (by assumption) (by assumption) (by assumption)) mwX4_34 [1, 2] [0] rfl rfl rfl rfl (by decide) 0 rfl rfl ⟨by decide, by decide⟩ ⟨by decide, by decide⟩ rfl hl.1 (Nat.le_of_ble_eq_true rfl) rfl dX4_holdsPacket_18 (fun v u H locs hp hw => ?_)
      obtain ⟨rfl, hp_18⟩ := hp
      have hw := Wd.sub (ws' := [(o, .inr (3, [.ref a, .int (nI es.toNat), .int (nI ov.toNat)])), (a, .inr (2, [.ref r, .int (nI G.length)])), (r, .inl (g.2.1 0, 40, .inl f))]) hw [0, 1, 2] rfl rfl
      refine W.eq (g2 := F0 m 21 ls [.int (nI (isSeal G).toNat)]) rfl ?_
      refine r_eq0 (tgt := 28) hx hb dX4_holdsPacket_21 (by decide) (by omega) (fun c_21 => ?_) (fun c_21 => ?_)
      · refine lv_iconst (v := nI 0) hx hb dX4_holdsPacket_28 (by decide) ?_
        exact RQ.zret hF hr hlk hw dX4_holdsPacket_29 (rfl) ⟨by decide, by decide⟩ (()) (rfl) ⟨by first | exact rbt (by unfold holdsP; rw [bz c_4, bz c_11, bnz c_21]; rfl) | exact rbf (by unfold holdsP; rw [bnz c_4]; rfl) | exact rbf (by unfold holdsP; rw [bnz c_11]; exact Bool.and_false _) | exact rbf (by unfold holdsP; rw [bz c_21]; simp), trivial⟩
      · refine lv_iconst (v := nI 1) hx hb dX4_holdsPacket_24 (by decide) ?_
        refine lv_goto (tgt := 29) hx hb dX4_holdsPacket_25 (by decide) ?_
        exact RQ.zret hF hr hlk hw dX4_holdsPacket_29 (rfl) ⟨by decide, by decide⟩ (()) (rfl) ⟨by first | exact rbt (by unfold holdsP; rw [bz c_4, bz c_11, bnz c_21]; rfl) | exact rbf (by unfold holdsP; rw [bnz c_4]; rfl) | exact rbf (by unfold holdsP; rw [bnz c_11]; exact Bool.and_false _) | exact rbf (by unfold holdsP; rw [bz c_21]; simp), trivial⟩

set_option maxHeartbeats 4000000 in
set_option maxRecDepth 100000 in
theorem c_X4_clear (l : Launch) (g : GE) (o : Nat) (a : Nat) (r : Nat) (f : Nat → Int32) (G : List Nat) (es : Bool) (ov : Bool)  : Ct l yX4_clear cX4_clear 1 none { frames := 0, cells := 0, slots := 0, locals := 0 } g [.ref o] [(o, .inr (3, [.ref a, .int (nI es.toNat), .int (nI ov.toNat)])), (a, .inr (2, [.ref r, .int (nI G.length)])), (r, .inl (g.2.1 0, 40, .inl f))] (fun (v : Option Value) (u : Unit) => v = none ∧ True) (fun u : Unit => [(o, .inr (3, [.ref a, .int (nI false.toNat), .int (nI false.toNat)])), (a, .inr (2, [.ref r, .int (nI ([] : List Nat).length)])), (r, .inl (g.2.1 0, 40, .inl f))]) := by
  refine Ct.of (own := RX4) rfl rfl (Nat.le_of_ble_eq_true rfl) ?_
  intro P0 e0 s m below meth c ls hF hr hlk hnm hw hl
  have hx := hF.1
  have hb := hF.2.1
  have hl : lv_has ls 1 [(0, .ref o)] := hl
  refine lv_aload_n hx hb dX4_clear_0 rfl (lv_at hl 0 rfl) ?_
  refine wget hF hw flX4_14 dX4_clear_1 0 rfl rfl ?_
  refine lv_iconst (v := nI 0) hx hb dX4_clear_4 (by decide) ?_
  refine r_put (ws' := [(o, .inr (3, [.ref a, .int (nI es.toNat), .int (nI ov.toNat)])), (a, .inr (2, [.ref r, .int (nI 0)])), (r, .inl (g.2.1 0, 40, .inl f))]) hF hw flX4_24 ftX3 dX4_clear_5 1 rfl rfl rfl rfl (Nat.le_of_ble_eq_true rfl) rfl (fun H locs hw => ?_)
  refine lv_aload_n hx hb dX4_clear_8 rfl (lv_at hl 0 rfl) ?_
  refine lv_iconst (v := nI 0) hx hb dX4_clear_9 (by decide) ?_
  refine r_put (ws' := [(o, .inr (3, [.ref a, .int (nI 0), .int (nI ov.toNat)])), (a, .inr (2, [.ref r, .int (nI 0)])), (r, .inl (g.2.1 0, 40, .inl f))]) hF hw flX4_20 ftX4 dX4_clear_10 0 rfl rfl rfl rfl (Nat.le_of_ble_eq_true rfl) rfl (fun H locs hw => ?_)
  refine lv_aload_n hx hb dX4_clear_13 rfl (lv_at hl 0 rfl) ?_
  refine lv_iconst (v := nI 0) hx hb dX4_clear_14 (by decide) ?_
  refine r_put (ws' := [(o, .inr (3, [.ref a, .int (nI 0), .int (nI 0)])), (a, .inr (2, [.ref r, .int (nI 0)])), (r, .inl (g.2.1 0, 40, .inl f))]) hF hw flX4_28 ftX4 dX4_clear_15 0 rfl rfl rfl rfl (Nat.le_of_ble_eq_true rfl) rfl (fun H locs hw => ?_)
  exact RQ.vret hF hr hlk hw dX4_clear_18 ⟨by decide, by decide⟩ (()) (rfl) ⟨rfl, trivial⟩
