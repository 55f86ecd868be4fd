set_option maxHeartbeats 4000000 in
set_option maxRecDepth 100000 in
theorem c_J0_coder_7d493 (l : Launch) (g : GE) (i : Nat) (hi : i < 18) : Ct l yJ0_coder_7d493 cJ0_coder_7d493 1 (some .byte) { frames := 0, cells := 0, slots := 0, locals := 0 } g [.ref (g.2.2 1 i)] [] (fun (v : Option Value) (u : Unit) => v = some (.int (nI 0)) ∧ True) (fun u : Unit => []) := by
  refine Ct.of (own := RJ0) rfl rfl (Nat.le_of_ble_eq_true rfl) ?_
  intro P0 e0 s m below meth c ls hF hr hlk hnm hw hl
  have hx := hF.1
  have hb := hF.2.1
  have hl : lv_has ls 1 [(0, .ref (g.2.2 1 i))] := hl
  refine wgetZ hF hw hw.2.2.2.2.2.2.2.2.1 tw358 dJ0_coder_7d493_0 ?_
  refine r_top (n := 1) rfl ?_
  refine r_eq0 (tgt := 13) hx hb dJ0_coder_7d493_3 (by decide) (by omega) (fun c_3 => ?_) (fun c_3 => ?_)
  · exact absurd c_3 (by decide)
  · refine lv_aload_n hx hb dJ0_coder_7d493_6 rfl (lv_at hl 0 rfl) ?_
    refine wgetK hF hw (hw.2.2.2.2.2.2.2.1 i hi).2.1 (Or.inl tw1050) dJ0_coder_7d493_7 ?_
    refine r_top (n := 0) rfl ?_
    refine lv_goto (tgt := 14) hx hb dJ0_coder_7d493_10 (by decide) ?_
    exact RQ.zret hF hr hlk hw dJ0_coder_7d493_14 (rfl) ⟨by decide, by decide⟩ (()) (rfl) ⟨rfl, trivial⟩

set_option maxHeartbeats 4000000 in
set_option maxRecDepth 100000 in
theorem c_J0_length_8abf5 (l : Launch) (g : GE) (i : Nat) (hi : i < 18) : Ct l yJ0_length_8abf5 cJ0_length_8abf5 1 (some .int) { frames := 1, cells := 0, slots := 0, locals := 20 } g [.ref (g.2.2 1 i)] [] (fun (v : Option Value) (u : Unit) => v = some (.int (nI (evLen.getD i 0))) ∧ True) (fun u : Unit => []) := by
  refine Ct.of (own := RJ0) rfl rfl (Nat.le_of_ble_eq_true rfl) ?_
  intro P0 e0 s m below meth c ls hF hr hlk hnm hw hl
  have hx := hF.1
  have hb := hF.2.1
  have hl : lv_has ls 1 [(0, .ref (g.2.2 1 i))] := hl
  have hev := ev_len i hi
  refine lv_aload_n hx hb dJ0_length_8abf5_0 rfl (lv_at hl 0 rfl) ?_
  refine wgetK hF hw (hw.2.2.2.2.2.2.2.1 i hi).2.2.1 (Or.inl tw1049) dJ0_length_8abf5_1 ?_
  refine va_tlen hx hb (hw.2.2.2.2.2.2.2.1 i hi).2.2.2 hw.2.2.2.1 (v := nI (evLen.getD i 0)) rfl dJ0_length_8abf5_4 ?_
  refine lv_aload_n hx hb dJ0_length_8abf5_5 rfl (lv_at hl 0 rfl) ?_
  refine Ct.callVK (wr := []) hF hw (c_J0_coder_7d493 l g i (by assumption)) mwJ0_335 [] [] rfl rfl rfl rfl (by decide) ((hw.2.2.2.2.2.2.2.1 i hi).1) ⟨by decide, by decide⟩ ⟨by decide, by decide⟩ rfl hl.1 (Nat.le_of_ble_eq_true rfl) rfl dJ0_length_8abf5_6 (fun v u H locs hp hw => ?_)
  obtain ⟨rfl, hp_6⟩ := hp
  refine W.eq (g2 := F0 m 9 ls [.int (nI 0), .int (nI (evLen.getD i 0))]) rfl ?_
  refine r_ishr hx hb dJ0_length_8abf5_9 (by omega) (by decide) ?_
  exact RQ.iret hF hr hlk hw dJ0_length_8abf5_10 ⟨by decide, by decide⟩ (()) (rfl) ⟨by rw [Nat.pow_zero, Nat.div_one], trivial⟩

set_option maxHeartbeats 4000000 in
set_option maxRecDepth 100000 in
theorem c_J0_isLatin1_aae02 (l : Launch) (g : GE) (i : Nat) (hi : i < 18) : Ct l yJ0_isLatin1_aae02 cJ0_isLatin1_aae02 1 (some .boolean) { frames := 0, cells := 0, slots := 0, locals := 0 } g [.ref (g.2.2 1 i)] [] (fun (v : Option Value) (u : Unit) => v = some (.int (nI 1)) ∧ True) (fun u : Unit => []) := by
  refine Ct.of (own := RJ0) rfl rfl (Nat.le_of_ble_eq_true rfl) ?_
  intro P0 e0 s m below meth c ls hF hr hlk hnm hw hl
  have hx := hF.1
  have hb := hF.2.1
  have hl : lv_has ls 1 [(0, .ref (g.2.2 1 i))] := hl
  refine wgetZ hF hw hw.2.2.2.2.2.2.2.2.1 tw358 dJ0_isLatin1_aae02_0 ?_
  refine r_top (n := 1) rfl ?_
  refine r_eq0 (tgt := 17) hx hb dJ0_isLatin1_aae02_3 (by decide) (by omega) (fun c_3 => ?_) (fun c_3 => ?_)
  · exact absurd c_3 (by decide)
  · refine lv_aload_n hx hb dJ0_isLatin1_aae02_6 rfl (lv_at hl 0 rfl) ?_
    refine wgetK hF hw (hw.2.2.2.2.2.2.2.1 i hi).2.1 (Or.inl tw1050) dJ0_isLatin1_aae02_7 ?_
    refine r_top (n := 0) rfl ?_
    refine r_ne0 (tgt := 17) hx hb dJ0_isLatin1_aae02_10 (by decide) (by omega) (fun c_10 => ?_) (fun c_10 => ?_)
    · exact absurd rfl c_10
    · refine lv_iconst (v := nI 1) hx hb dJ0_isLatin1_aae02_13 (by decide) ?_
      refine lv_goto (tgt := 18) hx hb dJ0_isLatin1_aae02_14 (by decide) ?_
      exact RQ.zret hF hr hlk hw dJ0_isLatin1_aae02_18 (rfl) ⟨by decide, by decide⟩ (()) (rfl) ⟨rfl, trivial⟩

set_option maxHeartbeats 4000000 in
set_option maxRecDepth 100000 in
theorem c_J3_checkIndex_8e157 (l : Launch) (g : GE) (k : Nat) (n : Nat) (fv : Value) (hk : k < n) (hn : n < 2147483648) (hfv : fv.category = 1) : Ct l yJ3_checkIndex_8e157 cJ3_checkIndex_8e157 3 (some .int) { frames := 0, cells := 0, slots := 0, locals := 0 } g [.int (nI k), .int (nI n), fv] [] (fun (v : Option Value) (u : Unit) => v = some (.int (nI k)) ∧ True) (fun u : Unit => []) := by
  refine Ct.of (own := RJ3) rfl rfl (by cases fv <;> first | exact Nat.le_of_ble_eq_true rfl | cases hfv) ?_
  intro P0 e0 s m below meth c ls hF hr hlk hnm hw hl
  have hx := hF.1
  have hb := hF.2.1
  have hl : lv_has ls 3 [(0, .int (nI k)), (1, .int (nI n)), (2, fv)] := hl
  refine lv_iload_n hx hb dJ3_checkIndex_8e157_0 rfl (lv_at hl 0 rfl) ?_
  refine r_lt0 (tgt := 9) hx hb dJ3_checkIndex_8e157_1 (by decide) (by omega) (fun c_1 => ?_) (fun c_1 => ?_)
  · exact absurd c_1 id
  · refine lv_iload_n hx hb dJ3_checkIndex_8e157_4 rfl (lv_at hl 0 rfl) ?_
    refine lv_iload_n hx hb dJ3_checkIndex_8e157_5 rfl (lv_at hl 1 rfl) ?_
    refine r_lt (tgt := 16) hx hb dJ3_checkIndex_8e157_6 (by decide) (by omega) (by omega) (fun c_6 => ?_) (fun c_6 => ?_)
    · refine lv_iload_n hx hb dJ3_checkIndex_8e157_16 rfl (lv_at hl 0 rfl) ?_
      exact RQ.iret hF hr hlk hw dJ3_checkIndex_8e157_17 ⟨by decide, by decide⟩ (()) (rfl) ⟨rfl, trivial⟩
    · exact absurd c_6 (by omega)

set_option maxHeartbeats 4000000 in
set_option maxRecDepth 100000 in
theorem c_J0_checkIndex_df160 (l : Launch) (g : GE) (k : Nat) (n : Nat) (hk : k < n) (hn : n < 2147483648) : Ct l yJ0_checkIndex_df160 cJ0_checkIndex_df160 2 none { frames := 1, cells := 0, slots := 0, locals := 22 } g [.int (nI k), .int (nI n)] [] (fun (v : Option Value) (u : Unit) => v = none ∧ True) (fun u : Unit => []) := by
  refine Ct.of (own := RJ0) rfl rfl (Nat.le_of_ble_eq_true rfl) ?_
  intro P0 e0 s m below meth c ls hF hr hlk hnm hw hl
  have hx := hF.1
  have hb := hF.2.1
  have hl : lv_has ls 2 [(0, .int (nI k)), (1, .int (nI n))] := hl
  refine lv_iload_n hx hb dJ0_checkIndex_df160_0 rfl (lv_at hl 0 rfl) ?_
  refine lv_iload_n hx hb dJ0_checkIndex_df160_1 rfl (lv_at hl 1 rfl) ?_
  refine wgetQ hF hw hw.2.2.2.2.2.2.2.2.2.1 tw374 dJ0_checkIndex_df160_2 (fun fv hfv => ?_)
  refine Ct.callS (wr := []) hF hw (c_J3_checkIndex_8e157 l g k n fv (by assumption) (by assumption) (by assumption)) mwJ0_1059 [] [] rfl rfl rfl rfl (by decide) ⟨by decide, by decide⟩ ⟨by decide, by decide⟩ rfl hl.1 (Nat.le_of_ble_eq_true rfl) rfl dJ0_checkIndex_df160_5 (fun v u H locs hp hw => ?_)
  obtain ⟨rfl, hp_5⟩ := hp
  refine W.eq (g2 := F0 m 8 ls [.int (nI k)]) rfl ?_
  refine lv_pop hx hb dJ0_checkIndex_df160_8 rfl ?_
  exact RQ.vret hF hr hlk hw dJ0_checkIndex_df160_9 ⟨by decide, by decide⟩ (()) (rfl) ⟨rfl, trivial⟩

set_option maxHeartbeats 4000000 in
set_option maxRecDepth 100000 in
theorem c_J1_charAt_3b067 (l : Launch) (g : GE) (i : Nat) (k : Nat) (hi : i < 18) (hk : k < evLen.getD i 0) : Ct l yJ1_charAt_3b067 cJ1_charAt_3b067 2 (some .char) { frames := 2, cells := 0, slots := 0, locals := 43 } g [.ref (g.2.2 2 i), .int (nI k)] [] (fun (v : Option Value) (u : Unit) => v = some (.int (nI (evC i k))) ∧ True) (fun u : Unit => []) := by
  refine Ct.of (own := RJ1) rfl rfl (Nat.le_of_ble_eq_true rfl) ?_
  intro P0 e0 s m below meth c ls hF hr hlk hnm hw hl
  have hx := hF.1
  have hb := hF.2.1
  have hl : lv_has ls 2 [(0, .ref (g.2.2 2 i)), (1, .int (nI k))] := hl
  have hev := ev_len i hi
  have hch := ev_all i hi k hk
  refine lv_iload_n hx hb dJ1_charAt_3b067_0 rfl (lv_at hl 1 rfl) ?_
  refine lv_aload_n hx hb dJ1_charAt_3b067_1 rfl (lv_at hl 0 rfl) ?_
  refine va_tlen hx hb (hw.2.2.2.2.2.2.2.1 i hi).2.2.2 hw.2.2.2.1 (v := nI (evLen.getD i 0)) rfl dJ1_charAt_3b067_2 ?_
  refine Ct.callS (wr := []) hF hw (c_J0_checkIndex_df160 l g k (evLen.getD i 0) (by assumption) (by omega)) mwJ1_9 [] [] rfl rfl rfl rfl (by decide) ⟨by decide, by decide⟩ ⟨by decide, by decide⟩ rfl hl.1 (Nat.le_of_ble_eq_true rfl) rfl dJ1_charAt_3b067_3 (fun v u H locs hp hw => ?_)
  obtain ⟨rfl, hp_3⟩ := hp
  refine W.eq (g2 := F0 m 6 ls []) rfl ?_
  refine lv_aload_n hx hb dJ1_charAt_3b067_6 rfl (lv_at hl 0 rfl) ?_
  refine lv_iload_n hx hb dJ1_charAt_3b067_7 rfl (lv_at hl 1 rfl) ?_
  refine va_tb hx hb (hw.2.2.2.2.2.2.2.1 i hi).2.2.2 hw.2.2.2.1 (vp_in_nI hk (by omega)) (v := .int (nI (evC i k))) (by rw [nI_clamp (by omega), hch.1]) dJ1_charAt_3b067_8 ?_
  refine lv_sipush (v := nI 255) hx hb dJ1_charAt_3b067_9 (by decide) ?_
  refine r_iand hx hb dJ1_charAt_3b067_12 8 (by omega) (by decide) ?_
  refine r_i2c hx hb dJ1_charAt_3b067_13 (by omega) ?_
  exact RQ.zret hF hr hlk hw dJ1_charAt_3b067_14 ((pk_charN (by omega)).1) ⟨by decide, by decide⟩ (()) (rfl) ⟨by rw [Nat.mod_eq_of_lt (by omega)], trivial⟩

set_option maxHeartbeats 4000000 in
set_option maxRecDepth 100000 in
theorem c_J0_charAt_5068e (l : Launch) (g : GE) (i : Nat) (k : Nat) (hi : i < 18) (hk : k < evLen.getD i 0) : Ct l yJ0_charAt_5068e cJ0_charAt_5068e 2 (some .char) { frames := 3, cells := 0, slots := 0, locals := 64 } g [.ref (g.2.2 1 i), .int (nI k)] [] (fun (v : Option Value) (u : Unit) => v = some (.int (nI (evC i k))) ∧ True) (fun u : Unit => []) := by
  refine Ct.of (own := RJ0) rfl rfl (Nat.le_of_ble_eq_true rfl) ?_
  intro P0 e0 s m below meth c ls hF hr hlk hnm hw hl
  have hx := hF.1
  have hb := hF.2.1
  have hl : lv_has ls 2 [(0, .ref (g.2.2 1 i)), (1, .int (nI k))] := hl
  have hch := ev_all i hi k hk
  refine lv_aload_n hx hb dJ0_charAt_5068e_0 rfl (lv_at hl 0 rfl) ?_
  refine Ct.callVK (wr := []) hF hw (c_J0_isLatin1_aae02 l g i (by assumption)) mwJ0_492 [] [] rfl rfl rfl rfl (by decide) ((hw.2.2.2.2.2.2.2.1 i hi).1) ⟨by decide, by decide⟩ ⟨by decide, by decide⟩ rfl hl.1 (Nat.le_of_ble_eq_true rfl) rfl dJ0_charAt_5068e_1 (fun v u H locs hp hw => ?_)
  obtain ⟨rfl, hp_1⟩ := hp
  refine W.eq (g2 := F0 m 4 ls [.int (nI 1)]) rfl ?_
  refine r_eq0 (tgt := 16) hx hb dJ0_charAt_5068e_4 (by decide) (by omega) (fun c_4 => ?_) (fun c_4 => ?_)
  · exact absurd c_4 (by decide)
  · refine lv_aload_n hx hb dJ0_charAt_5068e_7 rfl (lv_at hl 0 rfl) ?_
    refine wgetK hF hw (hw.2.2.2.2.2.2.2.1 i hi).2.2.1 (Or.inl tw1049) dJ0_charAt_5068e_8 ?_
    refine lv_iload_n hx hb dJ0_charAt_5068e_11 rfl (lv_at hl 1 rfl) ?_
    refine Ct.callS (wr := []) hF hw (c_J1_charAt_3b067 l g i k (by assumption) (by assumption)) mwJ0_495 [] [] rfl rfl rfl rfl (by decide) ⟨by decide, by decide⟩ ⟨by decide, by decide⟩ rfl hl.1 (Nat.le_of_ble_eq_true rfl) rfl dJ0_charAt_5068e_12 (fun v u H locs hp hw => ?_)
    obtain ⟨rfl, hp_12⟩ := hp
    refine W.eq (g2 := F0 m 15 ls [.int (nI (evC i k))]) rfl ?_
    exact RQ.zret hF hr hlk hw dJ0_charAt_5068e_15 ((pk_charN (by omega)).1) ⟨by decide, by decide⟩ (()) (rfl) ⟨rfl, trivial⟩
