set_option maxHeartbeats 4000000 in
set_option maxRecDepth 100000 in
theorem c_X6_areOptions (l : Launch) (g : GE) (md : Nat → Nat) (th : Int32) (pn : Nat) (ac : Nat) (an : Nat) (ci : Nat) (ck : Nat) (fGa : Nat → Int32) (e : Nat) (G : List Nat) (to : Nat) (he : e < 2) (hG : GaM fGa e G) (hB : Bt G) (hto : to < G.length) (ht3 : 3 ≤ to) : Ct l yX6_areOptions cX6_areOptions 7 (some .boolean) { frames := 1, cells := 0, slots := 0, locals := 22 } g [.ref (md 0), .int (nI e), .int (nI to)] [(md 0, .inr (5, [.ref (md 1), .int th, .ref (md 2), .ref (md 3), .ref (md 4), .ref (md 5), .ref (md 6), .ref (md 7), .ref (md 8), .ref (md 9), .ref (md 10), .ref (md 11), .ref (md 12), .ref (md 13), .ref (md 14), .ref (md 15), .ref (md 16), .ref (md 17), .ref (md 18), .ref (md 19), .ref (md 20), .ref (md 21), .ref (md 22), .int (nI pn), .ref (md 23), .int (nI ac), .int (nI an), .ref (md 24), .int (nI ci), .int (nI ck)])), (md 18, .inl (g.2.1 0, 80, .inl fGa))] (fun (v : Option Value) (u : Unit) => v = some (.int (nI (wholeW G to 3).toNat)) ∧ True) (fun u : Unit => [(md 0, .inr (5, [.ref (md 1), .int th, .ref (md 2), .ref (md 3), .ref (md 4), .ref (md 5), .ref (md 6), .ref (md 7), .ref (md 8), .ref (md 9), .ref (md 10), .ref (md 11), .ref (md 12), .ref (md 13), .ref (md 14), .ref (md 15), .ref (md 16), .ref (md 17), .ref (md 18), .ref (md 19), .ref (md 20), .ref (md 21), .ref (md 22), .int (nI pn), .ref (md 23), .int (nI ac), .int (nI an), .ref (md 24), .int (nI ci), .int (nI ck)])), (md 18, .inl (g.2.1 0, 80, .inl fGa))]) := by
  refine Ct.of (own := RX6) rfl rfl (Nat.le_of_ble_eq_true rfl) ?_
  intro P0 e0 s m below meth c ls hF hr hlk hnm hw hl
  have hx := hF.1
  have hb := hF.2.1
  have hl : lv_has ls 7 [(0, .ref (md 0)), (1, .int (nI e)), (2, .int (nI to))] := hl
  have hG1 := hG.1
  refine lv_iconst (v := nI 3) hx hb dX6_areOptions_0 (by decide) ?_
  refine lv_istore_n (lv' := [(3, .int (nI 3)), (0, .ref (md 0)), (1, .int (nI e)), (2, .int (nI to))]) hx hb dX6_areOptions_1 rfl hl (by decide) rfl (fun ls hl => ?_)
  refine lv_iconst (v := nI 1) hx hb dX6_areOptions_2 (by decide) ?_
  refine lv_istore (lv' := [(4, .int (nI 1)), (3, .int (nI 3)), (0, .ref (md 0)), (1, .int (nI e)), (2, .int (nI to))]) hx hb dX6_areOptions_3 hl (by decide) rfl (fun ls hl => ?_)
  have lp_5 : ∀ (fuel_5 : Nat) (k : Nat) (gd : Bool) (H : Heap) (locs : List Loc) (ls : Array Slot), (to + 6 - k) < fuel_5 → (k ≤ to + 5) → (gd = true → k ≤ to) → (wholeW G to 3 = (gd && wholeW G to k)) → Wd g (va_A [(md 0, .inr (5, [.ref (md 1), .int th, .ref (md 2), .ref (md 3), .ref (md 4), .ref (md 5), .ref (md 6), .ref (md 7), .ref (md 8), .ref (md 9), .ref (md 10), .ref (md 11), .ref (md 12), .ref (md 13), .ref (md 14), .ref (md 15), .ref (md 16), .ref (md 17), .ref (md 18), .ref (md 19), .ref (md 20), .ref (md 21), .ref (md 22), .int (nI pn), .ref (md 23), .int (nI ac), .int (nI an), .ref (md 24), .int (nI ci), .int (nI ck)])), (md 18, .inl (g.2.1 0, 80, .inl fGa))] s.heap.size) s H locs [(md 0, .inr (5, [.ref (md 1), .int th, .ref (md 2), .ref (md 3), .ref (md 4), .ref (md 5), .ref (md 6), .ref (md 7), .ref (md 8), .ref (md 9), .ref (md 10), .ref (md 11), .ref (md 12), .ref (md 13), .ref (md 14), .ref (md 15), .ref (md 16), .ref (md 17), .ref (md 18), .ref (md 19), .ref (md 20), .ref (md 21), .ref (md 22), .int (nI pn), .ref (md 23), .int (nI ac), .int (nI an), .ref (md 24), .int (nI ci), .int (nI ck)])), (md 18, .inl (g.2.1 0, 80, .inl fGa))] → lv_has ls 7 [(0, .ref (md 0)), (1, .int (nI e)), (2, .int (nI to)), (3, .int (nI k)), (4, .int (nI gd.toNat))] → W P0 l e0 { frames := 1, cells := 0, slots := 0, locals := 22 } s m ([.ref (md 0), .int (nI e), .int (nI to)] : List Value).toArray below meth c H locs 0 0 (RQ below ([.ref (md 0), .int (nI e), .int (nI to)] : List Value).toArray s { frames := 1, cells := 0, slots := 0, locals := 22 } g [(md 0, .inr (5, [.ref (md 1), .int th, .ref (md 2), .ref (md 3), .ref (md 4), .ref (md 5), .ref (md 6), .ref (md 7), .ref (md 8), .ref (md 9), .ref (md 10), .ref (md 11), .ref (md 12), .ref (md 13), .ref (md 14), .ref (md 15), .ref (md 16), .ref (md 17), .ref (md 18), .ref (md 19), .ref (md 20), .ref (md 21), .ref (md 22), .int (nI pn), .ref (md 23), .int (nI ac), .int (nI an), .ref (md 24), .int (nI ci), .int (nI ck)])), (md 18, .inl (g.2.1 0, 80, .inl fGa))] (fun (v : Option Value) (u : Unit) => v = some (.int (nI (wholeW G to 3).toNat)) ∧ True) (fun u : Unit => [(md 0, .inr (5, [.ref (md 1), .int th, .ref (md 2), .ref (md 3), .ref (md 4), .ref (md 5), .ref (md 6), .ref (md 7), .ref (md 8), .ref (md 9), .ref (md 10), .ref (md 11), .ref (md 12), .ref (md 13), .ref (md 14), .ref (md 15), .ref (md 16), .ref (md 17), .ref (md 18), .ref (md 19), .ref (md 20), .ref (md 21), .ref (md 22), .int (nI pn), .ref (md 23), .int (nI ac), .int (nI an), .ref (md 24), .int (nI ci), .int (nI ck)])), (md 18, .inl (g.2.1 0, 80, .inl fGa))])) (F0 m 5 ls []) := by
    intro fuel_5
    induction fuel_5 with
    | zero => intro k gd H locs ls hm_5; exact absurd hm_5 (Nat.not_lt_zero _)
    | succ fuel_5 ih_5 =>
      intro k gd H locs ls hm_5 hk5 hgk hinv hw hl
      have hgl := b_lt gd
      refine lv_iload_n hx hb dX6_areOptions_5 rfl (lv_at hl 3 rfl) ?_
      refine lv_iload_n hx hb dX6_areOptions_6 rfl (lv_at hl 2 rfl) ?_
      refine r_ge (tgt := 106) hx hb dX6_areOptions_7 (by decide) (by omega) (by omega) (fun c_7 => ?_) (fun c_7 => ?_)
      · refine lv_iload hx hb dX6_areOptions_106 (lv_at hl 4 rfl) ?_
        exact RQ.zret hF hr hlk hw dX6_areOptions_108 (by cases gd <;> rfl) ⟨by decide, by decide⟩ (()) (rfl) ⟨by first | exact rbv (ao_a c_7 hgk hinv) | exact rbv (ao_b c_12 hinv), trivial⟩
      · refine lv_iload hx hb dX6_areOptions_10 (lv_at hl 4 rfl) ?_
        refine r_eq0 (tgt := 106) hx hb dX6_areOptions_12 (by decide) (by omega) (fun c_12 => ?_) (fun c_12 => ?_)
        · refine lv_iload hx hb dX6_areOptions_106 (lv_at hl 4 rfl) ?_
          exact RQ.zret hF hr hlk hw dX6_areOptions_108 (by cases gd <;> rfl) ⟨by decide, by decide⟩ (()) (rfl) ⟨by first | exact rbv (ao_a c_7 hgk hinv) | exact rbv (ao_b c_12 hinv), trivial⟩
        · refine lv_aload_n hx hb dX6_areOptions_15 rfl (lv_at hl 0 rfl) ?_
          refine lv_iload_n hx hb dX6_areOptions_16 rfl (lv_at hl 1 rfl) ?_
          refine lv_iload_n hx hb dX6_areOptions_17 rfl (lv_at hl 3 rfl) ?_
          refine Ct.callV (wr := []) hF hw (c_X6_at l g md th pn ac an ci ck fGa e G k (by assumption) (by assumption) (by omega)) mwX6_149 [0, 1] [] rfl rfl rfl rfl (by decide) 0 rfl rfl ⟨by decide, by decide⟩ ⟨by decide, by decide⟩ rfl hl.1 (Nat.le_of_ble_eq_true rfl) rfl dX6_areOptions_18 (fun v u H locs hp hw => ?_)
          obtain ⟨rfl, hp_18⟩ := hp
          have hw := Wd.sub (ws' := [(md 0, .inr (5, [.ref (md 1), .int th, .ref (md 2), .ref (md 3), .ref (md 4), .ref (md 5), .ref (md 6), .ref (md 7), .ref (md 8), .ref (md 9), .ref (md 10), .ref (md 11), .ref (md 12), .ref (md 13), .ref (md 14), .ref (md 15), .ref (md 16), .ref (md 17), .ref (md 18), .ref (md 19), .ref (md 20), .ref (md 21), .ref (md 22), .int (nI pn), .ref (md 23), .int (nI ac), .int (nI an), .ref (md 24), .int (nI ci), .int (nI ck)])), (md 18, .inl (g.2.1 0, 80, .inl fGa))]) hw [0, 1] rfl rfl
          refine W.eq (g2 := F0 m 21 ls [.int (nI (G.getD k 0))]) rfl ?_
          refine lv_istore (lv' := [(5, .int (nI (G.getD k 0))), (0, .ref (md 0)), (1, .int (nI e)), (2, .int (nI to)), (3, .int (nI k)), (4, .int (nI gd.toNat))]) hx hb dX6_areOptions_21 hl (by decide) rfl (fun ls hl => ?_)
          refine lv_iconst (v := nI 3) hx hb dX6_areOptions_23 (by decide) ?_
          refine lv_istore (lv' := [(6, .int (nI 3)), (5, .int (nI (G.getD k 0))), (0, .ref (md 0)), (1, .int (nI e)), (2, .int (nI to)), (3, .int (nI k)), (4, .int (nI gd.toNat))]) hx hb dX6_areOptions_24 hl (by decide) rfl (fun ls hl => ?_)
          have lp_26 : ∀ (fuel_26 : Nat) (j : Nat) (g2 : Bool) (H : Heap) (locs : List Loc) (ls : Array Slot), (k - j) < fuel_26 → (j ≤ k + 5) → ((g2 = true → dupW G k 3 = dupW G k j) ∧ (g2 = false → dupW G k 3 = true)) → Wd g (va_A [(md 0, .inr (5, [.ref (md 1), .int th, .ref (md 2), .ref (md 3), .ref (md 4), .ref (md 5), .ref (md 6), .ref (md 7), .ref (md 8), .ref (md 9), .ref (md 10), .ref (md 11), .ref (md 12), .ref (md 13), .ref (md 14), .ref (md 15), .ref (md 16), .ref (md 17), .ref (md 18), .ref (md 19), .ref (md 20), .ref (md 21), .ref (md 22), .int (nI pn), .ref (md 23), .int (nI ac), .int (nI an), .ref (md 24), .int (nI ci), .int (nI ck)])), (md 18, .inl (g.2.1 0, 80, .inl fGa))] s.heap.size) s H locs [(md 0, .inr (5, [.ref (md 1), .int th, .ref (md 2), .ref (md 3), .ref (md 4), .ref (md 5), .ref (md 6), .ref (md 7), .ref (md 8), .ref (md 9), .ref (md 10), .ref (md 11), .ref (md 12), .ref (md 13), .ref (md 14), .ref (md 15), .ref (md 16), .ref (md 17), .ref (md 18), .ref (md 19), .ref (md 20), .ref (md 21), .ref (md 22), .int (nI pn), .ref (md 23), .int (nI ac), .int (nI an), .ref (md 24), .int (nI ci), .int (nI ck)])), (md 18, .inl (g.2.1 0, 80, .inl fGa))] → lv_has ls 7 [(0, .ref (md 0)), (1, .int (nI e)), (2, .int (nI to)), (3, .int (nI k)), (4, .int (nI g2.toNat)), (5, .int (nI (G.getD k 0))), (6, .int (nI j))] → W P0 l e0 { frames := 1, cells := 0, slots := 0, locals := 22 } s m ([.ref (md 0), .int (nI e), .int (nI to)] : List Value).toArray below meth c H locs 0 0 (RQ below ([.ref (md 0), .int (nI e), .int (nI to)] : List Value).toArray s { frames := 1, cells := 0, slots := 0, locals := 22 } g [(md 0, .inr (5, [.ref (md 1), .int th, .ref (md 2), .ref (md 3), .ref (md 4), .ref (md 5), .ref (md 6), .ref (md 7), .ref (md 8), .ref (md 9), .ref (md 10), .ref (md 11), .ref (md 12), .ref (md 13), .ref (md 14), .ref (md 15), .ref (md 16), .ref (md 17), .ref (md 18), .ref (md 19), .ref (md 20), .ref (md 21), .ref (md 22), .int (nI pn), .ref (md 23), .int (nI ac), .int (nI an), .ref (md 24), .int (nI ci), .int (nI ck)])), (md 18, .inl (g.2.1 0, 80, .inl fGa))] (fun (v : Option Value) (u : Unit) => v = some (.int (nI (wholeW G to 3).toNat)) ∧ True) (fun u : Unit => [(md 0, .inr (5, [.ref (md 1), .int th, .ref (md 2), .ref (md 3), .ref (md 4), .ref (md 5), .ref (md 6), .ref (md 7), .ref (md 8), .ref (md 9), .ref (md 10), .ref (md 11), .ref (md 12), .ref (md 13), .ref (md 14), .ref (md 15), .ref (md 16), .ref (md 17), .ref (md 18), .ref (md 19), .ref (md 20), .ref (md 21), .ref (md 22), .int (nI pn), .ref (md 23), .int (nI ac), .int (nI an), .ref (md 24), .int (nI ci), .int (nI ck)])), (md 18, .inl (g.2.1 0, 80, .inl fGa))])) (F0 m 26 ls []) := by
            intro fuel_26
            induction fuel_26 with
            | zero => intro j g2 H locs ls hm_26; exact absurd hm_26 (Nat.not_lt_zero _)
            | succ fuel_26 ih_26 =>
              intro j g2 H locs ls hm_26 hj5 hg2 hw hl
              have hgl2 := b_lt g2
              have hbj := hB.get j
              have hbk := hB.get k
              refine lv_iload hx hb dX6_areOptions_26 (lv_at hl 6 rfl) ?_
              refine lv_iload_n hx hb dX6_areOptions_28 rfl (lv_at hl 3 rfl) ?_
              refine r_ge (tgt := 76) hx hb dX6_areOptions_29 (by decide) (by omega) (by omega) (fun c_29 => ?_) (fun c_29 => ?_)
              · refine lv_iload_n hx hb dX6_areOptions_76 rfl (lv_at hl 3 rfl) ?_
                refine lv_iconst (v := nI 1) hx hb dX6_areOptions_77 (by decide) ?_
                refine r_iadd hx hb dX6_areOptions_78 ?_
                refine lv_iload hx hb dX6_areOptions_79 (lv_at hl 5 rfl) ?_
                refine Ct.callS (wr := [(md 0, .inr (5, [.ref (md 1), .int th, .ref (md 2), .ref (md 3), .ref (md 4), .ref (md 5), .ref (md 6), .ref (md 7), .ref (md 8), .ref (md 9), .ref (md 10), .ref (md 11), .ref (md 12), .ref (md 13), .ref (md 14), .ref (md 15), .ref (md 16), .ref (md 17), .ref (md 18), .ref (md 19), .ref (md 20), .ref (md 21), .ref (md 22), .int (nI pn), .ref (md 23), .int (nI ac), .int (nI an), .ref (md 24), .int (nI ci), .int (nI ck)])), (md 18, .inl (g.2.1 0, 80, .inl fGa))]) hF hw (c_X6_sizeOf l g (G.getD k 0) (by have := hB.get k; omega)) mwX6_152 [] [0, 1] rfl rfl rfl rfl (by decide) ⟨by decide, by decide⟩ ⟨by decide, by decide⟩ rfl hl.1 (Nat.le_of_ble_eq_true rfl) rfl dX6_areOptions_81 (fun v u H locs hp hw => ?_)
                obtain ⟨rfl, hp_81⟩ := hp
                have hw := Wd.sub (ws' := [(md 0, .inr (5, [.ref (md 1), .int th, .ref (md 2), .ref (md 3), .ref (md 4), .ref (md 5), .ref (md 6), .ref (md 7), .ref (md 8), .ref (md 9), .ref (md 10), .ref (md 11), .ref (md 12), .ref (md 13), .ref (md 14), .ref (md 15), .ref (md 16), .ref (md 17), .ref (md 18), .ref (md 19), .ref (md 20), .ref (md 21), .ref (md 22), .int (nI pn), .ref (md 23), .int (nI ac), .int (nI an), .ref (md 24), .int (nI ci), .int (nI ck)])), (md 18, .inl (g.2.1 0, 80, .inl fGa))]) hw [0, 1] rfl rfl
                refine W.eq (g2 := F0 m 84 ls [.int (nI (optLen (G.getD k 0) - 1)), .int (nI (k + 1))]) rfl ?_
                refine r_iadd hx hb dX6_areOptions_84 ?_
                refine r_top (n := k + optLen (G.getD k 0)) (by have := optLen_b (G.getD k 0); congr 1; omega) ?_
                have hok := optLen_b (G.getD k 0)
                refine lv_istore_n (lv' := [(3, .int (nI (k + optLen (G.getD k 0)))), (0, .ref (md 0)), (1, .int (nI e)), (2, .int (nI to)), (4, .int (nI g2.toNat)), (5, .int (nI (G.getD k 0))), (6, .int (nI j))]) hx hb dX6_areOptions_85 rfl hl (by decide) rfl (fun ls hl => ?_)
                refine lv_iload hx hb dX6_areOptions_86 (lv_at hl 4 rfl) ?_
                refine r_eq0 (tgt := 100) hx hb dX6_areOptions_88 (by decide) (by omega) (fun c_88 => ?_) (fun c_88 => ?_)
                · refine lv_iconst (v := nI 0) hx hb dX6_areOptions_100 (by decide) ?_
                  refine lv_istore (lv' := [(4, .int (nI 0)), (3, .int (nI (k + optLen (G.getD k 0)))), (0, .ref (md 0)), (1, .int (nI e)), (2, .int (nI to)), (5, .int (nI (G.getD k 0))), (6, .int (nI j))]) hx hb dX6_areOptions_101 hl (by decide) rfl (fun ls hl => ?_)
                  refine lv_goto (tgt := 5) hx hb dX6_areOptions_103 (by decide) ?_
                  have ho := optLen_b (G.getD k 0)
                  have hst := ao_s c_7 c_12 hinv c_29 hg2
                  exact ih_5 (k + optLen (G.getD k 0)) false _ _ _ (by omega) (by omega) (by first | (intro; omega) | (intro q; cases q)) (by first | exact ao_t hst c_88 | exact ao_f hst c_88 | exact ao_g hst (by omega)) hw (lv_sub hl [2, 3, 4, 1, 0] rfl)
                · refine lv_iload_n hx hb dX6_areOptions_91 rfl (lv_at hl 0 rfl) ?_
                  refine lv_iload_n hx hb dX6_areOptions_92 rfl (lv_at hl 3 rfl) ?_
                  refine r_gt (tgt := 100) hx hb dX6_areOptions_93 (by decide) (by omega) (by omega) (fun c_93 => ?_) (fun c_93 => ?_)
                  · refine lv_iconst (v := nI 0) hx hb dX6_areOptions_100 (by decide) ?_
                    refine lv_istore (lv' := [(4, .int (nI 0)), (3, .int (nI (k + optLen (G.getD k 0)))), (0, .ref (md 0)), (1, .int (nI e)), (2, .int (nI to)), (5, .int (nI (G.getD k 0))), (6, .int (nI j))]) hx hb dX6_areOptions_101 hl (by decide) rfl (fun ls hl => ?_)
                    refine lv_goto (tgt := 5) hx hb dX6_areOptions_103 (by decide) ?_
                    have ho := optLen_b (G.getD k 0)
                    have hst := ao_s c_7 c_12 hinv c_29 hg2
                    exact ih_5 (k + optLen (G.getD k 0)) false _ _ _ (by omega) (by omega) (by first | (intro; omega) | (intro q; cases q)) (by first | exact ao_t hst c_88 | exact ao_f hst c_88 | exact ao_g hst (by omega)) hw (lv_sub hl [2, 3, 4, 1, 0] rfl)
                  · refine lv_iconst (v := nI 1) hx hb dX6_areOptions_96 (by decide) ?_
                    refine lv_goto (tgt := 101) hx hb dX6_areOptions_97 (by decide) ?_
                    refine lv_istore (lv' := [(4, .int (nI 1)), (3, .int (nI (k + optLen (G.getD k 0)))), (0, .ref (md 0)), (1, .int (nI e)), (2, .int (nI to)), (5, .int (nI (G.getD k 0))), (6, .int (nI j))]) hx hb dX6_areOptions_101 hl (by decide) rfl (fun ls hl => ?_)
                    refine lv_goto (tgt := 5) hx hb dX6_areOptions_103 (by decide) ?_
                    have ho := optLen_b (G.getD k 0)
                    have hst := ao_s c_7 c_12 hinv c_29 hg2
                    exact ih_5 (k + optLen (G.getD k 0)) true _ _ _ (by omega) (by omega) (by first | (intro; omega) | (intro q; cases q)) (by first | exact ao_t hst c_88 | exact ao_f hst c_88 | exact ao_g hst (by omega)) hw (lv_sub hl [2, 3, 4, 1, 0] rfl)
              · refine lv_iload hx hb dX6_areOptions_32 (lv_at hl 4 rfl) ?_
                refine r_eq0 (tgt := 53) hx hb dX6_areOptions_34 (by decide) (by omega) (fun c_34 => ?_) (fun c_34 => ?_)
                · refine lv_iconst (v := nI 0) hx hb dX6_areOptions_53 (by decide) ?_
                  refine lv_istore (lv' := [(4, .int (nI 0)), (0, .ref (md 0)), (1, .int (nI e)), (2, .int (nI to)), (3, .int (nI k)), (5, .int (nI (G.getD k 0))), (6, .int (nI j))]) hx hb dX6_areOptions_54 hl (by decide) rfl (fun ls hl => ?_)
                  refine lv_iload hx hb dX6_areOptions_56 (lv_at hl 6 rfl) ?_
                  refine lv_iconst (v := nI 1) hx hb dX6_areOptions_58 (by decide) ?_
                  refine lv_aload_n hx hb dX6_areOptions_59 rfl (lv_at hl 1 rfl) ?_
                  refine lv_iload_n hx hb dX6_areOptions_60 rfl (lv_at hl 2 rfl) ?_
                  refine lv_iload hx hb dX6_areOptions_61 (lv_at hl 6 rfl) ?_
                  refine Ct.callV (wr := []) hF hw (c_X6_at l g md th pn ac an ci ck fGa e G j (by assumption) (by assumption) (by omega)) mwX6_149 [0, 1] [] rfl rfl rfl rfl (by decide) 0 rfl rfl ⟨by decide, by decide⟩ ⟨by decide, by decide⟩ rfl hl.1 (Nat.le_of_ble_eq_true rfl) rfl dX6_areOptions_63 (fun v u H locs hp hw => ?_)
                  obtain ⟨rfl, hp_63⟩ := hp
                  have hw := Wd.sub (ws' := [(md 0, .inr (5, [.ref (md 1), .int th, .ref (md 2), .ref (md 3), .ref (md 4), .ref (md 5), .ref (md 6), .ref (md 7), .ref (md 8), .ref (md 9), .ref (md 10), .ref (md 11), .ref (md 12), .ref (md 13), .ref (md 14), .ref (md 15), .ref (md 16), .ref (md 17), .ref (md 18), .ref (md 19), .ref (md 20), .ref (md 21), .ref (md 22), .int (nI pn), .ref (md 23), .int (nI ac), .int (nI an), .ref (md 24), .int (nI ci), .int (nI ck)])), (md 18, .inl (g.2.1 0, 80, .inl fGa))]) hw [0, 1] rfl rfl
                  refine W.eq (g2 := F0 m 66 ls [.int (nI (G.getD j 0)), .int (nI 1), .int (nI j)]) rfl ?_
                  refine Ct.callS (wr := [(md 0, .inr (5, [.ref (md 1), .int th, .ref (md 2), .ref (md 3), .ref (md 4), .ref (md 5), .ref (md 6), .ref (md 7), .ref (md 8), .ref (md 9), .ref (md 10), .ref (md 11), .ref (md 12), .ref (md 13), .ref (md 14), .ref (md 15), .ref (md 16), .ref (md 17), .ref (md 18), .ref (md 19), .ref (md 20), .ref (md 21), .ref (md 22), .int (nI pn), .ref (md 23), .int (nI ac), .int (nI an), .ref (md 24), .int (nI ci), .int (nI ck)])), (md 18, .inl (g.2.1 0, 80, .inl fGa))]) hF hw (c_X6_sizeOf l g (G.getD j 0) (by omega)) mwX6_152 [] [0, 1] rfl rfl rfl rfl (by decide) ⟨by decide, by decide⟩ ⟨by decide, by decide⟩ rfl hl.1 (Nat.le_of_ble_eq_true rfl) rfl dX6_areOptions_66 (fun v u H locs hp hw => ?_)
                  obtain ⟨rfl, hp_66⟩ := hp
                  have hw := Wd.sub (ws' := [(md 0, .inr (5, [.ref (md 1), .int th, .ref (md 2), .ref (md 3), .ref (md 4), .ref (md 5), .ref (md 6), .ref (md 7), .ref (md 8), .ref (md 9), .ref (md 10), .ref (md 11), .ref (md 12), .ref (md 13), .ref (md 14), .ref (md 15), .ref (md 16), .ref (md 17), .ref (md 18), .ref (md 19), .ref (md 20), .ref (md 21), .ref (md 22), .int (nI pn), .ref (md 23), .int (nI ac), .int (nI an), .ref (md 24), .int (nI ci), .int (nI ck)])), (md 18, .inl (g.2.1 0, 80, .inl fGa))]) hw [0, 1] rfl rfl
                  refine W.eq (g2 := F0 m 69 ls [.int (nI (optLen (G.getD j 0) - 1)), .int (nI 1), .int (nI j)]) rfl ?_
                  refine r_iadd hx hb dX6_areOptions_69 ?_
                  refine r_iadd hx hb dX6_areOptions_70 ?_
                  refine r_top (n := j + optLen (G.getD j 0)) (by have := optLen_b (G.getD j 0); congr 1; omega) ?_
                  refine lv_istore (lv' := [(6, .int (nI (j + optLen (G.getD j 0)))), (4, .int (nI 0)), (0, .ref (md 0)), (1, .int (nI e)), (2, .int (nI to)), (3, .int (nI k)), (5, .int (nI (G.getD k 0)))]) hx hb dX6_areOptions_71 hl (by decide) rfl (fun ls hl => ?_)
                  refine lv_goto (tgt := 26) hx hb dX6_areOptions_73 (by decide) ?_
                  have ho := optLen_b (G.getD j 0)
                  exact ih_26 (j + optLen (G.getD j 0)) false _ _ _ (by omega) (by omega) (by first | exact ai_a hg2 c_34 | exact ai_b hg2 c_34 (by omega) c_46 | exact ai_c hg2 c_34 (by omega) c_46) hw (lv_sub hl [2, 3, 4, 5, 1, 6, 0] rfl)
                · refine lv_aload_n hx hb dX6_areOptions_37 rfl (lv_at hl 0 rfl) ?_
                  refine lv_iload_n hx hb dX6_areOptions_38 rfl (lv_at hl 1 rfl) ?_
                  refine lv_iload hx hb dX6_areOptions_39 (lv_at hl 6 rfl) ?_
                  refine Ct.callV (wr := []) hF hw (c_X6_at l g md th pn ac an ci ck fGa e G j (by assumption) (by assumption) (by omega)) mwX6_149 [0, 1] [] rfl rfl rfl rfl (by decide) 0 rfl rfl ⟨by decide, by decide⟩ ⟨by decide, by decide⟩ rfl hl.1 (Nat.le_of_ble_eq_true rfl) rfl dX6_areOptions_41 (fun v u H locs hp hw => ?_)
                  obtain ⟨rfl, hp_41⟩ := hp
                  have hw := Wd.sub (ws' := [(md 0, .inr (5, [.ref (md 1), .int th, .ref (md 2), .ref (md 3), .ref (md 4), .ref (md 5), .ref (md 6), .ref (md 7), .ref (md 8), .ref (md 9), .ref (md 10), .ref (md 11), .ref (md 12), .ref (md 13), .ref (md 14), .ref (md 15), .ref (md 16), .ref (md 17), .ref (md 18), .ref (md 19), .ref (md 20), .ref (md 21), .ref (md 22), .int (nI pn), .ref (md 23), .int (nI ac), .int (nI an), .ref (md 24), .int (nI ci), .int (nI ck)])), (md 18, .inl (g.2.1 0, 80, .inl fGa))]) hw [0, 1] rfl rfl
                  refine W.eq (g2 := F0 m 44 ls [.int (nI (G.getD j 0))]) rfl ?_
                  refine lv_iload hx hb dX6_areOptions_44 (lv_at hl 5 rfl) ?_
                  refine r_eq (tgt := 53) hx hb dX6_areOptions_46 (by decide) (by omega) (by omega) (fun c_46 => ?_) (fun c_46 => ?_)
                  · refine lv_iconst (v := nI 0) hx hb dX6_areOptions_53 (by decide) ?_
                    refine lv_istore (lv' := [(4, .int (nI 0)), (0, .ref (md 0)), (1, .int (nI e)), (2, .int (nI to)), (3, .int (nI k)), (5, .int (nI (G.getD k 0))), (6, .int (nI j))]) hx hb dX6_areOptions_54 hl (by decide) rfl (fun ls hl => ?_)
                    refine lv_iload hx hb dX6_areOptions_56 (lv_at hl 6 rfl) ?_
                    refine lv_iconst (v := nI 1) hx hb dX6_areOptions_58 (by decide) ?_
                    refine lv_aload_n hx hb dX6_areOptions_59 rfl (lv_at hl 1 rfl) ?_
                    refine lv_iload_n hx hb dX6_areOptions_60 rfl (lv_at hl 2 rfl) ?_
                    refine lv_iload hx hb dX6_areOptions_61 (lv_at hl 6 rfl) ?_
                    refine Ct.callV (wr := []) hF hw (c_X6_at l g md th pn ac an ci ck fGa e G j (by assumption) (by assumption) (by omega)) mwX6_149 [0, 1] [] rfl rfl rfl rfl (by decide) 0 rfl rfl ⟨by decide, by decide⟩ ⟨by decide, by decide⟩ rfl hl.1 (Nat.le_of_ble_eq_true rfl) rfl dX6_areOptions_63 (fun v u H locs hp hw => ?_)
                    obtain ⟨rfl, hp_63⟩ := hp
                    have hw := Wd.sub (ws' := [(md 0, .inr (5, [.ref (md 1), .int th, .ref (md 2), .ref (md 3), .ref (md 4), .ref (md 5), .ref (md 6), .ref (md 7), .ref (md 8), .ref (md 9), .ref (md 10), .ref (md 11), .ref (md 12), .ref (md 13), .ref (md 14), .ref (md 15), .ref (md 16), .ref (md 17), .ref (md 18), .ref (md 19), .ref (md 20), .ref (md 21), .ref (md 22), .int (nI pn), .ref (md 23), .int (nI ac), .int (nI an), .ref (md 24), .int (nI ci), .int (nI ck)])), (md 18, .inl (g.2.1 0, 80, .inl fGa))]) hw [0, 1] rfl rfl
                    refine W.eq (g2 := F0 m 66 ls [.int (nI (G.getD j 0)), .int (nI 1), .int (nI j)]) rfl ?_
                    refine Ct.callS (wr := [(md 0, .inr (5, [.ref (md 1), .int th, .ref (md 2), .ref (md 3), .ref (md 4), .ref (md 5), .ref (md 6), .ref (md 7), .ref (md 8), .ref (md 9), .ref (md 10), .ref (md 11), .ref (md 12), .ref (md 13), .ref (md 14), .ref (md 15), .ref (md 16), .ref (md 17), .ref (md 18), .ref (md 19), .ref (md 20), .ref (md 21), .ref (md 22), .int (nI pn), .ref (md 23), .int (nI ac), .int (nI an), .ref (md 24), .int (nI ci), .int (nI ck)])), (md 18, .inl (g.2.1 0, 80, .inl fGa))]) hF hw (c_X6_sizeOf l g (G.getD j 0) (by omega)) mwX6_152 [] [0, 1] rfl rfl rfl rfl (by decide) ⟨by decide, by decide⟩ ⟨by decide, by decide⟩ rfl hl.1 (Nat.le_of_ble_eq_true rfl) rfl dX6_areOptions_66 (fun v u H locs hp hw => ?_)
                    obtain ⟨rfl, hp_66⟩ := hp
                    have hw := Wd.sub (ws' := [(md 0, .inr (5, [.ref (md 1), .int th, .ref (md 2), .ref (md 3), .ref (md 4), .ref (md 5), .ref (md 6), .ref (md 7), .ref (md 8), .ref (md 9), .ref (md 10), .ref (md 11), .ref (md 12), .ref (md 13), .ref (md 14), .ref (md 15), .ref (md 16), .ref (md 17), .ref (md 18), .ref (md 19), .ref (md 20), .ref (md 21), .ref (md 22), .int (nI pn), .ref (md 23), .int (nI ac), .int (nI an), .ref (md 24), .int (nI ci), .int (nI ck)])), (md 18, .inl (g.2.1 0, 80, .inl fGa))]) hw [0, 1] rfl rfl
                    refine W.eq (g2 := F0 m 69 ls [.int (nI (optLen (G.getD j 0) - 1)), .int (nI 1), .int (nI j)]) rfl ?_
                    refine r_iadd hx hb dX6_areOptions_69 ?_
                    refine r_iadd hx hb dX6_areOptions_70 ?_
                    refine r_top (n := j + optLen (G.getD j 0)) (by have := optLen_b (G.getD j 0); congr 1; omega) ?_
                    refine lv_istore (lv' := [(6, .int (nI (j + optLen (G.getD j 0)))), (4, .int (nI 0)), (0, .ref (md 0)), (1, .int (nI e)), (2, .int (nI to)), (3, .int (nI k)), (5, .int (nI (G.getD k 0)))]) hx hb dX6_areOptions_71 hl (by decide) rfl (fun ls hl => ?_)
                    refine lv_goto (tgt := 26) hx hb dX6_areOptions_73 (by decide) ?_
                    have ho := optLen_b (G.getD j 0)
                    exact ih_26 (j + optLen (G.getD j 0)) false _ _ _ (by omega) (by omega) (by first | exact ai_a hg2 c_34 | exact ai_b hg2 c_34 (by omega) c_46 | exact ai_c hg2 c_34 (by omega) c_46) hw (lv_sub hl [2, 3, 4, 5, 1, 6, 0] rfl)
                  · refine lv_iconst (v := nI 1) hx hb dX6_areOptions_49 (by decide) ?_
                    refine lv_goto (tgt := 54) hx hb dX6_areOptions_50 (by decide) ?_
                    refine lv_istore (lv' := [(4, .int (nI 1)), (0, .ref (md 0)), (1, .int (nI e)), (2, .int (nI to)), (3, .int (nI k)), (5, .int (nI (G.getD k 0))), (6, .int (nI j))]) hx hb dX6_areOptions_54 hl (by decide) rfl (fun ls hl => ?_)
                    refine lv_iload hx hb dX6_areOptions_56 (lv_at hl 6 rfl) ?_
                    refine lv_iconst (v := nI 1) hx hb dX6_areOptions_58 (by decide) ?_
                    refine lv_aload_n hx hb dX6_areOptions_59 rfl (lv_at hl 1 rfl) ?_
                    refine lv_iload_n hx hb dX6_areOptions_60 rfl (lv_at hl 2 rfl) ?_
                    refine lv_iload hx hb dX6_areOptions_61 (lv_at hl 6 rfl) ?_
                    refine Ct.callV (wr := []) hF hw (c_X6_at l g md th pn ac an ci ck fGa e G j (by assumption) (by assumption) (by omega)) mwX6_149 [0, 1] [] rfl rfl rfl rfl (by decide) 0 rfl rfl ⟨by decide, by decide⟩ ⟨by decide, by decide⟩ rfl hl.1 (Nat.le_of_ble_eq_true rfl) rfl dX6_areOptions_63 (fun v u H locs hp hw => ?_)
                    obtain ⟨rfl, hp_63⟩ := hp
                    have hw := Wd.sub (ws' := [(md 0, .inr (5, [.ref (md 1), .int th, .ref (md 2), .ref (md 3), .ref (md 4), .ref (md 5), .ref (md 6), .ref (md 7), .ref (md 8), .ref (md 9), .ref (md 10), .ref (md 11), .ref (md 12), .ref (md 13), .ref (md 14), .ref (md 15), .ref (md 16), .ref (md 17), .ref (md 18), .ref (md 19), .ref (md 20), .ref (md 21), .ref (md 22), .int (nI pn), .ref (md 23), .int (nI ac), .int (nI an), .ref (md 24), .int (nI ci), .int (nI ck)])), (md 18, .inl (g.2.1 0, 80, .inl fGa))]) hw [0, 1] rfl rfl
                    refine W.eq (g2 := F0 m 66 ls [.int (nI (G.getD j 0)), .int (nI 1), .int (nI j)]) rfl ?_
                    refine Ct.callS (wr := [(md 0, .inr (5, [.ref (md 1), .int th, .ref (md 2), .ref (md 3), .ref (md 4), .ref (md 5), .ref (md 6), .ref (md 7), .ref (md 8), .ref (md 9), .ref (md 10), .ref (md 11), .ref (md 12), .ref (md 13), .ref (md 14), .ref (md 15), .ref (md 16), .ref (md 17), .ref (md 18), .ref (md 19), .ref (md 20), .ref (md 21), .ref (md 22), .int (nI pn), .ref (md 23), .int (nI ac), .int (nI an), .ref (md 24), .int (nI ci), .int (nI ck)])), (md 18, .inl (g.2.1 0, 80, .inl fGa))]) hF hw (c_X6_sizeOf l g (G.getD j 0) (by omega)) mwX6_152 [] [0, 1] rfl rfl rfl rfl (by decide) ⟨by decide, by decide⟩ ⟨by decide, by decide⟩ rfl hl.1 (Nat.le_of_ble_eq_true rfl) rfl dX6_areOptions_66 (fun v u H locs hp hw => ?_)
                    obtain ⟨rfl, hp_66⟩ := hp
                    have hw := Wd.sub (ws' := [(md 0, .inr (5, [.ref (md 1), .int th, .ref (md 2), .ref (md 3), .ref (md 4), .ref (md 5), .ref (md 6), .ref (md 7), .ref (md 8), .ref (md 9), .ref (md 10), .ref (md 11), .ref (md 12), .ref (md 13), .ref (md 14), .ref (md 15), .ref (md 16), .ref (md 17), .ref (md 18), .ref (md 19), .ref (md 20), .ref (md 21), .ref (md 22), .int (nI pn), .ref (md 23), .int (nI ac), .int (nI an), .ref (md 24), .int (nI ci), .int (nI ck)])), (md 18, .inl (g.2.1 0, 80, .inl fGa))]) hw [0, 1] rfl rfl
                    refine W.eq (g2 := F0 m 69 ls [.int (nI (optLen (G.getD j 0) - 1)), .int (nI 1), .int (nI j)]) rfl ?_
                    refine r_iadd hx hb dX6_areOptions_69 ?_
                    refine r_iadd hx hb dX6_areOptions_70 ?_
                    refine r_top (n := j + optLen (G.getD j 0)) (by have := optLen_b (G.getD j 0); congr 1; omega) ?_
                    refine lv_istore (lv' := [(6, .int (nI (j + optLen (G.getD j 0)))), (4, .int (nI 1)), (0, .ref (md 0)), (1, .int (nI e)), (2, .int (nI to)), (3, .int (nI k)), (5, .int (nI (G.getD k 0)))]) hx hb dX6_areOptions_71 hl (by decide) rfl (fun ls hl => ?_)
                    refine lv_goto (tgt := 26) hx hb dX6_areOptions_73 (by decide) ?_
                    have ho := optLen_b (G.getD j 0)
                    exact ih_26 (j + optLen (G.getD j 0)) true _ _ _ (by omega) (by omega) (by first | exact ai_a hg2 c_34 | exact ai_b hg2 c_34 (by omega) c_46 | exact ai_c hg2 c_34 (by omega) c_46) hw (lv_sub hl [2, 3, 4, 5, 1, 6, 0] rfl)
          exact lp_26 _ 3 gd _ _ _ (Nat.lt_succ_self _) (by omega) (⟨fun _ => rfl, fun q => by rw [bnz c_12] at q; cases q⟩) hw (lv_sub hl [2, 3, 4, 5, 6, 1, 0] rfl)
  exact lp_5 _ 3 true _ _ _ (Nat.lt_succ_self _) (by omega) (fun _ => ht3) (by rw [Bool.true_and]) hw (lv_sub hl [2, 3, 4, 1, 0] rfl)

set_option maxHeartbeats 4000000 in
set_option maxRecDepth 100000 in
theorem c_X6_isControl (l : Launch) (g : GE) (md : Nat → Nat) (th : Int32) (pn : Nat) (ac : Nat) (an : Nat) (ci : Nat) (ck : Nat) (fGa : Nat → Int32) (e : Nat) (G : List Nat) (he : e < 2) (hG : GaM fGa e G) (hB : Bt G) (h5 : 5 ≤ G.length) (h0 : G.getD 0 0 = 1) : Ct l yX6_isControl cX6_isControl 4 (some .boolean) { frames := 2, cells := 0, slots := 0, locals := 48 } g [.ref (md 0), .int (nI e), .int (nI (G.length - 2))] [(md 0, .inr (5, [.ref (md 1), .int th, .ref (md 2), .ref (md 3), .ref (md 4), .ref (md 5), .ref (md 6), .ref (md 7), .ref (md 8), .ref (md 9), .ref (md 10), .ref (md 11), .ref (md 12), .ref (md 13), .ref (md 14), .ref (md 15), .ref (md 16), .ref (md 17), .ref (md 18), .ref (md 19), .ref (md 20), .ref (md 21), .ref (md 22), .int (nI pn), .ref (md 23), .int (nI ac), .int (nI an), .ref (md 24), .int (nI ci), .int (nI ck)])), (md 18, .inl (g.2.1 0, 80, .inl fGa))] (fun (v : Option Value) (u : Unit) => v = some (.int (nI (wfL G).toNat)) ∧ True) (fun u : Unit => [(md 0, .inr (5, [.ref (md 1), .int th, .ref (md 2), .ref (md 3), .ref (md 4), .ref (md 5), .ref (md 6), .ref (md 7), .ref (md 8), .ref (md 9), .ref (md 10), .ref (md 11), .ref (md 12), .ref (md 13), .ref (md 14), .ref (md 15), .ref (md 16), .ref (md 17), .ref (md 18), .ref (md 19), .ref (md 20), .ref (md 21), .ref (md 22), .int (nI pn), .ref (md 23), .int (nI ac), .int (nI an), .ref (md 24), .int (nI ci), .int (nI ck)])), (md 18, .inl (g.2.1 0, 80, .inl fGa))]) := by
  refine Ct.of (own := RX6) rfl rfl (Nat.le_of_ble_eq_true rfl) ?_
  intro P0 e0 s m below meth c ls hF hr hlk hnm hw hl
  have hx := hF.1
  have hb := hF.2.1
  have hl : lv_has ls 4 [(0, .ref (md 0)), (1, .int (nI e)), (2, .int (nI (G.length - 2)))] := hl
  have hG1 := hG.1
  have hB1 := hB.get 1
  refine lv_iload_n hx hb dX6_isControl_0 rfl (lv_at hl 2 rfl) ?_
  refine lv_iconst (v := nI 3) hx hb dX6_isControl_1 (by decide) ?_
  refine r_isub hx hb dX6_isControl_2 (by omega) ?_
  refine lv_istore_n (lv' := [(3, .int (nI ((G.length - 2) - 3))), (0, .ref (md 0)), (1, .int (nI e)), (2, .int (nI (G.length - 2)))]) hx hb dX6_isControl_3 rfl hl (by decide) rfl (fun ls hl => ?_)
  refine lv_aload_n hx hb dX6_isControl_4 rfl (lv_at hl 1 rfl) ?_
  refine lv_iload_n hx hb dX6_isControl_5 rfl (lv_at hl 2 rfl) ?_
  refine lv_iconst (v := nI 1) hx hb dX6_isControl_6 (by decide) ?_
  refine Ct.callV (wr := []) hF hw (c_X6_at l g md th pn ac an ci ck fGa e G 1 (by assumption) (by assumption) (by omega)) mwX6_149 [0, 1] [] rfl rfl rfl rfl (by decide) 0 rfl rfl ⟨by decide, by decide⟩ ⟨by decide, by decide⟩ rfl hl.1 (Nat.le_of_ble_eq_true rfl) rfl dX6_isControl_7 (fun v u H locs hp hw => ?_)
  obtain ⟨rfl, hp_7⟩ := hp
  have hw := Wd.sub (ws' := [(md 0, .inr (5, [.ref (md 1), .int th, .ref (md 2), .ref (md 3), .ref (md 4), .ref (md 5), .ref (md 6), .ref (md 7), .ref (md 8), .ref (md 9), .ref (md 10), .ref (md 11), .ref (md 12), .ref (md 13), .ref (md 14), .ref (md 15), .ref (md 16), .ref (md 17), .ref (md 18), .ref (md 19), .ref (md 20), .ref (md 21), .ref (md 22), .int (nI pn), .ref (md 23), .int (nI ac), .int (nI an), .ref (md 24), .int (nI ci), .int (nI ck)])), (md 18, .inl (g.2.1 0, 80, .inl fGa))]) hw [0, 1] rfl rfl
  refine W.eq (g2 := F0 m 10 ls [.int (nI (G.getD 1 0))]) rfl ?_
  rcases (show G.getD 1 0 = 0 ∨ G.getD 1 0 = 1 ∨ G.getD 1 0 = 2 ∨ G.getD 1 0 = 3 ∨ G.getD 1 0 = 4 ∨ G.getD 1 0 = 5 ∨ G.getD 1 0 = 6 ∨ G.getD 1 0 = 7 ∨ G.getD 1 0 = 8 ∨ G.getD 1 0 = 9 ∨ G.getD 1 0 = 10 ∨ 10 < G.getD 1 0 by omega) with hcd | hcd | hcd | hcd | hcd | hcd | hcd | hcd | hcd | hcd | hcd | hcd
  · refine r_top (n := 0) (by rw [hcd]) ?_
    refine lv_tableOut (tgt := 103) hx hb dX6_isControl_10 (by decide) (by decide) ?_
    refine lv_iconst (v := nI 1) hx hb dX6_isControl_103 (by decide) ?_
    exact RQ.zret hF hr hlk hw dX6_isControl_104 (rfl) ⟨by decide, by decide⟩ (()) (rfl) ⟨rbt (wfL_x h0 (by omega)), trivial⟩
  · refine r_top (n := 1) (by rw [hcd]) ?_
    refine lv_tableIn (tgt := 64) hx hb dX6_isControl_10 (by decide) (by decide) rfl (by decide) ?_
    refine lv_aload_n hx hb dX6_isControl_64 rfl (lv_at hl 1 rfl) ?_
    refine lv_iload_n hx hb dX6_isControl_65 rfl (lv_at hl 2 rfl) ?_
    refine lv_iload_n hx hb dX6_isControl_66 rfl (lv_at hl 3 rfl) ?_
    refine Ct.callV (wr := []) hF hw (c_X6_areOptions l g md th pn ac an ci ck fGa e G (G.length - 2) (by assumption) (by assumption) (by assumption) (by omega) (by omega)) mwX6_155 [0, 1] [] rfl rfl rfl rfl (by decide) 0 rfl rfl ⟨by decide, by decide⟩ ⟨by decide, by decide⟩ rfl hl.1 (Nat.le_of_ble_eq_true rfl) rfl dX6_isControl_67 (fun v u H locs hp hw => ?_)
    obtain ⟨rfl, hp_67⟩ := hp
    have hw := Wd.sub (ws' := [(md 0, .inr (5, [.ref (md 1), .int th, .ref (md 2), .ref (md 3), .ref (md 4), .ref (md 5), .ref (md 6), .ref (md 7), .ref (md 8), .ref (md 9), .ref (md 10), .ref (md 11), .ref (md 12), .ref (md 13), .ref (md 14), .ref (md 15), .ref (md 16), .ref (md 17), .ref (md 18), .ref (md 19), .ref (md 20), .ref (md 21), .ref (md 22), .int (nI pn), .ref (md 23), .int (nI ac), .int (nI an), .ref (md 24), .int (nI ci), .int (nI ck)])), (md 18, .inl (g.2.1 0, 80, .inl fGa))]) hw [0, 1] rfl rfl
    refine W.eq (g2 := F0 m 70 ls [.int (nI (wholeW G (G.length - 2) 3).toNat)]) rfl ?_
    exact RQ.zret hF hr hlk hw dX6_isControl_70 (by cases wholeW G (G.length - 2) 3 <;> rfl) ⟨by decide, by decide⟩ (()) (rfl) ⟨by rw [wfL_o h0 (by omega)], trivial⟩
  · refine r_top (n := 2) (by rw [hcd]) ?_
    refine lv_tableIn (tgt := 64) hx hb dX6_isControl_10 (by decide) (by decide) rfl (by decide) ?_
    refine lv_aload_n hx hb dX6_isControl_64 rfl (lv_at hl 1 rfl) ?_
    refine lv_iload_n hx hb dX6_isControl_65 rfl (lv_at hl 2 rfl) ?_
    refine lv_iload_n hx hb dX6_isControl_66 rfl (lv_at hl 3 rfl) ?_
    refine Ct.callV (wr := []) hF hw (c_X6_areOptions l g md th pn ac an ci ck fGa e G (G.length - 2) (by assumption) (by assumption) (by assumption) (by omega) (by omega)) mwX6_155 [0, 1] [] rfl rfl rfl rfl (by decide) 0 rfl rfl ⟨by decide, by decide⟩ ⟨by decide, by decide⟩ rfl hl.1 (Nat.le_of_ble_eq_true rfl) rfl dX6_isControl_67 (fun v u H locs hp hw => ?_)
    obtain ⟨rfl, hp_67⟩ := hp
    have hw := Wd.sub (ws' := [(md 0, .inr (5, [.ref (md 1), .int th, .ref (md 2), .ref (md 3), .ref (md 4), .ref (md 5), .ref (md 6), .ref (md 7), .ref (md 8), .ref (md 9), .ref (md 10), .ref (md 11), .ref (md 12), .ref (md 13), .ref (md 14), .ref (md 15), .ref (md 16), .ref (md 17), .ref (md 18), .ref (md 19), .ref (md 20), .ref (md 21), .ref (md 22), .int (nI pn), .ref (md 23), .int (nI ac), .int (nI an), .ref (md 24), .int (nI ci), .int (nI ck)])), (md 18, .inl (g.2.1 0, 80, .inl fGa))]) hw [0, 1] rfl rfl
    refine W.eq (g2 := F0 m 70 ls [.int (nI (wholeW G (G.length - 2) 3).toNat)]) rfl ?_
    exact RQ.zret hF hr hlk hw dX6_isControl_70 (by cases wholeW G (G.length - 2) 3 <;> rfl) ⟨by decide, by decide⟩ (()) (rfl) ⟨by rw [wfL_o h0 (by omega)], trivial⟩
  · refine r_top (n := 3) (by rw [hcd]) ?_
    refine lv_tableIn (tgt := 64) hx hb dX6_isControl_10 (by decide) (by decide) rfl (by decide) ?_
    refine lv_aload_n hx hb dX6_isControl_64 rfl (lv_at hl 1 rfl) ?_
    refine lv_iload_n hx hb dX6_isControl_65 rfl (lv_at hl 2 rfl) ?_
    refine lv_iload_n hx hb dX6_isControl_66 rfl (lv_at hl 3 rfl) ?_
    refine Ct.callV (wr := []) hF hw (c_X6_areOptions l g md th pn ac an ci ck fGa e G (G.length - 2) (by assumption) (by assumption) (by assumption) (by omega) (by omega)) mwX6_155 [0, 1] [] rfl rfl rfl rfl (by decide) 0 rfl rfl ⟨by decide, by decide⟩ ⟨by decide, by decide⟩ rfl hl.1 (Nat.le_of_ble_eq_true rfl) rfl dX6_isControl_67 (fun v u H locs hp hw => ?_)
    obtain ⟨rfl, hp_67⟩ := hp
    have hw := Wd.sub (ws' := [(md 0, .inr (5, [.ref (md 1), .int th, .ref (md 2), .ref (md 3), .ref (md 4), .ref (md 5), .ref (md 6), .ref (md 7), .ref (md 8), .ref (md 9), .ref (md 10), .ref (md 11), .ref (md 12), .ref (md 13), .ref (md 14), .ref (md 15), .ref (md 16), .ref (md 17), .ref (md 18), .ref (md 19), .ref (md 20), .ref (md 21), .ref (md 22), .int (nI pn), .ref (md 23), .int (nI ac), .int (nI an), .ref (md 24), .int (nI ci), .int (nI ck)])), (md 18, .inl (g.2.1 0, 80, .inl fGa))]) hw [0, 1] rfl rfl
    refine W.eq (g2 := F0 m 70 ls [.int (nI (wholeW G (G.length - 2) 3).toNat)]) rfl ?_
    exact RQ.zret hF hr hlk hw dX6_isControl_70 (by cases wholeW G (G.length - 2) 3 <;> rfl) ⟨by decide, by decide⟩ (()) (rfl) ⟨by rw [wfL_o h0 (by omega)], trivial⟩
  · refine r_top (n := 4) (by rw [hcd]) ?_
    refine lv_tableIn (tgt := 64) hx hb dX6_isControl_10 (by decide) (by decide) rfl (by decide) ?_
    refine lv_aload_n hx hb dX6_isControl_64 rfl (lv_at hl 1 rfl) ?_
    refine lv_iload_n hx hb dX6_isControl_65 rfl (lv_at hl 2 rfl) ?_
    refine lv_iload_n hx hb dX6_isControl_66 rfl (lv_at hl 3 rfl) ?_
    refine Ct.callV (wr := []) hF hw (c_X6_areOptions l g md th pn ac an ci ck fGa e G (G.length - 2) (by assumption) (by assumption) (by assumption) (by omega) (by omega)) mwX6_155 [0, 1] [] rfl rfl rfl rfl (by decide) 0 rfl rfl ⟨by decide, by decide⟩ ⟨by decide, by decide⟩ rfl hl.1 (Nat.le_of_ble_eq_true rfl) rfl dX6_isControl_67 (fun v u H locs hp hw => ?_)
    obtain ⟨rfl, hp_67⟩ := hp
    have hw := Wd.sub (ws' := [(md 0, .inr (5, [.ref (md 1), .int th, .ref (md 2), .ref (md 3), .ref (md 4), .ref (md 5), .ref (md 6), .ref (md 7), .ref (md 8), .ref (md 9), .ref (md 10), .ref (md 11), .ref (md 12), .ref (md 13), .ref (md 14), .ref (md 15), .ref (md 16), .ref (md 17), .ref (md 18), .ref (md 19), .ref (md 20), .ref (md 21), .ref (md 22), .int (nI pn), .ref (md 23), .int (nI ac), .int (nI an), .ref (md 24), .int (nI ci), .int (nI ck)])), (md 18, .inl (g.2.1 0, 80, .inl fGa))]) hw [0, 1] rfl rfl
    refine W.eq (g2 := F0 m 70 ls [.int (nI (wholeW G (G.length - 2) 3).toNat)]) rfl ?_
    exact RQ.zret hF hr hlk hw dX6_isControl_70 (by cases wholeW G (G.length - 2) 3 <;> rfl) ⟨by decide, by decide⟩ (()) (rfl) ⟨by rw [wfL_o h0 (by omega)], trivial⟩
  · refine r_top (n := 5) (by rw [hcd]) ?_
    refine lv_tableIn (tgt := 71) hx hb dX6_isControl_10 (by decide) (by decide) rfl (by decide) ?_
    refine lv_iload_n hx hb dX6_isControl_71 rfl (lv_at hl 0 rfl) ?_
    refine r_ne0 (tgt := 79) hx hb dX6_isControl_72 (by decide) (by omega) (fun c_72 => ?_) (fun c_72 => ?_)
    · refine lv_iconst (v := nI 0) hx hb dX6_isControl_79 (by decide) ?_
      exact RQ.zret hF hr hlk hw dX6_isControl_80 (rfl) ⟨by decide, by decide⟩ (()) (rfl) ⟨by first | exact rbt (by rw [wfL_e h0 (by omega)]; exact decide_eq_true (by omega)) | exact rbf (by rw [wfL_e h0 (by omega)]; exact decide_eq_false (by omega)), trivial⟩
    · refine lv_iconst (v := nI 1) hx hb dX6_isControl_75 (by decide) ?_
      refine lv_goto (tgt := 80) hx hb dX6_isControl_76 (by decide) ?_
      exact RQ.zret hF hr hlk hw dX6_isControl_80 (rfl) ⟨by decide, by decide⟩ (()) (rfl) ⟨by first | exact rbt (by rw [wfL_e h0 (by omega)]; exact decide_eq_true (by omega)) | exact rbf (by rw [wfL_e h0 (by omega)]; exact decide_eq_false (by omega)), trivial⟩
  · refine r_top (n := 6) (by rw [hcd]) ?_
    refine lv_tableIn (tgt := 71) hx hb dX6_isControl_10 (by decide) (by decide) rfl (by decide) ?_
    refine lv_iload_n hx hb dX6_isControl_71 rfl (lv_at hl 0 rfl) ?_
    refine r_ne0 (tgt := 79) hx hb dX6_isControl_72 (by decide) (by omega) (fun c_72 => ?_) (fun c_72 => ?_)
    · refine lv_iconst (v := nI 0) hx hb dX6_isControl_79 (by decide) ?_
      exact RQ.zret hF hr hlk hw dX6_isControl_80 (rfl) ⟨by decide, by decide⟩ (()) (rfl) ⟨by first | exact rbt (by rw [wfL_e h0 (by omega)]; exact decide_eq_true (by omega)) | exact rbf (by rw [wfL_e h0 (by omega)]; exact decide_eq_false (by omega)), trivial⟩
    · refine lv_iconst (v := nI 1) hx hb dX6_isControl_75 (by decide) ?_
      refine lv_goto (tgt := 80) hx hb dX6_isControl_76 (by decide) ?_
      exact RQ.zret hF hr hlk hw dX6_isControl_80 (rfl) ⟨by decide, by decide⟩ (()) (rfl) ⟨by first | exact rbt (by rw [wfL_e h0 (by omega)]; exact decide_eq_true (by omega)) | exact rbf (by rw [wfL_e h0 (by omega)]; exact decide_eq_false (by omega)), trivial⟩
  · refine r_top (n := 7) (by rw [hcd]) ?_
    refine lv_tableIn (tgt := 81) hx hb dX6_isControl_10 (by decide) (by decide) rfl (by decide) ?_
    refine lv_iload_n hx hb dX6_isControl_81 rfl (lv_at hl 0 rfl) ?_
    refine lv_iconst (v := nI 1) hx hb dX6_isControl_82 (by decide) ?_
    refine r_ne (tgt := 90) hx hb dX6_isControl_83 (by decide) (by omega) (by omega) (fun c_83 => ?_) (fun c_83 => ?_)
    · refine lv_iconst (v := nI 0) hx hb dX6_isControl_90 (by decide) ?_
      exact RQ.zret hF hr hlk hw dX6_isControl_91 (rfl) ⟨by decide, by decide⟩ (()) (rfl) ⟨by first | exact rbt (by rw [wfL_u h0 (by omega)]; exact decide_eq_true (by omega)) | exact rbf (by rw [wfL_u h0 (by omega)]; exact decide_eq_false (by omega)), trivial⟩
    · refine lv_iconst (v := nI 1) hx hb dX6_isControl_86 (by decide) ?_
      refine lv_goto (tgt := 91) hx hb dX6_isControl_87 (by decide) ?_
      exact RQ.zret hF hr hlk hw dX6_isControl_91 (rfl) ⟨by decide, by decide⟩ (()) (rfl) ⟨by first | exact rbt (by rw [wfL_u h0 (by omega)]; exact decide_eq_true (by omega)) | exact rbf (by rw [wfL_u h0 (by omega)]; exact decide_eq_false (by omega)), trivial⟩
  · refine r_top (n := 8) (by rw [hcd]) ?_
    refine lv_tableIn (tgt := 103) hx hb dX6_isControl_10 (by decide) (by decide) rfl (by decide) ?_
    refine lv_iconst (v := nI 1) hx hb dX6_isControl_103 (by decide) ?_
    exact RQ.zret hF hr hlk hw dX6_isControl_104 (rfl) ⟨by decide, by decide⟩ (()) (rfl) ⟨rbt (wfL_x h0 (by omega)), trivial⟩
  · refine r_top (n := 9) (by rw [hcd]) ?_
    refine lv_tableIn (tgt := 92) hx hb dX6_isControl_10 (by decide) (by decide) rfl (by decide) ?_
    refine lv_iload_n hx hb dX6_isControl_92 rfl (lv_at hl 0 rfl) ?_
    refine lv_iconst (v := nI 4) hx hb dX6_isControl_93 (by decide) ?_
    refine r_ne (tgt := 101) hx hb dX6_isControl_94 (by decide) (by omega) (by omega) (fun c_94 => ?_) (fun c_94 => ?_)
    · refine lv_iconst (v := nI 0) hx hb dX6_isControl_101 (by decide) ?_
      exact RQ.zret hF hr hlk hw dX6_isControl_102 (rfl) ⟨by decide, by decide⟩ (()) (rfl) ⟨by first | exact rbt (by rw [wfL_n h0 (by omega)]; exact decide_eq_true (by omega)) | exact rbf (by rw [wfL_n h0 (by omega)]; exact decide_eq_false (by omega)), trivial⟩
    · refine lv_iconst (v := nI 1) hx hb dX6_isControl_97 (by decide) ?_
      refine lv_goto (tgt := 102) hx hb dX6_isControl_98 (by decide) ?_
      exact RQ.zret hF hr hlk hw dX6_isControl_102 (rfl) ⟨by decide, by decide⟩ (()) (rfl) ⟨by first | exact rbt (by rw [wfL_n h0 (by omega)]; exact decide_eq_true (by omega)) | exact rbf (by rw [wfL_n h0 (by omega)]; exact decide_eq_false (by omega)), trivial⟩
  · refine r_top (n := 10) (by rw [hcd]) ?_
    refine lv_tableIn (tgt := 92) hx hb dX6_isControl_10 (by decide) (by decide) rfl (by decide) ?_
    refine lv_iload_n hx hb dX6_isControl_92 rfl (lv_at hl 0 rfl) ?_
    refine lv_iconst (v := nI 4) hx hb dX6_isControl_93 (by decide) ?_
    refine r_ne (tgt := 101) hx hb dX6_isControl_94 (by decide) (by omega) (by omega) (fun c_94 => ?_) (fun c_94 => ?_)
    · refine lv_iconst (v := nI 0) hx hb dX6_isControl_101 (by decide) ?_
      exact RQ.zret hF hr hlk hw dX6_isControl_102 (rfl) ⟨by decide, by decide⟩ (()) (rfl) ⟨by first | exact rbt (by rw [wfL_n h0 (by omega)]; exact decide_eq_true (by omega)) | exact rbf (by rw [wfL_n h0 (by omega)]; exact decide_eq_false (by omega)), trivial⟩
    · refine lv_iconst (v := nI 1) hx hb dX6_isControl_97 (by decide) ?_
      refine lv_goto (tgt := 102) hx hb dX6_isControl_98 (by decide) ?_
      exact RQ.zret hF hr hlk hw dX6_isControl_102 (rfl) ⟨by decide, by decide⟩ (()) (rfl) ⟨by first | exact rbt (by rw [wfL_n h0 (by omega)]; exact decide_eq_true (by omega)) | exact rbf (by rw [wfL_n h0 (by omega)]; exact decide_eq_false (by omega)), trivial⟩
  · refine lv_tableOut (tgt := 103) hx hb dX6_isControl_10 (by right; rw [nI_toInt (by omega)]; omega) (by decide) ?_
    refine lv_iconst (v := nI 1) hx hb dX6_isControl_103 (by decide) ?_
    exact RQ.zret hF hr hlk hw dX6_isControl_104 (rfl) ⟨by decide, by decide⟩ (()) (rfl) ⟨rbt (wfL_x h0 (by omega)), trivial⟩
