set_option maxHeartbeats 4000000 in
set_option maxRecDepth 100000 in
theorem c_X0_change (l : Launch) (g : GE) (ed : Nat → Nat) (E : AE) (fr : Nat) (fB : Nat → Int32) (fG : Nat → Int32) (fK : Nat → Int32) (fQ : Nat → Int32) (fA : Nat → Int32) (fD : Nat → Int32) (fC : Nat → Int32) (N : List Nat) (D : List Nat) (c9 : Nat) (hc9 : c9 < 256) (hX : CX fr fB fG fK fQ fC E) (hk : c9 = 107 → 5 ≤ (eG E).length) : Ct l yX0_change cX0_change 2 none { frames := 2, cells := 0, slots := 0, locals := 43 } g [.ref (ed 0), .int (nI c9)] [(ed 0, .inr (0, [.ref (ed 1), .ref (ed 3), .ref (ed 4), .ref (ed 6), .ref (ed 8), .ref (ed 10), .ref (ed 12), .ref (ed 14), .int (nI (eSz E)), .int (nI (eLe E)), .int (eNu E), .int (nI (eAS E).toNat), .int (nI (eAN E).toNat), .int (nI (eSt E)), .int (nI (eId E)), .int (eTr E), .int (nI (eTi E))])), (ed 1, .inr (1, [.ref (ed 2), .int (nI fr), .int (nI (eB E).length), .int (nI (eLp E).toNat)])), (ed 2, .inl (g.2.1 0, 300, .inl fB)), (ed 3, .inr (3, [.ref (ed 4), .int (nI (eEs E).toNat), .int (nI (eOv E).toNat)])), (ed 4, .inr (2, [.ref (ed 5), .int (nI (eG E).length)])), (ed 5, .inl (g.2.1 0, 40, .inl fG)), (ed 6, .inr (2, [.ref (ed 7), .int (nI (eKl E).length)])), (ed 7, .inl (g.2.1 0, 40, .inl fK)), (ed 8, .inr (2, [.ref (ed 9), .int (nI (eAq E).length)])), (ed 9, .inl (g.2.1 0, 13, .inl fQ)), (ed 10, .inr (2, [.ref (ed 11), .int (nI N.length)])), (ed 11, .inl (g.2.1 0, 40, .inl fA)), (ed 12, .inr (2, [.ref (ed 13), .int (nI D.length)])), (ed 13, .inl (g.2.1 0, 40, .inl fD)), (ed 14, .inl (g.2.1 0, 6, .inl fC))] (fun (v : Option Value) (u : (Nat → Int32) × (Nat → Int32)) => v = none ∧ CX fr fB fG u.1 fQ u.2 (chE E c9)) (fun u : (Nat → Int32) × (Nat → Int32) => [(ed 0, .inr (0, [.ref (ed 1), .ref (ed 3), .ref (ed 4), .ref (ed 6), .ref (ed 8), .ref (ed 10), .ref (ed 12), .ref (ed 14), .int (nI (eSz (chE E c9))), .int (nI (eLe (chE E c9))), .int (eNu (chE E c9)), .int (nI (eAS (chE E c9)).toNat), .int (nI (eAN (chE E c9)).toNat), .int (nI (eSt (chE E c9))), .int (nI (eId (chE E c9))), .int (eTr (chE E c9)), .int (nI (eTi (chE E c9)))])), (ed 1, .inr (1, [.ref (ed 2), .int (nI fr), .int (nI (eB (chE E c9)).length), .int (nI (eLp (chE E c9)).toNat)])), (ed 2, .inl (g.2.1 0, 300, .inl fB)), (ed 3, .inr (3, [.ref (ed 4), .int (nI (eEs (chE E c9)).toNat), .int (nI (eOv (chE E c9)).toNat)])), (ed 4, .inr (2, [.ref (ed 5), .int (nI (eG (chE E c9)).length)])), (ed 5, .inl (g.2.1 0, 40, .inl fG)), (ed 6, .inr (2, [.ref (ed 7), .int (nI (eKl (chE E c9)).length)])), (ed 7, .inl (g.2.1 0, 40, .inl u.1)), (ed 8, .inr (2, [.ref (ed 9), .int (nI (eAq (chE E c9)).length)])), (ed 9, .inl (g.2.1 0, 13, .inl fQ)), (ed 10, .inr (2, [.ref (ed 11), .int (nI N.length)])), (ed 11, .inl (g.2.1 0, 40, .inl fA)), (ed 12, .inr (2, [.ref (ed 13), .int (nI D.length)])), (ed 13, .inl (g.2.1 0, 40, .inl fD)), (ed 14, .inl (g.2.1 0, 6, .inl u.2))]) := by
  refine Ct.of (own := RX0) rfl rfl (Nat.le_of_ble_eq_true rfl) ?_
  intro P0 e0 s m below meth c ls hF hr hlk hnm hw hl
  have hx := hF.1
  have hb := hF.2.1
  have hl : lv_has ls 2 [(0, .ref (ed 0)), (1, .int (nI c9))] := hl
  obtain ⟨hI, hR, hfG, hfK, hfQ, hC⟩ := id hX
  have hG40 := hI.2.2.2.2.2.2.2.2.1.1
  have hGB := hI.2.2.2.2.2.2.2.2.1.2.1
  have hi8 := hI.2.2.2.1
  refine lv_iload_n hx hb dX0_change_0 rfl (lv_at hl 1 rfl) ?_
  rcases (show c9 = 105 ∨ c9 = 107 ∨ c9 = 117 ∨ c9 = 122 ∨ (c9 ≠ 105 ∧ c9 ≠ 107 ∧ c9 ≠ 117 ∧ c9 ≠ 122) by omega) with hcc | hcc | hcc | hcc | hcc
  · refine r_top (n := 105) (by rw [hcc]) ?_
    refine lv_lookup (off := 43) (tgt := 44) hx hb dX0_change_1 (by decide) (by decide) (by decide) ?_
    refine lv_aload_n hx hb dX0_change_44 rfl (lv_at hl 0 rfl) ?_
    refine lv_iconst (v := nI 5) hx hb dX0_change_45 (by decide) ?_
    refine r_put (ws' := [(ed 0, .inr (0, [.ref (ed 1), .ref (ed 3), .ref (ed 4), .ref (ed 6), .ref (ed 8), .ref (ed 10), .ref (ed 12), .ref (ed 14), .int (nI (eSz E)), .int (nI (eLe E)), .int (eNu E), .int (nI (eAS E).toNat), .int (nI (eAN E).toNat), .int (nI (eSt E)), .int (nI (eId E)), .int (nI 5), .int (nI (eTi E))])), (ed 1, .inr (1, [.ref (ed 2), .int (nI fr), .int (nI (eB E).length), .int (nI (eLp E).toNat)])), (ed 2, .inl (g.2.1 0, 300, .inl fB)), (ed 3, .inr (3, [.ref (ed 4), .int (nI (eEs E).toNat), .int (nI (eOv E).toNat)])), (ed 4, .inr (2, [.ref (ed 5), .int (nI (eG E).length)])), (ed 5, .inl (g.2.1 0, 40, .inl fG)), (ed 6, .inr (2, [.ref (ed 7), .int (nI (eKl E).length)])), (ed 7, .inl (g.2.1 0, 40, .inl fK)), (ed 8, .inr (2, [.ref (ed 9), .int (nI (eAq E).length)])), (ed 9, .inl (g.2.1 0, 13, .inl fQ)), (ed 10, .inr (2, [.ref (ed 11), .int (nI N.length)])), (ed 11, .inl (g.2.1 0, 40, .inl fA)), (ed 12, .inr (2, [.ref (ed 13), .int (nI D.length)])), (ed 13, .inl (g.2.1 0, 40, .inl fD)), (ed 14, .inl (g.2.1 0, 6, .inl fC))]) hF hw flX0_109 ftX0 dX0_change_46 0 rfl rfl rfl rfl (Nat.le_of_ble_eq_true rfl) rfl (fun H locs hw => ?_)
    refine lv_goto (tgt := 122) hx hb dX0_change_49 (by decide) ?_
    have hch9 : chE E c9 = _ := ch_i hcc
    have hinv := chE_inv (c := c9) hI hk
    rw [hch9] at hinv
    exact RQ.vret hF hr hlk hw dX0_change_122 ⟨by decide, by decide⟩ ((fK, fC)) (by rw [hch9] <;> rfl) ⟨rfl, by rw [hch9]; exact ⟨hinv, hR, hfG, hfK, hfQ, hC⟩⟩
  · refine r_top (n := 107) (by rw [hcc]) ?_
    refine lv_lookup (off := 77) (tgt := 78) hx hb dX0_change_1 (by decide) (by decide) (by decide) ?_
    refine lv_aload_n hx hb dX0_change_78 rfl (lv_at hl 0 rfl) ?_
    refine wget hF hw flX0_30 dX0_change_79 0 rfl rfl ?_
    refine lv_aload_n hx hb dX0_change_82 rfl (lv_at hl 0 rfl) ?_
    refine wget hF hw flX0_22 dX0_change_83 0 rfl rfl ?_
    refine Ct.callV (wr := [(ed 0, .inr (0, [.ref (ed 1), .ref (ed 3), .ref (ed 4), .ref (ed 6), .ref (ed 8), .ref (ed 10), .ref (ed 12), .ref (ed 14), .int (nI (eSz E)), .int (nI (eLe E)), .int (eNu E), .int (nI (eAS E).toNat), .int (nI (eAN E).toNat), .int (nI (eSt E)), .int (nI (eId E)), .int (eTr E), .int (nI (eTi E))])), (ed 1, .inr (1, [.ref (ed 2), .int (nI fr), .int (nI (eB E).length), .int (nI (eLp E).toNat)])), (ed 2, .inl (g.2.1 0, 300, .inl fB)), (ed 3, .inr (3, [.ref (ed 4), .int (nI (eEs E).toNat), .int (nI (eOv E).toNat)])), (ed 8, .inr (2, [.ref (ed 9), .int (nI (eAq E).length)])), (ed 9, .inl (g.2.1 0, 13, .inl fQ)), (ed 10, .inr (2, [.ref (ed 11), .int (nI N.length)])), (ed 11, .inl (g.2.1 0, 40, .inl fA)), (ed 12, .inr (2, [.ref (ed 13), .int (nI D.length)])), (ed 13, .inl (g.2.1 0, 40, .inl fD)), (ed 14, .inl (g.2.1 0, 6, .inl fC))]) hF hw (c_X3_copyFrom l g (ed 6) (ed 7) 40 fK (eKl E) (ed 4) (ed 5) 40 fG (eG E) (by decide) (by decide) (hG40) (hfG) (hGB) (hG40)) mwX0_270 [6, 7, 4, 5] [0, 1, 2, 3, 8, 9, 10, 11, 12, 13, 14] rfl rfl rfl rfl (by decide) 0 rfl rfl ⟨by decide, by decide⟩ ⟨by decide, by decide⟩ rfl hl.1 (Nat.le_of_ble_eq_true rfl) rfl dX0_change_86 (fun v u H locs hp hw => ?_)
    obtain ⟨f3_86, rfl⟩ : ∃ z, z = u := ⟨_, rfl⟩
    obtain ⟨rfl, hp_86⟩ := hp
    try dsimp only at hp_86
    have hw := Wd.sub (ws' := [(ed 0, .inr (0, [.ref (ed 1), .ref (ed 3), .ref (ed 4), .ref (ed 6), .ref (ed 8), .ref (ed 10), .ref (ed 12), .ref (ed 14), .int (nI (eSz E)), .int (nI (eLe E)), .int (eNu E), .int (nI (eAS E).toNat), .int (nI (eAN E).toNat), .int (nI (eSt E)), .int (nI (eId E)), .int (eTr E), .int (nI (eTi E))])), (ed 1, .inr (1, [.ref (ed 2), .int (nI fr), .int (nI (eB E).length), .int (nI (eLp E).toNat)])), (ed 2, .inl (g.2.1 0, 300, .inl fB)), (ed 3, .inr (3, [.ref (ed 4), .int (nI (eEs E).toNat), .int (nI (eOv E).toNat)])), (ed 4, .inr (2, [.ref (ed 5), .int (nI (eG E).length)])), (ed 5, .inl (g.2.1 0, 40, .inl fG)), (ed 6, .inr (2, [.ref (ed 7), .int (nI (eG E).length)])), (ed 7, .inl (g.2.1 0, 40, .inl f3_86)), (ed 8, .inr (2, [.ref (ed 9), .int (nI (eAq E).length)])), (ed 9, .inl (g.2.1 0, 13, .inl fQ)), (ed 10, .inr (2, [.ref (ed 11), .int (nI N.length)])), (ed 11, .inl (g.2.1 0, 40, .inl fA)), (ed 12, .inr (2, [.ref (ed 13), .int (nI D.length)])), (ed 13, .inl (g.2.1 0, 40, .inl fD)), (ed 14, .inl (g.2.1 0, 6, .inl fC))]) hw [0, 1, 2, 3, 13, 14, 11, 12, 4, 5, 6, 7, 8, 9, 10] rfl rfl
    refine W.eq (g2 := F0 m 89 ls []) rfl ?_
    refine lv_aload_n hx hb dX0_change_89 rfl (lv_at hl 0 rfl) ?_
    refine wget hF hw flX0_42 dX0_change_90 0 rfl rfl ?_
    refine lv_iconst (v := nI 5) hx hb dX0_change_93 (by decide) ?_
    refine lv_dup2_11 hx hb dX0_change_94 rfl rfl ?_
    refine r_iald hF hw dX0_change_95 14 rfl (by omega) (by omega) ?_
    refine lv_iconst (v := nI 1) hx hb dX0_change_96 (by decide) ?_
    refine lv_iadd hx hb dX0_change_97 ?_
    refine r_iast (ws' := [(ed 0, .inr (0, [.ref (ed 1), .ref (ed 3), .ref (ed 4), .ref (ed 6), .ref (ed 8), .ref (ed 10), .ref (ed 12), .ref (ed 14), .int (nI (eSz E)), .int (nI (eLe E)), .int (eNu E), .int (nI (eAS E).toNat), .int (nI (eAN E).toNat), .int (nI (eSt E)), .int (nI (eId E)), .int (eTr E), .int (nI (eTi E))])), (ed 1, .inr (1, [.ref (ed 2), .int (nI fr), .int (nI (eB E).length), .int (nI (eLp E).toNat)])), (ed 2, .inl (g.2.1 0, 300, .inl fB)), (ed 3, .inr (3, [.ref (ed 4), .int (nI (eEs E).toNat), .int (nI (eOv E).toNat)])), (ed 4, .inr (2, [.ref (ed 5), .int (nI (eG E).length)])), (ed 5, .inl (g.2.1 0, 40, .inl fG)), (ed 6, .inr (2, [.ref (ed 7), .int (nI (eG E).length)])), (ed 7, .inl (g.2.1 0, 40, .inl f3_86)), (ed 8, .inr (2, [.ref (ed 9), .int (nI (eAq E).length)])), (ed 9, .inl (g.2.1 0, 13, .inl fQ)), (ed 10, .inr (2, [.ref (ed 11), .int (nI N.length)])), (ed 11, .inl (g.2.1 0, 40, .inl fA)), (ed 12, .inr (2, [.ref (ed 13), .int (nI D.length)])), (ed 13, .inl (g.2.1 0, 40, .inl fD)), (ed 14, .inl (g.2.1 0, 6, .inl (upd fC 5 ((fC 5) + (nI 1)))))]) hF hw dX0_change_98 14 rfl (by omega) (by omega) rfl (fun H locs hw => ?_)
    refine lv_goto (tgt := 122) hx hb dX0_change_99 (by decide) ?_
    have hch9 : chE E c9 = _ := ch_k hcc
    have hinv := chE_inv (c := c9) hI hk
    rw [hch9] at hinv
    exact RQ.vret hF hr hlk hw dX0_change_122 ⟨by decide, by decide⟩ ((f3_86, upd fC 5 ((fC 5) + (nI 1)))) (by rw [hch9] <;> rfl) ⟨rfl, by rw [hch9]; exact ⟨hinv, hR, hfG, hp_86, hfQ, hC.tal (by decide)⟩⟩
  · refine r_top (n := 117) (by rw [hcc]) ?_
    refine lv_lookup (off := 64) (tgt := 65) hx hb dX0_change_1 (by decide) (by decide) (by decide) ?_
    refine lv_aload_n hx hb dX0_change_65 rfl (lv_at hl 0 rfl) ?_
    refine wget hF hw flX0_42 dX0_change_66 0 rfl rfl ?_
    refine lv_iconst (v := nI 4) hx hb dX0_change_69 (by decide) ?_
    refine lv_dup2_11 hx hb dX0_change_70 rfl rfl ?_
    refine r_iald hF hw dX0_change_71 14 rfl (by omega) (by omega) ?_
    refine lv_iconst (v := nI 1) hx hb dX0_change_72 (by decide) ?_
    refine lv_iadd hx hb dX0_change_73 ?_
    refine r_iast (ws' := [(ed 0, .inr (0, [.ref (ed 1), .ref (ed 3), .ref (ed 4), .ref (ed 6), .ref (ed 8), .ref (ed 10), .ref (ed 12), .ref (ed 14), .int (nI (eSz E)), .int (nI (eLe E)), .int (eNu E), .int (nI (eAS E).toNat), .int (nI (eAN E).toNat), .int (nI (eSt E)), .int (nI (eId E)), .int (eTr E), .int (nI (eTi E))])), (ed 1, .inr (1, [.ref (ed 2), .int (nI fr), .int (nI (eB E).length), .int (nI (eLp E).toNat)])), (ed 2, .inl (g.2.1 0, 300, .inl fB)), (ed 3, .inr (3, [.ref (ed 4), .int (nI (eEs E).toNat), .int (nI (eOv E).toNat)])), (ed 4, .inr (2, [.ref (ed 5), .int (nI (eG E).length)])), (ed 5, .inl (g.2.1 0, 40, .inl fG)), (ed 6, .inr (2, [.ref (ed 7), .int (nI (eKl E).length)])), (ed 7, .inl (g.2.1 0, 40, .inl fK)), (ed 8, .inr (2, [.ref (ed 9), .int (nI (eAq E).length)])), (ed 9, .inl (g.2.1 0, 13, .inl fQ)), (ed 10, .inr (2, [.ref (ed 11), .int (nI N.length)])), (ed 11, .inl (g.2.1 0, 40, .inl fA)), (ed 12, .inr (2, [.ref (ed 13), .int (nI D.length)])), (ed 13, .inl (g.2.1 0, 40, .inl fD)), (ed 14, .inl (g.2.1 0, 6, .inl (upd fC 4 ((fC 4) + (nI 1)))))]) hF hw dX0_change_74 14 rfl (by omega) (by omega) rfl (fun H locs hw => ?_)
    refine lv_goto (tgt := 122) hx hb dX0_change_75 (by decide) ?_
    have hch9 : chE E c9 = _ := ch_u hcc
    have hinv := chE_inv (c := c9) hI hk
    rw [hch9] at hinv
    exact RQ.vret hF hr hlk hw dX0_change_122 ⟨by decide, by decide⟩ ((fK, upd fC 4 ((fC 4) + (nI 1)))) (by rw [hch9] <;> rfl) ⟨rfl, by rw [hch9]; exact ⟨hinv, hR, hfG, hfK, hfQ, hC.tal (by decide)⟩⟩
  · refine r_top (n := 122) (by rw [hcc]) ?_
    refine lv_lookup (off := 51) (tgt := 52) hx hb dX0_change_1 (by decide) (by decide) (by decide) ?_
    refine lv_aload_n hx hb dX0_change_52 rfl (lv_at hl 0 rfl) ?_
    refine lv_iconst (v := nI 0) hx hb dX0_change_53 (by decide) ?_
    refine r_put (ws' := [(ed 0, .inr (0, [.ref (ed 1), .ref (ed 3), .ref (ed 4), .ref (ed 6), .ref (ed 8), .ref (ed 10), .ref (ed 12), .ref (ed 14), .int (nI (eSz E)), .int (nI (eLe E)), .int (eNu E), .int (nI (eAS E).toNat), .int (nI (eAN E).toNat), .int (nI (eSt E)), .int (nI (eId E)), .int (nI 0), .int (nI (eTi E))])), (ed 1, .inr (1, [.ref (ed 2), .int (nI fr), .int (nI (eB E).length), .int (nI (eLp E).toNat)])), (ed 2, .inl (g.2.1 0, 300, .inl fB)), (ed 3, .inr (3, [.ref (ed 4), .int (nI (eEs E).toNat), .int (nI (eOv E).toNat)])), (ed 4, .inr (2, [.ref (ed 5), .int (nI (eG E).length)])), (ed 5, .inl (g.2.1 0, 40, .inl fG)), (ed 6, .inr (2, [.ref (ed 7), .int (nI (eKl E).length)])), (ed 7, .inl (g.2.1 0, 40, .inl fK)), (ed 8, .inr (2, [.ref (ed 9), .int (nI (eAq E).length)])), (ed 9, .inl (g.2.1 0, 13, .inl fQ)), (ed 10, .inr (2, [.ref (ed 11), .int (nI N.length)])), (ed 11, .inl (g.2.1 0, 40, .inl fA)), (ed 12, .inr (2, [.ref (ed 13), .int (nI D.length)])), (ed 13, .inl (g.2.1 0, 40, .inl fD)), (ed 14, .inl (g.2.1 0, 6, .inl fC))]) hF hw flX0_109 ftX0 dX0_change_54 0 rfl rfl rfl rfl (Nat.le_of_ble_eq_true rfl) rfl (fun H locs hw => ?_)
    refine lv_aload_n hx hb dX0_change_57 rfl (lv_at hl 0 rfl) ?_
    refine lv_iconst (v := nI 3) hx hb dX0_change_58 (by decide) ?_
    refine r_put (ws' := [(ed 0, .inr (0, [.ref (ed 1), .ref (ed 3), .ref (ed 4), .ref (ed 6), .ref (ed 8), .ref (ed 10), .ref (ed 12), .ref (ed 14), .int (nI (eSz E)), .int (nI (eLe E)), .int (eNu E), .int (nI (eAS E).toNat), .int (nI (eAN E).toNat), .int (nI (eSt E)), .int (nI (eId E)), .int (nI 0), .int (nI 3)])), (ed 1, .inr (1, [.ref (ed 2), .int (nI fr), .int (nI (eB E).length), .int (nI (eLp E).toNat)])), (ed 2, .inl (g.2.1 0, 300, .inl fB)), (ed 3, .inr (3, [.ref (ed 4), .int (nI (eEs E).toNat), .int (nI (eOv E).toNat)])), (ed 4, .inr (2, [.ref (ed 5), .int (nI (eG E).length)])), (ed 5, .inl (g.2.1 0, 40, .inl fG)), (ed 6, .inr (2, [.ref (ed 7), .int (nI (eKl E).length)])), (ed 7, .inl (g.2.1 0, 40, .inl fK)), (ed 8, .inr (2, [.ref (ed 9), .int (nI (eAq E).length)])), (ed 9, .inl (g.2.1 0, 13, .inl fQ)), (ed 10, .inr (2, [.ref (ed 11), .int (nI N.length)])), (ed 11, .inl (g.2.1 0, 40, .inl fA)), (ed 12, .inr (2, [.ref (ed 13), .int (nI D.length)])), (ed 13, .inl (g.2.1 0, 40, .inl fD)), (ed 14, .inl (g.2.1 0, 6, .inl fC))]) hF hw flX0_106 ftX0 dX0_change_59 0 rfl rfl rfl rfl (Nat.le_of_ble_eq_true rfl) rfl (fun H locs hw => ?_)
    refine lv_goto (tgt := 122) hx hb dX0_change_62 (by decide) ?_
    have hch9 : chE E c9 = _ := ch_z hcc
    have hinv := chE_inv (c := c9) hI hk
    rw [hch9] at hinv
    exact RQ.vret hF hr hlk hw dX0_change_122 ⟨by decide, by decide⟩ ((fK, fC)) (by rw [hch9] <;> rfl) ⟨rfl, by rw [hch9]; exact ⟨hinv, hR, hfG, hfK, hfQ, hC⟩⟩
  · refine lv_lookup (off := 101) (tgt := 102) hx hb dX0_change_1 (by decide) (by rw [nI_toInt (by omega)]; exact lk4 (by omega) (by omega) (by omega) (by omega)) (by decide) ?_
    refine lv_iload_n hx hb dX0_change_102 rfl (lv_at hl 1 rfl) ?_
    refine lv_bipush (v := nI 48) hx hb dX0_change_103 (by decide) ?_
    refine r_lt (tgt := 122) hx hb dX0_change_105 (by decide) (by omega) (by omega) (fun c_105 => ?_) (fun c_105 => ?_)
    · have hch9 : chE E c9 = _ := ch_no hcc.1 hcc.2.1 hcc.2.2.1 hcc.2.2.2 (by omega)
      have hinv := chE_inv (c := c9) hI hk
      rw [hch9] at hinv
      exact RQ.vret hF hr hlk hw dX0_change_122 ⟨by decide, by decide⟩ ((fK, fC)) (by rw [hch9] <;> rfl) ⟨rfl, by rw [hch9]; exact ⟨hinv, hR, hfG, hfK, hfQ, hC⟩⟩
    · refine lv_iload_n hx hb dX0_change_108 rfl (lv_at hl 1 rfl) ?_
      refine lv_bipush (v := nI 57) hx hb dX0_change_109 (by decide) ?_
      refine r_gt (tgt := 122) hx hb dX0_change_111 (by decide) (by omega) (by omega) (fun c_111 => ?_) (fun c_111 => ?_)
      · have hch9 : chE E c9 = _ := ch_no hcc.1 hcc.2.1 hcc.2.2.1 hcc.2.2.2 (by omega)
        have hinv := chE_inv (c := c9) hI hk
        rw [hch9] at hinv
        exact RQ.vret hF hr hlk hw dX0_change_122 ⟨by decide, by decide⟩ ((fK, fC)) (by rw [hch9] <;> rfl) ⟨rfl, by rw [hch9]; exact ⟨hinv, hR, hfG, hfK, hfQ, hC⟩⟩
      · refine lv_aload_n hx hb dX0_change_114 rfl (lv_at hl 0 rfl) ?_
        refine lv_iload_n hx hb dX0_change_115 rfl (lv_at hl 1 rfl) ?_
        refine lv_bipush (v := nI 48) hx hb dX0_change_116 (by decide) ?_
        refine r_isub hx hb dX0_change_118 (by omega) ?_
        refine r_put (ws' := [(ed 0, .inr (0, [.ref (ed 1), .ref (ed 3), .ref (ed 4), .ref (ed 6), .ref (ed 8), .ref (ed 10), .ref (ed 12), .ref (ed 14), .int (nI (eSz E)), .int (nI (eLe E)), .int (eNu E), .int (nI (eAS E).toNat), .int (nI (eAN E).toNat), .int (nI (c9 - 48)), .int (nI (eId E)), .int (eTr E), .int (nI (eTi E))])), (ed 1, .inr (1, [.ref (ed 2), .int (nI fr), .int (nI (eB E).length), .int (nI (eLp E).toNat)])), (ed 2, .inl (g.2.1 0, 300, .inl fB)), (ed 3, .inr (3, [.ref (ed 4), .int (nI (eEs E).toNat), .int (nI (eOv E).toNat)])), (ed 4, .inr (2, [.ref (ed 5), .int (nI (eG E).length)])), (ed 5, .inl (g.2.1 0, 40, .inl fG)), (ed 6, .inr (2, [.ref (ed 7), .int (nI (eKl E).length)])), (ed 7, .inl (g.2.1 0, 40, .inl fK)), (ed 8, .inr (2, [.ref (ed 9), .int (nI (eAq E).length)])), (ed 9, .inl (g.2.1 0, 13, .inl fQ)), (ed 10, .inr (2, [.ref (ed 11), .int (nI N.length)])), (ed 11, .inl (g.2.1 0, 40, .inl fA)), (ed 12, .inr (2, [.ref (ed 13), .int (nI D.length)])), (ed 13, .inl (g.2.1 0, 40, .inl fD)), (ed 14, .inl (g.2.1 0, 6, .inl fC))]) hF hw flX0_60 ftX0 dX0_change_119 0 rfl rfl rfl rfl (Nat.le_of_ble_eq_true rfl) rfl (fun H locs hw => ?_)
        have hch9 : chE E c9 = _ := ch_d ⟨by omega, by omega⟩
        have hinv := chE_inv (c := c9) hI hk
        rw [hch9] at hinv
        exact RQ.vret hF hr hlk hw dX0_change_122 ⟨by decide, by decide⟩ ((fK, fC)) (by rw [hch9] <;> rfl) ⟨rfl, by rw [hch9]; exact ⟨hinv, hR, hfG, hfK, hfQ, hC⟩⟩
