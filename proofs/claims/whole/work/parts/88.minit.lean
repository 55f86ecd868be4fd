set_option maxHeartbeats 4000000 in
set_option maxRecDepth 100000 in
theorem c_X6_init (l : Launch) (g : GE) (mo : Nat)  : Ct l yX6_init cX6_init 2 none { frames := 1, cells := 24, slots := 1084, locals := 20 } g [.ref mo] [(mo, .inr (5, [.null, .int (nI 0), .null, .null, .null, .null, .null, .null, .null, .null, .null, .null, .null, .null, .null, .null, .null, .null, .null, .null, .null, .null, .null, .int (nI 0), .null, .int (nI 0), .int (nI 0), .null, .int (nI 0), .int (nI 0)]))] (fun (v : Option Value) (u : (Nat → Nat) × (Nat → Int32)) => v = none ∧ RM (u2 (nI 1500)) d0 (u2 (nI 1)) (u2 (nI 1)) d0 d0 d0 (u2 (-1)) d0 d0 d0 d0 d0 d0 (u2 (nI 64)) d0 d0 d0 d0 d0 d0 (fun _ => E00) ∧ SQ d0 0 [] 0 0 ∧ RuK 160 u.2 ∧ u.1 0 = mo) (fun u : (Nat → Nat) × (Nat → Int32) => [(u.1 0, .inr (5, [.ref (u.1 1), .int (nI 0), .ref (u.1 2), .ref (u.1 3), .ref (u.1 4), .ref (u.1 5), .ref (u.1 6), .ref (u.1 7), .ref (u.1 8), .ref (u.1 9), .ref (u.1 10), .ref (u.1 11), .ref (u.1 12), .ref (u.1 13), .ref (u.1 14), .ref (u.1 15), .ref (u.1 16), .ref (u.1 17), .ref (u.1 18), .ref (u.1 19), .ref (u.1 20), .ref (u.1 21), .ref (u.1 22), .int (nI 0), .ref (u.1 23), .int (nI 0), .int (nI ([] : List Nat).length), .ref (u.1 24), .int (nI 0), .int (nI 0)])), (u.1 3, .inl (g.2.1 0, 2, .inl (u2 (nI 1500)))), (u.1 5, .inl (g.2.1 0, 2, .inl (fun _ => 0))), (u.1 9, .inl (g.2.1 1, 2, .inl (u2 (nI 1)))), (u.1 10, .inl (g.2.1 1, 2, .inl (u2 (nI 1)))), (u.1 6, .inl (g.2.1 0, 2, .inl (fun _ => 0))), (u.1 7, .inl (g.2.1 0, 2, .inl (fun _ => 0))), (u.1 8, .inl (g.2.1 0, 2, .inl (fun _ => 0))), (u.1 11, .inl (g.2.1 0, 2, .inl (u2 (-1)))), (u.1 12, .inl (g.2.1 0, 2, .inl (fun _ => 0))), (u.1 13, .inl (g.2.1 0, 16, .inl (fun _ => 0))), (u.1 14, .inl (g.2.1 0, 2, .inl (fun _ => 0))), (u.1 15, .inl (g.2.1 0, 600, .inl (fun _ => 0))), (u.1 22, .inl (g.2.1 0, 12, .inl (fun _ => 0))), (u.1 23, .inl (g.2.1 0, 64, .inl (fun _ => 0))), (u.1 24, .inl (g.2.1 0, 40, .inl (fun _ => 0))), (u.1 1, .inl (g.2.1 0, 160, .inl u.2)), (u.1 2, .inl (g.2.1 0, 2, .inl (fun _ => 0))), (u.1 4, .inl (g.2.1 0, 2, .inl (u2 (nI 64)))), (u.1 18, .inl (g.2.1 0, 80, .inl (fun _ => 0))), (u.1 17, .inl (g.2.1 0, 2, .inl (fun _ => 0))), (u.1 19, .inl (g.2.1 1, 2, .inl (fun _ => 0))), (u.1 20, .inl (g.2.1 0, 2, .inl (fun _ => 0))), (u.1 21, .inl (g.2.1 0, 80, .inl (fun _ => 0))), (u.1 16, .inl (g.2.1 1, 2, .inl (fun _ => 0)))]) := by
  refine Ct.of (own := RX6) rfl rfl (Nat.le_of_ble_eq_true rfl) ?_
  intro P0 e0 s m below meth c ls hF hr hlk hnm hw hl
  have hx := hF.1
  have hb := hF.2.1
  have hl : lv_has ls 2 [(0, .ref mo)] := hl
  refine lv_aload_n hx hb dX6_init_0 rfl (lv_at hl 0 rfl) ?_
  refine wobj hF hl.1 tw759 tw77 tw78 ⟨Nat.le_of_ble_eq_true rfl, Nat.le_of_ble_eq_true rfl⟩ dX6_init_1 ?_
  refine lv_aload_n hx hb dX6_init_4 rfl (lv_at hl 0 rfl) ?_
  refine lv_sipush (v := nI 160) hx hb dX6_init_5 (by decide) ?_
  refine wnewI (n := 160) hF hw tw100 (by omega) (by decide) (by decide) dX6_init_8 (fun q8 H hw => ?_)
  have hw : Wd g _ s H _ [(mo, .inr (5, [.null, .int (nI 0), .null, .null, .null, .null, .null, .null, .null, .null, .null, .null, .null, .null, .null, .null, .null, .null, .null, .null, .null, .null, .null, .int (nI 0), .null, .int (nI 0), .int (nI 0), .null, .int (nI 0), .int (nI 0)])), (q8, .inl (g.2.1 0, 160, .inl (fun _ => 0)))] := hw
  have hru : RuK 0 (fun _ => 0) := RuK.zero
  refine lv_dup hx hb dX6_init_10 rfl ?_
  refine lv_iconst (v := nI 0) hx hb dX6_init_11 (by decide) ?_
  refine lv_iconst (v := nI 2) hx hb dX6_init_12 (by decide) ?_
  refine r_iast (ws' := [(mo, .inr (5, [.null, .int (nI 0), .null, .null, .null, .null, .null, .null, .null, .null, .null, .null, .null, .null, .null, .null, .null, .null, .null, .null, .null, .null, .null, .int (nI 0), .null, .int (nI 0), .int (nI 0), .null, .int (nI 0), .int (nI 0)])), (q8, .inl (g.2.1 0, 160, .inl (upd (fun _ => 0) 0 (nI 2))))]) hF hw dX6_init_13 1 rfl (by omega) (by omega) rfl (fun H locs hw => ?_)
  generalize hf9 : upd (fun _ => 0) 0 (nI 2) = fRu at hw
  have hru := RuK.put hru hf9 rfl
  refine lv_dup hx hb dX6_init_14 rfl ?_
  refine lv_iconst (v := nI 1) hx hb dX6_init_15 (by decide) ?_
  refine lv_sipush (v := nI 790) hx hb dX6_init_16 (by decide) ?_
  refine r_iast (ws' := [(mo, .inr (5, [.null, .int (nI 0), .null, .null, .null, .null, .null, .null, .null, .null, .null, .null, .null, .null, .null, .null, .null, .null, .null, .null, .null, .null, .null, .int (nI 0), .null, .int (nI 0), .int (nI 0), .null, .int (nI 0), .int (nI 0)])), (q8, .inl (g.2.1 0, 160, .inl (upd fRu 1 (nI 790))))]) hF hw dX6_init_19 1 rfl (by omega) (by omega) rfl (fun H locs hw => ?_)
  generalize hf9 : upd fRu 1 (nI 790) = fRu at hw
  have hru := RuK.put hru hf9 rfl
  refine lv_dup hx hb dX6_init_20 rfl ?_
  refine lv_iconst (v := nI 2) hx hb dX6_init_21 (by decide) ?_
  refine lv_iconst (v := -1) hx hb dX6_init_22 (by decide) ?_
  refine r_iast (ws' := [(mo, .inr (5, [.null, .int (nI 0), .null, .null, .null, .null, .null, .null, .null, .null, .null, .null, .null, .null, .null, .null, .null, .null, .null, .null, .null, .null, .null, .int (nI 0), .null, .int (nI 0), .int (nI 0), .null, .int (nI 0), .int (nI 0)])), (q8, .inl (g.2.1 0, 160, .inl (upd fRu 2 (-1))))]) hF hw dX6_init_23 1 rfl (by omega) (by omega) rfl (fun H locs hw => ?_)
  generalize hf9 : upd fRu 2 (-1) = fRu at hw
  have hru := RuK.put hru hf9 rfl
  refine lv_dup hx hb dX6_init_24 rfl ?_
  refine lv_iconst (v := nI 3) hx hb dX6_init_25 (by decide) ?_
  refine lv_iconst (v := -1) hx hb dX6_init_26 (by decide) ?_
  refine r_iast (ws' := [(mo, .inr (5, [.null, .int (nI 0), .null, .null, .null, .null, .null, .null, .null, .null, .null, .null, .null, .null, .null, .null, .null, .null, .null, .null, .null, .null, .null, .int (nI 0), .null, .int (nI 0), .int (nI 0), .null, .int (nI 0), .int (nI 0)])), (q8, .inl (g.2.1 0, 160, .inl (upd fRu 3 (-1))))]) hF hw dX6_init_27 1 rfl (by omega) (by omega) rfl (fun H locs hw => ?_)
  generalize hf9 : upd fRu 3 (-1) = fRu at hw
  have hru := RuK.put hru hf9 rfl
  refine lv_dup hx hb dX6_init_28 rfl ?_
  refine lv_iconst (v := nI 4) hx hb dX6_init_29 (by decide) ?_
  refine lv_iconst (v := -1) hx hb dX6_init_30 (by decide) ?_
  refine r_iast (ws' := [(mo, .inr (5, [.null, .int (nI 0), .null, .null, .null, .null, .null, .null, .null, .null, .null, .null, .null, .null, .null, .null, .null, .null, .null, .null, .null, .null, .null, .int (nI 0), .null, .int (nI 0), .int (nI 0), .null, .int (nI 0), .int (nI 0)])), (q8, .inl (g.2.1 0, 160, .inl (upd fRu 4 (-1))))]) hF hw dX6_init_31 1 rfl (by omega) (by omega) rfl (fun H locs hw => ?_)
  generalize hf9 : upd fRu 4 (-1) = fRu at hw
  have hru := RuK.put hru hf9 rfl
  refine lv_dup hx hb dX6_init_32 rfl ?_
  refine lv_iconst (v := nI 5) hx hb dX6_init_33 (by decide) ?_
  refine lv_iconst (v := -1) hx hb dX6_init_34 (by decide) ?_
  refine r_iast (ws' := [(mo, .inr (5, [.null, .int (nI 0), .null, .null, .null, .null, .null, .null, .null, .null, .null, .null, .null, .null, .null, .null, .null, .null, .null, .null, .null, .null, .null, .int (nI 0), .null, .int (nI 0), .int (nI 0), .null, .int (nI 0), .int (nI 0)])), (q8, .inl (g.2.1 0, 160, .inl (upd fRu 5 (-1))))]) hF hw dX6_init_35 1 rfl (by omega) (by omega) rfl (fun H locs hw => ?_)
  generalize hf9 : upd fRu 5 (-1) = fRu at hw
  have hru := RuK.put hru hf9 rfl
  refine lv_dup hx hb dX6_init_36 rfl ?_
  refine lv_bipush (v := nI 6) hx hb dX6_init_37 (by decide) ?_
  refine lv_iconst (v := -1) hx hb dX6_init_39 (by decide) ?_
  refine r_iast (ws' := [(mo, .inr (5, [.null, .int (nI 0), .null, .null, .null, .null, .null, .null, .null, .null, .null, .null, .null, .null, .null, .null, .null, .null, .null, .null, .null, .null, .null, .int (nI 0), .null, .int (nI 0), .int (nI 0), .null, .int (nI 0), .int (nI 0)])), (q8, .inl (g.2.1 0, 160, .inl (upd fRu 6 (-1))))]) hF hw dX6_init_40 1 rfl (by omega) (by omega) rfl (fun H locs hw => ?_)
  generalize hf9 : upd fRu 6 (-1) = fRu at hw
  have hru := RuK.put hru hf9 rfl
  refine lv_dup hx hb dX6_init_41 rfl ?_
  refine lv_bipush (v := nI 7) hx hb dX6_init_42 (by decide) ?_
  refine lv_iconst (v := -1) hx hb dX6_init_44 (by decide) ?_
  refine r_iast (ws' := [(mo, .inr (5, [.null, .int (nI 0), .null, .null, .null, .null, .null, .null, .null, .null, .null, .null, .null, .null, .null, .null, .null, .null, .null, .null, .null, .null, .null, .int (nI 0), .null, .int (nI 0), .int (nI 0), .null, .int (nI 0), .int (nI 0)])), (q8, .inl (g.2.1 0, 160, .inl (upd fRu 7 (-1))))]) hF hw dX6_init_45 1 rfl (by omega) (by omega) rfl (fun H locs hw => ?_)
  generalize hf9 : upd fRu 7 (-1) = fRu at hw
  have hru := RuK.put hru hf9 rfl
  refine lv_dup hx hb dX6_init_46 rfl ?_
  refine lv_bipush (v := nI 8) hx hb dX6_init_47 (by decide) ?_
  refine lv_iconst (v := -1) hx hb dX6_init_49 (by decide) ?_
  refine r_iast (ws' := [(mo, .inr (5, [.null, .int (nI 0), .null, .null, .null, .null, .null, .null, .null, .null, .null, .null, .null, .null, .null, .null, .null, .null, .null, .null, .null, .null, .null, .int (nI 0), .null, .int (nI 0), .int (nI 0), .null, .int (nI 0), .int (nI 0)])), (q8, .inl (g.2.1 0, 160, .inl (upd fRu 8 (-1))))]) hF hw dX6_init_50 1 rfl (by omega) (by omega) rfl (fun H locs hw => ?_)
  generalize hf9 : upd fRu 8 (-1) = fRu at hw
  have hru := RuK.put hru hf9 rfl
  refine lv_dup hx hb dX6_init_51 rfl ?_
  refine lv_bipush (v := nI 9) hx hb dX6_init_52 (by decide) ?_
  refine lv_iconst (v := -1) hx hb dX6_init_54 (by decide) ?_
  refine r_iast (ws' := [(mo, .inr (5, [.null, .int (nI 0), .null, .null, .null, .null, .null, .null, .null, .null, .null, .null, .null, .null, .null, .null, .null, .null, .null, .null, .null, .null, .null, .int (nI 0), .null, .int (nI 0), .int (nI 0), .null, .int (nI 0), .int (nI 0)])), (q8, .inl (g.2.1 0, 160, .inl (upd fRu 9 (-1))))]) hF hw dX6_init_55 1 rfl (by omega) (by omega) rfl (fun H locs hw => ?_)
  generalize hf9 : upd fRu 9 (-1) = fRu at hw
  have hru := RuK.put hru hf9 rfl
  refine lv_dup hx hb dX6_init_56 rfl ?_
  refine lv_bipush (v := nI 10) hx hb dX6_init_57 (by decide) ?_
  refine lv_iconst (v := -1) hx hb dX6_init_59 (by decide) ?_
  refine r_iast (ws' := [(mo, .inr (5, [.null, .int (nI 0), .null, .null, .null, .null, .null, .null, .null, .null, .null, .null, .null, .null, .null, .null, .null, .null, .null, .null, .null, .null, .null, .int (nI 0), .null, .int (nI 0), .int (nI 0), .null, .int (nI 0), .int (nI 0)])), (q8, .inl (g.2.1 0, 160, .inl (upd fRu 10 (-1))))]) hF hw dX6_init_60 1 rfl (by omega) (by omega) rfl (fun H locs hw => ?_)
  generalize hf9 : upd fRu 10 (-1) = fRu at hw
  have hru := RuK.put hru hf9 rfl
  refine lv_dup hx hb dX6_init_61 rfl ?_
  refine lv_bipush (v := nI 11) hx hb dX6_init_62 (by decide) ?_
  refine lv_iconst (v := -1) hx hb dX6_init_64 (by decide) ?_
  refine r_iast (ws' := [(mo, .inr (5, [.null, .int (nI 0), .null, .null, .null, .null, .null, .null, .null, .null, .null, .null, .null, .null, .null, .null, .null, .null, .null, .null, .null, .null, .null, .int (nI 0), .null, .int (nI 0), .int (nI 0), .null, .int (nI 0), .int (nI 0)])), (q8, .inl (g.2.1 0, 160, .inl (upd fRu 11 (-1))))]) hF hw dX6_init_65 1 rfl (by omega) (by omega) rfl (fun H locs hw => ?_)
  generalize hf9 : upd fRu 11 (-1) = fRu at hw
  have hru := RuK.put hru hf9 rfl
  refine lv_dup hx hb dX6_init_66 rfl ?_
  refine lv_bipush (v := nI 12) hx hb dX6_init_67 (by decide) ?_
  refine lv_iconst (v := nI 0) hx hb dX6_init_69 (by decide) ?_
  refine r_iast (ws' := [(mo, .inr (5, [.null, .int (nI 0), .null, .null, .null, .null, .null, .null, .null, .null, .null, .null, .null, .null, .null, .null, .null, .null, .null, .null, .null, .null, .null, .int (nI 0), .null, .int (nI 0), .int (nI 0), .null, .int (nI 0), .int (nI 0)])), (q8, .inl (g.2.1 0, 160, .inl (upd fRu 12 (nI 0))))]) hF hw dX6_init_70 1 rfl (by omega) (by omega) rfl (fun H locs hw => ?_)
  generalize hf9 : upd fRu 12 (nI 0) = fRu at hw
  have hru := RuK.put hru hf9 rfl
  refine lv_dup hx hb dX6_init_71 rfl ?_
  refine lv_bipush (v := nI 13) hx hb dX6_init_72 (by decide) ?_
  refine lv_iconst (v := nI 1) hx hb dX6_init_74 (by decide) ?_
  refine r_iast (ws' := [(mo, .inr (5, [.null, .int (nI 0), .null, .null, .null, .null, .null, .null, .null, .null, .null, .null, .null, .null, .null, .null, .null, .null, .null, .null, .null, .null, .null, .int (nI 0), .null, .int (nI 0), .int (nI 0), .null, .int (nI 0), .int (nI 0)])), (q8, .inl (g.2.1 0, 160, .inl (upd fRu 13 (nI 1))))]) hF hw dX6_init_75 1 rfl (by omega) (by omega) rfl (fun H locs hw => ?_)
  generalize hf9 : upd fRu 13 (nI 1) = fRu at hw
  have hru := RuK.put hru hf9 rfl
  refine lv_dup hx hb dX6_init_76 rfl ?_
  refine lv_bipush (v := nI 14) hx hb dX6_init_77 (by decide) ?_
  refine lv_iconst (v := nI 0) hx hb dX6_init_79 (by decide) ?_
  refine r_iast (ws' := [(mo, .inr (5, [.null, .int (nI 0), .null, .null, .null, .null, .null, .null, .null, .null, .null, .null, .null, .null, .null, .null, .null, .null, .null, .null, .null, .null, .null, .int (nI 0), .null, .int (nI 0), .int (nI 0), .null, .int (nI 0), .int (nI 0)])), (q8, .inl (g.2.1 0, 160, .inl (upd fRu 14 (nI 0))))]) hF hw dX6_init_80 1 rfl (by omega) (by omega) rfl (fun H locs hw => ?_)
  generalize hf9 : upd fRu 14 (nI 0) = fRu at hw
  have hru := RuK.put hru hf9 rfl
  refine lv_dup hx hb dX6_init_81 rfl ?_
  refine lv_bipush (v := nI 15) hx hb dX6_init_82 (by decide) ?_
  refine lv_iconst (v := nI 1) hx hb dX6_init_84 (by decide) ?_
  refine r_iast (ws' := [(mo, .inr (5, [.null, .int (nI 0), .null, .null, .null, .null, .null, .null, .null, .null, .null, .null, .null, .null, .null, .null, .null, .null, .null, .null, .null, .null, .null, .int (nI 0), .null, .int (nI 0), .int (nI 0), .null, .int (nI 0), .int (nI 0)])), (q8, .inl (g.2.1 0, 160, .inl (upd fRu 15 (nI 1))))]) hF hw dX6_init_85 1 rfl (by omega) (by omega) rfl (fun H locs hw => ?_)
  generalize hf9 : upd fRu 15 (nI 1) = fRu at hw
  have hru := RuK.put hru hf9 rfl
  refine lv_dup hx hb dX6_init_86 rfl ?_
  refine lv_bipush (v := nI 16) hx hb dX6_init_87 (by decide) ?_
  refine lv_iconst (v := nI 1) hx hb dX6_init_89 (by decide) ?_
  refine r_iast (ws' := [(mo, .inr (5, [.null, .int (nI 0), .null, .null, .null, .null, .null, .null, .null, .null, .null, .null, .null, .null, .null, .null, .null, .null, .null, .null, .null, .null, .null, .int (nI 0), .null, .int (nI 0), .int (nI 0), .null, .int (nI 0), .int (nI 0)])), (q8, .inl (g.2.1 0, 160, .inl (upd fRu 16 (nI 1))))]) hF hw dX6_init_90 1 rfl (by omega) (by omega) rfl (fun H locs hw => ?_)
  generalize hf9 : upd fRu 16 (nI 1) = fRu at hw
  have hru := RuK.put hru hf9 rfl
  refine lv_dup hx hb dX6_init_91 rfl ?_
  refine lv_bipush (v := nI 17) hx hb dX6_init_92 (by decide) ?_
  refine lv_iconst (v := nI 1) hx hb dX6_init_94 (by decide) ?_
  refine r_iast (ws' := [(mo, .inr (5, [.null, .int (nI 0), .null, .null, .null, .null, .null, .null, .null, .null, .null, .null, .null, .null, .null, .null, .null, .null, .null, .null, .null, .null, .null, .int (nI 0), .null, .int (nI 0), .int (nI 0), .null, .int (nI 0), .int (nI 0)])), (q8, .inl (g.2.1 0, 160, .inl (upd fRu 17 (nI 1))))]) hF hw dX6_init_95 1 rfl (by omega) (by omega) rfl (fun H locs hw => ?_)
  generalize hf9 : upd fRu 17 (nI 1) = fRu at hw
  have hru := RuK.put hru hf9 rfl
  refine lv_dup hx hb dX6_init_96 rfl ?_
  refine lv_bipush (v := nI 18) hx hb dX6_init_97 (by decide) ?_
  refine lv_iconst (v := nI 1) hx hb dX6_init_99 (by decide) ?_
  refine r_iast (ws' := [(mo, .inr (5, [.null, .int (nI 0), .null, .null, .null, .null, .null, .null, .null, .null, .null, .null, .null, .null, .null, .null, .null, .null, .null, .null, .null, .null, .null, .int (nI 0), .null, .int (nI 0), .int (nI 0), .null, .int (nI 0), .int (nI 0)])), (q8, .inl (g.2.1 0, 160, .inl (upd fRu 18 (nI 1))))]) hF hw dX6_init_100 1 rfl (by omega) (by omega) rfl (fun H locs hw => ?_)
  generalize hf9 : upd fRu 18 (nI 1) = fRu at hw
  have hru := RuK.put hru hf9 rfl
  refine lv_dup hx hb dX6_init_101 rfl ?_
  refine lv_bipush (v := nI 19) hx hb dX6_init_102 (by decide) ?_
  refine lv_sipush (v := nI 161) hx hb dX6_init_104 (by decide) ?_
  refine r_iast (ws' := [(mo, .inr (5, [.null, .int (nI 0), .null, .null, .null, .null, .null, .null, .null, .null, .null, .null, .null, .null, .null, .null, .null, .null, .null, .null, .null, .null, .null, .int (nI 0), .null, .int (nI 0), .int (nI 0), .null, .int (nI 0), .int (nI 0)])), (q8, .inl (g.2.1 0, 160, .inl (upd fRu 19 (nI 161))))]) hF hw dX6_init_107 1 rfl (by omega) (by omega) rfl (fun H locs hw => ?_)
  generalize hf9 : upd fRu 19 (nI 161) = fRu at hw
  have hru := RuK.put hru hf9 rfl
  refine lv_dup hx hb dX6_init_108 rfl ?_
  refine lv_bipush (v := nI 20) hx hb dX6_init_109 (by decide) ?_
  refine lv_iconst (v := nI 1) hx hb dX6_init_111 (by decide) ?_
  refine r_iast (ws' := [(mo, .inr (5, [.null, .int (nI 0), .null, .null, .null, .null, .null, .null, .null, .null, .null, .null, .null, .null, .null, .null, .null, .null, .null, .null, .null, .null, .null, .int (nI 0), .null, .int (nI 0), .int (nI 0), .null, .int (nI 0), .int (nI 0)])), (q8, .inl (g.2.1 0, 160, .inl (upd fRu 20 (nI 1))))]) hF hw dX6_init_112 1 rfl (by omega) (by omega) rfl (fun H locs hw => ?_)
  generalize hf9 : upd fRu 20 (nI 1) = fRu at hw
  have hru := RuK.put hru hf9 rfl
  refine lv_dup hx hb dX6_init_113 rfl ?_
  refine lv_bipush (v := nI 21) hx hb dX6_init_114 (by decide) ?_
  refine lv_iconst (v := nI 1) hx hb dX6_init_116 (by decide) ?_
  refine r_iast (ws' := [(mo, .inr (5, [.null, .int (nI 0), .null, .null, .null, .null, .null, .null, .null, .null, .null, .null, .null, .null, .null, .null, .null, .null, .null, .null, .null, .null, .null, .int (nI 0), .null, .int (nI 0), .int (nI 0), .null, .int (nI 0), .int (nI 0)])), (q8, .inl (g.2.1 0, 160, .inl (upd fRu 21 (nI 1))))]) hF hw dX6_init_117 1 rfl (by omega) (by omega) rfl (fun H locs hw => ?_)
  generalize hf9 : upd fRu 21 (nI 1) = fRu at hw
  have hru := RuK.put hru hf9 rfl
  refine lv_dup hx hb dX6_init_118 rfl ?_
  refine lv_bipush (v := nI 22) hx hb dX6_init_119 (by decide) ?_
  refine lv_sipush (v := nI 790) hx hb dX6_init_121 (by decide) ?_
  refine r_iast (ws' := [(mo, .inr (5, [.null, .int (nI 0), .null, .null, .null, .null, .null, .null, .null, .null, .null, .null, .null, .null, .null, .null, .null, .null, .null, .null, .null, .null, .null, .int (nI 0), .null, .int (nI 0), .int (nI 0), .null, .int (nI 0), .int (nI 0)])), (q8, .inl (g.2.1 0, 160, .inl (upd fRu 22 (nI 790))))]) hF hw dX6_init_124 1 rfl (by omega) (by omega) rfl (fun H locs hw => ?_)
  generalize hf9 : upd fRu 22 (nI 790) = fRu at hw
  have hru := RuK.put hru hf9 rfl
  refine lv_dup hx hb dX6_init_125 rfl ?_
  refine lv_bipush (v := nI 23) hx hb dX6_init_126 (by decide) ?_
  refine lv_iconst (v := nI 3) hx hb dX6_init_128 (by decide) ?_
  refine r_iast (ws' := [(mo, .inr (5, [.null, .int (nI 0), .null, .null, .null, .null, .null, .null, .null, .null, .null, .null, .null, .null, .null, .null, .null, .null, .null, .null, .null, .null, .null, .int (nI 0), .null, .int (nI 0), .int (nI 0), .null, .int (nI 0), .int (nI 0)])), (q8, .inl (g.2.1 0, 160, .inl (upd fRu 23 (nI 3))))]) hF hw dX6_init_129 1 rfl (by omega) (by omega) rfl (fun H locs hw => ?_)
  generalize hf9 : upd fRu 23 (nI 3) = fRu at hw
  have hru := RuK.put hru hf9 rfl
  refine lv_dup hx hb dX6_init_130 rfl ?_
  refine lv_bipush (v := nI 24) hx hb dX6_init_131 (by decide) ?_
  refine lv_iconst (v := nI 5) hx hb dX6_init_133 (by decide) ?_
  refine r_iast (ws' := [(mo, .inr (5, [.null, .int (nI 0), .null, .null, .null, .null, .null, .null, .null, .null, .null, .null, .null, .null, .null, .null, .null, .null, .null, .null, .null, .null, .null, .int (nI 0), .null, .int (nI 0), .int (nI 0), .null, .int (nI 0), .int (nI 0)])), (q8, .inl (g.2.1 0, 160, .inl (upd fRu 24 (nI 5))))]) hF hw dX6_init_134 1 rfl (by omega) (by omega) rfl (fun H locs hw => ?_)
  generalize hf9 : upd fRu 24 (nI 5) = fRu at hw
  have hru := RuK.put hru hf9 rfl
  refine lv_dup hx hb dX6_init_135 rfl ?_
  refine lv_bipush (v := nI 25) hx hb dX6_init_136 (by decide) ?_
  refine lv_iconst (v := nI 5) hx hb dX6_init_138 (by decide) ?_
  refine r_iast (ws' := [(mo, .inr (5, [.null, .int (nI 0), .null, .null, .null, .null, .null, .null, .null, .null, .null, .null, .null, .null, .null, .null, .null, .null, .null, .null, .null, .null, .null, .int (nI 0), .null, .int (nI 0), .int (nI 0), .null, .int (nI 0), .int (nI 0)])), (q8, .inl (g.2.1 0, 160, .inl (upd fRu 25 (nI 5))))]) hF hw dX6_init_139 1 rfl (by omega) (by omega) rfl (fun H locs hw => ?_)
  generalize hf9 : upd fRu 25 (nI 5) = fRu at hw
  have hru := RuK.put hru hf9 rfl
  refine lv_dup hx hb dX6_init_140 rfl ?_
  refine lv_bipush (v := nI 26) hx hb dX6_init_141 (by decide) ?_
  refine lv_bipush (v := nI 6) hx hb dX6_init_143 (by decide) ?_
  refine r_iast (ws' := [(mo, .inr (5, [.null, .int (nI 0), .null, .null, .null, .null, .null, .null, .null, .null, .null, .null, .null, .null, .null, .null, .null, .null, .null, .null, .null, .null, .null, .int (nI 0), .null, .int (nI 0), .int (nI 0), .null, .int (nI 0), .int (nI 0)])), (q8, .inl (g.2.1 0, 160, .inl (upd fRu 26 (nI 6))))]) hF hw dX6_init_145 1 rfl (by omega) (by omega) rfl (fun H locs hw => ?_)
  generalize hf9 : upd fRu 26 (nI 6) = fRu at hw
  have hru := RuK.put hru hf9 rfl
  refine lv_dup hx hb dX6_init_146 rfl ?_
  refine lv_bipush (v := nI 27) hx hb dX6_init_147 (by decide) ?_
  refine lv_bipush (v := nI 7) hx hb dX6_init_149 (by decide) ?_
  refine r_iast (ws' := [(mo, .inr (5, [.null, .int (nI 0), .null, .null, .null, .null, .null, .null, .null, .null, .null, .null, .null, .null, .null, .null, .null, .null, .null, .null, .null, .null, .null, .int (nI 0), .null, .int (nI 0), .int (nI 0), .null, .int (nI 0), .int (nI 0)])), (q8, .inl (g.2.1 0, 160, .inl (upd fRu 27 (nI 7))))]) hF hw dX6_init_151 1 rfl (by omega) (by omega) rfl (fun H locs hw => ?_)
  generalize hf9 : upd fRu 27 (nI 7) = fRu at hw
  have hru := RuK.put hru hf9 rfl
  refine lv_dup hx hb dX6_init_152 rfl ?_
  refine lv_bipush (v := nI 28) hx hb dX6_init_153 (by decide) ?_
  refine lv_bipush (v := nI 8) hx hb dX6_init_155 (by decide) ?_
  refine r_iast (ws' := [(mo, .inr (5, [.null, .int (nI 0), .null, .null, .null, .null, .null, .null, .null, .null, .null, .null, .null, .null, .null, .null, .null, .null, .null, .null, .null, .null, .null, .int (nI 0), .null, .int (nI 0), .int (nI 0), .null, .int (nI 0), .int (nI 0)])), (q8, .inl (g.2.1 0, 160, .inl (upd fRu 28 (nI 8))))]) hF hw dX6_init_157 1 rfl (by omega) (by omega) rfl (fun H locs hw => ?_)
  generalize hf9 : upd fRu 28 (nI 8) = fRu at hw
  have hru := RuK.put hru hf9 rfl
  refine lv_dup hx hb dX6_init_158 rfl ?_
  refine lv_bipush (v := nI 29) hx hb dX6_init_159 (by decide) ?_
  refine lv_bipush (v := nI 9) hx hb dX6_init_161 (by decide) ?_
  refine r_iast (ws' := [(mo, .inr (5, [.null, .int (nI 0), .null, .null, .null, .null, .null, .null, .null, .null, .null, .null, .null, .null, .null, .null, .null, .null, .null, .null, .null, .null, .null, .int (nI 0), .null, .int (nI 0), .int (nI 0), .null, .int (nI 0), .int (nI 0)])), (q8, .inl (g.2.1 0, 160, .inl (upd fRu 29 (nI 9))))]) hF hw dX6_init_163 1 rfl (by omega) (by omega) rfl (fun H locs hw => ?_)
  generalize hf9 : upd fRu 29 (nI 9) = fRu at hw
  have hru := RuK.put hru hf9 rfl
  refine lv_dup hx hb dX6_init_164 rfl ?_
  refine lv_bipush (v := nI 30) hx hb dX6_init_165 (by decide) ?_
  refine lv_iconst (v := nI 0) hx hb dX6_init_167 (by decide) ?_
  refine r_iast (ws' := [(mo, .inr (5, [.null, .int (nI 0), .null, .null, .null, .null, .null, .null, .null, .null, .null, .null, .null, .null, .null, .null, .null, .null, .null, .null, .null, .null, .null, .int (nI 0), .null, .int (nI 0), .int (nI 0), .null, .int (nI 0), .int (nI 0)])), (q8, .inl (g.2.1 0, 160, .inl (upd fRu 30 (nI 0))))]) hF hw dX6_init_168 1 rfl (by omega) (by omega) rfl (fun H locs hw => ?_)
  generalize hf9 : upd fRu 30 (nI 0) = fRu at hw
  have hru := RuK.put hru hf9 rfl
  refine lv_dup hx hb dX6_init_169 rfl ?_
  refine lv_bipush (v := nI 31) hx hb dX6_init_170 (by decide) ?_
  refine lv_iconst (v := nI 0) hx hb dX6_init_172 (by decide) ?_
  refine r_iast (ws' := [(mo, .inr (5, [.null, .int (nI 0), .null, .null, .null, .null, .null, .null, .null, .null, .null, .null, .null, .null, .null, .null, .null, .null, .null, .null, .null, .null, .null, .int (nI 0), .null, .int (nI 0), .int (nI 0), .null, .int (nI 0), .int (nI 0)])), (q8, .inl (g.2.1 0, 160, .inl (upd fRu 31 (nI 0))))]) hF hw dX6_init_173 1 rfl (by omega) (by omega) rfl (fun H locs hw => ?_)
  generalize hf9 : upd fRu 31 (nI 0) = fRu at hw
  have hru := RuK.put hru hf9 rfl
  refine lv_dup hx hb dX6_init_174 rfl ?_
  refine lv_bipush (v := nI 32) hx hb dX6_init_175 (by decide) ?_
  refine lv_iconst (v := nI 2) hx hb dX6_init_177 (by decide) ?_
  refine r_iast (ws' := [(mo, .inr (5, [.null, .int (nI 0), .null, .null, .null, .null, .null, .null, .null, .null, .null, .null, .null, .null, .null, .null, .null, .null, .null, .null, .null, .null, .null, .int (nI 0), .null, .int (nI 0), .int (nI 0), .null, .int (nI 0), .int (nI 0)])), (q8, .inl (g.2.1 0, 160, .inl (upd fRu 32 (nI 2))))]) hF hw dX6_init_178 1 rfl (by omega) (by omega) rfl (fun H locs hw => ?_)
  generalize hf9 : upd fRu 32 (nI 2) = fRu at hw
  have hru := RuK.put hru hf9 rfl
  refine lv_dup hx hb dX6_init_179 rfl ?_
  refine lv_bipush (v := nI 33) hx hb dX6_init_180 (by decide) ?_
  refine lv_iconst (v := nI 2) hx hb dX6_init_182 (by decide) ?_
  refine r_iast (ws' := [(mo, .inr (5, [.null, .int (nI 0), .null, .null, .null, .null, .null, .null, .null, .null, .null, .null, .null, .null, .null, .null, .null, .null, .null, .null, .null, .null, .null, .int (nI 0), .null, .int (nI 0), .int (nI 0), .null, .int (nI 0), .int (nI 0)])), (q8, .inl (g.2.1 0, 160, .inl (upd fRu 33 (nI 2))))]) hF hw dX6_init_183 1 rfl (by omega) (by omega) rfl (fun H locs hw => ?_)
  generalize hf9 : upd fRu 33 (nI 2) = fRu at hw
  have hru := RuK.put hru hf9 rfl
  refine lv_dup hx hb dX6_init_184 rfl ?_
  refine lv_bipush (v := nI 34) hx hb dX6_init_185 (by decide) ?_
  refine lv_iconst (v := nI 4) hx hb dX6_init_187 (by decide) ?_
  refine r_iast (ws' := [(mo, .inr (5, [.null, .int (nI 0), .null, .null, .null, .null, .null, .null, .null, .null, .null, .null, .null, .null, .null, .null, .null, .null, .null, .null, .null, .null, .null, .int (nI 0), .null, .int (nI 0), .int (nI 0), .null, .int (nI 0), .int (nI 0)])), (q8, .inl (g.2.1 0, 160, .inl (upd fRu 34 (nI 4))))]) hF hw dX6_init_188 1 rfl (by omega) (by omega) rfl (fun H locs hw => ?_)
  generalize hf9 : upd fRu 34 (nI 4) = fRu at hw
  have hru := RuK.put hru hf9 rfl
  refine lv_dup hx hb dX6_init_189 rfl ?_
  refine lv_bipush (v := nI 35) hx hb dX6_init_190 (by decide) ?_
  refine lv_iconst (v := nI 4) hx hb dX6_init_192 (by decide) ?_
  refine r_iast (ws' := [(mo, .inr (5, [.null, .int (nI 0), .null, .null, .null, .null, .null, .null, .null, .null, .null, .null, .null, .null, .null, .null, .null, .null, .null, .null, .null, .null, .null, .int (nI 0), .null, .int (nI 0), .int (nI 0), .null, .int (nI 0), .int (nI 0)])), (q8, .inl (g.2.1 0, 160, .inl (upd fRu 35 (nI 4))))]) hF hw dX6_init_193 1 rfl (by omega) (by omega) rfl (fun H locs hw => ?_)
  generalize hf9 : upd fRu 35 (nI 4) = fRu at hw
  have hru := RuK.put hru hf9 rfl
  refine lv_dup hx hb dX6_init_194 rfl ?_
  refine lv_bipush (v := nI 36) hx hb dX6_init_195 (by decide) ?_
  refine lv_sipush (v := nI 1044) hx hb dX6_init_197 (by decide) ?_
  refine r_iast (ws' := [(mo, .inr (5, [.null, .int (nI 0), .null, .null, .null, .null, .null, .null, .null, .null, .null, .null, .null, .null, .null, .null, .null, .null, .null, .null, .null, .null, .null, .int (nI 0), .null, .int (nI 0), .int (nI 0), .null, .int (nI 0), .int (nI 0)])), (q8, .inl (g.2.1 0, 160, .inl (upd fRu 36 (nI 1044))))]) hF hw dX6_init_200 1 rfl (by omega) (by omega) rfl (fun H locs hw => ?_)
  generalize hf9 : upd fRu 36 (nI 1044) = fRu at hw
  have hru := RuK.put hru hf9 rfl
  refine lv_dup hx hb dX6_init_201 rfl ?_
  refine lv_bipush (v := nI 37) hx hb dX6_init_202 (by decide) ?_
  refine lv_sipush (v := nI 1044) hx hb dX6_init_204 (by decide) ?_
  refine r_iast (ws' := [(mo, .inr (5, [.null, .int (nI 0), .null, .null, .null, .null, .null, .null, .null, .null, .null, .null, .null, .null, .null, .null, .null, .null, .null, .null, .null, .null, .null, .int (nI 0), .null, .int (nI 0), .int (nI 0), .null, .int (nI 0), .int (nI 0)])), (q8, .inl (g.2.1 0, 160, .inl (upd fRu 37 (nI 1044))))]) hF hw dX6_init_207 1 rfl (by omega) (by omega) rfl (fun H locs hw => ?_)
  generalize hf9 : upd fRu 37 (nI 1044) = fRu at hw
  have hru := RuK.put hru hf9 rfl
  refine lv_dup hx hb dX6_init_208 rfl ?_
  refine lv_bipush (v := nI 38) hx hb dX6_init_209 (by decide) ?_
  refine lv_sipush (v := nI 1044) hx hb dX6_init_211 (by decide) ?_
  refine r_iast (ws' := [(mo, .inr (5, [.null, .int (nI 0), .null, .null, .null, .null, .null, .null, .null, .null, .null, .null, .null, .null, .null, .null, .null, .null, .null, .null, .null, .null, .null, .int (nI 0), .null, .int (nI 0), .int (nI 0), .null, .int (nI 0), .int (nI 0)])), (q8, .inl (g.2.1 0, 160, .inl (upd fRu 38 (nI 1044))))]) hF hw dX6_init_214 1 rfl (by omega) (by omega) rfl (fun H locs hw => ?_)
  generalize hf9 : upd fRu 38 (nI 1044) = fRu at hw
  have hru := RuK.put hru hf9 rfl
  refine lv_dup hx hb dX6_init_215 rfl ?_
  refine lv_bipush (v := nI 39) hx hb dX6_init_216 (by decide) ?_
  refine lv_sipush (v := nI 16804) hx hb dX6_init_218 (by decide) ?_
  refine r_iast (ws' := [(mo, .inr (5, [.null, .int (nI 0), .null, .null, .null, .null, .null, .null, .null, .null, .null, .null, .null, .null, .null, .null, .null, .null, .null, .null, .null, .null, .null, .int (nI 0), .null, .int (nI 0), .int (nI 0), .null, .int (nI 0), .int (nI 0)])), (q8, .inl (g.2.1 0, 160, .inl (upd fRu 39 (nI 16804))))]) hF hw dX6_init_221 1 rfl (by omega) (by omega) rfl (fun H locs hw => ?_)
  generalize hf9 : upd fRu 39 (nI 16804) = fRu at hw
  have hru := RuK.put hru hf9 rfl
  refine lv_dup hx hb dX6_init_222 rfl ?_
  refine lv_bipush (v := nI 40) hx hb dX6_init_223 (by decide) ?_
  refine lv_iconst (v := -1) hx hb dX6_init_225 (by decide) ?_
  refine r_iast (ws' := [(mo, .inr (5, [.null, .int (nI 0), .null, .null, .null, .null, .null, .null, .null, .null, .null, .null, .null, .null, .null, .null, .null, .null, .null, .null, .null, .null, .null, .int (nI 0), .null, .int (nI 0), .int (nI 0), .null, .int (nI 0), .int (nI 0)])), (q8, .inl (g.2.1 0, 160, .inl (upd fRu 40 (-1))))]) hF hw dX6_init_226 1 rfl (by omega) (by omega) rfl (fun H locs hw => ?_)
  generalize hf9 : upd fRu 40 (-1) = fRu at hw
  have hru := RuK.put hru hf9 rfl
  refine lv_dup hx hb dX6_init_227 rfl ?_
  refine lv_bipush (v := nI 41) hx hb dX6_init_228 (by decide) ?_
  refine lv_iconst (v := -1) hx hb dX6_init_230 (by decide) ?_
  refine r_iast (ws' := [(mo, .inr (5, [.null, .int (nI 0), .null, .null, .null, .null, .null, .null, .null, .null, .null, .null, .null, .null, .null, .null, .null, .null, .null, .null, .null, .null, .null, .int (nI 0), .null, .int (nI 0), .int (nI 0), .null, .int (nI 0), .int (nI 0)])), (q8, .inl (g.2.1 0, 160, .inl (upd fRu 41 (-1))))]) hF hw dX6_init_231 1 rfl (by omega) (by omega) rfl (fun H locs hw => ?_)
  generalize hf9 : upd fRu 41 (-1) = fRu at hw
  have hru := RuK.put hru hf9 rfl
  refine lv_dup hx hb dX6_init_232 rfl ?_
  refine lv_bipush (v := nI 42) hx hb dX6_init_233 (by decide) ?_
  refine lv_iconst (v := -1) hx hb dX6_init_235 (by decide) ?_
  refine r_iast (ws' := [(mo, .inr (5, [.null, .int (nI 0), .null, .null, .null, .null, .null, .null, .null, .null, .null, .null, .null, .null, .null, .null, .null, .null, .null, .null, .null, .null, .null, .int (nI 0), .null, .int (nI 0), .int (nI 0), .null, .int (nI 0), .int (nI 0)])), (q8, .inl (g.2.1 0, 160, .inl (upd fRu 42 (-1))))]) hF hw dX6_init_236 1 rfl (by omega) (by omega) rfl (fun H locs hw => ?_)
  generalize hf9 : upd fRu 42 (-1) = fRu at hw
  have hru := RuK.put hru hf9 rfl
  refine lv_dup hx hb dX6_init_237 rfl ?_
  refine lv_bipush (v := nI 43) hx hb dX6_init_238 (by decide) ?_
  refine lv_iconst (v := -1) hx hb dX6_init_240 (by decide) ?_
  refine r_iast (ws' := [(mo, .inr (5, [.null, .int (nI 0), .null, .null, .null, .null, .null, .null, .null, .null, .null, .null, .null, .null, .null, .null, .null, .null, .null, .null, .null, .null, .null, .int (nI 0), .null, .int (nI 0), .int (nI 0), .null, .int (nI 0), .int (nI 0)])), (q8, .inl (g.2.1 0, 160, .inl (upd fRu 43 (-1))))]) hF hw dX6_init_241 1 rfl (by omega) (by omega) rfl (fun H locs hw => ?_)
  generalize hf9 : upd fRu 43 (-1) = fRu at hw
  have hru := RuK.put hru hf9 rfl
  refine lv_dup hx hb dX6_init_242 rfl ?_
  refine lv_bipush (v := nI 44) hx hb dX6_init_243 (by decide) ?_
  refine lv_bipush (v := nI 68) hx hb dX6_init_245 (by decide) ?_
  refine r_iast (ws' := [(mo, .inr (5, [.null, .int (nI 0), .null, .null, .null, .null, .null, .null, .null, .null, .null, .null, .null, .null, .null, .null, .null, .null, .null, .null, .null, .null, .null, .int (nI 0), .null, .int (nI 0), .int (nI 0), .null, .int (nI 0), .int (nI 0)])), (q8, .inl (g.2.1 0, 160, .inl (upd fRu 44 (nI 68))))]) hF hw dX6_init_247 1 rfl (by omega) (by omega) rfl (fun H locs hw => ?_)
  generalize hf9 : upd fRu 44 (nI 68) = fRu at hw
  have hru := RuK.put hru hf9 rfl
  refine lv_dup hx hb dX6_init_248 rfl ?_
  refine lv_bipush (v := nI 45) hx hb dX6_init_249 (by decide) ?_
  refine lv_bipush (v := nI 69) hx hb dX6_init_251 (by decide) ?_
  refine r_iast (ws' := [(mo, .inr (5, [.null, .int (nI 0), .null, .null, .null, .null, .null, .null, .null, .null, .null, .null, .null, .null, .null, .null, .null, .null, .null, .null, .null, .null, .null, .int (nI 0), .null, .int (nI 0), .int (nI 0), .null, .int (nI 0), .int (nI 0)])), (q8, .inl (g.2.1 0, 160, .inl (upd fRu 45 (nI 69))))]) hF hw dX6_init_253 1 rfl (by omega) (by omega) rfl (fun H locs hw => ?_)
  generalize hf9 : upd fRu 45 (nI 69) = fRu at hw
  have hru := RuK.put hru hf9 rfl
  refine lv_dup hx hb dX6_init_254 rfl ?_
  refine lv_bipush (v := nI 46) hx hb dX6_init_255 (by decide) ?_
  refine lv_bipush (v := nI 54) hx hb dX6_init_257 (by decide) ?_
  refine r_iast (ws' := [(mo, .inr (5, [.null, .int (nI 0), .null, .null, .null, .null, .null, .null, .null, .null, .null, .null, .null, .null, .null, .null, .null, .null, .null, .null, .null, .null, .null, .int (nI 0), .null, .int (nI 0), .int (nI 0), .null, .int (nI 0), .int (nI 0)])), (q8, .inl (g.2.1 0, 160, .inl (upd fRu 46 (nI 54))))]) hF hw dX6_init_259 1 rfl (by omega) (by omega) rfl (fun H locs hw => ?_)
  generalize hf9 : upd fRu 46 (nI 54) = fRu at hw
  have hru := RuK.put hru hf9 rfl
  refine lv_dup hx hb dX6_init_260 rfl ?_
  refine lv_bipush (v := nI 47) hx hb dX6_init_261 (by decide) ?_
  refine lv_bipush (v := nI 54) hx hb dX6_init_263 (by decide) ?_
  refine r_iast (ws' := [(mo, .inr (5, [.null, .int (nI 0), .null, .null, .null, .null, .null, .null, .null, .null, .null, .null, .null, .null, .null, .null, .null, .null, .null, .null, .null, .null, .null, .int (nI 0), .null, .int (nI 0), .int (nI 0), .null, .int (nI 0), .int (nI 0)])), (q8, .inl (g.2.1 0, 160, .inl (upd fRu 47 (nI 54))))]) hF hw dX6_init_265 1 rfl (by omega) (by omega) rfl (fun H locs hw => ?_)
  generalize hf9 : upd fRu 47 (nI 54) = fRu at hw
  have hru := RuK.put hru hf9 rfl
  refine lv_dup hx hb dX6_init_266 rfl ?_
  refine lv_bipush (v := nI 48) hx hb dX6_init_267 (by decide) ?_
  refine lv_bipush (v := nI 56) hx hb dX6_init_269 (by decide) ?_
  refine r_iast (ws' := [(mo, .inr (5, [.null, .int (nI 0), .null, .null, .null, .null, .null, .null, .null, .null, .null, .null, .null, .null, .null, .null, .null, .null, .null, .null, .null, .null, .null, .int (nI 0), .null, .int (nI 0), .int (nI 0), .null, .int (nI 0), .int (nI 0)])), (q8, .inl (g.2.1 0, 160, .inl (upd fRu 48 (nI 56))))]) hF hw dX6_init_271 1 rfl (by omega) (by omega) rfl (fun H locs hw => ?_)
  generalize hf9 : upd fRu 48 (nI 56) = fRu at hw
  have hru := RuK.put hru hf9 rfl
  refine lv_dup hx hb dX6_init_272 rfl ?_
  refine lv_bipush (v := nI 49) hx hb dX6_init_273 (by decide) ?_
  refine lv_iconst (v := -1) hx hb dX6_init_275 (by decide) ?_
  refine r_iast (ws' := [(mo, .inr (5, [.null, .int (nI 0), .null, .null, .null, .null, .null, .null, .null, .null, .null, .null, .null, .null, .null, .null, .null, .null, .null, .null, .null, .null, .null, .int (nI 0), .null, .int (nI 0), .int (nI 0), .null, .int (nI 0), .int (nI 0)])), (q8, .inl (g.2.1 0, 160, .inl (upd fRu 49 (-1))))]) hF hw dX6_init_276 1 rfl (by omega) (by omega) rfl (fun H locs hw => ?_)
  generalize hf9 : upd fRu 49 (-1) = fRu at hw
  have hru := RuK.put hru hf9 rfl
  refine lv_dup hx hb dX6_init_277 rfl ?_
  refine lv_bipush (v := nI 50) hx hb dX6_init_278 (by decide) ?_
  refine lv_iconst (v := -1) hx hb dX6_init_280 (by decide) ?_
  refine r_iast (ws' := [(mo, .inr (5, [.null, .int (nI 0), .null, .null, .null, .null, .null, .null, .null, .null, .null, .null, .null, .null, .null, .null, .null, .null, .null, .null, .null, .null, .null, .int (nI 0), .null, .int (nI 0), .int (nI 0), .null, .int (nI 0), .int (nI 0)])), (q8, .inl (g.2.1 0, 160, .inl (upd fRu 50 (-1))))]) hF hw dX6_init_281 1 rfl (by omega) (by omega) rfl (fun H locs hw => ?_)
  generalize hf9 : upd fRu 50 (-1) = fRu at hw
  have hru := RuK.put hru hf9 rfl
  refine lv_dup hx hb dX6_init_282 rfl ?_
  refine lv_bipush (v := nI 51) hx hb dX6_init_283 (by decide) ?_
  refine lv_iconst (v := -1) hx hb dX6_init_285 (by decide) ?_
  refine r_iast (ws' := [(mo, .inr (5, [.null, .int (nI 0), .null, .null, .null, .null, .null, .null, .null, .null, .null, .null, .null, .null, .null, .null, .null, .null, .null, .null, .null, .null, .null, .int (nI 0), .null, .int (nI 0), .int (nI 0), .null, .int (nI 0), .int (nI 0)])), (q8, .inl (g.2.1 0, 160, .inl (upd fRu 51 (-1))))]) hF hw dX6_init_286 1 rfl (by omega) (by omega) rfl (fun H locs hw => ?_)
  generalize hf9 : upd fRu 51 (-1) = fRu at hw
  have hru := RuK.put hru hf9 rfl
  refine lv_dup hx hb dX6_init_287 rfl ?_
  refine lv_bipush (v := nI 52) hx hb dX6_init_288 (by decide) ?_
  refine lv_iconst (v := -1) hx hb dX6_init_290 (by decide) ?_
  refine r_iast (ws' := [(mo, .inr (5, [.null, .int (nI 0), .null, .null, .null, .null, .null, .null, .null, .null, .null, .null, .null, .null, .null, .null, .null, .null, .null, .null, .null, .null, .null, .int (nI 0), .null, .int (nI 0), .int (nI 0), .null, .int (nI 0), .int (nI 0)])), (q8, .inl (g.2.1 0, 160, .inl (upd fRu 52 (-1))))]) hF hw dX6_init_291 1 rfl (by omega) (by omega) rfl (fun H locs hw => ?_)
  generalize hf9 : upd fRu 52 (-1) = fRu at hw
  have hru := RuK.put hru hf9 rfl
  refine lv_dup hx hb dX6_init_292 rfl ?_
  refine lv_bipush (v := nI 53) hx hb dX6_init_293 (by decide) ?_
  refine lv_iconst (v := -1) hx hb dX6_init_295 (by decide) ?_
  refine r_iast (ws' := [(mo, .inr (5, [.null, .int (nI 0), .null, .null, .null, .null, .null, .null, .null, .null, .null, .null, .null, .null, .null, .null, .null, .null, .null, .null, .null, .null, .null, .int (nI 0), .null, .int (nI 0), .int (nI 0), .null, .int (nI 0), .int (nI 0)])), (q8, .inl (g.2.1 0, 160, .inl (upd fRu 53 (-1))))]) hF hw dX6_init_296 1 rfl (by omega) (by omega) rfl (fun H locs hw => ?_)
  generalize hf9 : upd fRu 53 (-1) = fRu at hw
  have hru := RuK.put hru hf9 rfl
  refine lv_dup hx hb dX6_init_297 rfl ?_
  refine lv_bipush (v := nI 54) hx hb dX6_init_298 (by decide) ?_
  refine lv_iconst (v := nI 2) hx hb dX6_init_300 (by decide) ?_
  refine r_iast (ws' := [(mo, .inr (5, [.null, .int (nI 0), .null, .null, .null, .null, .null, .null, .null, .null, .null, .null, .null, .null, .null, .null, .null, .null, .null, .null, .null, .null, .null, .int (nI 0), .null, .int (nI 0), .int (nI 0), .null, .int (nI 0), .int (nI 0)])), (q8, .inl (g.2.1 0, 160, .inl (upd fRu 54 (nI 2))))]) hF hw dX6_init_301 1 rfl (by omega) (by omega) rfl (fun H locs hw => ?_)
  generalize hf9 : upd fRu 54 (nI 2) = fRu at hw
  have hru := RuK.put hru hf9 rfl
  refine lv_dup hx hb dX6_init_302 rfl ?_
  refine lv_bipush (v := nI 55) hx hb dX6_init_303 (by decide) ?_
  refine lv_iconst (v := nI 3) hx hb dX6_init_305 (by decide) ?_
  refine r_iast (ws' := [(mo, .inr (5, [.null, .int (nI 0), .null, .null, .null, .null, .null, .null, .null, .null, .null, .null, .null, .null, .null, .null, .null, .null, .null, .null, .null, .null, .null, .int (nI 0), .null, .int (nI 0), .int (nI 0), .null, .int (nI 0), .int (nI 0)])), (q8, .inl (g.2.1 0, 160, .inl (upd fRu 55 (nI 3))))]) hF hw dX6_init_306 1 rfl (by omega) (by omega) rfl (fun H locs hw => ?_)
  generalize hf9 : upd fRu 55 (nI 3) = fRu at hw
  have hru := RuK.put hru hf9 rfl
  refine lv_dup hx hb dX6_init_307 rfl ?_
  refine lv_bipush (v := nI 56) hx hb dX6_init_308 (by decide) ?_
  refine lv_iconst (v := nI 3) hx hb dX6_init_310 (by decide) ?_
  refine r_iast (ws' := [(mo, .inr (5, [.null, .int (nI 0), .null, .null, .null, .null, .null, .null, .null, .null, .null, .null, .null, .null, .null, .null, .null, .null, .null, .null, .null, .null, .null, .int (nI 0), .null, .int (nI 0), .int (nI 0), .null, .int (nI 0), .int (nI 0)])), (q8, .inl (g.2.1 0, 160, .inl (upd fRu 56 (nI 3))))]) hF hw dX6_init_311 1 rfl (by omega) (by omega) rfl (fun H locs hw => ?_)
  generalize hf9 : upd fRu 56 (nI 3) = fRu at hw
  have hru := RuK.put hru hf9 rfl
  refine lv_dup hx hb dX6_init_312 rfl ?_
  refine lv_bipush (v := nI 57) hx hb dX6_init_313 (by decide) ?_
  refine lv_iconst (v := nI 3) hx hb dX6_init_315 (by decide) ?_
  refine r_iast (ws' := [(mo, .inr (5, [.null, .int (nI 0), .null, .null, .null, .null, .null, .null, .null, .null, .null, .null, .null, .null, .null, .null, .null, .null, .null, .null, .null, .null, .null, .int (nI 0), .null, .int (nI 0), .int (nI 0), .null, .int (nI 0), .int (nI 0)])), (q8, .inl (g.2.1 0, 160, .inl (upd fRu 57 (nI 3))))]) hF hw dX6_init_316 1 rfl (by omega) (by omega) rfl (fun H locs hw => ?_)
  generalize hf9 : upd fRu 57 (nI 3) = fRu at hw
  have hru := RuK.put hru hf9 rfl
  refine lv_dup hx hb dX6_init_317 rfl ?_
  refine lv_bipush (v := nI 58) hx hb dX6_init_318 (by decide) ?_
  refine lv_iconst (v := nI 3) hx hb dX6_init_320 (by decide) ?_
  refine r_iast (ws' := [(mo, .inr (5, [.null, .int (nI 0), .null, .null, .null, .null, .null, .null, .null, .null, .null, .null, .null, .null, .null, .null, .null, .null, .null, .null, .null, .null, .null, .int (nI 0), .null, .int (nI 0), .int (nI 0), .null, .int (nI 0), .int (nI 0)])), (q8, .inl (g.2.1 0, 160, .inl (upd fRu 58 (nI 3))))]) hF hw dX6_init_321 1 rfl (by omega) (by omega) rfl (fun H locs hw => ?_)
  generalize hf9 : upd fRu 58 (nI 3) = fRu at hw
  have hru := RuK.put hru hf9 rfl
  refine lv_dup hx hb dX6_init_322 rfl ?_
  refine lv_bipush (v := nI 59) hx hb dX6_init_323 (by decide) ?_
  refine lv_iconst (v := -1) hx hb dX6_init_325 (by decide) ?_
  refine r_iast (ws' := [(mo, .inr (5, [.null, .int (nI 0), .null, .null, .null, .null, .null, .null, .null, .null, .null, .null, .null, .null, .null, .null, .null, .null, .null, .null, .null, .null, .null, .int (nI 0), .null, .int (nI 0), .int (nI 0), .null, .int (nI 0), .int (nI 0)])), (q8, .inl (g.2.1 0, 160, .inl (upd fRu 59 (-1))))]) hF hw dX6_init_326 1 rfl (by omega) (by omega) rfl (fun H locs hw => ?_)
  generalize hf9 : upd fRu 59 (-1) = fRu at hw
  have hru := RuK.put hru hf9 rfl
  refine lv_dup hx hb dX6_init_327 rfl ?_
  refine lv_bipush (v := nI 60) hx hb dX6_init_328 (by decide) ?_
  refine lv_iconst (v := -1) hx hb dX6_init_330 (by decide) ?_
  refine r_iast (ws' := [(mo, .inr (5, [.null, .int (nI 0), .null, .null, .null, .null, .null, .null, .null, .null, .null, .null, .null, .null, .null, .null, .null, .null, .null, .null, .null, .null, .null, .int (nI 0), .null, .int (nI 0), .int (nI 0), .null, .int (nI 0), .int (nI 0)])), (q8, .inl (g.2.1 0, 160, .inl (upd fRu 60 (-1))))]) hF hw dX6_init_331 1 rfl (by omega) (by omega) rfl (fun H locs hw => ?_)
  generalize hf9 : upd fRu 60 (-1) = fRu at hw
  have hru := RuK.put hru hf9 rfl
  refine lv_dup hx hb dX6_init_332 rfl ?_
  refine lv_bipush (v := nI 61) hx hb dX6_init_333 (by decide) ?_
  refine lv_iconst (v := -1) hx hb dX6_init_335 (by decide) ?_
  refine r_iast (ws' := [(mo, .inr (5, [.null, .int (nI 0), .null, .null, .null, .null, .null, .null, .null, .null, .null, .null, .null, .null, .null, .null, .null, .null, .null, .null, .null, .null, .null, .int (nI 0), .null, .int (nI 0), .int (nI 0), .null, .int (nI 0), .int (nI 0)])), (q8, .inl (g.2.1 0, 160, .inl (upd fRu 61 (-1))))]) hF hw dX6_init_336 1 rfl (by omega) (by omega) rfl (fun H locs hw => ?_)
  generalize hf9 : upd fRu 61 (-1) = fRu at hw
  have hru := RuK.put hru hf9 rfl
  refine lv_dup hx hb dX6_init_337 rfl ?_
  refine lv_bipush (v := nI 62) hx hb dX6_init_338 (by decide) ?_
  refine lv_bipush (v := nI 98) hx hb dX6_init_340 (by decide) ?_
  refine r_iast (ws' := [(mo, .inr (5, [.null, .int (nI 0), .null, .null, .null, .null, .null, .null, .null, .null, .null, .null, .null, .null, .null, .null, .null, .null, .null, .null, .null, .null, .null, .int (nI 0), .null, .int (nI 0), .int (nI 0), .null, .int (nI 0), .int (nI 0)])), (q8, .inl (g.2.1 0, 160, .inl (upd fRu 62 (nI 98))))]) hF hw dX6_init_342 1 rfl (by omega) (by omega) rfl (fun H locs hw => ?_)
  generalize hf9 : upd fRu 62 (nI 98) = fRu at hw
  have hru := RuK.put hru hf9 rfl
  refine lv_dup hx hb dX6_init_343 rfl ?_
  refine lv_bipush (v := nI 63) hx hb dX6_init_344 (by decide) ?_
  refine lv_sipush (v := nI 21272) hx hb dX6_init_346 (by decide) ?_
  refine r_iast (ws' := [(mo, .inr (5, [.null, .int (nI 0), .null, .null, .null, .null, .null, .null, .null, .null, .null, .null, .null, .null, .null, .null, .null, .null, .null, .null, .null, .null, .null, .int (nI 0), .null, .int (nI 0), .int (nI 0), .null, .int (nI 0), .int (nI 0)])), (q8, .inl (g.2.1 0, 160, .inl (upd fRu 63 (nI 21272))))]) hF hw dX6_init_349 1 rfl (by omega) (by omega) rfl (fun H locs hw => ?_)
  generalize hf9 : upd fRu 63 (nI 21272) = fRu at hw
  have hru := RuK.put hru hf9 rfl
  refine lv_dup hx hb dX6_init_350 rfl ?_
  refine lv_bipush (v := nI 64) hx hb dX6_init_351 (by decide) ?_
  refine lv_iconst (v := nI 4) hx hb dX6_init_353 (by decide) ?_
  refine r_iast (ws' := [(mo, .inr (5, [.null, .int (nI 0), .null, .null, .null, .null, .null, .null, .null, .null, .null, .null, .null, .null, .null, .null, .null, .null, .null, .null, .null, .null, .null, .int (nI 0), .null, .int (nI 0), .int (nI 0), .null, .int (nI 0), .int (nI 0)])), (q8, .inl (g.2.1 0, 160, .inl (upd fRu 64 (nI 4))))]) hF hw dX6_init_354 1 rfl (by omega) (by omega) rfl (fun H locs hw => ?_)
  generalize hf9 : upd fRu 64 (nI 4) = fRu at hw
  have hru := RuK.put hru hf9 rfl
  refine lv_dup hx hb dX6_init_355 rfl ?_
  refine lv_bipush (v := nI 65) hx hb dX6_init_356 (by decide) ?_
  refine lv_iconst (v := nI 5) hx hb dX6_init_358 (by decide) ?_
  refine r_iast (ws' := [(mo, .inr (5, [.null, .int (nI 0), .null, .null, .null, .null, .null, .null, .null, .null, .null, .null, .null, .null, .null, .null, .null, .null, .null, .null, .null, .null, .null, .int (nI 0), .null, .int (nI 0), .int (nI 0), .null, .int (nI 0), .int (nI 0)])), (q8, .inl (g.2.1 0, 160, .inl (upd fRu 65 (nI 5))))]) hF hw dX6_init_359 1 rfl (by omega) (by omega) rfl (fun H locs hw => ?_)
  generalize hf9 : upd fRu 65 (nI 5) = fRu at hw
  have hru := RuK.put hru hf9 rfl
  refine lv_dup hx hb dX6_init_360 rfl ?_
  refine lv_bipush (v := nI 66) hx hb dX6_init_361 (by decide) ?_
  refine lv_bipush (v := nI 88) hx hb dX6_init_363 (by decide) ?_
  refine r_iast (ws' := [(mo, .inr (5, [.null, .int (nI 0), .null, .null, .null, .null, .null, .null, .null, .null, .null, .null, .null, .null, .null, .null, .null, .null, .null, .null, .null, .null, .null, .int (nI 0), .null, .int (nI 0), .int (nI 0), .null, .int (nI 0), .int (nI 0)])), (q8, .inl (g.2.1 0, 160, .inl (upd fRu 66 (nI 88))))]) hF hw dX6_init_365 1 rfl (by omega) (by omega) rfl (fun H locs hw => ?_)
  generalize hf9 : upd fRu 66 (nI 88) = fRu at hw
  have hru := RuK.put hru hf9 rfl
  refine lv_dup hx hb dX6_init_366 rfl ?_
  refine lv_bipush (v := nI 67) hx hb dX6_init_367 (by decide) ?_
  refine lv_sipush (v := nI 2393) hx hb dX6_init_369 (by decide) ?_
  refine r_iast (ws' := [(mo, .inr (5, [.null, .int (nI 0), .null, .null, .null, .null, .null, .null, .null, .null, .null, .null, .null, .null, .null, .null, .null, .null, .null, .null, .null, .null, .null, .int (nI 0), .null, .int (nI 0), .int (nI 0), .null, .int (nI 0), .int (nI 0)])), (q8, .inl (g.2.1 0, 160, .inl (upd fRu 67 (nI 2393))))]) hF hw dX6_init_372 1 rfl (by omega) (by omega) rfl (fun H locs hw => ?_)
  generalize hf9 : upd fRu 67 (nI 2393) = fRu at hw
  have hru := RuK.put hru hf9 rfl
  refine lv_dup hx hb dX6_init_373 rfl ?_
  refine lv_bipush (v := nI 68) hx hb dX6_init_374 (by decide) ?_
  refine lv_bipush (v := nI 88) hx hb dX6_init_376 (by decide) ?_
  refine r_iast (ws' := [(mo, .inr (5, [.null, .int (nI 0), .null, .null, .null, .null, .null, .null, .null, .null, .null, .null, .null, .null, .null, .null, .null, .null, .null, .null, .null, .null, .null, .int (nI 0), .null, .int (nI 0), .int (nI 0), .null, .int (nI 0), .int (nI 0)])), (q8, .inl (g.2.1 0, 160, .inl (upd fRu 68 (nI 88))))]) hF hw dX6_init_378 1 rfl (by omega) (by omega) rfl (fun H locs hw => ?_)
  generalize hf9 : upd fRu 68 (nI 88) = fRu at hw
  have hru := RuK.put hru hf9 rfl
  refine lv_dup hx hb dX6_init_379 rfl ?_
  refine lv_bipush (v := nI 69) hx hb dX6_init_380 (by decide) ?_
  refine lv_sipush (v := nI 21416) hx hb dX6_init_382 (by decide) ?_
  refine r_iast (ws' := [(mo, .inr (5, [.null, .int (nI 0), .null, .null, .null, .null, .null, .null, .null, .null, .null, .null, .null, .null, .null, .null, .null, .null, .null, .null, .null, .null, .null, .int (nI 0), .null, .int (nI 0), .int (nI 0), .null, .int (nI 0), .int (nI 0)])), (q8, .inl (g.2.1 0, 160, .inl (upd fRu 69 (nI 21416))))]) hF hw dX6_init_385 1 rfl (by omega) (by omega) rfl (fun H locs hw => ?_)
  generalize hf9 : upd fRu 69 (nI 21416) = fRu at hw
  have hru := RuK.put hru hf9 rfl
  refine lv_dup hx hb dX6_init_386 rfl ?_
  refine lv_bipush (v := nI 70) hx hb dX6_init_387 (by decide) ?_
  refine lv_iconst (v := -1) hx hb dX6_init_389 (by decide) ?_
  refine r_iast (ws' := [(mo, .inr (5, [.null, .int (nI 0), .null, .null, .null, .null, .null, .null, .null, .null, .null, .null, .null, .null, .null, .null, .null, .null, .null, .null, .null, .null, .null, .int (nI 0), .null, .int (nI 0), .int (nI 0), .null, .int (nI 0), .int (nI 0)])), (q8, .inl (g.2.1 0, 160, .inl (upd fRu 70 (-1))))]) hF hw dX6_init_390 1 rfl (by omega) (by omega) rfl (fun H locs hw => ?_)
  generalize hf9 : upd fRu 70 (-1) = fRu at hw
  have hru := RuK.put hru hf9 rfl
  refine lv_dup hx hb dX6_init_391 rfl ?_
  refine lv_bipush (v := nI 71) hx hb dX6_init_392 (by decide) ?_
  refine lv_iconst (v := -1) hx hb dX6_init_394 (by decide) ?_
  refine r_iast (ws' := [(mo, .inr (5, [.null, .int (nI 0), .null, .null, .null, .null, .null, .null, .null, .null, .null, .null, .null, .null, .null, .null, .null, .null, .null, .null, .null, .null, .null, .int (nI 0), .null, .int (nI 0), .int (nI 0), .null, .int (nI 0), .int (nI 0)])), (q8, .inl (g.2.1 0, 160, .inl (upd fRu 71 (-1))))]) hF hw dX6_init_395 1 rfl (by omega) (by omega) rfl (fun H locs hw => ?_)
  generalize hf9 : upd fRu 71 (-1) = fRu at hw
  have hru := RuK.put hru hf9 rfl
  refine lv_dup hx hb dX6_init_396 rfl ?_
  refine lv_bipush (v := nI 72) hx hb dX6_init_397 (by decide) ?_
  refine lv_bipush (v := nI 98) hx hb dX6_init_399 (by decide) ?_
  refine r_iast (ws' := [(mo, .inr (5, [.null, .int (nI 0), .null, .null, .null, .null, .null, .null, .null, .null, .null, .null, .null, .null, .null, .null, .null, .null, .null, .null, .null, .null, .null, .int (nI 0), .null, .int (nI 0), .int (nI 0), .null, .int (nI 0), .int (nI 0)])), (q8, .inl (g.2.1 0, 160, .inl (upd fRu 72 (nI 98))))]) hF hw dX6_init_401 1 rfl (by omega) (by omega) rfl (fun H locs hw => ?_)
  generalize hf9 : upd fRu 72 (nI 98) = fRu at hw
  have hru := RuK.put hru hf9 rfl
  refine lv_dup hx hb dX6_init_402 rfl ?_
  refine lv_bipush (v := nI 73) hx hb dX6_init_403 (by decide) ?_
  refine lv_sipush (v := nI 21270) hx hb dX6_init_405 (by decide) ?_
  refine r_iast (ws' := [(mo, .inr (5, [.null, .int (nI 0), .null, .null, .null, .null, .null, .null, .null, .null, .null, .null, .null, .null, .null, .null, .null, .null, .null, .null, .null, .null, .null, .int (nI 0), .null, .int (nI 0), .int (nI 0), .null, .int (nI 0), .int (nI 0)])), (q8, .inl (g.2.1 0, 160, .inl (upd fRu 73 (nI 21270))))]) hF hw dX6_init_408 1 rfl (by omega) (by omega) rfl (fun H locs hw => ?_)
  generalize hf9 : upd fRu 73 (nI 21270) = fRu at hw
  have hru := RuK.put hru hf9 rfl
  refine lv_dup hx hb dX6_init_409 rfl ?_
  refine lv_bipush (v := nI 74) hx hb dX6_init_410 (by decide) ?_
  refine lv_iconst (v := nI 4) hx hb dX6_init_412 (by decide) ?_
  refine r_iast (ws' := [(mo, .inr (5, [.null, .int (nI 0), .null, .null, .null, .null, .null, .null, .null, .null, .null, .null, .null, .null, .null, .null, .null, .null, .null, .null, .null, .null, .null, .int (nI 0), .null, .int (nI 0), .int (nI 0), .null, .int (nI 0), .int (nI 0)])), (q8, .inl (g.2.1 0, 160, .inl (upd fRu 74 (nI 4))))]) hF hw dX6_init_413 1 rfl (by omega) (by omega) rfl (fun H locs hw => ?_)
  generalize hf9 : upd fRu 74 (nI 4) = fRu at hw
  have hru := RuK.put hru hf9 rfl
  refine lv_dup hx hb dX6_init_414 rfl ?_
  refine lv_bipush (v := nI 75) hx hb dX6_init_415 (by decide) ?_
  refine lv_iconst (v := nI 5) hx hb dX6_init_417 (by decide) ?_
  refine r_iast (ws' := [(mo, .inr (5, [.null, .int (nI 0), .null, .null, .null, .null, .null, .null, .null, .null, .null, .null, .null, .null, .null, .null, .null, .null, .null, .null, .null, .null, .null, .int (nI 0), .null, .int (nI 0), .int (nI 0), .null, .int (nI 0), .int (nI 0)])), (q8, .inl (g.2.1 0, 160, .inl (upd fRu 75 (nI 5))))]) hF hw dX6_init_418 1 rfl (by omega) (by omega) rfl (fun H locs hw => ?_)
  generalize hf9 : upd fRu 75 (nI 5) = fRu at hw
  have hru := RuK.put hru hf9 rfl
  refine lv_dup hx hb dX6_init_419 rfl ?_
  refine lv_bipush (v := nI 76) hx hb dX6_init_420 (by decide) ?_
  refine lv_bipush (v := nI 86) hx hb dX6_init_422 (by decide) ?_
  refine r_iast (ws' := [(mo, .inr (5, [.null, .int (nI 0), .null, .null, .null, .null, .null, .null, .null, .null, .null, .null, .null, .null, .null, .null, .null, .null, .null, .null, .null, .null, .null, .int (nI 0), .null, .int (nI 0), .int (nI 0), .null, .int (nI 0), .int (nI 0)])), (q8, .inl (g.2.1 0, 160, .inl (upd fRu 76 (nI 86))))]) hF hw dX6_init_424 1 rfl (by omega) (by omega) rfl (fun H locs hw => ?_)
  generalize hf9 : upd fRu 76 (nI 86) = fRu at hw
  have hru := RuK.put hru hf9 rfl
  refine lv_dup hx hb dX6_init_425 rfl ?_
  refine lv_bipush (v := nI 77) hx hb dX6_init_426 (by decide) ?_
  refine lv_bipush (v := nI 87) hx hb dX6_init_428 (by decide) ?_
  refine r_iast (ws' := [(mo, .inr (5, [.null, .int (nI 0), .null, .null, .null, .null, .null, .null, .null, .null, .null, .null, .null, .null, .null, .null, .null, .null, .null, .null, .null, .null, .null, .int (nI 0), .null, .int (nI 0), .int (nI 0), .null, .int (nI 0), .int (nI 0)])), (q8, .inl (g.2.1 0, 160, .inl (upd fRu 77 (nI 87))))]) hF hw dX6_init_430 1 rfl (by omega) (by omega) rfl (fun H locs hw => ?_)
  generalize hf9 : upd fRu 77 (nI 87) = fRu at hw
  have hru := RuK.put hru hf9 rfl
  refine lv_dup hx hb dX6_init_431 rfl ?_
  refine lv_bipush (v := nI 78) hx hb dX6_init_432 (by decide) ?_
  refine lv_bipush (v := nI 86) hx hb dX6_init_434 (by decide) ?_
  refine r_iast (ws' := [(mo, .inr (5, [.null, .int (nI 0), .null, .null, .null, .null, .null, .null, .null, .null, .null, .null, .null, .null, .null, .null, .null, .null, .null, .null, .null, .null, .null, .int (nI 0), .null, .int (nI 0), .int (nI 0), .null, .int (nI 0), .int (nI 0)])), (q8, .inl (g.2.1 0, 160, .inl (upd fRu 78 (nI 86))))]) hF hw dX6_init_436 1 rfl (by omega) (by omega) rfl (fun H locs hw => ?_)
  generalize hf9 : upd fRu 78 (nI 86) = fRu at hw
  have hru := RuK.put hru hf9 rfl
  refine lv_dup hx hb dX6_init_437 rfl ?_
  refine lv_bipush (v := nI 79) hx hb dX6_init_438 (by decide) ?_
  refine lv_sipush (v := nI 21414) hx hb dX6_init_440 (by decide) ?_
  refine r_iast (ws' := [(mo, .inr (5, [.null, .int (nI 0), .null, .null, .null, .null, .null, .null, .null, .null, .null, .null, .null, .null, .null, .null, .null, .null, .null, .null, .null, .null, .null, .int (nI 0), .null, .int (nI 0), .int (nI 0), .null, .int (nI 0), .int (nI 0)])), (q8, .inl (g.2.1 0, 160, .inl (upd fRu 79 (nI 21414))))]) hF hw dX6_init_443 1 rfl (by omega) (by omega) rfl (fun H locs hw => ?_)
  generalize hf9 : upd fRu 79 (nI 21414) = fRu at hw
  have hru := RuK.put hru hf9 rfl
  refine lv_dup hx hb dX6_init_444 rfl ?_
  refine lv_bipush (v := nI 80) hx hb dX6_init_445 (by decide) ?_
  refine lv_iconst (v := -1) hx hb dX6_init_447 (by decide) ?_
  refine r_iast (ws' := [(mo, .inr (5, [.null, .int (nI 0), .null, .null, .null, .null, .null, .null, .null, .null, .null, .null, .null, .null, .null, .null, .null, .null, .null, .null, .null, .null, .null, .int (nI 0), .null, .int (nI 0), .int (nI 0), .null, .int (nI 0), .int (nI 0)])), (q8, .inl (g.2.1 0, 160, .inl (upd fRu 80 (-1))))]) hF hw dX6_init_448 1 rfl (by omega) (by omega) rfl (fun H locs hw => ?_)
  generalize hf9 : upd fRu 80 (-1) = fRu at hw
  have hru := RuK.put hru hf9 rfl
  refine lv_dup hx hb dX6_init_449 rfl ?_
  refine lv_bipush (v := nI 81) hx hb dX6_init_450 (by decide) ?_
  refine lv_iconst (v := -1) hx hb dX6_init_452 (by decide) ?_
  refine r_iast (ws' := [(mo, .inr (5, [.null, .int (nI 0), .null, .null, .null, .null, .null, .null, .null, .null, .null, .null, .null, .null, .null, .null, .null, .null, .null, .null, .null, .null, .null, .int (nI 0), .null, .int (nI 0), .int (nI 0), .null, .int (nI 0), .int (nI 0)])), (q8, .inl (g.2.1 0, 160, .inl (upd fRu 81 (-1))))]) hF hw dX6_init_453 1 rfl (by omega) (by omega) rfl (fun H locs hw => ?_)
  generalize hf9 : upd fRu 81 (-1) = fRu at hw
  have hru := RuK.put hru hf9 rfl
  refine lv_dup hx hb dX6_init_454 rfl ?_
  refine lv_bipush (v := nI 82) hx hb dX6_init_455 (by decide) ?_
  refine lv_bipush (v := nI 98) hx hb dX6_init_457 (by decide) ?_
  refine r_iast (ws' := [(mo, .inr (5, [.null, .int (nI 0), .null, .null, .null, .null, .null, .null, .null, .null, .null, .null, .null, .null, .null, .null, .null, .null, .null, .null, .null, .null, .null, .int (nI 0), .null, .int (nI 0), .int (nI 0), .null, .int (nI 0), .int (nI 0)])), (q8, .inl (g.2.1 0, 160, .inl (upd fRu 82 (nI 98))))]) hF hw dX6_init_459 1 rfl (by omega) (by omega) rfl (fun H locs hw => ?_)
  generalize hf9 : upd fRu 82 (nI 98) = fRu at hw
  have hru := RuK.put hru hf9 rfl
  refine lv_dup hx hb dX6_init_460 rfl ?_
  refine lv_bipush (v := nI 83) hx hb dX6_init_461 (by decide) ?_
  refine lv_bipush (v := nI 99) hx hb dX6_init_463 (by decide) ?_
  refine r_iast (ws' := [(mo, .inr (5, [.null, .int (nI 0), .null, .null, .null, .null, .null, .null, .null, .null, .null, .null, .null, .null, .null, .null, .null, .null, .null, .null, .null, .null, .null, .int (nI 0), .null, .int (nI 0), .int (nI 0), .null, .int (nI 0), .int (nI 0)])), (q8, .inl (g.2.1 0, 160, .inl (upd fRu 83 (nI 99))))]) hF hw dX6_init_465 1 rfl (by omega) (by omega) rfl (fun H locs hw => ?_)
  generalize hf9 : upd fRu 83 (nI 99) = fRu at hw
  have hru := RuK.put hru hf9 rfl
  refine lv_dup hx hb dX6_init_466 rfl ?_
  refine lv_bipush (v := nI 84) hx hb dX6_init_467 (by decide) ?_
  refine lv_iconst (v := nI 4) hx hb dX6_init_469 (by decide) ?_
  refine r_iast (ws' := [(mo, .inr (5, [.null, .int (nI 0), .null, .null, .null, .null, .null, .null, .null, .null, .null, .null, .null, .null, .null, .null, .null, .null, .null, .null, .null, .null, .null, .int (nI 0), .null, .int (nI 0), .int (nI 0), .null, .int (nI 0), .int (nI 0)])), (q8, .inl (g.2.1 0, 160, .inl (upd fRu 84 (nI 4))))]) hF hw dX6_init_470 1 rfl (by omega) (by omega) rfl (fun H locs hw => ?_)
  generalize hf9 : upd fRu 84 (nI 4) = fRu at hw
  have hru := RuK.put hru hf9 rfl
  refine lv_dup hx hb dX6_init_471 rfl ?_
  refine lv_bipush (v := nI 85) hx hb dX6_init_472 (by decide) ?_
  refine lv_iconst (v := nI 5) hx hb dX6_init_474 (by decide) ?_
  refine r_iast (ws' := [(mo, .inr (5, [.null, .int (nI 0), .null, .null, .null, .null, .null, .null, .null, .null, .null, .null, .null, .null, .null, .null, .null, .null, .null, .null, .null, .null, .null, .int (nI 0), .null, .int (nI 0), .int (nI 0), .null, .int (nI 0), .int (nI 0)])), (q8, .inl (g.2.1 0, 160, .inl (upd fRu 85 (nI 5))))]) hF hw dX6_init_475 1 rfl (by omega) (by omega) rfl (fun H locs hw => ?_)
  generalize hf9 : upd fRu 85 (nI 5) = fRu at hw
  have hru := RuK.put hru hf9 rfl
  refine lv_dup hx hb dX6_init_476 rfl ?_
  refine lv_bipush (v := nI 86) hx hb dX6_init_477 (by decide) ?_
  refine lv_bipush (v := nI 23) hx hb dX6_init_479 (by decide) ?_
  refine r_iast (ws' := [(mo, .inr (5, [.null, .int (nI 0), .null, .null, .null, .null, .null, .null, .null, .null, .null, .null, .null, .null, .null, .null, .null, .null, .null, .null, .null, .null, .null, .int (nI 0), .null, .int (nI 0), .int (nI 0), .null, .int (nI 0), .int (nI 0)])), (q8, .inl (g.2.1 0, 160, .inl (upd fRu 86 (nI 23))))]) hF hw dX6_init_481 1 rfl (by omega) (by omega) rfl (fun H locs hw => ?_)
  generalize hf9 : upd fRu 86 (nI 23) = fRu at hw
  have hru := RuK.put hru hf9 rfl
  refine lv_dup hx hb dX6_init_482 rfl ?_
  refine lv_bipush (v := nI 87) hx hb dX6_init_483 (by decide) ?_
  refine lv_bipush (v := nI 54) hx hb dX6_init_485 (by decide) ?_
  refine r_iast (ws' := [(mo, .inr (5, [.null, .int (nI 0), .null, .null, .null, .null, .null, .null, .null, .null, .null, .null, .null, .null, .null, .null, .null, .null, .null, .null, .null, .null, .null, .int (nI 0), .null, .int (nI 0), .int (nI 0), .null, .int (nI 0), .int (nI 0)])), (q8, .inl (g.2.1 0, 160, .inl (upd fRu 87 (nI 54))))]) hF hw dX6_init_487 1 rfl (by omega) (by omega) rfl (fun H locs hw => ?_)
  generalize hf9 : upd fRu 87 (nI 54) = fRu at hw
  have hru := RuK.put hru hf9 rfl
  refine lv_dup hx hb dX6_init_488 rfl ?_
  refine lv_bipush (v := nI 88) hx hb dX6_init_489 (by decide) ?_
  refine lv_sipush (v := nI 2329) hx hb dX6_init_491 (by decide) ?_
  refine r_iast (ws' := [(mo, .inr (5, [.null, .int (nI 0), .null, .null, .null, .null, .null, .null, .null, .null, .null, .null, .null, .null, .null, .null, .null, .null, .null, .null, .null, .null, .null, .int (nI 0), .null, .int (nI 0), .int (nI 0), .null, .int (nI 0), .int (nI 0)])), (q8, .inl (g.2.1 0, 160, .inl (upd fRu 88 (nI 2329))))]) hF hw dX6_init_494 1 rfl (by omega) (by omega) rfl (fun H locs hw => ?_)
  generalize hf9 : upd fRu 88 (nI 2329) = fRu at hw
  have hru := RuK.put hru hf9 rfl
  refine lv_dup hx hb dX6_init_495 rfl ?_
  refine lv_bipush (v := nI 89) hx hb dX6_init_496 (by decide) ?_
  refine lv_sipush (v := nI 934) hx hb dX6_init_498 (by decide) ?_
  refine r_iast (ws' := [(mo, .inr (5, [.null, .int (nI 0), .null, .null, .null, .null, .null, .null, .null, .null, .null, .null, .null, .null, .null, .null, .null, .null, .null, .null, .null, .null, .null, .int (nI 0), .null, .int (nI 0), .int (nI 0), .null, .int (nI 0), .int (nI 0)])), (q8, .inl (g.2.1 0, 160, .inl (upd fRu 89 (nI 934))))]) hF hw dX6_init_501 1 rfl (by omega) (by omega) rfl (fun H locs hw => ?_)
  generalize hf9 : upd fRu 89 (nI 934) = fRu at hw
  have hru := RuK.put hru hf9 rfl
  refine lv_dup hx hb dX6_init_502 rfl ?_
  refine lv_bipush (v := nI 90) hx hb dX6_init_503 (by decide) ?_
  refine lv_iconst (v := -1) hx hb dX6_init_505 (by decide) ?_
  refine r_iast (ws' := [(mo, .inr (5, [.null, .int (nI 0), .null, .null, .null, .null, .null, .null, .null, .null, .null, .null, .null, .null, .null, .null, .null, .null, .null, .null, .null, .null, .null, .int (nI 0), .null, .int (nI 0), .int (nI 0), .null, .int (nI 0), .int (nI 0)])), (q8, .inl (g.2.1 0, 160, .inl (upd fRu 90 (-1))))]) hF hw dX6_init_506 1 rfl (by omega) (by omega) rfl (fun H locs hw => ?_)
  generalize hf9 : upd fRu 90 (-1) = fRu at hw
  have hru := RuK.put hru hf9 rfl
  refine lv_dup hx hb dX6_init_507 rfl ?_
  refine lv_bipush (v := nI 91) hx hb dX6_init_508 (by decide) ?_
  refine lv_iconst (v := -1) hx hb dX6_init_510 (by decide) ?_
  refine r_iast (ws' := [(mo, .inr (5, [.null, .int (nI 0), .null, .null, .null, .null, .null, .null, .null, .null, .null, .null, .null, .null, .null, .null, .null, .null, .null, .null, .null, .null, .null, .int (nI 0), .null, .int (nI 0), .int (nI 0), .null, .int (nI 0), .int (nI 0)])), (q8, .inl (g.2.1 0, 160, .inl (upd fRu 91 (-1))))]) hF hw dX6_init_511 1 rfl (by omega) (by omega) rfl (fun H locs hw => ?_)
  generalize hf9 : upd fRu 91 (-1) = fRu at hw
  have hru := RuK.put hru hf9 rfl
  refine lv_dup hx hb dX6_init_512 rfl ?_
  refine lv_bipush (v := nI 92) hx hb dX6_init_513 (by decide) ?_
  refine lv_bipush (v := nI 98) hx hb dX6_init_515 (by decide) ?_
  refine r_iast (ws' := [(mo, .inr (5, [.null, .int (nI 0), .null, .null, .null, .null, .null, .null, .null, .null, .null, .null, .null, .null, .null, .null, .null, .null, .null, .null, .null, .null, .null, .int (nI 0), .null, .int (nI 0), .int (nI 0), .null, .int (nI 0), .int (nI 0)])), (q8, .inl (g.2.1 0, 160, .inl (upd fRu 92 (nI 98))))]) hF hw dX6_init_517 1 rfl (by omega) (by omega) rfl (fun H locs hw => ?_)
  generalize hf9 : upd fRu 92 (nI 98) = fRu at hw
  have hru := RuK.put hru hf9 rfl
  refine lv_dup hx hb dX6_init_518 rfl ?_
  refine lv_bipush (v := nI 93) hx hb dX6_init_519 (by decide) ?_
  refine lv_bipush (v := nI 99) hx hb dX6_init_521 (by decide) ?_
  refine r_iast (ws' := [(mo, .inr (5, [.null, .int (nI 0), .null, .null, .null, .null, .null, .null, .null, .null, .null, .null, .null, .null, .null, .null, .null, .null, .null, .null, .null, .null, .null, .int (nI 0), .null, .int (nI 0), .int (nI 0), .null, .int (nI 0), .int (nI 0)])), (q8, .inl (g.2.1 0, 160, .inl (upd fRu 93 (nI 99))))]) hF hw dX6_init_523 1 rfl (by omega) (by omega) rfl (fun H locs hw => ?_)
  generalize hf9 : upd fRu 93 (nI 99) = fRu at hw
  have hru := RuK.put hru hf9 rfl
  refine lv_dup hx hb dX6_init_524 rfl ?_
  refine lv_bipush (v := nI 94) hx hb dX6_init_525 (by decide) ?_
  refine lv_iconst (v := nI 4) hx hb dX6_init_527 (by decide) ?_
  refine r_iast (ws' := [(mo, .inr (5, [.null, .int (nI 0), .null, .null, .null, .null, .null, .null, .null, .null, .null, .null, .null, .null, .null, .null, .null, .null, .null, .null, .null, .null, .null, .int (nI 0), .null, .int (nI 0), .int (nI 0), .null, .int (nI 0), .int (nI 0)])), (q8, .inl (g.2.1 0, 160, .inl (upd fRu 94 (nI 4))))]) hF hw dX6_init_528 1 rfl (by omega) (by omega) rfl (fun H locs hw => ?_)
  generalize hf9 : upd fRu 94 (nI 4) = fRu at hw
  have hru := RuK.put hru hf9 rfl
  refine lv_dup hx hb dX6_init_529 rfl ?_
  refine lv_bipush (v := nI 95) hx hb dX6_init_530 (by decide) ?_
  refine lv_iconst (v := nI 5) hx hb dX6_init_532 (by decide) ?_
  refine r_iast (ws' := [(mo, .inr (5, [.null, .int (nI 0), .null, .null, .null, .null, .null, .null, .null, .null, .null, .null, .null, .null, .null, .null, .null, .null, .null, .null, .null, .null, .null, .int (nI 0), .null, .int (nI 0), .int (nI 0), .null, .int (nI 0), .int (nI 0)])), (q8, .inl (g.2.1 0, 160, .inl (upd fRu 95 (nI 5))))]) hF hw dX6_init_533 1 rfl (by omega) (by omega) rfl (fun H locs hw => ?_)
  generalize hf9 : upd fRu 95 (nI 5) = fRu at hw
  have hru := RuK.put hru hf9 rfl
  refine lv_dup hx hb dX6_init_534 rfl ?_
  refine lv_bipush (v := nI 96) hx hb dX6_init_535 (by decide) ?_
  refine lv_sipush (v := nI 790) hx hb dX6_init_537 (by decide) ?_
  refine r_iast (ws' := [(mo, .inr (5, [.null, .int (nI 0), .null, .null, .null, .null, .null, .null, .null, .null, .null, .null, .null, .null, .null, .null, .null, .null, .null, .null, .null, .null, .null, .int (nI 0), .null, .int (nI 0), .int (nI 0), .null, .int (nI 0), .int (nI 0)])), (q8, .inl (g.2.1 0, 160, .inl (upd fRu 96 (nI 790))))]) hF hw dX6_init_540 1 rfl (by omega) (by omega) rfl (fun H locs hw => ?_)
  generalize hf9 : upd fRu 96 (nI 790) = fRu at hw
  have hru := RuK.put hru hf9 rfl
  refine lv_dup hx hb dX6_init_541 rfl ?_
  refine lv_bipush (v := nI 97) hx hb dX6_init_542 (by decide) ?_
  refine lv_bipush (v := nI 54) hx hb dX6_init_544 (by decide) ?_
  refine r_iast (ws' := [(mo, .inr (5, [.null, .int (nI 0), .null, .null, .null, .null, .null, .null, .null, .null, .null, .null, .null, .null, .null, .null, .null, .null, .null, .null, .null, .null, .null, .int (nI 0), .null, .int (nI 0), .int (nI 0), .null, .int (nI 0), .int (nI 0)])), (q8, .inl (g.2.1 0, 160, .inl (upd fRu 97 (nI 54))))]) hF hw dX6_init_546 1 rfl (by omega) (by omega) rfl (fun H locs hw => ?_)
  generalize hf9 : upd fRu 97 (nI 54) = fRu at hw
  have hru := RuK.put hru hf9 rfl
  refine lv_dup hx hb dX6_init_547 rfl ?_
  refine lv_bipush (v := nI 98) hx hb dX6_init_548 (by decide) ?_
  refine lv_sipush (v := nI 792) hx hb dX6_init_550 (by decide) ?_
  refine r_iast (ws' := [(mo, .inr (5, [.null, .int (nI 0), .null, .null, .null, .null, .null, .null, .null, .null, .null, .null, .null, .null, .null, .null, .null, .null, .null, .null, .null, .null, .null, .int (nI 0), .null, .int (nI 0), .int (nI 0), .null, .int (nI 0), .int (nI 0)])), (q8, .inl (g.2.1 0, 160, .inl (upd fRu 98 (nI 792))))]) hF hw dX6_init_553 1 rfl (by omega) (by omega) rfl (fun H locs hw => ?_)
  generalize hf9 : upd fRu 98 (nI 792) = fRu at hw
  have hru := RuK.put hru hf9 rfl
  refine lv_dup hx hb dX6_init_554 rfl ?_
  refine lv_bipush (v := nI 99) hx hb dX6_init_555 (by decide) ?_
  refine lv_sipush (v := nI 934) hx hb dX6_init_557 (by decide) ?_
  refine r_iast (ws' := [(mo, .inr (5, [.null, .int (nI 0), .null, .null, .null, .null, .null, .null, .null, .null, .null, .null, .null, .null, .null, .null, .null, .null, .null, .null, .null, .null, .null, .int (nI 0), .null, .int (nI 0), .int (nI 0), .null, .int (nI 0), .int (nI 0)])), (q8, .inl (g.2.1 0, 160, .inl (upd fRu 99 (nI 934))))]) hF hw dX6_init_560 1 rfl (by omega) (by omega) rfl (fun H locs hw => ?_)
  generalize hf9 : upd fRu 99 (nI 934) = fRu at hw
  have hru := RuK.put hru hf9 rfl
  refine lv_dup hx hb dX6_init_561 rfl ?_
  refine lv_bipush (v := nI 100) hx hb dX6_init_562 (by decide) ?_
  refine lv_iconst (v := -1) hx hb dX6_init_564 (by decide) ?_
  refine r_iast (ws' := [(mo, .inr (5, [.null, .int (nI 0), .null, .null, .null, .null, .null, .null, .null, .null, .null, .null, .null, .null, .null, .null, .null, .null, .null, .null, .null, .null, .null, .int (nI 0), .null, .int (nI 0), .int (nI 0), .null, .int (nI 0), .int (nI 0)])), (q8, .inl (g.2.1 0, 160, .inl (upd fRu 100 (-1))))]) hF hw dX6_init_565 1 rfl (by omega) (by omega) rfl (fun H locs hw => ?_)
  generalize hf9 : upd fRu 100 (-1) = fRu at hw
  have hru := RuK.put hru hf9 rfl
  refine lv_dup hx hb dX6_init_566 rfl ?_
  refine lv_bipush (v := nI 101) hx hb dX6_init_567 (by decide) ?_
  refine lv_iconst (v := -1) hx hb dX6_init_569 (by decide) ?_
  refine r_iast (ws' := [(mo, .inr (5, [.null, .int (nI 0), .null, .null, .null, .null, .null, .null, .null, .null, .null, .null, .null, .null, .null, .null, .null, .null, .null, .null, .null, .null, .null, .int (nI 0), .null, .int (nI 0), .int (nI 0), .null, .int (nI 0), .int (nI 0)])), (q8, .inl (g.2.1 0, 160, .inl (upd fRu 101 (-1))))]) hF hw dX6_init_570 1 rfl (by omega) (by omega) rfl (fun H locs hw => ?_)
  generalize hf9 : upd fRu 101 (-1) = fRu at hw
  have hru := RuK.put hru hf9 rfl
  refine lv_dup hx hb dX6_init_571 rfl ?_
  refine lv_bipush (v := nI 102) hx hb dX6_init_572 (by decide) ?_
  refine lv_bipush (v := nI 98) hx hb dX6_init_574 (by decide) ?_
  refine r_iast (ws' := [(mo, .inr (5, [.null, .int (nI 0), .null, .null, .null, .null, .null, .null, .null, .null, .null, .null, .null, .null, .null, .null, .null, .null, .null, .null, .null, .null, .null, .int (nI 0), .null, .int (nI 0), .int (nI 0), .null, .int (nI 0), .int (nI 0)])), (q8, .inl (g.2.1 0, 160, .inl (upd fRu 102 (nI 98))))]) hF hw dX6_init_576 1 rfl (by omega) (by omega) rfl (fun H locs hw => ?_)
  generalize hf9 : upd fRu 102 (nI 98) = fRu at hw
  have hru := RuK.put hru hf9 rfl
  refine lv_dup hx hb dX6_init_577 rfl ?_
  refine lv_bipush (v := nI 103) hx hb dX6_init_578 (by decide) ?_
  refine lv_bipush (v := nI 99) hx hb dX6_init_580 (by decide) ?_
  refine r_iast (ws' := [(mo, .inr (5, [.null, .int (nI 0), .null, .null, .null, .null, .null, .null, .null, .null, .null, .null, .null, .null, .null, .null, .null, .null, .null, .null, .null, .null, .null, .int (nI 0), .null, .int (nI 0), .int (nI 0), .null, .int (nI 0), .int (nI 0)])), (q8, .inl (g.2.1 0, 160, .inl (upd fRu 103 (nI 99))))]) hF hw dX6_init_582 1 rfl (by omega) (by omega) rfl (fun H locs hw => ?_)
  generalize hf9 : upd fRu 103 (nI 99) = fRu at hw
  have hru := RuK.put hru hf9 rfl
  refine lv_dup hx hb dX6_init_583 rfl ?_
  refine lv_bipush (v := nI 104) hx hb dX6_init_584 (by decide) ?_
  refine lv_bipush (v := nI 100) hx hb dX6_init_586 (by decide) ?_
  refine r_iast (ws' := [(mo, .inr (5, [.null, .int (nI 0), .null, .null, .null, .null, .null, .null, .null, .null, .null, .null, .null, .null, .null, .null, .null, .null, .null, .null, .null, .null, .null, .int (nI 0), .null, .int (nI 0), .int (nI 0), .null, .int (nI 0), .int (nI 0)])), (q8, .inl (g.2.1 0, 160, .inl (upd fRu 104 (nI 100))))]) hF hw dX6_init_588 1 rfl (by omega) (by omega) rfl (fun H locs hw => ?_)
  generalize hf9 : upd fRu 104 (nI 100) = fRu at hw
  have hru := RuK.put hru hf9 rfl
  refine lv_dup hx hb dX6_init_589 rfl ?_
  refine lv_bipush (v := nI 105) hx hb dX6_init_590 (by decide) ?_
  refine lv_bipush (v := nI 101) hx hb dX6_init_592 (by decide) ?_
  refine r_iast (ws' := [(mo, .inr (5, [.null, .int (nI 0), .null, .null, .null, .null, .null, .null, .null, .null, .null, .null, .null, .null, .null, .null, .null, .null, .null, .null, .null, .null, .null, .int (nI 0), .null, .int (nI 0), .int (nI 0), .null, .int (nI 0), .int (nI 0)])), (q8, .inl (g.2.1 0, 160, .inl (upd fRu 105 (nI 101))))]) hF hw dX6_init_594 1 rfl (by omega) (by omega) rfl (fun H locs hw => ?_)
  generalize hf9 : upd fRu 105 (nI 101) = fRu at hw
  have hru := RuK.put hru hf9 rfl
  refine lv_dup hx hb dX6_init_595 rfl ?_
  refine lv_bipush (v := nI 106) hx hb dX6_init_596 (by decide) ?_
  refine lv_bipush (v := nI 102) hx hb dX6_init_598 (by decide) ?_
  refine r_iast (ws' := [(mo, .inr (5, [.null, .int (nI 0), .null, .null, .null, .null, .null, .null, .null, .null, .null, .null, .null, .null, .null, .null, .null, .null, .null, .null, .null, .null, .null, .int (nI 0), .null, .int (nI 0), .int (nI 0), .null, .int (nI 0), .int (nI 0)])), (q8, .inl (g.2.1 0, 160, .inl (upd fRu 106 (nI 102))))]) hF hw dX6_init_600 1 rfl (by omega) (by omega) rfl (fun H locs hw => ?_)
  generalize hf9 : upd fRu 106 (nI 102) = fRu at hw
  have hru := RuK.put hru hf9 rfl
  refine lv_dup hx hb dX6_init_601 rfl ?_
  refine lv_bipush (v := nI 107) hx hb dX6_init_602 (by decide) ?_
  refine lv_bipush (v := nI 102) hx hb dX6_init_604 (by decide) ?_
  refine r_iast (ws' := [(mo, .inr (5, [.null, .int (nI 0), .null, .null, .null, .null, .null, .null, .null, .null, .null, .null, .null, .null, .null, .null, .null, .null, .null, .null, .null, .null, .null, .int (nI 0), .null, .int (nI 0), .int (nI 0), .null, .int (nI 0), .int (nI 0)])), (q8, .inl (g.2.1 0, 160, .inl (upd fRu 107 (nI 102))))]) hF hw dX6_init_606 1 rfl (by omega) (by omega) rfl (fun H locs hw => ?_)
  generalize hf9 : upd fRu 107 (nI 102) = fRu at hw
  have hru := RuK.put hru hf9 rfl
  refine lv_dup hx hb dX6_init_607 rfl ?_
  refine lv_bipush (v := nI 108) hx hb dX6_init_608 (by decide) ?_
  refine lv_bipush (v := nI 102) hx hb dX6_init_610 (by decide) ?_
  refine r_iast (ws' := [(mo, .inr (5, [.null, .int (nI 0), .null, .null, .null, .null, .null, .null, .null, .null, .null, .null, .null, .null, .null, .null, .null, .null, .null, .null, .null, .null, .null, .int (nI 0), .null, .int (nI 0), .int (nI 0), .null, .int (nI 0), .int (nI 0)])), (q8, .inl (g.2.1 0, 160, .inl (upd fRu 108 (nI 102))))]) hF hw dX6_init_612 1 rfl (by omega) (by omega) rfl (fun H locs hw => ?_)
  generalize hf9 : upd fRu 108 (nI 102) = fRu at hw
  have hru := RuK.put hru hf9 rfl
  refine lv_dup hx hb dX6_init_613 rfl ?_
  refine lv_bipush (v := nI 109) hx hb dX6_init_614 (by decide) ?_
  refine lv_sipush (v := nI 25253) hx hb dX6_init_616 (by decide) ?_
  refine r_iast (ws' := [(mo, .inr (5, [.null, .int (nI 0), .null, .null, .null, .null, .null, .null, .null, .null, .null, .null, .null, .null, .null, .null, .null, .null, .null, .null, .null, .null, .null, .int (nI 0), .null, .int (nI 0), .int (nI 0), .null, .int (nI 0), .int (nI 0)])), (q8, .inl (g.2.1 0, 160, .inl (upd fRu 109 (nI 25253))))]) hF hw dX6_init_619 1 rfl (by omega) (by omega) rfl (fun H locs hw => ?_)
  generalize hf9 : upd fRu 109 (nI 25253) = fRu at hw
  have hru := RuK.put hru hf9 rfl
  refine lv_dup hx hb dX6_init_620 rfl ?_
  refine lv_bipush (v := nI 110) hx hb dX6_init_621 (by decide) ?_
  refine lv_iconst (v := -1) hx hb dX6_init_623 (by decide) ?_
  refine r_iast (ws' := [(mo, .inr (5, [.null, .int (nI 0), .null, .null, .null, .null, .null, .null, .null, .null, .null, .null, .null, .null, .null, .null, .null, .null, .null, .null, .null, .null, .null, .int (nI 0), .null, .int (nI 0), .int (nI 0), .null, .int (nI 0), .int (nI 0)])), (q8, .inl (g.2.1 0, 160, .inl (upd fRu 110 (-1))))]) hF hw dX6_init_624 1 rfl (by omega) (by omega) rfl (fun H locs hw => ?_)
  generalize hf9 : upd fRu 110 (-1) = fRu at hw
  have hru := RuK.put hru hf9 rfl
  refine lv_dup hx hb dX6_init_625 rfl ?_
  refine lv_bipush (v := nI 111) hx hb dX6_init_626 (by decide) ?_
  refine lv_iconst (v := -1) hx hb dX6_init_628 (by decide) ?_
  refine r_iast (ws' := [(mo, .inr (5, [.null, .int (nI 0), .null, .null, .null, .null, .null, .null, .null, .null, .null, .null, .null, .null, .null, .null, .null, .null, .null, .null, .null, .null, .null, .int (nI 0), .null, .int (nI 0), .int (nI 0), .null, .int (nI 0), .int (nI 0)])), (q8, .inl (g.2.1 0, 160, .inl (upd fRu 111 (-1))))]) hF hw dX6_init_629 1 rfl (by omega) (by omega) rfl (fun H locs hw => ?_)
  generalize hf9 : upd fRu 111 (-1) = fRu at hw
  have hru := RuK.put hru hf9 rfl
  refine lv_dup hx hb dX6_init_630 rfl ?_
  refine lv_bipush (v := nI 112) hx hb dX6_init_631 (by decide) ?_
  refine lv_iconst (v := nI 2) hx hb dX6_init_633 (by decide) ?_
  refine r_iast (ws' := [(mo, .inr (5, [.null, .int (nI 0), .null, .null, .null, .null, .null, .null, .null, .null, .null, .null, .null, .null, .null, .null, .null, .null, .null, .null, .null, .null, .null, .int (nI 0), .null, .int (nI 0), .int (nI 0), .null, .int (nI 0), .int (nI 0)])), (q8, .inl (g.2.1 0, 160, .inl (upd fRu 112 (nI 2))))]) hF hw dX6_init_634 1 rfl (by omega) (by omega) rfl (fun H locs hw => ?_)
  generalize hf9 : upd fRu 112 (nI 2) = fRu at hw
  have hru := RuK.put hru hf9 rfl
  refine lv_dup hx hb dX6_init_635 rfl ?_
  refine lv_bipush (v := nI 113) hx hb dX6_init_636 (by decide) ?_
  refine lv_iconst (v := nI 3) hx hb dX6_init_638 (by decide) ?_
  refine r_iast (ws' := [(mo, .inr (5, [.null, .int (nI 0), .null, .null, .null, .null, .null, .null, .null, .null, .null, .null, .null, .null, .null, .null, .null, .null, .null, .null, .null, .null, .null, .int (nI 0), .null, .int (nI 0), .int (nI 0), .null, .int (nI 0), .int (nI 0)])), (q8, .inl (g.2.1 0, 160, .inl (upd fRu 113 (nI 3))))]) hF hw dX6_init_639 1 rfl (by omega) (by omega) rfl (fun H locs hw => ?_)
  generalize hf9 : upd fRu 113 (nI 3) = fRu at hw
  have hru := RuK.put hru hf9 rfl
  refine lv_dup hx hb dX6_init_640 rfl ?_
  refine lv_bipush (v := nI 114) hx hb dX6_init_641 (by decide) ?_
  refine lv_iconst (v := nI 2) hx hb dX6_init_643 (by decide) ?_
  refine r_iast (ws' := [(mo, .inr (5, [.null, .int (nI 0), .null, .null, .null, .null, .null, .null, .null, .null, .null, .null, .null, .null, .null, .null, .null, .null, .null, .null, .null, .null, .null, .int (nI 0), .null, .int (nI 0), .int (nI 0), .null, .int (nI 0), .int (nI 0)])), (q8, .inl (g.2.1 0, 160, .inl (upd fRu 114 (nI 2))))]) hF hw dX6_init_644 1 rfl (by omega) (by omega) rfl (fun H locs hw => ?_)
  generalize hf9 : upd fRu 114 (nI 2) = fRu at hw
  have hru := RuK.put hru hf9 rfl
  refine lv_dup hx hb dX6_init_645 rfl ?_
  refine lv_bipush (v := nI 115) hx hb dX6_init_646 (by decide) ?_
  refine lv_iconst (v := nI 3) hx hb dX6_init_648 (by decide) ?_
  refine r_iast (ws' := [(mo, .inr (5, [.null, .int (nI 0), .null, .null, .null, .null, .null, .null, .null, .null, .null, .null, .null, .null, .null, .null, .null, .null, .null, .null, .null, .null, .null, .int (nI 0), .null, .int (nI 0), .int (nI 0), .null, .int (nI 0), .int (nI 0)])), (q8, .inl (g.2.1 0, 160, .inl (upd fRu 115 (nI 3))))]) hF hw dX6_init_649 1 rfl (by omega) (by omega) rfl (fun H locs hw => ?_)
  generalize hf9 : upd fRu 115 (nI 3) = fRu at hw
  have hru := RuK.put hru hf9 rfl
  refine lv_dup hx hb dX6_init_650 rfl ?_
  refine lv_bipush (v := nI 116) hx hb dX6_init_651 (by decide) ?_
  refine lv_bipush (v := nI 6) hx hb dX6_init_653 (by decide) ?_
  refine r_iast (ws' := [(mo, .inr (5, [.null, .int (nI 0), .null, .null, .null, .null, .null, .null, .null, .null, .null, .null, .null, .null, .null, .null, .null, .null, .null, .null, .null, .null, .null, .int (nI 0), .null, .int (nI 0), .int (nI 0), .null, .int (nI 0), .int (nI 0)])), (q8, .inl (g.2.1 0, 160, .inl (upd fRu 116 (nI 6))))]) hF hw dX6_init_655 1 rfl (by omega) (by omega) rfl (fun H locs hw => ?_)
  generalize hf9 : upd fRu 116 (nI 6) = fRu at hw
  have hru := RuK.put hru hf9 rfl
  refine lv_dup hx hb dX6_init_656 rfl ?_
  refine lv_bipush (v := nI 117) hx hb dX6_init_657 (by decide) ?_
  refine lv_bipush (v := nI 6) hx hb dX6_init_659 (by decide) ?_
  refine r_iast (ws' := [(mo, .inr (5, [.null, .int (nI 0), .null, .null, .null, .null, .null, .null, .null, .null, .null, .null, .null, .null, .null, .null, .null, .null, .null, .null, .null, .null, .null, .int (nI 0), .null, .int (nI 0), .int (nI 0), .null, .int (nI 0), .int (nI 0)])), (q8, .inl (g.2.1 0, 160, .inl (upd fRu 117 (nI 6))))]) hF hw dX6_init_661 1 rfl (by omega) (by omega) rfl (fun H locs hw => ?_)
  generalize hf9 : upd fRu 117 (nI 6) = fRu at hw
  have hru := RuK.put hru hf9 rfl
  refine lv_dup hx hb dX6_init_662 rfl ?_
  refine lv_bipush (v := nI 118) hx hb dX6_init_663 (by decide) ?_
  refine lv_bipush (v := nI 8) hx hb dX6_init_665 (by decide) ?_
  refine r_iast (ws' := [(mo, .inr (5, [.null, .int (nI 0), .null, .null, .null, .null, .null, .null, .null, .null, .null, .null, .null, .null, .null, .null, .null, .null, .null, .null, .null, .null, .null, .int (nI 0), .null, .int (nI 0), .int (nI 0), .null, .int (nI 0), .int (nI 0)])), (q8, .inl (g.2.1 0, 160, .inl (upd fRu 118 (nI 8))))]) hF hw dX6_init_667 1 rfl (by omega) (by omega) rfl (fun H locs hw => ?_)
  generalize hf9 : upd fRu 118 (nI 8) = fRu at hw
  have hru := RuK.put hru hf9 rfl
  refine lv_dup hx hb dX6_init_668 rfl ?_
  refine lv_bipush (v := nI 119) hx hb dX6_init_669 (by decide) ?_
  refine lv_sipush (v := nI 934) hx hb dX6_init_671 (by decide) ?_
  refine r_iast (ws' := [(mo, .inr (5, [.null, .int (nI 0), .null, .null, .null, .null, .null, .null, .null, .null, .null, .null, .null, .null, .null, .null, .null, .null, .null, .null, .null, .null, .null, .int (nI 0), .null, .int (nI 0), .int (nI 0), .null, .int (nI 0), .int (nI 0)])), (q8, .inl (g.2.1 0, 160, .inl (upd fRu 119 (nI 934))))]) hF hw dX6_init_674 1 rfl (by omega) (by omega) rfl (fun H locs hw => ?_)
  generalize hf9 : upd fRu 119 (nI 934) = fRu at hw
  have hru := RuK.put hru hf9 rfl
  refine lv_dup hx hb dX6_init_675 rfl ?_
  refine lv_bipush (v := nI 120) hx hb dX6_init_676 (by decide) ?_
  refine lv_iconst (v := -1) hx hb dX6_init_678 (by decide) ?_
  refine r_iast (ws' := [(mo, .inr (5, [.null, .int (nI 0), .null, .null, .null, .null, .null, .null, .null, .null, .null, .null, .null, .null, .null, .null, .null, .null, .null, .null, .null, .null, .null, .int (nI 0), .null, .int (nI 0), .int (nI 0), .null, .int (nI 0), .int (nI 0)])), (q8, .inl (g.2.1 0, 160, .inl (upd fRu 120 (-1))))]) hF hw dX6_init_679 1 rfl (by omega) (by omega) rfl (fun H locs hw => ?_)
  generalize hf9 : upd fRu 120 (-1) = fRu at hw
  have hru := RuK.put hru hf9 rfl
  refine lv_dup hx hb dX6_init_680 rfl ?_
  refine lv_bipush (v := nI 121) hx hb dX6_init_681 (by decide) ?_
  refine lv_iconst (v := -1) hx hb dX6_init_683 (by decide) ?_
  refine r_iast (ws' := [(mo, .inr (5, [.null, .int (nI 0), .null, .null, .null, .null, .null, .null, .null, .null, .null, .null, .null, .null, .null, .null, .null, .null, .null, .null, .null, .null, .null, .int (nI 0), .null, .int (nI 0), .int (nI 0), .null, .int (nI 0), .int (nI 0)])), (q8, .inl (g.2.1 0, 160, .inl (upd fRu 121 (-1))))]) hF hw dX6_init_684 1 rfl (by omega) (by omega) rfl (fun H locs hw => ?_)
  generalize hf9 : upd fRu 121 (-1) = fRu at hw
  have hru := RuK.put hru hf9 rfl
  refine lv_dup hx hb dX6_init_685 rfl ?_
  refine lv_bipush (v := nI 122) hx hb dX6_init_686 (by decide) ?_
  refine lv_bipush (v := nI 114) hx hb dX6_init_688 (by decide) ?_
  refine r_iast (ws' := [(mo, .inr (5, [.null, .int (nI 0), .null, .null, .null, .null, .null, .null, .null, .null, .null, .null, .null, .null, .null, .null, .null, .null, .null, .null, .null, .null, .null, .int (nI 0), .null, .int (nI 0), .int (nI 0), .null, .int (nI 0), .int (nI 0)])), (q8, .inl (g.2.1 0, 160, .inl (upd fRu 122 (nI 114))))]) hF hw dX6_init_690 1 rfl (by omega) (by omega) rfl (fun H locs hw => ?_)
  generalize hf9 : upd fRu 122 (nI 114) = fRu at hw
  have hru := RuK.put hru hf9 rfl
  refine lv_dup hx hb dX6_init_691 rfl ?_
  refine lv_bipush (v := nI 123) hx hb dX6_init_692 (by decide) ?_
  refine lv_bipush (v := nI 115) hx hb dX6_init_694 (by decide) ?_
  refine r_iast (ws' := [(mo, .inr (5, [.null, .int (nI 0), .null, .null, .null, .null, .null, .null, .null, .null, .null, .null, .null, .null, .null, .null, .null, .null, .null, .null, .null, .null, .null, .int (nI 0), .null, .int (nI 0), .int (nI 0), .null, .int (nI 0), .int (nI 0)])), (q8, .inl (g.2.1 0, 160, .inl (upd fRu 123 (nI 115))))]) hF hw dX6_init_696 1 rfl (by omega) (by omega) rfl (fun H locs hw => ?_)
  generalize hf9 : upd fRu 123 (nI 115) = fRu at hw
  have hru := RuK.put hru hf9 rfl
  refine lv_dup hx hb dX6_init_697 rfl ?_
  refine lv_bipush (v := nI 124) hx hb dX6_init_698 (by decide) ?_
  refine lv_bipush (v := nI 116) hx hb dX6_init_700 (by decide) ?_
  refine r_iast (ws' := [(mo, .inr (5, [.null, .int (nI 0), .null, .null, .null, .null, .null, .null, .null, .null, .null, .null, .null, .null, .null, .null, .null, .null, .null, .null, .null, .null, .null, .int (nI 0), .null, .int (nI 0), .int (nI 0), .null, .int (nI 0), .int (nI 0)])), (q8, .inl (g.2.1 0, 160, .inl (upd fRu 124 (nI 116))))]) hF hw dX6_init_702 1 rfl (by omega) (by omega) rfl (fun H locs hw => ?_)
  generalize hf9 : upd fRu 124 (nI 116) = fRu at hw
  have hru := RuK.put hru hf9 rfl
  refine lv_dup hx hb dX6_init_703 rfl ?_
  refine lv_bipush (v := nI 125) hx hb dX6_init_704 (by decide) ?_
  refine lv_bipush (v := nI 117) hx hb dX6_init_706 (by decide) ?_
  refine r_iast (ws' := [(mo, .inr (5, [.null, .int (nI 0), .null, .null, .null, .null, .null, .null, .null, .null, .null, .null, .null, .null, .null, .null, .null, .null, .null, .null, .null, .null, .null, .int (nI 0), .null, .int (nI 0), .int (nI 0), .null, .int (nI 0), .int (nI 0)])), (q8, .inl (g.2.1 0, 160, .inl (upd fRu 125 (nI 117))))]) hF hw dX6_init_708 1 rfl (by omega) (by omega) rfl (fun H locs hw => ?_)
  generalize hf9 : upd fRu 125 (nI 117) = fRu at hw
  have hru := RuK.put hru hf9 rfl
  refine lv_dup hx hb dX6_init_709 rfl ?_
  refine lv_bipush (v := nI 126) hx hb dX6_init_710 (by decide) ?_
  refine lv_bipush (v := nI 118) hx hb dX6_init_712 (by decide) ?_
  refine r_iast (ws' := [(mo, .inr (5, [.null, .int (nI 0), .null, .null, .null, .null, .null, .null, .null, .null, .null, .null, .null, .null, .null, .null, .null, .null, .null, .null, .null, .null, .null, .int (nI 0), .null, .int (nI 0), .int (nI 0), .null, .int (nI 0), .int (nI 0)])), (q8, .inl (g.2.1 0, 160, .inl (upd fRu 126 (nI 118))))]) hF hw dX6_init_714 1 rfl (by omega) (by omega) rfl (fun H locs hw => ?_)
  generalize hf9 : upd fRu 126 (nI 118) = fRu at hw
  have hru := RuK.put hru hf9 rfl
  refine lv_dup hx hb dX6_init_715 rfl ?_
  refine lv_bipush (v := nI 127) hx hb dX6_init_716 (by decide) ?_
  refine lv_bipush (v := nI 119) hx hb dX6_init_718 (by decide) ?_
  refine r_iast (ws' := [(mo, .inr (5, [.null, .int (nI 0), .null, .null, .null, .null, .null, .null, .null, .null, .null, .null, .null, .null, .null, .null, .null, .null, .null, .null, .null, .null, .null, .int (nI 0), .null, .int (nI 0), .int (nI 0), .null, .int (nI 0), .int (nI 0)])), (q8, .inl (g.2.1 0, 160, .inl (upd fRu 127 (nI 119))))]) hF hw dX6_init_720 1 rfl (by omega) (by omega) rfl (fun H locs hw => ?_)
  generalize hf9 : upd fRu 127 (nI 119) = fRu at hw
  have hru := RuK.put hru hf9 rfl
  refine lv_dup hx hb dX6_init_721 rfl ?_
  refine lv_sipush (v := nI 128) hx hb dX6_init_722 (by decide) ?_
  refine lv_bipush (v := nI 120) hx hb dX6_init_725 (by decide) ?_
  refine r_iast (ws' := [(mo, .inr (5, [.null, .int (nI 0), .null, .null, .null, .null, .null, .null, .null, .null, .null, .null, .null, .null, .null, .null, .null, .null, .null, .null, .null, .null, .null, .int (nI 0), .null, .int (nI 0), .int (nI 0), .null, .int (nI 0), .int (nI 0)])), (q8, .inl (g.2.1 0, 160, .inl (upd fRu 128 (nI 120))))]) hF hw dX6_init_727 1 rfl (by omega) (by omega) rfl (fun H locs hw => ?_)
  generalize hf9 : upd fRu 128 (nI 120) = fRu at hw
  have hru := RuK.put hru hf9 rfl
  refine lv_dup hx hb dX6_init_728 rfl ?_
  refine lv_sipush (v := nI 129) hx hb dX6_init_729 (by decide) ?_
  refine lv_bipush (v := nI 121) hx hb dX6_init_732 (by decide) ?_
  refine r_iast (ws' := [(mo, .inr (5, [.null, .int (nI 0), .null, .null, .null, .null, .null, .null, .null, .null, .null, .null, .null, .null, .null, .null, .null, .null, .null, .null, .null, .null, .null, .int (nI 0), .null, .int (nI 0), .int (nI 0), .null, .int (nI 0), .int (nI 0)])), (q8, .inl (g.2.1 0, 160, .inl (upd fRu 129 (nI 121))))]) hF hw dX6_init_734 1 rfl (by omega) (by omega) rfl (fun H locs hw => ?_)
  generalize hf9 : upd fRu 129 (nI 121) = fRu at hw
  have hru := RuK.put hru hf9 rfl
  refine lv_dup hx hb dX6_init_735 rfl ?_
  refine lv_sipush (v := nI 130) hx hb dX6_init_736 (by decide) ?_
  refine lv_iconst (v := -1) hx hb dX6_init_739 (by decide) ?_
  refine r_iast (ws' := [(mo, .inr (5, [.null, .int (nI 0), .null, .null, .null, .null, .null, .null, .null, .null, .null, .null, .null, .null, .null, .null, .null, .null, .null, .null, .null, .null, .null, .int (nI 0), .null, .int (nI 0), .int (nI 0), .null, .int (nI 0), .int (nI 0)])), (q8, .inl (g.2.1 0, 160, .inl (upd fRu 130 (-1))))]) hF hw dX6_init_740 1 rfl (by omega) (by omega) rfl (fun H locs hw => ?_)
  generalize hf9 : upd fRu 130 (-1) = fRu at hw
  have hru := RuK.put hru hf9 rfl
  refine lv_dup hx hb dX6_init_741 rfl ?_
  refine lv_sipush (v := nI 131) hx hb dX6_init_742 (by decide) ?_
  refine lv_iconst (v := -1) hx hb dX6_init_745 (by decide) ?_
  refine r_iast (ws' := [(mo, .inr (5, [.null, .int (nI 0), .null, .null, .null, .null, .null, .null, .null, .null, .null, .null, .null, .null, .null, .null, .null, .null, .null, .null, .null, .null, .null, .int (nI 0), .null, .int (nI 0), .int (nI 0), .null, .int (nI 0), .int (nI 0)])), (q8, .inl (g.2.1 0, 160, .inl (upd fRu 131 (-1))))]) hF hw dX6_init_746 1 rfl (by omega) (by omega) rfl (fun H locs hw => ?_)
  generalize hf9 : upd fRu 131 (-1) = fRu at hw
  have hru := RuK.put hru hf9 rfl
  refine lv_dup hx hb dX6_init_747 rfl ?_
  refine lv_sipush (v := nI 132) hx hb dX6_init_748 (by decide) ?_
  refine lv_iconst (v := nI 2) hx hb dX6_init_751 (by decide) ?_
  refine r_iast (ws' := [(mo, .inr (5, [.null, .int (nI 0), .null, .null, .null, .null, .null, .null, .null, .null, .null, .null, .null, .null, .null, .null, .null, .null, .null, .null, .null, .null, .null, .int (nI 0), .null, .int (nI 0), .int (nI 0), .null, .int (nI 0), .int (nI 0)])), (q8, .inl (g.2.1 0, 160, .inl (upd fRu 132 (nI 2))))]) hF hw dX6_init_752 1 rfl (by omega) (by omega) rfl (fun H locs hw => ?_)
  generalize hf9 : upd fRu 132 (nI 2) = fRu at hw
  have hru := RuK.put hru hf9 rfl
  refine lv_dup hx hb dX6_init_753 rfl ?_
  refine lv_sipush (v := nI 133) hx hb dX6_init_754 (by decide) ?_
  refine lv_iconst (v := nI 3) hx hb dX6_init_757 (by decide) ?_
  refine r_iast (ws' := [(mo, .inr (5, [.null, .int (nI 0), .null, .null, .null, .null, .null, .null, .null, .null, .null, .null, .null, .null, .null, .null, .null, .null, .null, .null, .null, .null, .null, .int (nI 0), .null, .int (nI 0), .int (nI 0), .null, .int (nI 0), .int (nI 0)])), (q8, .inl (g.2.1 0, 160, .inl (upd fRu 133 (nI 3))))]) hF hw dX6_init_758 1 rfl (by omega) (by omega) rfl (fun H locs hw => ?_)
  generalize hf9 : upd fRu 133 (nI 3) = fRu at hw
  have hru := RuK.put hru hf9 rfl
  refine lv_dup hx hb dX6_init_759 rfl ?_
  refine lv_sipush (v := nI 134) hx hb dX6_init_760 (by decide) ?_
  refine lv_iconst (v := nI 2) hx hb dX6_init_763 (by decide) ?_
  refine r_iast (ws' := [(mo, .inr (5, [.null, .int (nI 0), .null, .null, .null, .null, .null, .null, .null, .null, .null, .null, .null, .null, .null, .null, .null, .null, .null, .null, .null, .null, .null, .int (nI 0), .null, .int (nI 0), .int (nI 0), .null, .int (nI 0), .int (nI 0)])), (q8, .inl (g.2.1 0, 160, .inl (upd fRu 134 (nI 2))))]) hF hw dX6_init_764 1 rfl (by omega) (by omega) rfl (fun H locs hw => ?_)
  generalize hf9 : upd fRu 134 (nI 2) = fRu at hw
  have hru := RuK.put hru hf9 rfl
  refine lv_dup hx hb dX6_init_765 rfl ?_
  refine lv_sipush (v := nI 135) hx hb dX6_init_766 (by decide) ?_
  refine lv_iconst (v := nI 3) hx hb dX6_init_769 (by decide) ?_
  refine r_iast (ws' := [(mo, .inr (5, [.null, .int (nI 0), .null, .null, .null, .null, .null, .null, .null, .null, .null, .null, .null, .null, .null, .null, .null, .null, .null, .null, .null, .null, .null, .int (nI 0), .null, .int (nI 0), .int (nI 0), .null, .int (nI 0), .int (nI 0)])), (q8, .inl (g.2.1 0, 160, .inl (upd fRu 135 (nI 3))))]) hF hw dX6_init_770 1 rfl (by omega) (by omega) rfl (fun H locs hw => ?_)
  generalize hf9 : upd fRu 135 (nI 3) = fRu at hw
  have hru := RuK.put hru hf9 rfl
  refine lv_dup hx hb dX6_init_771 rfl ?_
  refine lv_sipush (v := nI 136) hx hb dX6_init_772 (by decide) ?_
  refine lv_iconst (v := nI 3) hx hb dX6_init_775 (by decide) ?_
  refine r_iast (ws' := [(mo, .inr (5, [.null, .int (nI 0), .null, .null, .null, .null, .null, .null, .null, .null, .null, .null, .null, .null, .null, .null, .null, .null, .null, .null, .null, .null, .null, .int (nI 0), .null, .int (nI 0), .int (nI 0), .null, .int (nI 0), .int (nI 0)])), (q8, .inl (g.2.1 0, 160, .inl (upd fRu 136 (nI 3))))]) hF hw dX6_init_776 1 rfl (by omega) (by omega) rfl (fun H locs hw => ?_)
  generalize hf9 : upd fRu 136 (nI 3) = fRu at hw
  have hru := RuK.put hru hf9 rfl
  refine lv_dup hx hb dX6_init_777 rfl ?_
  refine lv_sipush (v := nI 137) hx hb dX6_init_778 (by decide) ?_
  refine lv_iconst (v := nI 3) hx hb dX6_init_781 (by decide) ?_
  refine r_iast (ws' := [(mo, .inr (5, [.null, .int (nI 0), .null, .null, .null, .null, .null, .null, .null, .null, .null, .null, .null, .null, .null, .null, .null, .null, .null, .null, .null, .null, .null, .int (nI 0), .null, .int (nI 0), .int (nI 0), .null, .int (nI 0), .int (nI 0)])), (q8, .inl (g.2.1 0, 160, .inl (upd fRu 137 (nI 3))))]) hF hw dX6_init_782 1 rfl (by omega) (by omega) rfl (fun H locs hw => ?_)
  generalize hf9 : upd fRu 137 (nI 3) = fRu at hw
  have hru := RuK.put hru hf9 rfl
  refine lv_dup hx hb dX6_init_783 rfl ?_
  refine lv_sipush (v := nI 138) hx hb dX6_init_784 (by decide) ?_
  refine lv_iconst (v := nI 3) hx hb dX6_init_787 (by decide) ?_
  refine r_iast (ws' := [(mo, .inr (5, [.null, .int (nI 0), .null, .null, .null, .null, .null, .null, .null, .null, .null, .null, .null, .null, .null, .null, .null, .null, .null, .null, .null, .null, .null, .int (nI 0), .null, .int (nI 0), .int (nI 0), .null, .int (nI 0), .int (nI 0)])), (q8, .inl (g.2.1 0, 160, .inl (upd fRu 138 (nI 3))))]) hF hw dX6_init_788 1 rfl (by omega) (by omega) rfl (fun H locs hw => ?_)
  generalize hf9 : upd fRu 138 (nI 3) = fRu at hw
  have hru := RuK.put hru hf9 rfl
  refine lv_dup hx hb dX6_init_789 rfl ?_
  refine lv_sipush (v := nI 139) hx hb dX6_init_790 (by decide) ?_
  refine lv_sipush (v := nI 16805) hx hb dX6_init_793 (by decide) ?_
  refine r_iast (ws' := [(mo, .inr (5, [.null, .int (nI 0), .null, .null, .null, .null, .null, .null, .null, .null, .null, .null, .null, .null, .null, .null, .null, .null, .null, .null, .null, .null, .null, .int (nI 0), .null, .int (nI 0), .int (nI 0), .null, .int (nI 0), .int (nI 0)])), (q8, .inl (g.2.1 0, 160, .inl (upd fRu 139 (nI 16805))))]) hF hw dX6_init_796 1 rfl (by omega) (by omega) rfl (fun H locs hw => ?_)
  generalize hf9 : upd fRu 139 (nI 16805) = fRu at hw
  have hru := RuK.put hru hf9 rfl
  refine lv_dup hx hb dX6_init_797 rfl ?_
  refine lv_sipush (v := nI 140) hx hb dX6_init_798 (by decide) ?_
  refine lv_iconst (v := -1) hx hb dX6_init_801 (by decide) ?_
  refine r_iast (ws' := [(mo, .inr (5, [.null, .int (nI 0), .null, .null, .null, .null, .null, .null, .null, .null, .null, .null, .null, .null, .null, .null, .null, .null, .null, .null, .null, .null, .null, .int (nI 0), .null, .int (nI 0), .int (nI 0), .null, .int (nI 0), .int (nI 0)])), (q8, .inl (g.2.1 0, 160, .inl (upd fRu 140 (-1))))]) hF hw dX6_init_802 1 rfl (by omega) (by omega) rfl (fun H locs hw => ?_)
  generalize hf9 : upd fRu 140 (-1) = fRu at hw
  have hru := RuK.put hru hf9 rfl
  refine lv_dup hx hb dX6_init_803 rfl ?_
  refine lv_sipush (v := nI 141) hx hb dX6_init_804 (by decide) ?_
  refine lv_iconst (v := -1) hx hb dX6_init_807 (by decide) ?_
  refine r_iast (ws' := [(mo, .inr (5, [.null, .int (nI 0), .null, .null, .null, .null, .null, .null, .null, .null, .null, .null, .null, .null, .null, .null, .null, .null, .null, .null, .null, .null, .null, .int (nI 0), .null, .int (nI 0), .int (nI 0), .null, .int (nI 0), .int (nI 0)])), (q8, .inl (g.2.1 0, 160, .inl (upd fRu 141 (-1))))]) hF hw dX6_init_808 1 rfl (by omega) (by omega) rfl (fun H locs hw => ?_)
  generalize hf9 : upd fRu 141 (-1) = fRu at hw
  have hru := RuK.put hru hf9 rfl
  refine lv_dup hx hb dX6_init_809 rfl ?_
  refine lv_sipush (v := nI 142) hx hb dX6_init_810 (by decide) ?_
  refine lv_iconst (v := nI 2) hx hb dX6_init_813 (by decide) ?_
  refine r_iast (ws' := [(mo, .inr (5, [.null, .int (nI 0), .null, .null, .null, .null, .null, .null, .null, .null, .null, .null, .null, .null, .null, .null, .null, .null, .null, .null, .null, .null, .null, .int (nI 0), .null, .int (nI 0), .int (nI 0), .null, .int (nI 0), .int (nI 0)])), (q8, .inl (g.2.1 0, 160, .inl (upd fRu 142 (nI 2))))]) hF hw dX6_init_814 1 rfl (by omega) (by omega) rfl (fun H locs hw => ?_)
  generalize hf9 : upd fRu 142 (nI 2) = fRu at hw
  have hru := RuK.put hru hf9 rfl
  refine lv_dup hx hb dX6_init_815 rfl ?_
  refine lv_sipush (v := nI 143) hx hb dX6_init_816 (by decide) ?_
  refine lv_iconst (v := nI 3) hx hb dX6_init_819 (by decide) ?_
  refine r_iast (ws' := [(mo, .inr (5, [.null, .int (nI 0), .null, .null, .null, .null, .null, .null, .null, .null, .null, .null, .null, .null, .null, .null, .null, .null, .null, .null, .null, .null, .null, .int (nI 0), .null, .int (nI 0), .int (nI 0), .null, .int (nI 0), .int (nI 0)])), (q8, .inl (g.2.1 0, 160, .inl (upd fRu 143 (nI 3))))]) hF hw dX6_init_820 1 rfl (by omega) (by omega) rfl (fun H locs hw => ?_)
  generalize hf9 : upd fRu 143 (nI 3) = fRu at hw
  have hru := RuK.put hru hf9 rfl
  refine lv_dup hx hb dX6_init_821 rfl ?_
  refine lv_sipush (v := nI 144) hx hb dX6_init_822 (by decide) ?_
  refine lv_iconst (v := nI 4) hx hb dX6_init_825 (by decide) ?_
  refine r_iast (ws' := [(mo, .inr (5, [.null, .int (nI 0), .null, .null, .null, .null, .null, .null, .null, .null, .null, .null, .null, .null, .null, .null, .null, .null, .null, .null, .null, .null, .null, .int (nI 0), .null, .int (nI 0), .int (nI 0), .null, .int (nI 0), .int (nI 0)])), (q8, .inl (g.2.1 0, 160, .inl (upd fRu 144 (nI 4))))]) hF hw dX6_init_826 1 rfl (by omega) (by omega) rfl (fun H locs hw => ?_)
  generalize hf9 : upd fRu 144 (nI 4) = fRu at hw
  have hru := RuK.put hru hf9 rfl
  refine lv_dup hx hb dX6_init_827 rfl ?_
  refine lv_sipush (v := nI 145) hx hb dX6_init_828 (by decide) ?_
  refine lv_iconst (v := nI 5) hx hb dX6_init_831 (by decide) ?_
  refine r_iast (ws' := [(mo, .inr (5, [.null, .int (nI 0), .null, .null, .null, .null, .null, .null, .null, .null, .null, .null, .null, .null, .null, .null, .null, .null, .null, .null, .null, .null, .null, .int (nI 0), .null, .int (nI 0), .int (nI 0), .null, .int (nI 0), .int (nI 0)])), (q8, .inl (g.2.1 0, 160, .inl (upd fRu 145 (nI 5))))]) hF hw dX6_init_832 1 rfl (by omega) (by omega) rfl (fun H locs hw => ?_)
  generalize hf9 : upd fRu 145 (nI 5) = fRu at hw
  have hru := RuK.put hru hf9 rfl
  refine lv_dup hx hb dX6_init_833 rfl ?_
  refine lv_sipush (v := nI 146) hx hb dX6_init_834 (by decide) ?_
  refine lv_bipush (v := nI 6) hx hb dX6_init_837 (by decide) ?_
  refine r_iast (ws' := [(mo, .inr (5, [.null, .int (nI 0), .null, .null, .null, .null, .null, .null, .null, .null, .null, .null, .null, .null, .null, .null, .null, .null, .null, .null, .null, .null, .null, .int (nI 0), .null, .int (nI 0), .int (nI 0), .null, .int (nI 0), .int (nI 0)])), (q8, .inl (g.2.1 0, 160, .inl (upd fRu 146 (nI 6))))]) hF hw dX6_init_839 1 rfl (by omega) (by omega) rfl (fun H locs hw => ?_)
  generalize hf9 : upd fRu 146 (nI 6) = fRu at hw
  have hru := RuK.put hru hf9 rfl
  refine lv_dup hx hb dX6_init_840 rfl ?_
  refine lv_sipush (v := nI 147) hx hb dX6_init_841 (by decide) ?_
  refine lv_bipush (v := nI 6) hx hb dX6_init_844 (by decide) ?_
  refine r_iast (ws' := [(mo, .inr (5, [.null, .int (nI 0), .null, .null, .null, .null, .null, .null, .null, .null, .null, .null, .null, .null, .null, .null, .null, .null, .null, .null, .null, .null, .null, .int (nI 0), .null, .int (nI 0), .int (nI 0), .null, .int (nI 0), .int (nI 0)])), (q8, .inl (g.2.1 0, 160, .inl (upd fRu 147 (nI 6))))]) hF hw dX6_init_846 1 rfl (by omega) (by omega) rfl (fun H locs hw => ?_)
  generalize hf9 : upd fRu 147 (nI 6) = fRu at hw
  have hru := RuK.put hru hf9 rfl
  refine lv_dup hx hb dX6_init_847 rfl ?_
  refine lv_sipush (v := nI 148) hx hb dX6_init_848 (by decide) ?_
  refine lv_bipush (v := nI 8) hx hb dX6_init_851 (by decide) ?_
  refine r_iast (ws' := [(mo, .inr (5, [.null, .int (nI 0), .null, .null, .null, .null, .null, .null, .null, .null, .null, .null, .null, .null, .null, .null, .null, .null, .null, .null, .null, .null, .null, .int (nI 0), .null, .int (nI 0), .int (nI 0), .null, .int (nI 0), .int (nI 0)])), (q8, .inl (g.2.1 0, 160, .inl (upd fRu 148 (nI 8))))]) hF hw dX6_init_853 1 rfl (by omega) (by omega) rfl (fun H locs hw => ?_)
  generalize hf9 : upd fRu 148 (nI 8) = fRu at hw
  have hru := RuK.put hru hf9 rfl
  refine lv_dup hx hb dX6_init_854 rfl ?_
  refine lv_sipush (v := nI 149) hx hb dX6_init_855 (by decide) ?_
  refine lv_bipush (v := nI 9) hx hb dX6_init_858 (by decide) ?_
  refine r_iast (ws' := [(mo, .inr (5, [.null, .int (nI 0), .null, .null, .null, .null, .null, .null, .null, .null, .null, .null, .null, .null, .null, .null, .null, .null, .null, .null, .null, .null, .null, .int (nI 0), .null, .int (nI 0), .int (nI 0), .null, .int (nI 0), .int (nI 0)])), (q8, .inl (g.2.1 0, 160, .inl (upd fRu 149 (nI 9))))]) hF hw dX6_init_860 1 rfl (by omega) (by omega) rfl (fun H locs hw => ?_)
  generalize hf9 : upd fRu 149 (nI 9) = fRu at hw
  have hru := RuK.put hru hf9 rfl
  refine lv_dup hx hb dX6_init_861 rfl ?_
  refine lv_sipush (v := nI 150) hx hb dX6_init_862 (by decide) ?_
  refine lv_iconst (v := -1) hx hb dX6_init_865 (by decide) ?_
  refine r_iast (ws' := [(mo, .inr (5, [.null, .int (nI 0), .null, .null, .null, .null, .null, .null, .null, .null, .null, .null, .null, .null, .null, .null, .null, .null, .null, .null, .null, .null, .null, .int (nI 0), .null, .int (nI 0), .int (nI 0), .null, .int (nI 0), .int (nI 0)])), (q8, .inl (g.2.1 0, 160, .inl (upd fRu 150 (-1))))]) hF hw dX6_init_866 1 rfl (by omega) (by omega) rfl (fun H locs hw => ?_)
  generalize hf9 : upd fRu 150 (-1) = fRu at hw
  have hru := RuK.put hru hf9 rfl
  refine lv_dup hx hb dX6_init_867 rfl ?_
  refine lv_sipush (v := nI 151) hx hb dX6_init_868 (by decide) ?_
  refine lv_iconst (v := -1) hx hb dX6_init_871 (by decide) ?_
  refine r_iast (ws' := [(mo, .inr (5, [.null, .int (nI 0), .null, .null, .null, .null, .null, .null, .null, .null, .null, .null, .null, .null, .null, .null, .null, .null, .null, .null, .null, .null, .null, .int (nI 0), .null, .int (nI 0), .int (nI 0), .null, .int (nI 0), .int (nI 0)])), (q8, .inl (g.2.1 0, 160, .inl (upd fRu 151 (-1))))]) hF hw dX6_init_872 1 rfl (by omega) (by omega) rfl (fun H locs hw => ?_)
  generalize hf9 : upd fRu 151 (-1) = fRu at hw
  have hru := RuK.put hru hf9 rfl
  refine lv_dup hx hb dX6_init_873 rfl ?_
  refine lv_sipush (v := nI 152) hx hb dX6_init_874 (by decide) ?_
  refine lv_iconst (v := nI 2) hx hb dX6_init_877 (by decide) ?_
  refine r_iast (ws' := [(mo, .inr (5, [.null, .int (nI 0), .null, .null, .null, .null, .null, .null, .null, .null, .null, .null, .null, .null, .null, .null, .null, .null, .null, .null, .null, .null, .null, .int (nI 0), .null, .int (nI 0), .int (nI 0), .null, .int (nI 0), .int (nI 0)])), (q8, .inl (g.2.1 0, 160, .inl (upd fRu 152 (nI 2))))]) hF hw dX6_init_878 1 rfl (by omega) (by omega) rfl (fun H locs hw => ?_)
  generalize hf9 : upd fRu 152 (nI 2) = fRu at hw
  have hru := RuK.put hru hf9 rfl
  refine lv_dup hx hb dX6_init_879 rfl ?_
  refine lv_sipush (v := nI 153) hx hb dX6_init_880 (by decide) ?_
  refine lv_iconst (v := nI 3) hx hb dX6_init_883 (by decide) ?_
  refine r_iast (ws' := [(mo, .inr (5, [.null, .int (nI 0), .null, .null, .null, .null, .null, .null, .null, .null, .null, .null, .null, .null, .null, .null, .null, .null, .null, .null, .null, .null, .null, .int (nI 0), .null, .int (nI 0), .int (nI 0), .null, .int (nI 0), .int (nI 0)])), (q8, .inl (g.2.1 0, 160, .inl (upd fRu 153 (nI 3))))]) hF hw dX6_init_884 1 rfl (by omega) (by omega) rfl (fun H locs hw => ?_)
  generalize hf9 : upd fRu 153 (nI 3) = fRu at hw
  have hru := RuK.put hru hf9 rfl
  refine lv_dup hx hb dX6_init_885 rfl ?_
  refine lv_sipush (v := nI 154) hx hb dX6_init_886 (by decide) ?_
  refine lv_iconst (v := nI 4) hx hb dX6_init_889 (by decide) ?_
  refine r_iast (ws' := [(mo, .inr (5, [.null, .int (nI 0), .null, .null, .null, .null, .null, .null, .null, .null, .null, .null, .null, .null, .null, .null, .null, .null, .null, .null, .null, .null, .null, .int (nI 0), .null, .int (nI 0), .int (nI 0), .null, .int (nI 0), .int (nI 0)])), (q8, .inl (g.2.1 0, 160, .inl (upd fRu 154 (nI 4))))]) hF hw dX6_init_890 1 rfl (by omega) (by omega) rfl (fun H locs hw => ?_)
  generalize hf9 : upd fRu 154 (nI 4) = fRu at hw
  have hru := RuK.put hru hf9 rfl
  refine lv_dup hx hb dX6_init_891 rfl ?_
  refine lv_sipush (v := nI 155) hx hb dX6_init_892 (by decide) ?_
  refine lv_iconst (v := nI 5) hx hb dX6_init_895 (by decide) ?_
  refine r_iast (ws' := [(mo, .inr (5, [.null, .int (nI 0), .null, .null, .null, .null, .null, .null, .null, .null, .null, .null, .null, .null, .null, .null, .null, .null, .null, .null, .null, .null, .null, .int (nI 0), .null, .int (nI 0), .int (nI 0), .null, .int (nI 0), .int (nI 0)])), (q8, .inl (g.2.1 0, 160, .inl (upd fRu 155 (nI 5))))]) hF hw dX6_init_896 1 rfl (by omega) (by omega) rfl (fun H locs hw => ?_)
  generalize hf9 : upd fRu 155 (nI 5) = fRu at hw
  have hru := RuK.put hru hf9 rfl
  refine lv_dup hx hb dX6_init_897 rfl ?_
  refine lv_sipush (v := nI 156) hx hb dX6_init_898 (by decide) ?_
  refine lv_bipush (v := nI 6) hx hb dX6_init_901 (by decide) ?_
  refine r_iast (ws' := [(mo, .inr (5, [.null, .int (nI 0), .null, .null, .null, .null, .null, .null, .null, .null, .null, .null, .null, .null, .null, .null, .null, .null, .null, .null, .null, .null, .null, .int (nI 0), .null, .int (nI 0), .int (nI 0), .null, .int (nI 0), .int (nI 0)])), (q8, .inl (g.2.1 0, 160, .inl (upd fRu 156 (nI 6))))]) hF hw dX6_init_903 1 rfl (by omega) (by omega) rfl (fun H locs hw => ?_)
  generalize hf9 : upd fRu 156 (nI 6) = fRu at hw
  have hru := RuK.put hru hf9 rfl
  refine lv_dup hx hb dX6_init_904 rfl ?_
  refine lv_sipush (v := nI 157) hx hb dX6_init_905 (by decide) ?_
  refine lv_bipush (v := nI 7) hx hb dX6_init_908 (by decide) ?_
  refine r_iast (ws' := [(mo, .inr (5, [.null, .int (nI 0), .null, .null, .null, .null, .null, .null, .null, .null, .null, .null, .null, .null, .null, .null, .null, .null, .null, .null, .null, .null, .null, .int (nI 0), .null, .int (nI 0), .int (nI 0), .null, .int (nI 0), .int (nI 0)])), (q8, .inl (g.2.1 0, 160, .inl (upd fRu 157 (nI 7))))]) hF hw dX6_init_910 1 rfl (by omega) (by omega) rfl (fun H locs hw => ?_)
  generalize hf9 : upd fRu 157 (nI 7) = fRu at hw
  have hru := RuK.put hru hf9 rfl
  refine lv_dup hx hb dX6_init_911 rfl ?_
  refine lv_sipush (v := nI 158) hx hb dX6_init_912 (by decide) ?_
  refine lv_bipush (v := nI 8) hx hb dX6_init_915 (by decide) ?_
  refine r_iast (ws' := [(mo, .inr (5, [.null, .int (nI 0), .null, .null, .null, .null, .null, .null, .null, .null, .null, .null, .null, .null, .null, .null, .null, .null, .null, .null, .null, .null, .null, .int (nI 0), .null, .int (nI 0), .int (nI 0), .null, .int (nI 0), .int (nI 0)])), (q8, .inl (g.2.1 0, 160, .inl (upd fRu 158 (nI 8))))]) hF hw dX6_init_917 1 rfl (by omega) (by omega) rfl (fun H locs hw => ?_)
  generalize hf9 : upd fRu 158 (nI 8) = fRu at hw
  have hru := RuK.put hru hf9 rfl
  refine lv_dup hx hb dX6_init_918 rfl ?_
  refine lv_sipush (v := nI 159) hx hb dX6_init_919 (by decide) ?_
  refine lv_sipush (v := nI 137) hx hb dX6_init_922 (by decide) ?_
  refine r_iast (ws' := [(mo, .inr (5, [.null, .int (nI 0), .null, .null, .null, .null, .null, .null, .null, .null, .null, .null, .null, .null, .null, .null, .null, .null, .null, .null, .null, .null, .null, .int (nI 0), .null, .int (nI 0), .int (nI 0), .null, .int (nI 0), .int (nI 0)])), (q8, .inl (g.2.1 0, 160, .inl (upd fRu 159 (nI 137))))]) hF hw dX6_init_925 1 rfl (by omega) (by omega) rfl (fun H locs hw => ?_)
  generalize hf9 : upd fRu 159 (nI 137) = fRu at hw
  have hru := RuK.put hru hf9 rfl
  refine wputF hF hw flX6_7 ftX6 rfl tw760 dX6_init_926 0 rfl rfl hnm rfl rfl rfl (Nat.le_of_ble_eq_true rfl) (fun H locs hw => ?_)
  have hw : Wd g _ s H locs [(mo, .inr (5, [.ref q8, .int (nI 0), .null, .null, .null, .null, .null, .null, .null, .null, .null, .null, .null, .null, .null, .null, .null, .null, .null, .null, .null, .null, .null, .int (nI 0), .null, .int (nI 0), .int (nI 0), .null, .int (nI 0), .int (nI 0)])), (q8, .inl (g.2.1 0, 160, .inl fRu))] := hw
  refine lv_aload_n hx hb dX6_init_929 rfl (lv_at hl 0 rfl) ?_
  refine lv_iconst (v := nI 2) hx hb dX6_init_930 (by decide) ?_
  refine wnewI (n := 2) hF hw tw100 (by omega) (by decide) (by decide) dX6_init_931 (fun q931 H hw => ?_)
  have hw : Wd g _ s H _ [(mo, .inr (5, [.ref q8, .int (nI 0), .null, .null, .null, .null, .null, .null, .null, .null, .null, .null, .null, .null, .null, .null, .null, .null, .null, .null, .null, .null, .null, .int (nI 0), .null, .int (nI 0), .int (nI 0), .null, .int (nI 0), .int (nI 0)])), (q8, .inl (g.2.1 0, 160, .inl fRu)), (q931, .inl (g.2.1 0, 2, .inl (fun _ => 0)))] := hw
  refine wputF hF hw flX6_13 ftX6 rfl tw762 dX6_init_933 0 rfl rfl hnm rfl rfl rfl (Nat.le_of_ble_eq_true rfl) (fun H locs hw => ?_)
  have hw : Wd g _ s H locs [(mo, .inr (5, [.ref q8, .int (nI 0), .ref q931, .null, .null, .null, .null, .null, .null, .null, .null, .null, .null, .null, .null, .null, .null, .null, .null, .null, .null, .null, .null, .int (nI 0), .null, .int (nI 0), .int (nI 0), .null, .int (nI 0), .int (nI 0)])), (q8, .inl (g.2.1 0, 160, .inl fRu)), (q931, .inl (g.2.1 0, 2, .inl (fun _ => 0)))] := hw
  refine lv_aload_n hx hb dX6_init_936 rfl (lv_at hl 0 rfl) ?_
  refine lv_iconst (v := nI 2) hx hb dX6_init_937 (by decide) ?_
  refine wnewI (n := 2) hF hw tw100 (by omega) (by decide) (by decide) dX6_init_938 (fun q938 H hw => ?_)
  have hw : Wd g _ s H _ [(mo, .inr (5, [.ref q8, .int (nI 0), .ref q931, .null, .null, .null, .null, .null, .null, .null, .null, .null, .null, .null, .null, .null, .null, .null, .null, .null, .null, .null, .null, .int (nI 0), .null, .int (nI 0), .int (nI 0), .null, .int (nI 0), .int (nI 0)])), (q8, .inl (g.2.1 0, 160, .inl fRu)), (q931, .inl (g.2.1 0, 2, .inl (fun _ => 0))), (q938, .inl (g.2.1 0, 2, .inl (fun _ => 0)))] := hw
  refine wputF hF hw flX6_16 ftX6 rfl tw763 dX6_init_940 0 rfl rfl hnm rfl rfl rfl (Nat.le_of_ble_eq_true rfl) (fun H locs hw => ?_)
  have hw : Wd g _ s H locs [(mo, .inr (5, [.ref q8, .int (nI 0), .ref q931, .ref q938, .null, .null, .null, .null, .null, .null, .null, .null, .null, .null, .null, .null, .null, .null, .null, .null, .null, .null, .null, .int (nI 0), .null, .int (nI 0), .int (nI 0), .null, .int (nI 0), .int (nI 0)])), (q8, .inl (g.2.1 0, 160, .inl fRu)), (q931, .inl (g.2.1 0, 2, .inl (fun _ => 0))), (q938, .inl (g.2.1 0, 2, .inl (fun _ => 0)))] := hw
  refine lv_aload_n hx hb dX6_init_943 rfl (lv_at hl 0 rfl) ?_
  refine lv_iconst (v := nI 2) hx hb dX6_init_944 (by decide) ?_
  refine wnewI (n := 2) hF hw tw100 (by omega) (by decide) (by decide) dX6_init_945 (fun q945 H hw => ?_)
  have hw : Wd g _ s H _ [(mo, .inr (5, [.ref q8, .int (nI 0), .ref q931, .ref q938, .null, .null, .null, .null, .null, .null, .null, .null, .null, .null, .null, .null, .null, .null, .null, .null, .null, .null, .null, .int (nI 0), .null, .int (nI 0), .int (nI 0), .null, .int (nI 0), .int (nI 0)])), (q8, .inl (g.2.1 0, 160, .inl fRu)), (q931, .inl (g.2.1 0, 2, .inl (fun _ => 0))), (q938, .inl (g.2.1 0, 2, .inl (fun _ => 0))), (q945, .inl (g.2.1 0, 2, .inl (fun _ => 0)))] := hw
  refine wputF hF hw flX6_19 ftX6 rfl tw764 dX6_init_947 0 rfl rfl hnm rfl rfl rfl (Nat.le_of_ble_eq_true rfl) (fun H locs hw => ?_)
  have hw : Wd g _ s H locs [(mo, .inr (5, [.ref q8, .int (nI 0), .ref q931, .ref q938, .ref q945, .null, .null, .null, .null, .null, .null, .null, .null, .null, .null, .null, .null, .null, .null, .null, .null, .null, .null, .int (nI 0), .null, .int (nI 0), .int (nI 0), .null, .int (nI 0), .int (nI 0)])), (q8, .inl (g.2.1 0, 160, .inl fRu)), (q931, .inl (g.2.1 0, 2, .inl (fun _ => 0))), (q938, .inl (g.2.1 0, 2, .inl (fun _ => 0))), (q945, .inl (g.2.1 0, 2, .inl (fun _ => 0)))] := hw
  refine lv_aload_n hx hb dX6_init_950 rfl (lv_at hl 0 rfl) ?_
  refine lv_iconst (v := nI 2) hx hb dX6_init_951 (by decide) ?_
  refine wnewI (n := 2) hF hw tw100 (by omega) (by decide) (by decide) dX6_init_952 (fun q952 H hw => ?_)
  have hw : Wd g _ s H _ [(mo, .inr (5, [.ref q8, .int (nI 0), .ref q931, .ref q938, .ref q945, .null, .null, .null, .null, .null, .null, .null, .null, .null, .null, .null, .null, .null, .null, .null, .null, .null, .null, .int (nI 0), .null, .int (nI 0), .int (nI 0), .null, .int (nI 0), .int (nI 0)])), (q8, .inl (g.2.1 0, 160, .inl fRu)), (q931, .inl (g.2.1 0, 2, .inl (fun _ => 0))), (q938, .inl (g.2.1 0, 2, .inl (fun _ => 0))), (q945, .inl (g.2.1 0, 2, .inl (fun _ => 0))), (q952, .inl (g.2.1 0, 2, .inl (fun _ => 0)))] := hw
  refine wputF hF hw flX6_22 ftX6 rfl tw765 dX6_init_954 0 rfl rfl hnm rfl rfl rfl (Nat.le_of_ble_eq_true rfl) (fun H locs hw => ?_)
  have hw : Wd g _ s H locs [(mo, .inr (5, [.ref q8, .int (nI 0), .ref q931, .ref q938, .ref q945, .ref q952, .null, .null, .null, .null, .null, .null, .null, .null, .null, .null, .null, .null, .null, .null, .null, .null, .null, .int (nI 0), .null, .int (nI 0), .int (nI 0), .null, .int (nI 0), .int (nI 0)])), (q8, .inl (g.2.1 0, 160, .inl fRu)), (q931, .inl (g.2.1 0, 2, .inl (fun _ => 0))), (q938, .inl (g.2.1 0, 2, .inl (fun _ => 0))), (q945, .inl (g.2.1 0, 2, .inl (fun _ => 0))), (q952, .inl (g.2.1 0, 2, .inl (fun _ => 0)))] := hw
  refine lv_aload_n hx hb dX6_init_957 rfl (lv_at hl 0 rfl) ?_
  refine lv_iconst (v := nI 2) hx hb dX6_init_958 (by decide) ?_
  refine wnewI (n := 2) hF hw tw100 (by omega) (by decide) (by decide) dX6_init_959 (fun q959 H hw => ?_)
  have hw : Wd g _ s H _ [(mo, .inr (5, [.ref q8, .int (nI 0), .ref q931, .ref q938, .ref q945, .ref q952, .null, .null, .null, .null, .null, .null, .null, .null, .null, .null, .null, .null, .null, .null, .null, .null, .null, .int (nI 0), .null, .int (nI 0), .int (nI 0), .null, .int (nI 0), .int (nI 0)])), (q8, .inl (g.2.1 0, 160, .inl fRu)), (q931, .inl (g.2.1 0, 2, .inl (fun _ => 0))), (q938, .inl (g.2.1 0, 2, .inl (fun _ => 0))), (q945, .inl (g.2.1 0, 2, .inl (fun _ => 0))), (q952, .inl (g.2.1 0, 2, .inl (fun _ => 0))), (q959, .inl (g.2.1 0, 2, .inl (fun _ => 0)))] := hw
  refine wputF hF hw flX6_25 ftX6 rfl tw766 dX6_init_961 0 rfl rfl hnm rfl rfl rfl (Nat.le_of_ble_eq_true rfl) (fun H locs hw => ?_)
  have hw : Wd g _ s H locs [(mo, .inr (5, [.ref q8, .int (nI 0), .ref q931, .ref q938, .ref q945, .ref q952, .ref q959, .null, .null, .null, .null, .null, .null, .null, .null, .null, .null, .null, .null, .null, .null, .null, .null, .int (nI 0), .null, .int (nI 0), .int (nI 0), .null, .int (nI 0), .int (nI 0)])), (q8, .inl (g.2.1 0, 160, .inl fRu)), (q931, .inl (g.2.1 0, 2, .inl (fun _ => 0))), (q938, .inl (g.2.1 0, 2, .inl (fun _ => 0))), (q945, .inl (g.2.1 0, 2, .inl (fun _ => 0))), (q952, .inl (g.2.1 0, 2, .inl (fun _ => 0))), (q959, .inl (g.2.1 0, 2, .inl (fun _ => 0)))] := hw
  refine lv_aload_n hx hb dX6_init_964 rfl (lv_at hl 0 rfl) ?_
  refine lv_iconst (v := nI 2) hx hb dX6_init_965 (by decide) ?_
  refine wnewI (n := 2) hF hw tw100 (by omega) (by decide) (by decide) dX6_init_966 (fun q966 H hw => ?_)
  have hw : Wd g _ s H _ [(mo, .inr (5, [.ref q8, .int (nI 0), .ref q931, .ref q938, .ref q945, .ref q952, .ref q959, .null, .null, .null, .null, .null, .null, .null, .null, .null, .null, .null, .null, .null, .null, .null, .null, .int (nI 0), .null, .int (nI 0), .int (nI 0), .null, .int (nI 0), .int (nI 0)])), (q8, .inl (g.2.1 0, 160, .inl fRu)), (q931, .inl (g.2.1 0, 2, .inl (fun _ => 0))), (q938, .inl (g.2.1 0, 2, .inl (fun _ => 0))), (q945, .inl (g.2.1 0, 2, .inl (fun _ => 0))), (q952, .inl (g.2.1 0, 2, .inl (fun _ => 0))), (q959, .inl (g.2.1 0, 2, .inl (fun _ => 0))), (q966, .inl (g.2.1 0, 2, .inl (fun _ => 0)))] := hw
  refine wputF hF hw flX6_28 ftX6 rfl tw767 dX6_init_968 0 rfl rfl hnm rfl rfl rfl (Nat.le_of_ble_eq_true rfl) (fun H locs hw => ?_)
  have hw : Wd g _ s H locs [(mo, .inr (5, [.ref q8, .int (nI 0), .ref q931, .ref q938, .ref q945, .ref q952, .ref q959, .ref q966, .null, .null, .null, .null, .null, .null, .null, .null, .null, .null, .null, .null, .null, .null, .null, .int (nI 0), .null, .int (nI 0), .int (nI 0), .null, .int (nI 0), .int (nI 0)])), (q8, .inl (g.2.1 0, 160, .inl fRu)), (q931, .inl (g.2.1 0, 2, .inl (fun _ => 0))), (q938, .inl (g.2.1 0, 2, .inl (fun _ => 0))), (q945, .inl (g.2.1 0, 2, .inl (fun _ => 0))), (q952, .inl (g.2.1 0, 2, .inl (fun _ => 0))), (q959, .inl (g.2.1 0, 2, .inl (fun _ => 0))), (q966, .inl (g.2.1 0, 2, .inl (fun _ => 0)))] := hw
  refine lv_aload_n hx hb dX6_init_971 rfl (lv_at hl 0 rfl) ?_
  refine lv_iconst (v := nI 2) hx hb dX6_init_972 (by decide) ?_
  refine wnewI (n := 2) hF hw tw100 (by omega) (by decide) (by decide) dX6_init_973 (fun q973 H hw => ?_)
  have hw : Wd g _ s H _ [(mo, .inr (5, [.ref q8, .int (nI 0), .ref q931, .ref q938, .ref q945, .ref q952, .ref q959, .ref q966, .null, .null, .null, .null, .null, .null, .null, .null, .null, .null, .null, .null, .null, .null, .null, .int (nI 0), .null, .int (nI 0), .int (nI 0), .null, .int (nI 0), .int (nI 0)])), (q8, .inl (g.2.1 0, 160, .inl fRu)), (q931, .inl (g.2.1 0, 2, .inl (fun _ => 0))), (q938, .inl (g.2.1 0, 2, .inl (fun _ => 0))), (q945, .inl (g.2.1 0, 2, .inl (fun _ => 0))), (q952, .inl (g.2.1 0, 2, .inl (fun _ => 0))), (q959, .inl (g.2.1 0, 2, .inl (fun _ => 0))), (q966, .inl (g.2.1 0, 2, .inl (fun _ => 0))), (q973, .inl (g.2.1 0, 2, .inl (fun _ => 0)))] := hw
  refine wputF hF hw flX6_31 ftX6 rfl tw768 dX6_init_975 0 rfl rfl hnm rfl rfl rfl (Nat.le_of_ble_eq_true rfl) (fun H locs hw => ?_)
  have hw : Wd g _ s H locs [(mo, .inr (5, [.ref q8, .int (nI 0), .ref q931, .ref q938, .ref q945, .ref q952, .ref q959, .ref q966, .ref q973, .null, .null, .null, .null, .null, .null, .null, .null, .null, .null, .null, .null, .null, .null, .int (nI 0), .null, .int (nI 0), .int (nI 0), .null, .int (nI 0), .int (nI 0)])), (q8, .inl (g.2.1 0, 160, .inl fRu)), (q931, .inl (g.2.1 0, 2, .inl (fun _ => 0))), (q938, .inl (g.2.1 0, 2, .inl (fun _ => 0))), (q945, .inl (g.2.1 0, 2, .inl (fun _ => 0))), (q952, .inl (g.2.1 0, 2, .inl (fun _ => 0))), (q959, .inl (g.2.1 0, 2, .inl (fun _ => 0))), (q966, .inl (g.2.1 0, 2, .inl (fun _ => 0))), (q973, .inl (g.2.1 0, 2, .inl (fun _ => 0)))] := hw
  refine lv_aload_n hx hb dX6_init_978 rfl (lv_at hl 0 rfl) ?_
  refine lv_iconst (v := nI 2) hx hb dX6_init_979 (by decide) ?_
  refine wnewZ (n := 2) hF hw tw851 (by omega) (by decide) (by decide) dX6_init_980 (fun q980 H hw => ?_)
  have hw : Wd g _ s H _ [(mo, .inr (5, [.ref q8, .int (nI 0), .ref q931, .ref q938, .ref q945, .ref q952, .ref q959, .ref q966, .ref q973, .null, .null, .null, .null, .null, .null, .null, .null, .null, .null, .null, .null, .null, .null, .int (nI 0), .null, .int (nI 0), .int (nI 0), .null, .int (nI 0), .int (nI 0)])), (q8, .inl (g.2.1 0, 160, .inl fRu)), (q931, .inl (g.2.1 0, 2, .inl (fun _ => 0))), (q938, .inl (g.2.1 0, 2, .inl (fun _ => 0))), (q945, .inl (g.2.1 0, 2, .inl (fun _ => 0))), (q952, .inl (g.2.1 0, 2, .inl (fun _ => 0))), (q959, .inl (g.2.1 0, 2, .inl (fun _ => 0))), (q966, .inl (g.2.1 0, 2, .inl (fun _ => 0))), (q973, .inl (g.2.1 0, 2, .inl (fun _ => 0))), (q980, .inl (g.2.1 1, 2, .inl (fun _ => 0)))] := hw
  refine wputF hF hw flX6_34 ftX6 rfl tw769 dX6_init_982 0 rfl rfl hnm rfl rfl rfl (Nat.le_of_ble_eq_true rfl) (fun H locs hw => ?_)
  have hw : Wd g _ s H locs [(mo, .inr (5, [.ref q8, .int (nI 0), .ref q931, .ref q938, .ref q945, .ref q952, .ref q959, .ref q966, .ref q973, .ref q980, .null, .null, .null, .null, .null, .null, .null, .null, .null, .null, .null, .null, .null, .int (nI 0), .null, .int (nI 0), .int (nI 0), .null, .int (nI 0), .int (nI 0)])), (q8, .inl (g.2.1 0, 160, .inl fRu)), (q931, .inl (g.2.1 0, 2, .inl (fun _ => 0))), (q938, .inl (g.2.1 0, 2, .inl (fun _ => 0))), (q945, .inl (g.2.1 0, 2, .inl (fun _ => 0))), (q952, .inl (g.2.1 0, 2, .inl (fun _ => 0))), (q959, .inl (g.2.1 0, 2, .inl (fun _ => 0))), (q966, .inl (g.2.1 0, 2, .inl (fun _ => 0))), (q973, .inl (g.2.1 0, 2, .inl (fun _ => 0))), (q980, .inl (g.2.1 1, 2, .inl (fun _ => 0)))] := hw
  refine lv_aload_n hx hb dX6_init_985 rfl (lv_at hl 0 rfl) ?_
  refine lv_iconst (v := nI 2) hx hb dX6_init_986 (by decide) ?_
  refine wnewZ (n := 2) hF hw tw851 (by omega) (by decide) (by decide) dX6_init_987 (fun q987 H hw => ?_)
  have hw : Wd g _ s H _ [(mo, .inr (5, [.ref q8, .int (nI 0), .ref q931, .ref q938, .ref q945, .ref q952, .ref q959, .ref q966, .ref q973, .ref q980, .null, .null, .null, .null, .null, .null, .null, .null, .null, .null, .null, .null, .null, .int (nI 0), .null, .int (nI 0), .int (nI 0), .null, .int (nI 0), .int (nI 0)])), (q8, .inl (g.2.1 0, 160, .inl fRu)), (q931, .inl (g.2.1 0, 2, .inl (fun _ => 0))), (q938, .inl (g.2.1 0, 2, .inl (fun _ => 0))), (q945, .inl (g.2.1 0, 2, .inl (fun _ => 0))), (q952, .inl (g.2.1 0, 2, .inl (fun _ => 0))), (q959, .inl (g.2.1 0, 2, .inl (fun _ => 0))), (q966, .inl (g.2.1 0, 2, .inl (fun _ => 0))), (q973, .inl (g.2.1 0, 2, .inl (fun _ => 0))), (q980, .inl (g.2.1 1, 2, .inl (fun _ => 0))), (q987, .inl (g.2.1 1, 2, .inl (fun _ => 0)))] := hw
  refine wputF hF hw flX6_38 ftX6 rfl tw770 dX6_init_989 0 rfl rfl hnm rfl rfl rfl (Nat.le_of_ble_eq_true rfl) (fun H locs hw => ?_)
  have hw : Wd g _ s H locs [(mo, .inr (5, [.ref q8, .int (nI 0), .ref q931, .ref q938, .ref q945, .ref q952, .ref q959, .ref q966, .ref q973, .ref q980, .ref q987, .null, .null, .null, .null, .null, .null, .null, .null, .null, .null, .null, .null, .int (nI 0), .null, .int (nI 0), .int (nI 0), .null, .int (nI 0), .int (nI 0)])), (q8, .inl (g.2.1 0, 160, .inl fRu)), (q931, .inl (g.2.1 0, 2, .inl (fun _ => 0))), (q938, .inl (g.2.1 0, 2, .inl (fun _ => 0))), (q945, .inl (g.2.1 0, 2, .inl (fun _ => 0))), (q952, .inl (g.2.1 0, 2, .inl (fun _ => 0))), (q959, .inl (g.2.1 0, 2, .inl (fun _ => 0))), (q966, .inl (g.2.1 0, 2, .inl (fun _ => 0))), (q973, .inl (g.2.1 0, 2, .inl (fun _ => 0))), (q980, .inl (g.2.1 1, 2, .inl (fun _ => 0))), (q987, .inl (g.2.1 1, 2, .inl (fun _ => 0)))] := hw
  refine lv_aload_n hx hb dX6_init_992 rfl (lv_at hl 0 rfl) ?_
  refine lv_iconst (v := nI 2) hx hb dX6_init_993 (by decide) ?_
  refine wnewI (n := 2) hF hw tw100 (by omega) (by decide) (by decide) dX6_init_994 (fun q994 H hw => ?_)
  have hw : Wd g _ s H _ [(mo, .inr (5, [.ref q8, .int (nI 0), .ref q931, .ref q938, .ref q945, .ref q952, .ref q959, .ref q966, .ref q973, .ref q980, .ref q987, .null, .null, .null, .null, .null, .null, .null, .null, .null, .null, .null, .null, .int (nI 0), .null, .int (nI 0), .int (nI 0), .null, .int (nI 0), .int (nI 0)])), (q8, .inl (g.2.1 0, 160, .inl fRu)), (q931, .inl (g.2.1 0, 2, .inl (fun _ => 0))), (q938, .inl (g.2.1 0, 2, .inl (fun _ => 0))), (q945, .inl (g.2.1 0, 2, .inl (fun _ => 0))), (q952, .inl (g.2.1 0, 2, .inl (fun _ => 0))), (q959, .inl (g.2.1 0, 2, .inl (fun _ => 0))), (q966, .inl (g.2.1 0, 2, .inl (fun _ => 0))), (q973, .inl (g.2.1 0, 2, .inl (fun _ => 0))), (q980, .inl (g.2.1 1, 2, .inl (fun _ => 0))), (q987, .inl (g.2.1 1, 2, .inl (fun _ => 0))), (q994, .inl (g.2.1 0, 2, .inl (fun _ => 0)))] := hw
  refine wputF hF hw flX6_41 ftX6 rfl tw771 dX6_init_996 0 rfl rfl hnm rfl rfl rfl (Nat.le_of_ble_eq_true rfl) (fun H locs hw => ?_)
  have hw : Wd g _ s H locs [(mo, .inr (5, [.ref q8, .int (nI 0), .ref q931, .ref q938, .ref q945, .ref q952, .ref q959, .ref q966, .ref q973, .ref q980, .ref q987, .ref q994, .null, .null, .null, .null, .null, .null, .null, .null, .null, .null, .null, .int (nI 0), .null, .int (nI 0), .int (nI 0), .null, .int (nI 0), .int (nI 0)])), (q8, .inl (g.2.1 0, 160, .inl fRu)), (q931, .inl (g.2.1 0, 2, .inl (fun _ => 0))), (q938, .inl (g.2.1 0, 2, .inl (fun _ => 0))), (q945, .inl (g.2.1 0, 2, .inl (fun _ => 0))), (q952, .inl (g.2.1 0, 2, .inl (fun _ => 0))), (q959, .inl (g.2.1 0, 2, .inl (fun _ => 0))), (q966, .inl (g.2.1 0, 2, .inl (fun _ => 0))), (q973, .inl (g.2.1 0, 2, .inl (fun _ => 0))), (q980, .inl (g.2.1 1, 2, .inl (fun _ => 0))), (q987, .inl (g.2.1 1, 2, .inl (fun _ => 0))), (q994, .inl (g.2.1 0, 2, .inl (fun _ => 0)))] := hw
  refine lv_aload_n hx hb dX6_init_999 rfl (lv_at hl 0 rfl) ?_
  refine lv_iconst (v := nI 2) hx hb dX6_init_1000 (by decide) ?_
  refine wnewI (n := 2) hF hw tw100 (by omega) (by decide) (by decide) dX6_init_1001 (fun q1001 H hw => ?_)
  have hw : Wd g _ s H _ [(mo, .inr (5, [.ref q8, .int (nI 0), .ref q931, .ref q938, .ref q945, .ref q952, .ref q959, .ref q966, .ref q973, .ref q980, .ref q987, .ref q994, .null, .null, .null, .null, .null, .null, .null, .null, .null, .null, .null, .int (nI 0), .null, .int (nI 0), .int (nI 0), .null, .int (nI 0), .int (nI 0)])), (q8, .inl (g.2.1 0, 160, .inl fRu)), (q931, .inl (g.2.1 0, 2, .inl (fun _ => 0))), (q938, .inl (g.2.1 0, 2, .inl (fun _ => 0))), (q945, .inl (g.2.1 0, 2, .inl (fun _ => 0))), (q952, .inl (g.2.1 0, 2, .inl (fun _ => 0))), (q959, .inl (g.2.1 0, 2, .inl (fun _ => 0))), (q966, .inl (g.2.1 0, 2, .inl (fun _ => 0))), (q973, .inl (g.2.1 0, 2, .inl (fun _ => 0))), (q980, .inl (g.2.1 1, 2, .inl (fun _ => 0))), (q987, .inl (g.2.1 1, 2, .inl (fun _ => 0))), (q994, .inl (g.2.1 0, 2, .inl (fun _ => 0))), (q1001, .inl (g.2.1 0, 2, .inl (fun _ => 0)))] := hw
  refine wputF hF hw flX6_44 ftX6 rfl tw772 dX6_init_1003 0 rfl rfl hnm rfl rfl rfl (Nat.le_of_ble_eq_true rfl) (fun H locs hw => ?_)
  have hw : Wd g _ s H locs [(mo, .inr (5, [.ref q8, .int (nI 0), .ref q931, .ref q938, .ref q945, .ref q952, .ref q959, .ref q966, .ref q973, .ref q980, .ref q987, .ref q994, .ref q1001, .null, .null, .null, .null, .null, .null, .null, .null, .null, .null, .int (nI 0), .null, .int (nI 0), .int (nI 0), .null, .int (nI 0), .int (nI 0)])), (q8, .inl (g.2.1 0, 160, .inl fRu)), (q931, .inl (g.2.1 0, 2, .inl (fun _ => 0))), (q938, .inl (g.2.1 0, 2, .inl (fun _ => 0))), (q945, .inl (g.2.1 0, 2, .inl (fun _ => 0))), (q952, .inl (g.2.1 0, 2, .inl (fun _ => 0))), (q959, .inl (g.2.1 0, 2, .inl (fun _ => 0))), (q966, .inl (g.2.1 0, 2, .inl (fun _ => 0))), (q973, .inl (g.2.1 0, 2, .inl (fun _ => 0))), (q980, .inl (g.2.1 1, 2, .inl (fun _ => 0))), (q987, .inl (g.2.1 1, 2, .inl (fun _ => 0))), (q994, .inl (g.2.1 0, 2, .inl (fun _ => 0))), (q1001, .inl (g.2.1 0, 2, .inl (fun _ => 0)))] := hw
  refine lv_aload_n hx hb dX6_init_1006 rfl (lv_at hl 0 rfl) ?_
  refine lv_bipush (v := nI 16) hx hb dX6_init_1007 (by decide) ?_
  refine wnewI (n := 16) hF hw tw100 (by omega) (by decide) (by decide) dX6_init_1009 (fun q1009 H hw => ?_)
  have hw : Wd g _ s H _ [(mo, .inr (5, [.ref q8, .int (nI 0), .ref q931, .ref q938, .ref q945, .ref q952, .ref q959, .ref q966, .ref q973, .ref q980, .ref q987, .ref q994, .ref q1001, .null, .null, .null, .null, .null, .null, .null, .null, .null, .null, .int (nI 0), .null, .int (nI 0), .int (nI 0), .null, .int (nI 0), .int (nI 0)])), (q8, .inl (g.2.1 0, 160, .inl fRu)), (q931, .inl (g.2.1 0, 2, .inl (fun _ => 0))), (q938, .inl (g.2.1 0, 2, .inl (fun _ => 0))), (q945, .inl (g.2.1 0, 2, .inl (fun _ => 0))), (q952, .inl (g.2.1 0, 2, .inl (fun _ => 0))), (q959, .inl (g.2.1 0, 2, .inl (fun _ => 0))), (q966, .inl (g.2.1 0, 2, .inl (fun _ => 0))), (q973, .inl (g.2.1 0, 2, .inl (fun _ => 0))), (q980, .inl (g.2.1 1, 2, .inl (fun _ => 0))), (q987, .inl (g.2.1 1, 2, .inl (fun _ => 0))), (q994, .inl (g.2.1 0, 2, .inl (fun _ => 0))), (q1001, .inl (g.2.1 0, 2, .inl (fun _ => 0))), (q1009, .inl (g.2.1 0, 16, .inl (fun _ => 0)))] := hw
  refine wputF hF hw flX6_47 ftX6 rfl tw773 dX6_init_1011 0 rfl rfl hnm rfl rfl rfl (Nat.le_of_ble_eq_true rfl) (fun H locs hw => ?_)
  have hw : Wd g _ s H locs [(mo, .inr (5, [.ref q8, .int (nI 0), .ref q931, .ref q938, .ref q945, .ref q952, .ref q959, .ref q966, .ref q973, .ref q980, .ref q987, .ref q994, .ref q1001, .ref q1009, .null, .null, .null, .null, .null, .null, .null, .null, .null, .int (nI 0), .null, .int (nI 0), .int (nI 0), .null, .int (nI 0), .int (nI 0)])), (q8, .inl (g.2.1 0, 160, .inl fRu)), (q931, .inl (g.2.1 0, 2, .inl (fun _ => 0))), (q938, .inl (g.2.1 0, 2, .inl (fun _ => 0))), (q945, .inl (g.2.1 0, 2, .inl (fun _ => 0))), (q952, .inl (g.2.1 0, 2, .inl (fun _ => 0))), (q959, .inl (g.2.1 0, 2, .inl (fun _ => 0))), (q966, .inl (g.2.1 0, 2, .inl (fun _ => 0))), (q973, .inl (g.2.1 0, 2, .inl (fun _ => 0))), (q980, .inl (g.2.1 1, 2, .inl (fun _ => 0))), (q987, .inl (g.2.1 1, 2, .inl (fun _ => 0))), (q994, .inl (g.2.1 0, 2, .inl (fun _ => 0))), (q1001, .inl (g.2.1 0, 2, .inl (fun _ => 0))), (q1009, .inl (g.2.1 0, 16, .inl (fun _ => 0)))] := hw
  refine lv_aload_n hx hb dX6_init_1014 rfl (lv_at hl 0 rfl) ?_
  refine lv_iconst (v := nI 2) hx hb dX6_init_1015 (by decide) ?_
  refine wnewI (n := 2) hF hw tw100 (by omega) (by decide) (by decide) dX6_init_1016 (fun q1016 H hw => ?_)
  have hw : Wd g _ s H _ [(mo, .inr (5, [.ref q8, .int (nI 0), .ref q931, .ref q938, .ref q945, .ref q952, .ref q959, .ref q966, .ref q973, .ref q980, .ref q987, .ref q994, .ref q1001, .ref q1009, .null, .null, .null, .null, .null, .null, .null, .null, .null, .int (nI 0), .null, .int (nI 0), .int (nI 0), .null, .int (nI 0), .int (nI 0)])), (q8, .inl (g.2.1 0, 160, .inl fRu)), (q931, .inl (g.2.1 0, 2, .inl (fun _ => 0))), (q938, .inl (g.2.1 0, 2, .inl (fun _ => 0))), (q945, .inl (g.2.1 0, 2, .inl (fun _ => 0))), (q952, .inl (g.2.1 0, 2, .inl (fun _ => 0))), (q959, .inl (g.2.1 0, 2, .inl (fun _ => 0))), (q966, .inl (g.2.1 0, 2, .inl (fun _ => 0))), (q973, .inl (g.2.1 0, 2, .inl (fun _ => 0))), (q980, .inl (g.2.1 1, 2, .inl (fun _ => 0))), (q987, .inl (g.2.1 1, 2, .inl (fun _ => 0))), (q994, .inl (g.2.1 0, 2, .inl (fun _ => 0))), (q1001, .inl (g.2.1 0, 2, .inl (fun _ => 0))), (q1009, .inl (g.2.1 0, 16, .inl (fun _ => 0))), (q1016, .inl (g.2.1 0, 2, .inl (fun _ => 0)))] := hw
  refine wputF hF hw flX6_50 ftX6 rfl tw774 dX6_init_1018 0 rfl rfl hnm rfl rfl rfl (Nat.le_of_ble_eq_true rfl) (fun H locs hw => ?_)
  have hw : Wd g _ s H locs [(mo, .inr (5, [.ref q8, .int (nI 0), .ref q931, .ref q938, .ref q945, .ref q952, .ref q959, .ref q966, .ref q973, .ref q980, .ref q987, .ref q994, .ref q1001, .ref q1009, .ref q1016, .null, .null, .null, .null, .null, .null, .null, .null, .int (nI 0), .null, .int (nI 0), .int (nI 0), .null, .int (nI 0), .int (nI 0)])), (q8, .inl (g.2.1 0, 160, .inl fRu)), (q931, .inl (g.2.1 0, 2, .inl (fun _ => 0))), (q938, .inl (g.2.1 0, 2, .inl (fun _ => 0))), (q945, .inl (g.2.1 0, 2, .inl (fun _ => 0))), (q952, .inl (g.2.1 0, 2, .inl (fun _ => 0))), (q959, .inl (g.2.1 0, 2, .inl (fun _ => 0))), (q966, .inl (g.2.1 0, 2, .inl (fun _ => 0))), (q973, .inl (g.2.1 0, 2, .inl (fun _ => 0))), (q980, .inl (g.2.1 1, 2, .inl (fun _ => 0))), (q987, .inl (g.2.1 1, 2, .inl (fun _ => 0))), (q994, .inl (g.2.1 0, 2, .inl (fun _ => 0))), (q1001, .inl (g.2.1 0, 2, .inl (fun _ => 0))), (q1009, .inl (g.2.1 0, 16, .inl (fun _ => 0))), (q1016, .inl (g.2.1 0, 2, .inl (fun _ => 0)))] := hw
  refine lv_aload_n hx hb dX6_init_1021 rfl (lv_at hl 0 rfl) ?_
  refine lv_sipush (v := nI 600) hx hb dX6_init_1022 (by decide) ?_
  refine wnewI (n := 600) hF hw tw100 (by omega) (by decide) (by decide) dX6_init_1025 (fun q1025 H hw => ?_)
  have hw : Wd g _ s H _ [(mo, .inr (5, [.ref q8, .int (nI 0), .ref q931, .ref q938, .ref q945, .ref q952, .ref q959, .ref q966, .ref q973, .ref q980, .ref q987, .ref q994, .ref q1001, .ref q1009, .ref q1016, .null, .null, .null, .null, .null, .null, .null, .null, .int (nI 0), .null, .int (nI 0), .int (nI 0), .null, .int (nI 0), .int (nI 0)])), (q8, .inl (g.2.1 0, 160, .inl fRu)), (q931, .inl (g.2.1 0, 2, .inl (fun _ => 0))), (q938, .inl (g.2.1 0, 2, .inl (fun _ => 0))), (q945, .inl (g.2.1 0, 2, .inl (fun _ => 0))), (q952, .inl (g.2.1 0, 2, .inl (fun _ => 0))), (q959, .inl (g.2.1 0, 2, .inl (fun _ => 0))), (q966, .inl (g.2.1 0, 2, .inl (fun _ => 0))), (q973, .inl (g.2.1 0, 2, .inl (fun _ => 0))), (q980, .inl (g.2.1 1, 2, .inl (fun _ => 0))), (q987, .inl (g.2.1 1, 2, .inl (fun _ => 0))), (q994, .inl (g.2.1 0, 2, .inl (fun _ => 0))), (q1001, .inl (g.2.1 0, 2, .inl (fun _ => 0))), (q1009, .inl (g.2.1 0, 16, .inl (fun _ => 0))), (q1016, .inl (g.2.1 0, 2, .inl (fun _ => 0))), (q1025, .inl (g.2.1 0, 600, .inl (fun _ => 0)))] := hw
  refine wputF hF hw flX6_53 ftX6 rfl tw775 dX6_init_1027 0 rfl rfl hnm rfl rfl rfl (Nat.le_of_ble_eq_true rfl) (fun H locs hw => ?_)
  have hw : Wd g _ s H locs [(mo, .inr (5, [.ref q8, .int (nI 0), .ref q931, .ref q938, .ref q945, .ref q952, .ref q959, .ref q966, .ref q973, .ref q980, .ref q987, .ref q994, .ref q1001, .ref q1009, .ref q1016, .ref q1025, .null, .null, .null, .null, .null, .null, .null, .int (nI 0), .null, .int (nI 0), .int (nI 0), .null, .int (nI 0), .int (nI 0)])), (q8, .inl (g.2.1 0, 160, .inl fRu)), (q931, .inl (g.2.1 0, 2, .inl (fun _ => 0))), (q938, .inl (g.2.1 0, 2, .inl (fun _ => 0))), (q945, .inl (g.2.1 0, 2, .inl (fun _ => 0))), (q952, .inl (g.2.1 0, 2, .inl (fun _ => 0))), (q959, .inl (g.2.1 0, 2, .inl (fun _ => 0))), (q966, .inl (g.2.1 0, 2, .inl (fun _ => 0))), (q973, .inl (g.2.1 0, 2, .inl (fun _ => 0))), (q980, .inl (g.2.1 1, 2, .inl (fun _ => 0))), (q987, .inl (g.2.1 1, 2, .inl (fun _ => 0))), (q994, .inl (g.2.1 0, 2, .inl (fun _ => 0))), (q1001, .inl (g.2.1 0, 2, .inl (fun _ => 0))), (q1009, .inl (g.2.1 0, 16, .inl (fun _ => 0))), (q1016, .inl (g.2.1 0, 2, .inl (fun _ => 0))), (q1025, .inl (g.2.1 0, 600, .inl (fun _ => 0)))] := hw
  refine lv_aload_n hx hb dX6_init_1030 rfl (lv_at hl 0 rfl) ?_
  refine lv_iconst (v := nI 2) hx hb dX6_init_1031 (by decide) ?_
  refine wnewZ (n := 2) hF hw tw851 (by omega) (by decide) (by decide) dX6_init_1032 (fun q1032 H hw => ?_)
  have hw : Wd g _ s H _ [(mo, .inr (5, [.ref q8, .int (nI 0), .ref q931, .ref q938, .ref q945, .ref q952, .ref q959, .ref q966, .ref q973, .ref q980, .ref q987, .ref q994, .ref q1001, .ref q1009, .ref q1016, .ref q1025, .null, .null, .null, .null, .null, .null, .null, .int (nI 0), .null, .int (nI 0), .int (nI 0), .null, .int (nI 0), .int (nI 0)])), (q8, .inl (g.2.1 0, 160, .inl fRu)), (q931, .inl (g.2.1 0, 2, .inl (fun _ => 0))), (q938, .inl (g.2.1 0, 2, .inl (fun _ => 0))), (q945, .inl (g.2.1 0, 2, .inl (fun _ => 0))), (q952, .inl (g.2.1 0, 2, .inl (fun _ => 0))), (q959, .inl (g.2.1 0, 2, .inl (fun _ => 0))), (q966, .inl (g.2.1 0, 2, .inl (fun _ => 0))), (q973, .inl (g.2.1 0, 2, .inl (fun _ => 0))), (q980, .inl (g.2.1 1, 2, .inl (fun _ => 0))), (q987, .inl (g.2.1 1, 2, .inl (fun _ => 0))), (q994, .inl (g.2.1 0, 2, .inl (fun _ => 0))), (q1001, .inl (g.2.1 0, 2, .inl (fun _ => 0))), (q1009, .inl (g.2.1 0, 16, .inl (fun _ => 0))), (q1016, .inl (g.2.1 0, 2, .inl (fun _ => 0))), (q1025, .inl (g.2.1 0, 600, .inl (fun _ => 0))), (q1032, .inl (g.2.1 1, 2, .inl (fun _ => 0)))] := hw
  refine wputF hF hw flX6_56 ftX6 rfl tw776 dX6_init_1034 0 rfl rfl hnm rfl rfl rfl (Nat.le_of_ble_eq_true rfl) (fun H locs hw => ?_)
  have hw : Wd g _ s H locs [(mo, .inr (5, [.ref q8, .int (nI 0), .ref q931, .ref q938, .ref q945, .ref q952, .ref q959, .ref q966, .ref q973, .ref q980, .ref q987, .ref q994, .ref q1001, .ref q1009, .ref q1016, .ref q1025, .ref q1032, .null, .null, .null, .null, .null, .null, .int (nI 0), .null, .int (nI 0), .int (nI 0), .null, .int (nI 0), .int (nI 0)])), (q8, .inl (g.2.1 0, 160, .inl fRu)), (q931, .inl (g.2.1 0, 2, .inl (fun _ => 0))), (q938, .inl (g.2.1 0, 2, .inl (fun _ => 0))), (q945, .inl (g.2.1 0, 2, .inl (fun _ => 0))), (q952, .inl (g.2.1 0, 2, .inl (fun _ => 0))), (q959, .inl (g.2.1 0, 2, .inl (fun _ => 0))), (q966, .inl (g.2.1 0, 2, .inl (fun _ => 0))), (q973, .inl (g.2.1 0, 2, .inl (fun _ => 0))), (q980, .inl (g.2.1 1, 2, .inl (fun _ => 0))), (q987, .inl (g.2.1 1, 2, .inl (fun _ => 0))), (q994, .inl (g.2.1 0, 2, .inl (fun _ => 0))), (q1001, .inl (g.2.1 0, 2, .inl (fun _ => 0))), (q1009, .inl (g.2.1 0, 16, .inl (fun _ => 0))), (q1016, .inl (g.2.1 0, 2, .inl (fun _ => 0))), (q1025, .inl (g.2.1 0, 600, .inl (fun _ => 0))), (q1032, .inl (g.2.1 1, 2, .inl (fun _ => 0)))] := hw
  refine lv_aload_n hx hb dX6_init_1037 rfl (lv_at hl 0 rfl) ?_
  refine lv_iconst (v := nI 2) hx hb dX6_init_1038 (by decide) ?_
  refine wnewI (n := 2) hF hw tw100 (by omega) (by decide) (by decide) dX6_init_1039 (fun q1039 H hw => ?_)
  have hw : Wd g _ s H _ [(mo, .inr (5, [.ref q8, .int (nI 0), .ref q931, .ref q938, .ref q945, .ref q952, .ref q959, .ref q966, .ref q973, .ref q980, .ref q987, .ref q994, .ref q1001, .ref q1009, .ref q1016, .ref q1025, .ref q1032, .null, .null, .null, .null, .null, .null, .int (nI 0), .null, .int (nI 0), .int (nI 0), .null, .int (nI 0), .int (nI 0)])), (q8, .inl (g.2.1 0, 160, .inl fRu)), (q931, .inl (g.2.1 0, 2, .inl (fun _ => 0))), (q938, .inl (g.2.1 0, 2, .inl (fun _ => 0))), (q945, .inl (g.2.1 0, 2, .inl (fun _ => 0))), (q952, .inl (g.2.1 0, 2, .inl (fun _ => 0))), (q959, .inl (g.2.1 0, 2, .inl (fun _ => 0))), (q966, .inl (g.2.1 0, 2, .inl (fun _ => 0))), (q973, .inl (g.2.1 0, 2, .inl (fun _ => 0))), (q980, .inl (g.2.1 1, 2, .inl (fun _ => 0))), (q987, .inl (g.2.1 1, 2, .inl (fun _ => 0))), (q994, .inl (g.2.1 0, 2, .inl (fun _ => 0))), (q1001, .inl (g.2.1 0, 2, .inl (fun _ => 0))), (q1009, .inl (g.2.1 0, 16, .inl (fun _ => 0))), (q1016, .inl (g.2.1 0, 2, .inl (fun _ => 0))), (q1025, .inl (g.2.1 0, 600, .inl (fun _ => 0))), (q1032, .inl (g.2.1 1, 2, .inl (fun _ => 0))), (q1039, .inl (g.2.1 0, 2, .inl (fun _ => 0)))] := hw
  refine wputF hF hw flX6_59 ftX6 rfl tw777 dX6_init_1041 0 rfl rfl hnm rfl rfl rfl (Nat.le_of_ble_eq_true rfl) (fun H locs hw => ?_)
  have hw : Wd g _ s H locs [(mo, .inr (5, [.ref q8, .int (nI 0), .ref q931, .ref q938, .ref q945, .ref q952, .ref q959, .ref q966, .ref q973, .ref q980, .ref q987, .ref q994, .ref q1001, .ref q1009, .ref q1016, .ref q1025, .ref q1032, .ref q1039, .null, .null, .null, .null, .null, .int (nI 0), .null, .int (nI 0), .int (nI 0), .null, .int (nI 0), .int (nI 0)])), (q8, .inl (g.2.1 0, 160, .inl fRu)), (q931, .inl (g.2.1 0, 2, .inl (fun _ => 0))), (q938, .inl (g.2.1 0, 2, .inl (fun _ => 0))), (q945, .inl (g.2.1 0, 2, .inl (fun _ => 0))), (q952, .inl (g.2.1 0, 2, .inl (fun _ => 0))), (q959, .inl (g.2.1 0, 2, .inl (fun _ => 0))), (q966, .inl (g.2.1 0, 2, .inl (fun _ => 0))), (q973, .inl (g.2.1 0, 2, .inl (fun _ => 0))), (q980, .inl (g.2.1 1, 2, .inl (fun _ => 0))), (q987, .inl (g.2.1 1, 2, .inl (fun _ => 0))), (q994, .inl (g.2.1 0, 2, .inl (fun _ => 0))), (q1001, .inl (g.2.1 0, 2, .inl (fun _ => 0))), (q1009, .inl (g.2.1 0, 16, .inl (fun _ => 0))), (q1016, .inl (g.2.1 0, 2, .inl (fun _ => 0))), (q1025, .inl (g.2.1 0, 600, .inl (fun _ => 0))), (q1032, .inl (g.2.1 1, 2, .inl (fun _ => 0))), (q1039, .inl (g.2.1 0, 2, .inl (fun _ => 0)))] := hw
  refine lv_aload_n hx hb dX6_init_1044 rfl (lv_at hl 0 rfl) ?_
  refine lv_bipush (v := nI 80) hx hb dX6_init_1045 (by decide) ?_
  refine wnewI (n := 80) hF hw tw100 (by omega) (by decide) (by decide) dX6_init_1047 (fun q1047 H hw => ?_)
  have hw : Wd g _ s H _ [(mo, .inr (5, [.ref q8, .int (nI 0), .ref q931, .ref q938, .ref q945, .ref q952, .ref q959, .ref q966, .ref q973, .ref q980, .ref q987, .ref q994, .ref q1001, .ref q1009, .ref q1016, .ref q1025, .ref q1032, .ref q1039, .null, .null, .null, .null, .null, .int (nI 0), .null, .int (nI 0), .int (nI 0), .null, .int (nI 0), .int (nI 0)])), (q8, .inl (g.2.1 0, 160, .inl fRu)), (q931, .inl (g.2.1 0, 2, .inl (fun _ => 0))), (q938, .inl (g.2.1 0, 2, .inl (fun _ => 0))), (q945, .inl (g.2.1 0, 2, .inl (fun _ => 0))), (q952, .inl (g.2.1 0, 2, .inl (fun _ => 0))), (q959, .inl (g.2.1 0, 2, .inl (fun _ => 0))), (q966, .inl (g.2.1 0, 2, .inl (fun _ => 0))), (q973, .inl (g.2.1 0, 2, .inl (fun _ => 0))), (q980, .inl (g.2.1 1, 2, .inl (fun _ => 0))), (q987, .inl (g.2.1 1, 2, .inl (fun _ => 0))), (q994, .inl (g.2.1 0, 2, .inl (fun _ => 0))), (q1001, .inl (g.2.1 0, 2, .inl (fun _ => 0))), (q1009, .inl (g.2.1 0, 16, .inl (fun _ => 0))), (q1016, .inl (g.2.1 0, 2, .inl (fun _ => 0))), (q1025, .inl (g.2.1 0, 600, .inl (fun _ => 0))), (q1032, .inl (g.2.1 1, 2, .inl (fun _ => 0))), (q1039, .inl (g.2.1 0, 2, .inl (fun _ => 0))), (q1047, .inl (g.2.1 0, 80, .inl (fun _ => 0)))] := hw
  refine wputF hF hw flX6_62 ftX6 rfl tw778 dX6_init_1049 0 rfl rfl hnm rfl rfl rfl (Nat.le_of_ble_eq_true rfl) (fun H locs hw => ?_)
  have hw : Wd g _ s H locs [(mo, .inr (5, [.ref q8, .int (nI 0), .ref q931, .ref q938, .ref q945, .ref q952, .ref q959, .ref q966, .ref q973, .ref q980, .ref q987, .ref q994, .ref q1001, .ref q1009, .ref q1016, .ref q1025, .ref q1032, .ref q1039, .ref q1047, .null, .null, .null, .null, .int (nI 0), .null, .int (nI 0), .int (nI 0), .null, .int (nI 0), .int (nI 0)])), (q8, .inl (g.2.1 0, 160, .inl fRu)), (q931, .inl (g.2.1 0, 2, .inl (fun _ => 0))), (q938, .inl (g.2.1 0, 2, .inl (fun _ => 0))), (q945, .inl (g.2.1 0, 2, .inl (fun _ => 0))), (q952, .inl (g.2.1 0, 2, .inl (fun _ => 0))), (q959, .inl (g.2.1 0, 2, .inl (fun _ => 0))), (q966, .inl (g.2.1 0, 2, .inl (fun _ => 0))), (q973, .inl (g.2.1 0, 2, .inl (fun _ => 0))), (q980, .inl (g.2.1 1, 2, .inl (fun _ => 0))), (q987, .inl (g.2.1 1, 2, .inl (fun _ => 0))), (q994, .inl (g.2.1 0, 2, .inl (fun _ => 0))), (q1001, .inl (g.2.1 0, 2, .inl (fun _ => 0))), (q1009, .inl (g.2.1 0, 16, .inl (fun _ => 0))), (q1016, .inl (g.2.1 0, 2, .inl (fun _ => 0))), (q1025, .inl (g.2.1 0, 600, .inl (fun _ => 0))), (q1032, .inl (g.2.1 1, 2, .inl (fun _ => 0))), (q1039, .inl (g.2.1 0, 2, .inl (fun _ => 0))), (q1047, .inl (g.2.1 0, 80, .inl (fun _ => 0)))] := hw
  refine lv_aload_n hx hb dX6_init_1052 rfl (lv_at hl 0 rfl) ?_
  refine lv_iconst (v := nI 2) hx hb dX6_init_1053 (by decide) ?_
  refine wnewZ (n := 2) hF hw tw851 (by omega) (by decide) (by decide) dX6_init_1054 (fun q1054 H hw => ?_)
  have hw : Wd g _ s H _ [(mo, .inr (5, [.ref q8, .int (nI 0), .ref q931, .ref q938, .ref q945, .ref q952, .ref q959, .ref q966, .ref q973, .ref q980, .ref q987, .ref q994, .ref q1001, .ref q1009, .ref q1016, .ref q1025, .ref q1032, .ref q1039, .ref q1047, .null, .null, .null, .null, .int (nI 0), .null, .int (nI 0), .int (nI 0), .null, .int (nI 0), .int (nI 0)])), (q8, .inl (g.2.1 0, 160, .inl fRu)), (q931, .inl (g.2.1 0, 2, .inl (fun _ => 0))), (q938, .inl (g.2.1 0, 2, .inl (fun _ => 0))), (q945, .inl (g.2.1 0, 2, .inl (fun _ => 0))), (q952, .inl (g.2.1 0, 2, .inl (fun _ => 0))), (q959, .inl (g.2.1 0, 2, .inl (fun _ => 0))), (q966, .inl (g.2.1 0, 2, .inl (fun _ => 0))), (q973, .inl (g.2.1 0, 2, .inl (fun _ => 0))), (q980, .inl (g.2.1 1, 2, .inl (fun _ => 0))), (q987, .inl (g.2.1 1, 2, .inl (fun _ => 0))), (q994, .inl (g.2.1 0, 2, .inl (fun _ => 0))), (q1001, .inl (g.2.1 0, 2, .inl (fun _ => 0))), (q1009, .inl (g.2.1 0, 16, .inl (fun _ => 0))), (q1016, .inl (g.2.1 0, 2, .inl (fun _ => 0))), (q1025, .inl (g.2.1 0, 600, .inl (fun _ => 0))), (q1032, .inl (g.2.1 1, 2, .inl (fun _ => 0))), (q1039, .inl (g.2.1 0, 2, .inl (fun _ => 0))), (q1047, .inl (g.2.1 0, 80, .inl (fun _ => 0))), (q1054, .inl (g.2.1 1, 2, .inl (fun _ => 0)))] := hw
  refine wputF hF hw flX6_65 ftX6 rfl tw779 dX6_init_1056 0 rfl rfl hnm rfl rfl rfl (Nat.le_of_ble_eq_true rfl) (fun H locs hw => ?_)
  have hw : Wd g _ s H locs [(mo, .inr (5, [.ref q8, .int (nI 0), .ref q931, .ref q938, .ref q945, .ref q952, .ref q959, .ref q966, .ref q973, .ref q980, .ref q987, .ref q994, .ref q1001, .ref q1009, .ref q1016, .ref q1025, .ref q1032, .ref q1039, .ref q1047, .ref q1054, .null, .null, .null, .int (nI 0), .null, .int (nI 0), .int (nI 0), .null, .int (nI 0), .int (nI 0)])), (q8, .inl (g.2.1 0, 160, .inl fRu)), (q931, .inl (g.2.1 0, 2, .inl (fun _ => 0))), (q938, .inl (g.2.1 0, 2, .inl (fun _ => 0))), (q945, .inl (g.2.1 0, 2, .inl (fun _ => 0))), (q952, .inl (g.2.1 0, 2, .inl (fun _ => 0))), (q959, .inl (g.2.1 0, 2, .inl (fun _ => 0))), (q966, .inl (g.2.1 0, 2, .inl (fun _ => 0))), (q973, .inl (g.2.1 0, 2, .inl (fun _ => 0))), (q980, .inl (g.2.1 1, 2, .inl (fun _ => 0))), (q987, .inl (g.2.1 1, 2, .inl (fun _ => 0))), (q994, .inl (g.2.1 0, 2, .inl (fun _ => 0))), (q1001, .inl (g.2.1 0, 2, .inl (fun _ => 0))), (q1009, .inl (g.2.1 0, 16, .inl (fun _ => 0))), (q1016, .inl (g.2.1 0, 2, .inl (fun _ => 0))), (q1025, .inl (g.2.1 0, 600, .inl (fun _ => 0))), (q1032, .inl (g.2.1 1, 2, .inl (fun _ => 0))), (q1039, .inl (g.2.1 0, 2, .inl (fun _ => 0))), (q1047, .inl (g.2.1 0, 80, .inl (fun _ => 0))), (q1054, .inl (g.2.1 1, 2, .inl (fun _ => 0)))] := hw
  refine lv_aload_n hx hb dX6_init_1059 rfl (lv_at hl 0 rfl) ?_
  refine lv_iconst (v := nI 2) hx hb dX6_init_1060 (by decide) ?_
  refine wnewI (n := 2) hF hw tw100 (by omega) (by decide) (by decide) dX6_init_1061 (fun q1061 H hw => ?_)
  have hw : Wd g _ s H _ [(mo, .inr (5, [.ref q8, .int (nI 0), .ref q931, .ref q938, .ref q945, .ref q952, .ref q959, .ref q966, .ref q973, .ref q980, .ref q987, .ref q994, .ref q1001, .ref q1009, .ref q1016, .ref q1025, .ref q1032, .ref q1039, .ref q1047, .ref q1054, .null, .null, .null, .int (nI 0), .null, .int (nI 0), .int (nI 0), .null, .int (nI 0), .int (nI 0)])), (q8, .inl (g.2.1 0, 160, .inl fRu)), (q931, .inl (g.2.1 0, 2, .inl (fun _ => 0))), (q938, .inl (g.2.1 0, 2, .inl (fun _ => 0))), (q945, .inl (g.2.1 0, 2, .inl (fun _ => 0))), (q952, .inl (g.2.1 0, 2, .inl (fun _ => 0))), (q959, .inl (g.2.1 0, 2, .inl (fun _ => 0))), (q966, .inl (g.2.1 0, 2, .inl (fun _ => 0))), (q973, .inl (g.2.1 0, 2, .inl (fun _ => 0))), (q980, .inl (g.2.1 1, 2, .inl (fun _ => 0))), (q987, .inl (g.2.1 1, 2, .inl (fun _ => 0))), (q994, .inl (g.2.1 0, 2, .inl (fun _ => 0))), (q1001, .inl (g.2.1 0, 2, .inl (fun _ => 0))), (q1009, .inl (g.2.1 0, 16, .inl (fun _ => 0))), (q1016, .inl (g.2.1 0, 2, .inl (fun _ => 0))), (q1025, .inl (g.2.1 0, 600, .inl (fun _ => 0))), (q1032, .inl (g.2.1 1, 2, .inl (fun _ => 0))), (q1039, .inl (g.2.1 0, 2, .inl (fun _ => 0))), (q1047, .inl (g.2.1 0, 80, .inl (fun _ => 0))), (q1054, .inl (g.2.1 1, 2, .inl (fun _ => 0))), (q1061, .inl (g.2.1 0, 2, .inl (fun _ => 0)))] := hw
  refine wputF hF hw flX6_68 ftX6 rfl tw780 dX6_init_1063 0 rfl rfl hnm rfl rfl rfl (Nat.le_of_ble_eq_true rfl) (fun H locs hw => ?_)
  have hw : Wd g _ s H locs [(mo, .inr (5, [.ref q8, .int (nI 0), .ref q931, .ref q938, .ref q945, .ref q952, .ref q959, .ref q966, .ref q973, .ref q980, .ref q987, .ref q994, .ref q1001, .ref q1009, .ref q1016, .ref q1025, .ref q1032, .ref q1039, .ref q1047, .ref q1054, .ref q1061, .null, .null, .int (nI 0), .null, .int (nI 0), .int (nI 0), .null, .int (nI 0), .int (nI 0)])), (q8, .inl (g.2.1 0, 160, .inl fRu)), (q931, .inl (g.2.1 0, 2, .inl (fun _ => 0))), (q938, .inl (g.2.1 0, 2, .inl (fun _ => 0))), (q945, .inl (g.2.1 0, 2, .inl (fun _ => 0))), (q952, .inl (g.2.1 0, 2, .inl (fun _ => 0))), (q959, .inl (g.2.1 0, 2, .inl (fun _ => 0))), (q966, .inl (g.2.1 0, 2, .inl (fun _ => 0))), (q973, .inl (g.2.1 0, 2, .inl (fun _ => 0))), (q980, .inl (g.2.1 1, 2, .inl (fun _ => 0))), (q987, .inl (g.2.1 1, 2, .inl (fun _ => 0))), (q994, .inl (g.2.1 0, 2, .inl (fun _ => 0))), (q1001, .inl (g.2.1 0, 2, .inl (fun _ => 0))), (q1009, .inl (g.2.1 0, 16, .inl (fun _ => 0))), (q1016, .inl (g.2.1 0, 2, .inl (fun _ => 0))), (q1025, .inl (g.2.1 0, 600, .inl (fun _ => 0))), (q1032, .inl (g.2.1 1, 2, .inl (fun _ => 0))), (q1039, .inl (g.2.1 0, 2, .inl (fun _ => 0))), (q1047, .inl (g.2.1 0, 80, .inl (fun _ => 0))), (q1054, .inl (g.2.1 1, 2, .inl (fun _ => 0))), (q1061, .inl (g.2.1 0, 2, .inl (fun _ => 0)))] := hw
  refine lv_aload_n hx hb dX6_init_1066 rfl (lv_at hl 0 rfl) ?_
  refine lv_bipush (v := nI 80) hx hb dX6_init_1067 (by decide) ?_
  refine wnewI (n := 80) hF hw tw100 (by omega) (by decide) (by decide) dX6_init_1069 (fun q1069 H hw => ?_)
  have hw : Wd g _ s H _ [(mo, .inr (5, [.ref q8, .int (nI 0), .ref q931, .ref q938, .ref q945, .ref q952, .ref q959, .ref q966, .ref q973, .ref q980, .ref q987, .ref q994, .ref q1001, .ref q1009, .ref q1016, .ref q1025, .ref q1032, .ref q1039, .ref q1047, .ref q1054, .ref q1061, .null, .null, .int (nI 0), .null, .int (nI 0), .int (nI 0), .null, .int (nI 0), .int (nI 0)])), (q8, .inl (g.2.1 0, 160, .inl fRu)), (q931, .inl (g.2.1 0, 2, .inl (fun _ => 0))), (q938, .inl (g.2.1 0, 2, .inl (fun _ => 0))), (q945, .inl (g.2.1 0, 2, .inl (fun _ => 0))), (q952, .inl (g.2.1 0, 2, .inl (fun _ => 0))), (q959, .inl (g.2.1 0, 2, .inl (fun _ => 0))), (q966, .inl (g.2.1 0, 2, .inl (fun _ => 0))), (q973, .inl (g.2.1 0, 2, .inl (fun _ => 0))), (q980, .inl (g.2.1 1, 2, .inl (fun _ => 0))), (q987, .inl (g.2.1 1, 2, .inl (fun _ => 0))), (q994, .inl (g.2.1 0, 2, .inl (fun _ => 0))), (q1001, .inl (g.2.1 0, 2, .inl (fun _ => 0))), (q1009, .inl (g.2.1 0, 16, .inl (fun _ => 0))), (q1016, .inl (g.2.1 0, 2, .inl (fun _ => 0))), (q1025, .inl (g.2.1 0, 600, .inl (fun _ => 0))), (q1032, .inl (g.2.1 1, 2, .inl (fun _ => 0))), (q1039, .inl (g.2.1 0, 2, .inl (fun _ => 0))), (q1047, .inl (g.2.1 0, 80, .inl (fun _ => 0))), (q1054, .inl (g.2.1 1, 2, .inl (fun _ => 0))), (q1061, .inl (g.2.1 0, 2, .inl (fun _ => 0))), (q1069, .inl (g.2.1 0, 80, .inl (fun _ => 0)))] := hw
  refine wputF hF hw flX6_71 ftX6 rfl tw781 dX6_init_1071 0 rfl rfl hnm rfl rfl rfl (Nat.le_of_ble_eq_true rfl) (fun H locs hw => ?_)
  have hw : Wd g _ s H locs [(mo, .inr (5, [.ref q8, .int (nI 0), .ref q931, .ref q938, .ref q945, .ref q952, .ref q959, .ref q966, .ref q973, .ref q980, .ref q987, .ref q994, .ref q1001, .ref q1009, .ref q1016, .ref q1025, .ref q1032, .ref q1039, .ref q1047, .ref q1054, .ref q1061, .ref q1069, .null, .int (nI 0), .null, .int (nI 0), .int (nI 0), .null, .int (nI 0), .int (nI 0)])), (q8, .inl (g.2.1 0, 160, .inl fRu)), (q931, .inl (g.2.1 0, 2, .inl (fun _ => 0))), (q938, .inl (g.2.1 0, 2, .inl (fun _ => 0))), (q945, .inl (g.2.1 0, 2, .inl (fun _ => 0))), (q952, .inl (g.2.1 0, 2, .inl (fun _ => 0))), (q959, .inl (g.2.1 0, 2, .inl (fun _ => 0))), (q966, .inl (g.2.1 0, 2, .inl (fun _ => 0))), (q973, .inl (g.2.1 0, 2, .inl (fun _ => 0))), (q980, .inl (g.2.1 1, 2, .inl (fun _ => 0))), (q987, .inl (g.2.1 1, 2, .inl (fun _ => 0))), (q994, .inl (g.2.1 0, 2, .inl (fun _ => 0))), (q1001, .inl (g.2.1 0, 2, .inl (fun _ => 0))), (q1009, .inl (g.2.1 0, 16, .inl (fun _ => 0))), (q1016, .inl (g.2.1 0, 2, .inl (fun _ => 0))), (q1025, .inl (g.2.1 0, 600, .inl (fun _ => 0))), (q1032, .inl (g.2.1 1, 2, .inl (fun _ => 0))), (q1039, .inl (g.2.1 0, 2, .inl (fun _ => 0))), (q1047, .inl (g.2.1 0, 80, .inl (fun _ => 0))), (q1054, .inl (g.2.1 1, 2, .inl (fun _ => 0))), (q1061, .inl (g.2.1 0, 2, .inl (fun _ => 0))), (q1069, .inl (g.2.1 0, 80, .inl (fun _ => 0)))] := hw
  refine lv_aload_n hx hb dX6_init_1074 rfl (lv_at hl 0 rfl) ?_
  refine lv_bipush (v := nI 12) hx hb dX6_init_1075 (by decide) ?_
  refine wnewI (n := 12) hF hw tw100 (by omega) (by decide) (by decide) dX6_init_1077 (fun q1077 H hw => ?_)
  have hw : Wd g _ s H _ [(mo, .inr (5, [.ref q8, .int (nI 0), .ref q931, .ref q938, .ref q945, .ref q952, .ref q959, .ref q966, .ref q973, .ref q980, .ref q987, .ref q994, .ref q1001, .ref q1009, .ref q1016, .ref q1025, .ref q1032, .ref q1039, .ref q1047, .ref q1054, .ref q1061, .ref q1069, .null, .int (nI 0), .null, .int (nI 0), .int (nI 0), .null, .int (nI 0), .int (nI 0)])), (q8, .inl (g.2.1 0, 160, .inl fRu)), (q931, .inl (g.2.1 0, 2, .inl (fun _ => 0))), (q938, .inl (g.2.1 0, 2, .inl (fun _ => 0))), (q945, .inl (g.2.1 0, 2, .inl (fun _ => 0))), (q952, .inl (g.2.1 0, 2, .inl (fun _ => 0))), (q959, .inl (g.2.1 0, 2, .inl (fun _ => 0))), (q966, .inl (g.2.1 0, 2, .inl (fun _ => 0))), (q973, .inl (g.2.1 0, 2, .inl (fun _ => 0))), (q980, .inl (g.2.1 1, 2, .inl (fun _ => 0))), (q987, .inl (g.2.1 1, 2, .inl (fun _ => 0))), (q994, .inl (g.2.1 0, 2, .inl (fun _ => 0))), (q1001, .inl (g.2.1 0, 2, .inl (fun _ => 0))), (q1009, .inl (g.2.1 0, 16, .inl (fun _ => 0))), (q1016, .inl (g.2.1 0, 2, .inl (fun _ => 0))), (q1025, .inl (g.2.1 0, 600, .inl (fun _ => 0))), (q1032, .inl (g.2.1 1, 2, .inl (fun _ => 0))), (q1039, .inl (g.2.1 0, 2, .inl (fun _ => 0))), (q1047, .inl (g.2.1 0, 80, .inl (fun _ => 0))), (q1054, .inl (g.2.1 1, 2, .inl (fun _ => 0))), (q1061, .inl (g.2.1 0, 2, .inl (fun _ => 0))), (q1069, .inl (g.2.1 0, 80, .inl (fun _ => 0))), (q1077, .inl (g.2.1 0, 12, .inl (fun _ => 0)))] := hw
  refine wputF hF hw flX6_74 ftX6 rfl tw782 dX6_init_1079 0 rfl rfl hnm rfl rfl rfl (Nat.le_of_ble_eq_true rfl) (fun H locs hw => ?_)
  have hw : Wd g _ s H locs [(mo, .inr (5, [.ref q8, .int (nI 0), .ref q931, .ref q938, .ref q945, .ref q952, .ref q959, .ref q966, .ref q973, .ref q980, .ref q987, .ref q994, .ref q1001, .ref q1009, .ref q1016, .ref q1025, .ref q1032, .ref q1039, .ref q1047, .ref q1054, .ref q1061, .ref q1069, .ref q1077, .int (nI 0), .null, .int (nI 0), .int (nI 0), .null, .int (nI 0), .int (nI 0)])), (q8, .inl (g.2.1 0, 160, .inl fRu)), (q931, .inl (g.2.1 0, 2, .inl (fun _ => 0))), (q938, .inl (g.2.1 0, 2, .inl (fun _ => 0))), (q945, .inl (g.2.1 0, 2, .inl (fun _ => 0))), (q952, .inl (g.2.1 0, 2, .inl (fun _ => 0))), (q959, .inl (g.2.1 0, 2, .inl (fun _ => 0))), (q966, .inl (g.2.1 0, 2, .inl (fun _ => 0))), (q973, .inl (g.2.1 0, 2, .inl (fun _ => 0))), (q980, .inl (g.2.1 1, 2, .inl (fun _ => 0))), (q987, .inl (g.2.1 1, 2, .inl (fun _ => 0))), (q994, .inl (g.2.1 0, 2, .inl (fun _ => 0))), (q1001, .inl (g.2.1 0, 2, .inl (fun _ => 0))), (q1009, .inl (g.2.1 0, 16, .inl (fun _ => 0))), (q1016, .inl (g.2.1 0, 2, .inl (fun _ => 0))), (q1025, .inl (g.2.1 0, 600, .inl (fun _ => 0))), (q1032, .inl (g.2.1 1, 2, .inl (fun _ => 0))), (q1039, .inl (g.2.1 0, 2, .inl (fun _ => 0))), (q1047, .inl (g.2.1 0, 80, .inl (fun _ => 0))), (q1054, .inl (g.2.1 1, 2, .inl (fun _ => 0))), (q1061, .inl (g.2.1 0, 2, .inl (fun _ => 0))), (q1069, .inl (g.2.1 0, 80, .inl (fun _ => 0))), (q1077, .inl (g.2.1 0, 12, .inl (fun _ => 0)))] := hw
  refine lv_aload_n hx hb dX6_init_1082 rfl (lv_at hl 0 rfl) ?_
  refine lv_bipush (v := nI 64) hx hb dX6_init_1083 (by decide) ?_
  refine wnewI (n := 64) hF hw tw100 (by omega) (by decide) (by decide) dX6_init_1085 (fun q1085 H hw => ?_)
  have hw : Wd g _ s H _ [(mo, .inr (5, [.ref q8, .int (nI 0), .ref q931, .ref q938, .ref q945, .ref q952, .ref q959, .ref q966, .ref q973, .ref q980, .ref q987, .ref q994, .ref q1001, .ref q1009, .ref q1016, .ref q1025, .ref q1032, .ref q1039, .ref q1047, .ref q1054, .ref q1061, .ref q1069, .ref q1077, .int (nI 0), .null, .int (nI 0), .int (nI 0), .null, .int (nI 0), .int (nI 0)])), (q8, .inl (g.2.1 0, 160, .inl fRu)), (q931, .inl (g.2.1 0, 2, .inl (fun _ => 0))), (q938, .inl (g.2.1 0, 2, .inl (fun _ => 0))), (q945, .inl (g.2.1 0, 2, .inl (fun _ => 0))), (q952, .inl (g.2.1 0, 2, .inl (fun _ => 0))), (q959, .inl (g.2.1 0, 2, .inl (fun _ => 0))), (q966, .inl (g.2.1 0, 2, .inl (fun _ => 0))), (q973, .inl (g.2.1 0, 2, .inl (fun _ => 0))), (q980, .inl (g.2.1 1, 2, .inl (fun _ => 0))), (q987, .inl (g.2.1 1, 2, .inl (fun _ => 0))), (q994, .inl (g.2.1 0, 2, .inl (fun _ => 0))), (q1001, .inl (g.2.1 0, 2, .inl (fun _ => 0))), (q1009, .inl (g.2.1 0, 16, .inl (fun _ => 0))), (q1016, .inl (g.2.1 0, 2, .inl (fun _ => 0))), (q1025, .inl (g.2.1 0, 600, .inl (fun _ => 0))), (q1032, .inl (g.2.1 1, 2, .inl (fun _ => 0))), (q1039, .inl (g.2.1 0, 2, .inl (fun _ => 0))), (q1047, .inl (g.2.1 0, 80, .inl (fun _ => 0))), (q1054, .inl (g.2.1 1, 2, .inl (fun _ => 0))), (q1061, .inl (g.2.1 0, 2, .inl (fun _ => 0))), (q1069, .inl (g.2.1 0, 80, .inl (fun _ => 0))), (q1077, .inl (g.2.1 0, 12, .inl (fun _ => 0))), (q1085, .inl (g.2.1 0, 64, .inl (fun _ => 0)))] := hw
  refine wputF hF hw flX6_77 ftX6 rfl tw784 dX6_init_1087 0 rfl rfl hnm rfl rfl rfl (Nat.le_of_ble_eq_true rfl) (fun H locs hw => ?_)
  have hw : Wd g _ s H locs [(mo, .inr (5, [.ref q8, .int (nI 0), .ref q931, .ref q938, .ref q945, .ref q952, .ref q959, .ref q966, .ref q973, .ref q980, .ref q987, .ref q994, .ref q1001, .ref q1009, .ref q1016, .ref q1025, .ref q1032, .ref q1039, .ref q1047, .ref q1054, .ref q1061, .ref q1069, .ref q1077, .int (nI 0), .ref q1085, .int (nI 0), .int (nI 0), .null, .int (nI 0), .int (nI 0)])), (q8, .inl (g.2.1 0, 160, .inl fRu)), (q931, .inl (g.2.1 0, 2, .inl (fun _ => 0))), (q938, .inl (g.2.1 0, 2, .inl (fun _ => 0))), (q945, .inl (g.2.1 0, 2, .inl (fun _ => 0))), (q952, .inl (g.2.1 0, 2, .inl (fun _ => 0))), (q959, .inl (g.2.1 0, 2, .inl (fun _ => 0))), (q966, .inl (g.2.1 0, 2, .inl (fun _ => 0))), (q973, .inl (g.2.1 0, 2, .inl (fun _ => 0))), (q980, .inl (g.2.1 1, 2, .inl (fun _ => 0))), (q987, .inl (g.2.1 1, 2, .inl (fun _ => 0))), (q994, .inl (g.2.1 0, 2, .inl (fun _ => 0))), (q1001, .inl (g.2.1 0, 2, .inl (fun _ => 0))), (q1009, .inl (g.2.1 0, 16, .inl (fun _ => 0))), (q1016, .inl (g.2.1 0, 2, .inl (fun _ => 0))), (q1025, .inl (g.2.1 0, 600, .inl (fun _ => 0))), (q1032, .inl (g.2.1 1, 2, .inl (fun _ => 0))), (q1039, .inl (g.2.1 0, 2, .inl (fun _ => 0))), (q1047, .inl (g.2.1 0, 80, .inl (fun _ => 0))), (q1054, .inl (g.2.1 1, 2, .inl (fun _ => 0))), (q1061, .inl (g.2.1 0, 2, .inl (fun _ => 0))), (q1069, .inl (g.2.1 0, 80, .inl (fun _ => 0))), (q1077, .inl (g.2.1 0, 12, .inl (fun _ => 0))), (q1085, .inl (g.2.1 0, 64, .inl (fun _ => 0)))] := hw
  refine lv_aload_n hx hb dX6_init_1090 rfl (lv_at hl 0 rfl) ?_
  refine lv_bipush (v := nI 40) hx hb dX6_init_1091 (by decide) ?_
  refine wnewI (n := 40) hF hw tw100 (by omega) (by decide) (by decide) dX6_init_1093 (fun q1093 H hw => ?_)
  have hw : Wd g _ s H _ [(mo, .inr (5, [.ref q8, .int (nI 0), .ref q931, .ref q938, .ref q945, .ref q952, .ref q959, .ref q966, .ref q973, .ref q980, .ref q987, .ref q994, .ref q1001, .ref q1009, .ref q1016, .ref q1025, .ref q1032, .ref q1039, .ref q1047, .ref q1054, .ref q1061, .ref q1069, .ref q1077, .int (nI 0), .ref q1085, .int (nI 0), .int (nI 0), .null, .int (nI 0), .int (nI 0)])), (q8, .inl (g.2.1 0, 160, .inl fRu)), (q931, .inl (g.2.1 0, 2, .inl (fun _ => 0))), (q938, .inl (g.2.1 0, 2, .inl (fun _ => 0))), (q945, .inl (g.2.1 0, 2, .inl (fun _ => 0))), (q952, .inl (g.2.1 0, 2, .inl (fun _ => 0))), (q959, .inl (g.2.1 0, 2, .inl (fun _ => 0))), (q966, .inl (g.2.1 0, 2, .inl (fun _ => 0))), (q973, .inl (g.2.1 0, 2, .inl (fun _ => 0))), (q980, .inl (g.2.1 1, 2, .inl (fun _ => 0))), (q987, .inl (g.2.1 1, 2, .inl (fun _ => 0))), (q994, .inl (g.2.1 0, 2, .inl (fun _ => 0))), (q1001, .inl (g.2.1 0, 2, .inl (fun _ => 0))), (q1009, .inl (g.2.1 0, 16, .inl (fun _ => 0))), (q1016, .inl (g.2.1 0, 2, .inl (fun _ => 0))), (q1025, .inl (g.2.1 0, 600, .inl (fun _ => 0))), (q1032, .inl (g.2.1 1, 2, .inl (fun _ => 0))), (q1039, .inl (g.2.1 0, 2, .inl (fun _ => 0))), (q1047, .inl (g.2.1 0, 80, .inl (fun _ => 0))), (q1054, .inl (g.2.1 1, 2, .inl (fun _ => 0))), (q1061, .inl (g.2.1 0, 2, .inl (fun _ => 0))), (q1069, .inl (g.2.1 0, 80, .inl (fun _ => 0))), (q1077, .inl (g.2.1 0, 12, .inl (fun _ => 0))), (q1085, .inl (g.2.1 0, 64, .inl (fun _ => 0))), (q1093, .inl (g.2.1 0, 40, .inl (fun _ => 0)))] := hw
  refine wputF hF hw flX6_80 ftX6 rfl tw787 dX6_init_1095 0 rfl rfl hnm rfl rfl rfl (Nat.le_of_ble_eq_true rfl) (fun H locs hw => ?_)
  have hw : Wd g _ s H locs [(mo, .inr (5, [.ref q8, .int (nI 0), .ref q931, .ref q938, .ref q945, .ref q952, .ref q959, .ref q966, .ref q973, .ref q980, .ref q987, .ref q994, .ref q1001, .ref q1009, .ref q1016, .ref q1025, .ref q1032, .ref q1039, .ref q1047, .ref q1054, .ref q1061, .ref q1069, .ref q1077, .int (nI 0), .ref q1085, .int (nI 0), .int (nI 0), .ref q1093, .int (nI 0), .int (nI 0)])), (q8, .inl (g.2.1 0, 160, .inl fRu)), (q931, .inl (g.2.1 0, 2, .inl (fun _ => 0))), (q938, .inl (g.2.1 0, 2, .inl (fun _ => 0))), (q945, .inl (g.2.1 0, 2, .inl (fun _ => 0))), (q952, .inl (g.2.1 0, 2, .inl (fun _ => 0))), (q959, .inl (g.2.1 0, 2, .inl (fun _ => 0))), (q966, .inl (g.2.1 0, 2, .inl (fun _ => 0))), (q973, .inl (g.2.1 0, 2, .inl (fun _ => 0))), (q980, .inl (g.2.1 1, 2, .inl (fun _ => 0))), (q987, .inl (g.2.1 1, 2, .inl (fun _ => 0))), (q994, .inl (g.2.1 0, 2, .inl (fun _ => 0))), (q1001, .inl (g.2.1 0, 2, .inl (fun _ => 0))), (q1009, .inl (g.2.1 0, 16, .inl (fun _ => 0))), (q1016, .inl (g.2.1 0, 2, .inl (fun _ => 0))), (q1025, .inl (g.2.1 0, 600, .inl (fun _ => 0))), (q1032, .inl (g.2.1 1, 2, .inl (fun _ => 0))), (q1039, .inl (g.2.1 0, 2, .inl (fun _ => 0))), (q1047, .inl (g.2.1 0, 80, .inl (fun _ => 0))), (q1054, .inl (g.2.1 1, 2, .inl (fun _ => 0))), (q1061, .inl (g.2.1 0, 2, .inl (fun _ => 0))), (q1069, .inl (g.2.1 0, 80, .inl (fun _ => 0))), (q1077, .inl (g.2.1 0, 12, .inl (fun _ => 0))), (q1085, .inl (g.2.1 0, 64, .inl (fun _ => 0))), (q1093, .inl (g.2.1 0, 40, .inl (fun _ => 0)))] := hw
  refine lv_iconst (v := nI 0) hx hb dX6_init_1098 (by decide) ?_
  refine lv_istore_n (lv' := [(1, .int (nI 0)), (0, .ref mo)]) hx hb dX6_init_1099 rfl hl (by decide) rfl (fun ls hl => ?_)
  refine lv_iload_n hx hb dX6_init_1100 rfl (lv_at hl 0 rfl) ?_
  refine lv_iconst (v := nI 2) hx hb dX6_init_1101 (by decide) ?_
  refine r_ge (tgt := 1149) hx hb dX6_init_1102 (by decide) (by omega) (by omega) (fun c_1102 => ?_) (fun c_1102 => ?_)
  · exact absurd c_1102 (by decide)
  · refine lv_aload_n hx hb dX6_init_1105 rfl (lv_at hl 1 rfl) ?_
    refine wget hF hw flX6_16 dX6_init_1106 0 rfl rfl ?_
    refine lv_iload_n hx hb dX6_init_1109 rfl (lv_at hl 0 rfl) ?_
    refine lv_sipush (v := nI 1500) hx hb dX6_init_1110 (by decide) ?_
    refine r_iast (ws' := [(mo, .inr (5, [.ref q8, .int (nI 0), .ref q931, .ref q938, .ref q945, .ref q952, .ref q959, .ref q966, .ref q973, .ref q980, .ref q987, .ref q994, .ref q1001, .ref q1009, .ref q1016, .ref q1025, .ref q1032, .ref q1039, .ref q1047, .ref q1054, .ref q1061, .ref q1069, .ref q1077, .int (nI 0), .ref q1085, .int (nI 0), .int (nI 0), .ref q1093, .int (nI 0), .int (nI 0)])), (q8, .inl (g.2.1 0, 160, .inl fRu)), (q931, .inl (g.2.1 0, 2, .inl (fun _ => 0))), (q938, .inl (g.2.1 0, 2, .inl (upd (fun _ => 0) 0 (nI 1500)))), (q945, .inl (g.2.1 0, 2, .inl (fun _ => 0))), (q952, .inl (g.2.1 0, 2, .inl (fun _ => 0))), (q959, .inl (g.2.1 0, 2, .inl (fun _ => 0))), (q966, .inl (g.2.1 0, 2, .inl (fun _ => 0))), (q973, .inl (g.2.1 0, 2, .inl (fun _ => 0))), (q980, .inl (g.2.1 1, 2, .inl (fun _ => 0))), (q987, .inl (g.2.1 1, 2, .inl (fun _ => 0))), (q994, .inl (g.2.1 0, 2, .inl (fun _ => 0))), (q1001, .inl (g.2.1 0, 2, .inl (fun _ => 0))), (q1009, .inl (g.2.1 0, 16, .inl (fun _ => 0))), (q1016, .inl (g.2.1 0, 2, .inl (fun _ => 0))), (q1025, .inl (g.2.1 0, 600, .inl (fun _ => 0))), (q1032, .inl (g.2.1 1, 2, .inl (fun _ => 0))), (q1039, .inl (g.2.1 0, 2, .inl (fun _ => 0))), (q1047, .inl (g.2.1 0, 80, .inl (fun _ => 0))), (q1054, .inl (g.2.1 1, 2, .inl (fun _ => 0))), (q1061, .inl (g.2.1 0, 2, .inl (fun _ => 0))), (q1069, .inl (g.2.1 0, 80, .inl (fun _ => 0))), (q1077, .inl (g.2.1 0, 12, .inl (fun _ => 0))), (q1085, .inl (g.2.1 0, 64, .inl (fun _ => 0))), (q1093, .inl (g.2.1 0, 40, .inl (fun _ => 0)))]) hF hw dX6_init_1113 3 rfl (by omega) (by omega) rfl (fun H locs hw => ?_)
    refine lv_aload_n hx hb dX6_init_1114 rfl (lv_at hl 1 rfl) ?_
    refine wget hF hw flX6_19 dX6_init_1115 0 rfl rfl ?_
    refine lv_iload_n hx hb dX6_init_1118 rfl (lv_at hl 0 rfl) ?_
    refine lv_bipush (v := nI 64) hx hb dX6_init_1119 (by decide) ?_
    refine r_iast (ws' := [(mo, .inr (5, [.ref q8, .int (nI 0), .ref q931, .ref q938, .ref q945, .ref q952, .ref q959, .ref q966, .ref q973, .ref q980, .ref q987, .ref q994, .ref q1001, .ref q1009, .ref q1016, .ref q1025, .ref q1032, .ref q1039, .ref q1047, .ref q1054, .ref q1061, .ref q1069, .ref q1077, .int (nI 0), .ref q1085, .int (nI 0), .int (nI 0), .ref q1093, .int (nI 0), .int (nI 0)])), (q8, .inl (g.2.1 0, 160, .inl fRu)), (q931, .inl (g.2.1 0, 2, .inl (fun _ => 0))), (q938, .inl (g.2.1 0, 2, .inl (upd (fun _ => 0) 0 (nI 1500)))), (q945, .inl (g.2.1 0, 2, .inl (upd (fun _ => 0) 0 (nI 64)))), (q952, .inl (g.2.1 0, 2, .inl (fun _ => 0))), (q959, .inl (g.2.1 0, 2, .inl (fun _ => 0))), (q966, .inl (g.2.1 0, 2, .inl (fun _ => 0))), (q973, .inl (g.2.1 0, 2, .inl (fun _ => 0))), (q980, .inl (g.2.1 1, 2, .inl (fun _ => 0))), (q987, .inl (g.2.1 1, 2, .inl (fun _ => 0))), (q994, .inl (g.2.1 0, 2, .inl (fun _ => 0))), (q1001, .inl (g.2.1 0, 2, .inl (fun _ => 0))), (q1009, .inl (g.2.1 0, 16, .inl (fun _ => 0))), (q1016, .inl (g.2.1 0, 2, .inl (fun _ => 0))), (q1025, .inl (g.2.1 0, 600, .inl (fun _ => 0))), (q1032, .inl (g.2.1 1, 2, .inl (fun _ => 0))), (q1039, .inl (g.2.1 0, 2, .inl (fun _ => 0))), (q1047, .inl (g.2.1 0, 80, .inl (fun _ => 0))), (q1054, .inl (g.2.1 1, 2, .inl (fun _ => 0))), (q1061, .inl (g.2.1 0, 2, .inl (fun _ => 0))), (q1069, .inl (g.2.1 0, 80, .inl (fun _ => 0))), (q1077, .inl (g.2.1 0, 12, .inl (fun _ => 0))), (q1085, .inl (g.2.1 0, 64, .inl (fun _ => 0))), (q1093, .inl (g.2.1 0, 40, .inl (fun _ => 0)))]) hF hw dX6_init_1121 4 rfl (by omega) (by omega) rfl (fun H locs hw => ?_)
    refine lv_aload_n hx hb dX6_init_1122 rfl (lv_at hl 1 rfl) ?_
    refine wget hF hw flX6_34 dX6_init_1123 0 rfl rfl ?_
    refine lv_iload_n hx hb dX6_init_1126 rfl (lv_at hl 0 rfl) ?_
    refine lv_iconst (v := nI 1) hx hb dX6_init_1127 (by decide) ?_
    refine r_zast (ws' := [(mo, .inr (5, [.ref q8, .int (nI 0), .ref q931, .ref q938, .ref q945, .ref q952, .ref q959, .ref q966, .ref q973, .ref q980, .ref q987, .ref q994, .ref q1001, .ref q1009, .ref q1016, .ref q1025, .ref q1032, .ref q1039, .ref q1047, .ref q1054, .ref q1061, .ref q1069, .ref q1077, .int (nI 0), .ref q1085, .int (nI 0), .int (nI 0), .ref q1093, .int (nI 0), .int (nI 0)])), (q8, .inl (g.2.1 0, 160, .inl fRu)), (q931, .inl (g.2.1 0, 2, .inl (fun _ => 0))), (q938, .inl (g.2.1 0, 2, .inl (upd (fun _ => 0) 0 (nI 1500)))), (q945, .inl (g.2.1 0, 2, .inl (upd (fun _ => 0) 0 (nI 64)))), (q952, .inl (g.2.1 0, 2, .inl (fun _ => 0))), (q959, .inl (g.2.1 0, 2, .inl (fun _ => 0))), (q966, .inl (g.2.1 0, 2, .inl (fun _ => 0))), (q973, .inl (g.2.1 0, 2, .inl (fun _ => 0))), (q980, .inl (g.2.1 1, 2, .inl (upd (fun _ => 0) 0 (nI 1)))), (q987, .inl (g.2.1 1, 2, .inl (fun _ => 0))), (q994, .inl (g.2.1 0, 2, .inl (fun _ => 0))), (q1001, .inl (g.2.1 0, 2, .inl (fun _ => 0))), (q1009, .inl (g.2.1 0, 16, .inl (fun _ => 0))), (q1016, .inl (g.2.1 0, 2, .inl (fun _ => 0))), (q1025, .inl (g.2.1 0, 600, .inl (fun _ => 0))), (q1032, .inl (g.2.1 1, 2, .inl (fun _ => 0))), (q1039, .inl (g.2.1 0, 2, .inl (fun _ => 0))), (q1047, .inl (g.2.1 0, 80, .inl (fun _ => 0))), (q1054, .inl (g.2.1 1, 2, .inl (fun _ => 0))), (q1061, .inl (g.2.1 0, 2, .inl (fun _ => 0))), (q1069, .inl (g.2.1 0, 80, .inl (fun _ => 0))), (q1077, .inl (g.2.1 0, 12, .inl (fun _ => 0))), (q1085, .inl (g.2.1 0, 64, .inl (fun _ => 0))), (q1093, .inl (g.2.1 0, 40, .inl (fun _ => 0)))]) hF hw dX6_init_1128 9 rfl (by omega) (by omega) (rfl) rfl (fun H locs hw => ?_)
    refine lv_aload_n hx hb dX6_init_1129 rfl (lv_at hl 1 rfl) ?_
    refine wget hF hw flX6_38 dX6_init_1130 0 rfl rfl ?_
    refine lv_iload_n hx hb dX6_init_1133 rfl (lv_at hl 0 rfl) ?_
    refine lv_iconst (v := nI 1) hx hb dX6_init_1134 (by decide) ?_
    refine r_zast (ws' := [(mo, .inr (5, [.ref q8, .int (nI 0), .ref q931, .ref q938, .ref q945, .ref q952, .ref q959, .ref q966, .ref q973, .ref q980, .ref q987, .ref q994, .ref q1001, .ref q1009, .ref q1016, .ref q1025, .ref q1032, .ref q1039, .ref q1047, .ref q1054, .ref q1061, .ref q1069, .ref q1077, .int (nI 0), .ref q1085, .int (nI 0), .int (nI 0), .ref q1093, .int (nI 0), .int (nI 0)])), (q8, .inl (g.2.1 0, 160, .inl fRu)), (q931, .inl (g.2.1 0, 2, .inl (fun _ => 0))), (q938, .inl (g.2.1 0, 2, .inl (upd (fun _ => 0) 0 (nI 1500)))), (q945, .inl (g.2.1 0, 2, .inl (upd (fun _ => 0) 0 (nI 64)))), (q952, .inl (g.2.1 0, 2, .inl (fun _ => 0))), (q959, .inl (g.2.1 0, 2, .inl (fun _ => 0))), (q966, .inl (g.2.1 0, 2, .inl (fun _ => 0))), (q973, .inl (g.2.1 0, 2, .inl (fun _ => 0))), (q980, .inl (g.2.1 1, 2, .inl (upd (fun _ => 0) 0 (nI 1)))), (q987, .inl (g.2.1 1, 2, .inl (upd (fun _ => 0) 0 (nI 1)))), (q994, .inl (g.2.1 0, 2, .inl (fun _ => 0))), (q1001, .inl (g.2.1 0, 2, .inl (fun _ => 0))), (q1009, .inl (g.2.1 0, 16, .inl (fun _ => 0))), (q1016, .inl (g.2.1 0, 2, .inl (fun _ => 0))), (q1025, .inl (g.2.1 0, 600, .inl (fun _ => 0))), (q1032, .inl (g.2.1 1, 2, .inl (fun _ => 0))), (q1039, .inl (g.2.1 0, 2, .inl (fun _ => 0))), (q1047, .inl (g.2.1 0, 80, .inl (fun _ => 0))), (q1054, .inl (g.2.1 1, 2, .inl (fun _ => 0))), (q1061, .inl (g.2.1 0, 2, .inl (fun _ => 0))), (q1069, .inl (g.2.1 0, 80, .inl (fun _ => 0))), (q1077, .inl (g.2.1 0, 12, .inl (fun _ => 0))), (q1085, .inl (g.2.1 0, 64, .inl (fun _ => 0))), (q1093, .inl (g.2.1 0, 40, .inl (fun _ => 0)))]) hF hw dX6_init_1135 10 rfl (by omega) (by omega) (rfl) rfl (fun H locs hw => ?_)
    refine lv_aload_n hx hb dX6_init_1136 rfl (lv_at hl 1 rfl) ?_
    refine wget hF hw flX6_41 dX6_init_1137 0 rfl rfl ?_
    refine lv_iload_n hx hb dX6_init_1140 rfl (lv_at hl 0 rfl) ?_
    refine lv_iconst (v := -1) hx hb dX6_init_1141 (by decide) ?_
    refine r_iast (ws' := [(mo, .inr (5, [.ref q8, .int (nI 0), .ref q931, .ref q938, .ref q945, .ref q952, .ref q959, .ref q966, .ref q973, .ref q980, .ref q987, .ref q994, .ref q1001, .ref q1009, .ref q1016, .ref q1025, .ref q1032, .ref q1039, .ref q1047, .ref q1054, .ref q1061, .ref q1069, .ref q1077, .int (nI 0), .ref q1085, .int (nI 0), .int (nI 0), .ref q1093, .int (nI 0), .int (nI 0)])), (q8, .inl (g.2.1 0, 160, .inl fRu)), (q931, .inl (g.2.1 0, 2, .inl (fun _ => 0))), (q938, .inl (g.2.1 0, 2, .inl (upd (fun _ => 0) 0 (nI 1500)))), (q945, .inl (g.2.1 0, 2, .inl (upd (fun _ => 0) 0 (nI 64)))), (q952, .inl (g.2.1 0, 2, .inl (fun _ => 0))), (q959, .inl (g.2.1 0, 2, .inl (fun _ => 0))), (q966, .inl (g.2.1 0, 2, .inl (fun _ => 0))), (q973, .inl (g.2.1 0, 2, .inl (fun _ => 0))), (q980, .inl (g.2.1 1, 2, .inl (upd (fun _ => 0) 0 (nI 1)))), (q987, .inl (g.2.1 1, 2, .inl (upd (fun _ => 0) 0 (nI 1)))), (q994, .inl (g.2.1 0, 2, .inl (upd (fun _ => 0) 0 (-1)))), (q1001, .inl (g.2.1 0, 2, .inl (fun _ => 0))), (q1009, .inl (g.2.1 0, 16, .inl (fun _ => 0))), (q1016, .inl (g.2.1 0, 2, .inl (fun _ => 0))), (q1025, .inl (g.2.1 0, 600, .inl (fun _ => 0))), (q1032, .inl (g.2.1 1, 2, .inl (fun _ => 0))), (q1039, .inl (g.2.1 0, 2, .inl (fun _ => 0))), (q1047, .inl (g.2.1 0, 80, .inl (fun _ => 0))), (q1054, .inl (g.2.1 1, 2, .inl (fun _ => 0))), (q1061, .inl (g.2.1 0, 2, .inl (fun _ => 0))), (q1069, .inl (g.2.1 0, 80, .inl (fun _ => 0))), (q1077, .inl (g.2.1 0, 12, .inl (fun _ => 0))), (q1085, .inl (g.2.1 0, 64, .inl (fun _ => 0))), (q1093, .inl (g.2.1 0, 40, .inl (fun _ => 0)))]) hF hw dX6_init_1142 11 rfl (by omega) (by omega) rfl (fun H locs hw => ?_)
    refine r_iinc (k := 0) (d := 1) (lv' := [(1, .int (nI (0 + 1))), (0, .ref mo)]) hx hb dX6_init_1143 hl rfl (by decide) (by decide) rfl (fun ls hl => ?_)
    refine lv_goto (tgt := 1100) hx hb dX6_init_1146 (by decide) ?_
    refine lv_iload_n hx hb dX6_init_1100 rfl (lv_at hl 0 rfl) ?_
    refine lv_iconst (v := nI 2) hx hb dX6_init_1101 (by decide) ?_
    refine r_ge (tgt := 1149) hx hb dX6_init_1102 (by decide) (by omega) (by omega) (fun c_1102 => ?_) (fun c_1102 => ?_)
    · exact absurd c_1102 (by decide)
    · refine lv_aload_n hx hb dX6_init_1105 rfl (lv_at hl 1 rfl) ?_
      refine wget hF hw flX6_16 dX6_init_1106 0 rfl rfl ?_
      refine lv_iload_n hx hb dX6_init_1109 rfl (lv_at hl 0 rfl) ?_
      refine lv_sipush (v := nI 1500) hx hb dX6_init_1110 (by decide) ?_
      refine r_iast (ws' := [(mo, .inr (5, [.ref q8, .int (nI 0), .ref q931, .ref q938, .ref q945, .ref q952, .ref q959, .ref q966, .ref q973, .ref q980, .ref q987, .ref q994, .ref q1001, .ref q1009, .ref q1016, .ref q1025, .ref q1032, .ref q1039, .ref q1047, .ref q1054, .ref q1061, .ref q1069, .ref q1077, .int (nI 0), .ref q1085, .int (nI 0), .int (nI 0), .ref q1093, .int (nI 0), .int (nI 0)])), (q8, .inl (g.2.1 0, 160, .inl fRu)), (q931, .inl (g.2.1 0, 2, .inl (fun _ => 0))), (q938, .inl (g.2.1 0, 2, .inl (upd (upd (fun _ => 0) 0 (nI 1500)) (0 + 1) (nI 1500)))), (q945, .inl (g.2.1 0, 2, .inl (upd (fun _ => 0) 0 (nI 64)))), (q952, .inl (g.2.1 0, 2, .inl (fun _ => 0))), (q959, .inl (g.2.1 0, 2, .inl (fun _ => 0))), (q966, .inl (g.2.1 0, 2, .inl (fun _ => 0))), (q973, .inl (g.2.1 0, 2, .inl (fun _ => 0))), (q980, .inl (g.2.1 1, 2, .inl (upd (fun _ => 0) 0 (nI 1)))), (q987, .inl (g.2.1 1, 2, .inl (upd (fun _ => 0) 0 (nI 1)))), (q994, .inl (g.2.1 0, 2, .inl (upd (fun _ => 0) 0 (-1)))), (q1001, .inl (g.2.1 0, 2, .inl (fun _ => 0))), (q1009, .inl (g.2.1 0, 16, .inl (fun _ => 0))), (q1016, .inl (g.2.1 0, 2, .inl (fun _ => 0))), (q1025, .inl (g.2.1 0, 600, .inl (fun _ => 0))), (q1032, .inl (g.2.1 1, 2, .inl (fun _ => 0))), (q1039, .inl (g.2.1 0, 2, .inl (fun _ => 0))), (q1047, .inl (g.2.1 0, 80, .inl (fun _ => 0))), (q1054, .inl (g.2.1 1, 2, .inl (fun _ => 0))), (q1061, .inl (g.2.1 0, 2, .inl (fun _ => 0))), (q1069, .inl (g.2.1 0, 80, .inl (fun _ => 0))), (q1077, .inl (g.2.1 0, 12, .inl (fun _ => 0))), (q1085, .inl (g.2.1 0, 64, .inl (fun _ => 0))), (q1093, .inl (g.2.1 0, 40, .inl (fun _ => 0)))]) hF hw dX6_init_1113 3 rfl (by omega) (by omega) rfl (fun H locs hw => ?_)
      refine lv_aload_n hx hb dX6_init_1114 rfl (lv_at hl 1 rfl) ?_
      refine wget hF hw flX6_19 dX6_init_1115 0 rfl rfl ?_
      refine lv_iload_n hx hb dX6_init_1118 rfl (lv_at hl 0 rfl) ?_
      refine lv_bipush (v := nI 64) hx hb dX6_init_1119 (by decide) ?_
      refine r_iast (ws' := [(mo, .inr (5, [.ref q8, .int (nI 0), .ref q931, .ref q938, .ref q945, .ref q952, .ref q959, .ref q966, .ref q973, .ref q980, .ref q987, .ref q994, .ref q1001, .ref q1009, .ref q1016, .ref q1025, .ref q1032, .ref q1039, .ref q1047, .ref q1054, .ref q1061, .ref q1069, .ref q1077, .int (nI 0), .ref q1085, .int (nI 0), .int (nI 0), .ref q1093, .int (nI 0), .int (nI 0)])), (q8, .inl (g.2.1 0, 160, .inl fRu)), (q931, .inl (g.2.1 0, 2, .inl (fun _ => 0))), (q938, .inl (g.2.1 0, 2, .inl (upd (upd (fun _ => 0) 0 (nI 1500)) (0 + 1) (nI 1500)))), (q945, .inl (g.2.1 0, 2, .inl (upd (upd (fun _ => 0) 0 (nI 64)) (0 + 1) (nI 64)))), (q952, .inl (g.2.1 0, 2, .inl (fun _ => 0))), (q959, .inl (g.2.1 0, 2, .inl (fun _ => 0))), (q966, .inl (g.2.1 0, 2, .inl (fun _ => 0))), (q973, .inl (g.2.1 0, 2, .inl (fun _ => 0))), (q980, .inl (g.2.1 1, 2, .inl (upd (fun _ => 0) 0 (nI 1)))), (q987, .inl (g.2.1 1, 2, .inl (upd (fun _ => 0) 0 (nI 1)))), (q994, .inl (g.2.1 0, 2, .inl (upd (fun _ => 0) 0 (-1)))), (q1001, .inl (g.2.1 0, 2, .inl (fun _ => 0))), (q1009, .inl (g.2.1 0, 16, .inl (fun _ => 0))), (q1016, .inl (g.2.1 0, 2, .inl (fun _ => 0))), (q1025, .inl (g.2.1 0, 600, .inl (fun _ => 0))), (q1032, .inl (g.2.1 1, 2, .inl (fun _ => 0))), (q1039, .inl (g.2.1 0, 2, .inl (fun _ => 0))), (q1047, .inl (g.2.1 0, 80, .inl (fun _ => 0))), (q1054, .inl (g.2.1 1, 2, .inl (fun _ => 0))), (q1061, .inl (g.2.1 0, 2, .inl (fun _ => 0))), (q1069, .inl (g.2.1 0, 80, .inl (fun _ => 0))), (q1077, .inl (g.2.1 0, 12, .inl (fun _ => 0))), (q1085, .inl (g.2.1 0, 64, .inl (fun _ => 0))), (q1093, .inl (g.2.1 0, 40, .inl (fun _ => 0)))]) hF hw dX6_init_1121 4 rfl (by omega) (by omega) rfl (fun H locs hw => ?_)
      refine lv_aload_n hx hb dX6_init_1122 rfl (lv_at hl 1 rfl) ?_
      refine wget hF hw flX6_34 dX6_init_1123 0 rfl rfl ?_
      refine lv_iload_n hx hb dX6_init_1126 rfl (lv_at hl 0 rfl) ?_
      refine lv_iconst (v := nI 1) hx hb dX6_init_1127 (by decide) ?_
      refine r_zast (ws' := [(mo, .inr (5, [.ref q8, .int (nI 0), .ref q931, .ref q938, .ref q945, .ref q952, .ref q959, .ref q966, .ref q973, .ref q980, .ref q987, .ref q994, .ref q1001, .ref q1009, .ref q1016, .ref q1025, .ref q1032, .ref q1039, .ref q1047, .ref q1054, .ref q1061, .ref q1069, .ref q1077, .int (nI 0), .ref q1085, .int (nI 0), .int (nI 0), .ref q1093, .int (nI 0), .int (nI 0)])), (q8, .inl (g.2.1 0, 160, .inl fRu)), (q931, .inl (g.2.1 0, 2, .inl (fun _ => 0))), (q938, .inl (g.2.1 0, 2, .inl (upd (upd (fun _ => 0) 0 (nI 1500)) (0 + 1) (nI 1500)))), (q945, .inl (g.2.1 0, 2, .inl (upd (upd (fun _ => 0) 0 (nI 64)) (0 + 1) (nI 64)))), (q952, .inl (g.2.1 0, 2, .inl (fun _ => 0))), (q959, .inl (g.2.1 0, 2, .inl (fun _ => 0))), (q966, .inl (g.2.1 0, 2, .inl (fun _ => 0))), (q973, .inl (g.2.1 0, 2, .inl (fun _ => 0))), (q980, .inl (g.2.1 1, 2, .inl (upd (upd (fun _ => 0) 0 (nI 1)) (0 + 1) (nI 1)))), (q987, .inl (g.2.1 1, 2, .inl (upd (fun _ => 0) 0 (nI 1)))), (q994, .inl (g.2.1 0, 2, .inl (upd (fun _ => 0) 0 (-1)))), (q1001, .inl (g.2.1 0, 2, .inl (fun _ => 0))), (q1009, .inl (g.2.1 0, 16, .inl (fun _ => 0))), (q1016, .inl (g.2.1 0, 2, .inl (fun _ => 0))), (q1025, .inl (g.2.1 0, 600, .inl (fun _ => 0))), (q1032, .inl (g.2.1 1, 2, .inl (fun _ => 0))), (q1039, .inl (g.2.1 0, 2, .inl (fun _ => 0))), (q1047, .inl (g.2.1 0, 80, .inl (fun _ => 0))), (q1054, .inl (g.2.1 1, 2, .inl (fun _ => 0))), (q1061, .inl (g.2.1 0, 2, .inl (fun _ => 0))), (q1069, .inl (g.2.1 0, 80, .inl (fun _ => 0))), (q1077, .inl (g.2.1 0, 12, .inl (fun _ => 0))), (q1085, .inl (g.2.1 0, 64, .inl (fun _ => 0))), (q1093, .inl (g.2.1 0, 40, .inl (fun _ => 0)))]) hF hw dX6_init_1128 9 rfl (by omega) (by omega) (rfl) rfl (fun H locs hw => ?_)
      refine lv_aload_n hx hb dX6_init_1129 rfl (lv_at hl 1 rfl) ?_
      refine wget hF hw flX6_38 dX6_init_1130 0 rfl rfl ?_
      refine lv_iload_n hx hb dX6_init_1133 rfl (lv_at hl 0 rfl) ?_
      refine lv_iconst (v := nI 1) hx hb dX6_init_1134 (by decide) ?_
      refine r_zast (ws' := [(mo, .inr (5, [.ref q8, .int (nI 0), .ref q931, .ref q938, .ref q945, .ref q952, .ref q959, .ref q966, .ref q973, .ref q980, .ref q987, .ref q994, .ref q1001, .ref q1009, .ref q1016, .ref q1025, .ref q1032, .ref q1039, .ref q1047, .ref q1054, .ref q1061, .ref q1069, .ref q1077, .int (nI 0), .ref q1085, .int (nI 0), .int (nI 0), .ref q1093, .int (nI 0), .int (nI 0)])), (q8, .inl (g.2.1 0, 160, .inl fRu)), (q931, .inl (g.2.1 0, 2, .inl (fun _ => 0))), (q938, .inl (g.2.1 0, 2, .inl (upd (upd (fun _ => 0) 0 (nI 1500)) (0 + 1) (nI 1500)))), (q945, .inl (g.2.1 0, 2, .inl (upd (upd (fun _ => 0) 0 (nI 64)) (0 + 1) (nI 64)))), (q952, .inl (g.2.1 0, 2, .inl (fun _ => 0))), (q959, .inl (g.2.1 0, 2, .inl (fun _ => 0))), (q966, .inl (g.2.1 0, 2, .inl (fun _ => 0))), (q973, .inl (g.2.1 0, 2, .inl (fun _ => 0))), (q980, .inl (g.2.1 1, 2, .inl (upd (upd (fun _ => 0) 0 (nI 1)) (0 + 1) (nI 1)))), (q987, .inl (g.2.1 1, 2, .inl (upd (upd (fun _ => 0) 0 (nI 1)) (0 + 1) (nI 1)))), (q994, .inl (g.2.1 0, 2, .inl (upd (fun _ => 0) 0 (-1)))), (q1001, .inl (g.2.1 0, 2, .inl (fun _ => 0))), (q1009, .inl (g.2.1 0, 16, .inl (fun _ => 0))), (q1016, .inl (g.2.1 0, 2, .inl (fun _ => 0))), (q1025, .inl (g.2.1 0, 600, .inl (fun _ => 0))), (q1032, .inl (g.2.1 1, 2, .inl (fun _ => 0))), (q1039, .inl (g.2.1 0, 2, .inl (fun _ => 0))), (q1047, .inl (g.2.1 0, 80, .inl (fun _ => 0))), (q1054, .inl (g.2.1 1, 2, .inl (fun _ => 0))), (q1061, .inl (g.2.1 0, 2, .inl (fun _ => 0))), (q1069, .inl (g.2.1 0, 80, .inl (fun _ => 0))), (q1077, .inl (g.2.1 0, 12, .inl (fun _ => 0))), (q1085, .inl (g.2.1 0, 64, .inl (fun _ => 0))), (q1093, .inl (g.2.1 0, 40, .inl (fun _ => 0)))]) hF hw dX6_init_1135 10 rfl (by omega) (by omega) (rfl) rfl (fun H locs hw => ?_)
      refine lv_aload_n hx hb dX6_init_1136 rfl (lv_at hl 1 rfl) ?_
      refine wget hF hw flX6_41 dX6_init_1137 0 rfl rfl ?_
      refine lv_iload_n hx hb dX6_init_1140 rfl (lv_at hl 0 rfl) ?_
      refine lv_iconst (v := -1) hx hb dX6_init_1141 (by decide) ?_
      refine r_iast (ws' := [(mo, .inr (5, [.ref q8, .int (nI 0), .ref q931, .ref q938, .ref q945, .ref q952, .ref q959, .ref q966, .ref q973, .ref q980, .ref q987, .ref q994, .ref q1001, .ref q1009, .ref q1016, .ref q1025, .ref q1032, .ref q1039, .ref q1047, .ref q1054, .ref q1061, .ref q1069, .ref q1077, .int (nI 0), .ref q1085, .int (nI 0), .int (nI 0), .ref q1093, .int (nI 0), .int (nI 0)])), (q8, .inl (g.2.1 0, 160, .inl fRu)), (q931, .inl (g.2.1 0, 2, .inl (fun _ => 0))), (q938, .inl (g.2.1 0, 2, .inl (upd (upd (fun _ => 0) 0 (nI 1500)) (0 + 1) (nI 1500)))), (q945, .inl (g.2.1 0, 2, .inl (upd (upd (fun _ => 0) 0 (nI 64)) (0 + 1) (nI 64)))), (q952, .inl (g.2.1 0, 2, .inl (fun _ => 0))), (q959, .inl (g.2.1 0, 2, .inl (fun _ => 0))), (q966, .inl (g.2.1 0, 2, .inl (fun _ => 0))), (q973, .inl (g.2.1 0, 2, .inl (fun _ => 0))), (q980, .inl (g.2.1 1, 2, .inl (upd (upd (fun _ => 0) 0 (nI 1)) (0 + 1) (nI 1)))), (q987, .inl (g.2.1 1, 2, .inl (upd (upd (fun _ => 0) 0 (nI 1)) (0 + 1) (nI 1)))), (q994, .inl (g.2.1 0, 2, .inl (upd (upd (fun _ => 0) 0 (-1)) (0 + 1) (-1)))), (q1001, .inl (g.2.1 0, 2, .inl (fun _ => 0))), (q1009, .inl (g.2.1 0, 16, .inl (fun _ => 0))), (q1016, .inl (g.2.1 0, 2, .inl (fun _ => 0))), (q1025, .inl (g.2.1 0, 600, .inl (fun _ => 0))), (q1032, .inl (g.2.1 1, 2, .inl (fun _ => 0))), (q1039, .inl (g.2.1 0, 2, .inl (fun _ => 0))), (q1047, .inl (g.2.1 0, 80, .inl (fun _ => 0))), (q1054, .inl (g.2.1 1, 2, .inl (fun _ => 0))), (q1061, .inl (g.2.1 0, 2, .inl (fun _ => 0))), (q1069, .inl (g.2.1 0, 80, .inl (fun _ => 0))), (q1077, .inl (g.2.1 0, 12, .inl (fun _ => 0))), (q1085, .inl (g.2.1 0, 64, .inl (fun _ => 0))), (q1093, .inl (g.2.1 0, 40, .inl (fun _ => 0)))]) hF hw dX6_init_1142 11 rfl (by omega) (by omega) rfl (fun H locs hw => ?_)
      refine r_iinc (k := 0) (d := 1) (lv' := [(1, .int (nI (0 + 1 + 1))), (0, .ref mo)]) hx hb dX6_init_1143 hl rfl (by decide) (by decide) rfl (fun ls hl => ?_)
      refine lv_goto (tgt := 1100) hx hb dX6_init_1146 (by decide) ?_
      refine lv_iload_n hx hb dX6_init_1100 rfl (lv_at hl 0 rfl) ?_
      refine lv_iconst (v := nI 2) hx hb dX6_init_1101 (by decide) ?_
      refine r_ge (tgt := 1149) hx hb dX6_init_1102 (by decide) (by omega) (by omega) (fun c_1102 => ?_) (fun c_1102 => ?_)
      · have hw := Wd.sub (ws' := [(mo, .inr (5, [.ref q8, .int (nI 0), .ref q931, .ref q938, .ref q945, .ref q952, .ref q959, .ref q966, .ref q973, .ref q980, .ref q987, .ref q994, .ref q1001, .ref q1009, .ref q1016, .ref q1025, .ref q1032, .ref q1039, .ref q1047, .ref q1054, .ref q1061, .ref q1069, .ref q1077, .int (nI 0), .ref q1085, .int (nI 0), .int (nI 0), .ref q1093, .int (nI 0), .int (nI 0)])), (q938, .inl (g.2.1 0, 2, .inl (upd (upd (fun _ => 0) 0 (nI 1500)) (0 + 1) (nI 1500)))), (q952, .inl (g.2.1 0, 2, .inl (fun _ => 0))), (q980, .inl (g.2.1 1, 2, .inl (upd (upd (fun _ => 0) 0 (nI 1)) (0 + 1) (nI 1)))), (q987, .inl (g.2.1 1, 2, .inl (upd (upd (fun _ => 0) 0 (nI 1)) (0 + 1) (nI 1)))), (q959, .inl (g.2.1 0, 2, .inl (fun _ => 0))), (q966, .inl (g.2.1 0, 2, .inl (fun _ => 0))), (q973, .inl (g.2.1 0, 2, .inl (fun _ => 0))), (q994, .inl (g.2.1 0, 2, .inl (upd (upd (fun _ => 0) 0 (-1)) (0 + 1) (-1)))), (q1001, .inl (g.2.1 0, 2, .inl (fun _ => 0))), (q1009, .inl (g.2.1 0, 16, .inl (fun _ => 0))), (q1016, .inl (g.2.1 0, 2, .inl (fun _ => 0))), (q1025, .inl (g.2.1 0, 600, .inl (fun _ => 0))), (q1077, .inl (g.2.1 0, 12, .inl (fun _ => 0))), (q1085, .inl (g.2.1 0, 64, .inl (fun _ => 0))), (q1093, .inl (g.2.1 0, 40, .inl (fun _ => 0))), (q8, .inl (g.2.1 0, 160, .inl fRu)), (q931, .inl (g.2.1 0, 2, .inl (fun _ => 0))), (q945, .inl (g.2.1 0, 2, .inl (upd (upd (fun _ => 0) 0 (nI 64)) (0 + 1) (nI 64)))), (q1047, .inl (g.2.1 0, 80, .inl (fun _ => 0))), (q1039, .inl (g.2.1 0, 2, .inl (fun _ => 0))), (q1054, .inl (g.2.1 1, 2, .inl (fun _ => 0))), (q1061, .inl (g.2.1 0, 2, .inl (fun _ => 0))), (q1069, .inl (g.2.1 0, 80, .inl (fun _ => 0))), (q1032, .inl (g.2.1 1, 2, .inl (fun _ => 0)))]) hw [0, 3, 5, 9, 10, 6, 7, 8, 11, 12, 13, 14, 15, 22, 23, 24, 1, 2, 4, 18, 17, 19, 20, 21, 16] rfl rfl
        exact RQ.vret hF hr hlk hw dX6_init_1149 ⟨by decide, by decide⟩ ((fun k => (([mo, q8, q931, q938, q945, q952, q959, q966, q973, q980, q987, q994, q1001, q1009, q1016, q1025, q1032, q1039, q1047, q1054, q1061, q1069, q1077, q1085, q1093] : List Nat)).getD k 0, fRu)) (rfl) ⟨rfl, ⟨rm_start, sq_start, hru, rfl⟩⟩
      · exact absurd c_1102 (by decide)
