/-! words of constructors -/
theorem miL_62 : MWi RL 62 yX5_init cX5_init 1 0 := ⟨Or.inl tw73, tw74, tw52, tw75, rfl, by decide +kernel, by decide +kernel⟩
theorem miX5_9 : MWi RX5 9 yX2_init cX2_init 1 0 := ⟨Or.inr ⟨_, tw81⟩, tw82, tw53, tw83, rfl, by decide +kernel, by decide +kernel⟩
theorem miX5_21 : MWi RX5 21 yX0_init cX0_init 2 1 := ⟨Or.inl tw103, tw104, tw54, tw105, rfl, by decide +kernel, by decide +kernel⟩
theorem miX0_11 : MWi RX0 11 yX4_init cX4_init 1 0 := ⟨Or.inr ⟨_, tw109⟩, tw110, tw55, tw111, rfl, by decide +kernel, by decide +kernel⟩
theorem miX4_11 : MWi RX4 11 yX3_init cX3_init 2 1 := ⟨Or.inl tw115, tw116, tw56, tw117, rfl, by decide +kernel, by decide +kernel⟩
theorem miX0_27 : MWi RX0 27 yX3_init cX3_init 2 1 := ⟨Or.inl tw144, tw116, tw56, tw117, rfl, by decide +kernel, by decide +kernel⟩
theorem miL_65 : MWi RL 65 yX6_init cX6_init 2 0 := ⟨Or.inl tw756, tw757, tw57, tw758, rfl, by decide +kernel, by decide +kernel⟩
def E00 : AE := (1500, 64, 0, true, true, 0, 0, 0, 0, fun _ => 0, [], [], [], false, false, [], false)
theorem E00_inv : InvE E00 := ⟨⟨by decide, by decide⟩, ⟨by decide, by decide⟩, by decide, by decide, by decide, trivial, ⟨by decide, Bt.nil⟩, ⟨Bt.nil, Or.inl rfl⟩, ⟨by decide, Bt.nil, fun q => by cases q⟩, ⟨Bt.nil, by decide, Or.inl rfl⟩⟩
theorem E00_cx : CX 0 (fun _ => 0) (fun _ => 0) (fun _ => 0) (fun _ => 0) (fun _ => 0) E00 := ⟨E00_inv, ⟨by decide, by decide, fun i h => absurd h (Nat.not_lt_zero _)⟩, Hd.nil, Hd.nil, Hd.nil, fun _ _ => rfl⟩
