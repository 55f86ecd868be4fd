/-! words of the law's own methods -/
set_option maxRecDepth 100000 in
theorem tw229 : Cond.codeWith yL_set cL_set 6 (some .int) [(0, 9, 12, 13), (0, 9, 16, 15), (0, 9, 20, 17)] ∈ TW := tw_mem 229 rfl rfl
set_option maxRecDepth 100000 in
theorem tw243 : Cond.castable "java/lang/IndexOutOfBoundsException" "java/lang/IndexOutOfBoundsException" ∈ TW := tw_mem 243 rfl rfl
set_option maxRecDepth 100000 in
theorem tw309 : Cond.castable "java/lang/IllegalArgumentException" "java/lang/IllegalArgumentException" ∈ TW := tw_mem 309 rfl rfl
set_option maxRecDepth 100000 in
theorem tw324 : Cond.castable "java/lang/IllegalStateException" "java/lang/IllegalStateException" ∈ TW := tw_mem 324 rfl rfl
set_option maxRecDepth 100000 in
theorem tw339 : Cond.codeWith yL_event cL_event 5 (some .int) [(0, 10, 13, 13), (0, 10, 17, 15)] ∈ TW := tw_mem 339 rfl rfl
set_option maxRecDepth 100000 in
theorem tw489 : Cond.codeWith yL_pass cL_pass 5 (some .int) [(0, 10, 13, 13), (0, 10, 17, 15)] ∈ TW := tw_mem 489 rfl rfl
set_option maxRecDepth 100000 in
theorem tw645 : Cond.codeWith yL_tick cL_tick 4 (some .int) [(0, 9, 12, 15)] ∈ TW := tw_mem 645 rfl rfl
set_option maxRecDepth 100000 in
theorem tw660 : Cond.codeWith yL_put cL_put 5 (some .int) [(0, 10, 13, 13), (0, 10, 17, 15), (0, 10, 21, 17)] ∈ TW := tw_mem 660 rfl rfl
set_option maxRecDepth 100000 in
theorem tw671 : Cond.codeWith yL_damage cL_damage 6 (some .int) [(0, 12, 15, 13), (0, 12, 19, 15)] ∈ TW := tw_mem 671 rfl rfl
set_option maxRecDepth 100000 in
theorem tw686 : Cond.codeWith yL_lose cL_lose 5 (some .int) [(0, 10, 13, 13), (0, 10, 17, 15)] ∈ TW := tw_mem 686 rfl rfl
set_option maxRecDepth 100000 in
theorem tw697 : Cond.codeWith yL_loop cL_loop 5 (some .int) [(0, 17, 20, 13)] ∈ TW := tw_mem 697 rfl rfl
set_option maxRecDepth 100000 in
theorem tw704 : Cond.codeWith yL_send cL_send 6 (some .int) [(0, 12, 15, 13), (0, 12, 19, 15), (0, 12, 23, 17)] ∈ TW := tw_mem 704 rfl rfl
set_option maxRecDepth 100000 in
theorem tw715 : Cond.codeWith yL_echo cL_echo 4 (some .int) [(0, 9, 12, 13), (0, 9, 15, 17)] ∈ TW := tw_mem 715 rfl rfl
set_option maxRecDepth 100000 in
theorem tw726 : Cond.codeWith yL_data cL_data 5 (some .int) [(0, 10, 13, 13)] ∈ TW := tw_mem 726 rfl rfl
set_option maxRecDepth 100000 in
theorem tw735 : Cond.codeWith yL_look cL_look 5 (some .int) [(0, 10, 13, 13)] ∈ TW := tw_mem 735 rfl rfl
set_option maxRecDepth 100000 in
theorem tw742 : Cond.codeWith yL_about cL_about 5 (some .int) [(0, 10, 13, 13), (0, 10, 17, 15)] ∈ TW := tw_mem 742 rfl rfl
set_option maxRecDepth 100000 in
theorem tw749 : Cond.codeWith yL_count cL_count 5 (some .int) [(0, 10, 13, 13), (0, 10, 17, 15)] ∈ TW := tw_mem 749 rfl rfl
theorem mhL_66 : MWh RL 66 yL_set cL_set 6 (some .int) [(0, 9, 12, 13), (0, 9, 16, 15), (0, 9, 20, 17)] 5 := ⟨tw227, tw228, tw51, tw229, by decide +kernel, by decide +kernel⟩
theorem mhL_76 : MWh RL 76 yL_event cL_event 5 (some .int) [(0, 10, 13, 13), (0, 10, 17, 15)] 4 := ⟨tw337, tw338, tw51, tw339, by decide +kernel, by decide +kernel⟩
theorem mhL_80 : MWh RL 80 yL_pass cL_pass 5 (some .int) [(0, 10, 13, 13), (0, 10, 17, 15)] 4 := ⟨tw487, tw488, tw51, tw489, by decide +kernel, by decide +kernel⟩
theorem mhL_83 : MWh RL 83 yL_tick cL_tick 4 (some .int) [(0, 9, 12, 15)] 3 := ⟨tw643, tw644, tw51, tw645, by decide +kernel, by decide +kernel⟩
theorem mhL_87 : MWh RL 87 yL_put cL_put 5 (some .int) [(0, 10, 13, 13), (0, 10, 17, 15), (0, 10, 21, 17)] 4 := ⟨tw658, tw659, tw51, tw660, by decide +kernel, by decide +kernel⟩
theorem mhL_90 : MWh RL 90 yL_damage cL_damage 6 (some .int) [(0, 12, 15, 13), (0, 12, 19, 15)] 5 := ⟨tw669, tw670, tw51, tw671, by decide +kernel, by decide +kernel⟩
theorem mhL_94 : MWh RL 94 yL_lose cL_lose 5 (some .int) [(0, 10, 13, 13), (0, 10, 17, 15)] 4 := ⟨tw684, tw685, tw51, tw686, by decide +kernel, by decide +kernel⟩
theorem mhL_97 : MWh RL 97 yL_loop cL_loop 5 (some .int) [(0, 17, 20, 13)] 4 := ⟨tw695, tw696, tw51, tw697, by decide +kernel, by decide +kernel⟩
theorem mhL_101 : MWh RL 101 yL_send cL_send 6 (some .int) [(0, 12, 15, 13), (0, 12, 19, 15), (0, 12, 23, 17)] 5 := ⟨tw702, tw703, tw51, tw704, by decide +kernel, by decide +kernel⟩
theorem mhL_104 : MWh RL 104 yL_echo cL_echo 4 (some .int) [(0, 9, 12, 13), (0, 9, 15, 17)] 3 := ⟨tw713, tw714, tw51, tw715, by decide +kernel, by decide +kernel⟩
theorem mhL_107 : MWh RL 107 yL_data cL_data 5 (some .int) [(0, 10, 13, 13)] 4 := ⟨tw724, tw725, tw51, tw726, by decide +kernel, by decide +kernel⟩
theorem mhL_110 : MWh RL 110 yL_look cL_look 5 (some .int) [(0, 10, 13, 13)] 4 := ⟨tw733, tw734, tw51, tw735, by decide +kernel, by decide +kernel⟩
theorem mhL_113 : MWh RL 113 yL_about cL_about 5 (some .int) [(0, 10, 13, 13), (0, 10, 17, 15)] 4 := ⟨tw740, tw741, tw51, tw742, by decide +kernel, by decide +kernel⟩
theorem mhL_116 : MWh RL 116 yL_count cL_count 5 (some .int) [(0, 10, 13, 13), (0, 10, 17, 15)] 4 := ⟨tw747, tw748, tw51, tw749, by decide +kernel, by decide +kernel⟩
section LWs
variable {Z : Nat → AE} {w a b n x i m f k : Int32} {e o : Nat} {X : AE}
theorem up_oth {c : Prop} [Decidable c] (h : o ≠ e) : (if c then up Z e X else Z) o = Z o := by
  by_cases q : c
  · rw [if_pos q]; exact up_ne h
  · rw [if_neg q]
theorem setT_le : setT Z w a b ≤ 3 := by unfold setT; repeat (first | omega | split)
theorem evT_le : evT w k ≤ 2 := by unfold evT; repeat (first | omega | split)
theorem pasT_le : pasT w n ≤ 2 := by unfold pasT; repeat (first | omega | split)
theorem tikT_le : tikT n ≤ 1 := by unfold tikT; repeat (first | omega | split)
theorem putT_le : putT Z w x ≤ 3 := by unfold putT; repeat (first | omega | split)
theorem dmgT_le : dmgT Z w i m ≤ 2 := by unfold dmgT; repeat (first | omega | split)
theorem losT_le : losT w n ≤ 2 := by unfold losT; repeat (first | omega | split)
theorem oneT_le : oneT w ≤ 1 := by unfold oneT; repeat (first | omega | split)
theorem sndT_le : sndT Z w n f ≤ 3 := by unfold sndT; repeat (first | omega | split)
theorem echT_le : echT Z w ≤ 2 := by unfold echT; repeat (first | omega | split)
theorem lokT_le : lokT Z w i ≤ 1 := by unfold lokT; repeat (first | omega | split)
theorem abtT_le : abtT w k ≤ 2 := by unfold abtT; repeat (first | omega | split)
theorem cntT_le : cntT w k ≤ 2 := by unfold cntT; repeat (first | omega | split)
theorem lop_1 (h : ¬ lopR Z w = 0) : lopR Z w = nI 1 := by
  unfold lopR at h ⊢
  by_cases q : oneT w = 0
  · rw [if_pos q] at h ⊢
    cases r : eLp (Z (ix w)) with
    | true => rfl
    | false => rw [r] at h; exact absurd rfl h
  · rw [if_neg q] at h; exact absurd rfl h
theorem pas_oth : ∀ (n : Nat) (Z : Nat → AE), o ≠ e → pasN n Z e e o = Z o := by
  intro n
  induction n with
  | zero => intro Z _; rfl
  | succ n ih =>
    intro Z h
    show (if eB (Z e) = [] then Z else pasN n (pas1 Z e e) e e) o = Z o
    by_cases q : eB (Z e) = []
    · rw [if_pos q]
    · rw [if_neg q, ih _ h]
      unfold pas1 pas0
      rw [up_ne h, up_ne h]
theorem pasZ_oth (h : o ≠ e) (hiw : okE w = true → ix w = e) (hl : eLp (Z e) = true) : pasZ Z w n o = Z o := by
  unfold pasZ
  by_cases q : pasT w n = 0
  · rw [if_pos q]
    have hok : okE w = true := by
      cases r : okE w with
      | true => rfl
      | false => unfold pasT at q; rw [r, if_neg (by decide)] at q; omega
    rw [hiw hok, show toE Z e = e from if_pos hl]
    exact pas_oth _ _ h
  · rw [if_neg q]
end LWs
