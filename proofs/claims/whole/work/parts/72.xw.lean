/-! words of throws -/
theorem tw_all2 {ws : List Cond} (is : List Nat) (h : is.map (fun i => lw_tbl[i]?) = ws.map some) (hg : ws.all (fun w => goodWord w || twNest w) = true) : ∀ w ∈ ws, w ∈ TW := by
  intro w hw
  have h1 := List.all_eq_true.mp hg w hw
  have h2 : some w ∈ ws.map some := List.mem_map_of_mem hw
  rw [← h] at h2
  obtain ⟨i, -, hi⟩ := List.mem_map.mp h2
  exact tw_mem i hi h1
abbrev xNm : List String := ["java/lang/RuntimeException", "java/lang/Exception"]
set_option maxRecDepth 100000 in
theorem xw1 : ∀ w ∈ vx_at0 RX5 120 "java/lang/IndexOutOfBoundsException" xNm, w ∈ TW := tw_all2 [58, 263, 272, 276, 279, 281, 264, 265, 77, 78, 266, 271, 277, 293, 253, 294, 255, 295, 257, 267, 269, 259, 283, 284, 285, 286, 244, 286, 287, 288, 289, 246, 289, 290, 291, 264, 248, 282, 242, 243, 250, 251, 252, 254, 256, 258, 262, 261, 260] rfl (by decide +kernel)
set_option maxRecDepth 100000 in
theorem xg1 : ∀ w ∈ Cond.classLink RX5 118 "java/lang/IndexOutOfBoundsException" :: Cond.initialized "java/lang/IndexOutOfBoundsException" :: vx_at0 RX5 120 "java/lang/IndexOutOfBoundsException" xNm, vx_ot w = true := List.all_eq_true.mp (by decide +kernel)
set_option maxRecDepth 100000 in
theorem xw2 : ∀ w ∈ vx_at0 RX5 41 "java/lang/IllegalArgumentException" xNm, w ∈ TW := tw_all2 [58, 263, 272, 276, 279, 281, 264, 265, 77, 78, 266, 271, 277, 293, 253, 294, 255, 295, 257, 267, 269, 259, 317, 318, 319, 286, 244, 286, 287, 288, 289, 246, 289, 290, 291, 264, 248, 316, 308, 309, 310, 274, 311, 312, 313, 314, 262, 261, 315] rfl (by decide +kernel)
set_option maxRecDepth 100000 in
theorem xg2 : ∀ w ∈ Cond.classLink RX5 39 "java/lang/IllegalArgumentException" :: Cond.initialized "java/lang/IllegalArgumentException" :: vx_at0 RX5 41 "java/lang/IllegalArgumentException" xNm, vx_ot w = true := List.all_eq_true.mp (by decide +kernel)
set_option maxRecDepth 100000 in
theorem xw3 : ∀ w ∈ vx_at0 RX5 48 "java/lang/IllegalStateException" xNm, w ∈ TW := tw_all2 [58, 263, 272, 276, 279, 281, 264, 265, 77, 78, 266, 271, 277, 293, 253, 294, 255, 295, 257, 267, 269, 259, 332, 333, 334, 286, 244, 286, 287, 288, 289, 246, 289, 290, 291, 264, 248, 331, 323, 324, 325, 275, 326, 327, 328, 329, 262, 261, 330] rfl (by decide +kernel)
set_option maxRecDepth 100000 in
theorem xg3 : ∀ w ∈ Cond.classLink RX5 46 "java/lang/IllegalStateException" :: Cond.initialized "java/lang/IllegalStateException" :: vx_at0 RX5 48 "java/lang/IllegalStateException" xNm, vx_ot w = true := List.all_eq_true.mp (by decide +kernel)
