theorem lwm {ws : List Cond} (ps : List Nat) (hp : ws = ps.filterMap (fun i => lw_tbl[i]?)) : ∀ w ∈ ws, w ∈ lw_tbl := by
  intro w h
  rw [hp] at h
  obtain ⟨i, _, hi⟩ := List.mem_filterMap.mp h
  exact List.mem_of_getElem? hi
set_option maxRecDepth 20000 in
theorem wsL_law0_r1_in : ∀ w ∈ wsL_law0_r1, w ∈ lw_tbl := lwm [26, 27, 15, 84, 28, 29, 30, 31, 32, 33, 34, 35, 16, 111, 85, 86, 17, 112, 36, 37, 38, 39, 40, 43] (by decide +kernel)
set_option maxRecDepth 20000 in
theorem wsL_law0_r2_in : ∀ w ∈ wsL_law0_r2, w ∈ lw_tbl := lwm [45, 47, 49, 51, 53, 55, 87, 88, 89, 90, 94, 91, 96, 97, 93, 361, 362, 14, 363, 357, 358, 359, 360, 353] (by decide +kernel)
set_option maxRecDepth 20000 in
theorem wsL_law0_r3_in : ∀ w ∈ wsL_law0_r3, w ∈ lw_tbl := lwm [354, 355, 356, 364, 365, 366, 367, 125, 22, 41, 368, 369, 370, 271, 21, 371, 372, 373, 193, 194, 195, 196, 98, 376] (by decide +kernel)
set_option maxRecDepth 20000 in
theorem wsL_law0_r4_in : ∀ w ∈ wsL_law0_r4, w ∈ lw_tbl := lwm [377, 378, 379, 291, 23, 58, 382, 383, 384, 385, 57, 386, 387, 388, 389, 61, 267, 269, 10, 270, 390, 391, 392, 396] (by decide +kernel)
set_option maxRecDepth 20000 in
theorem wsL_law0_r5_in : ∀ w ∈ wsL_law0_r5, w ∈ lw_tbl := lwm [397, 398, 399, 60, 121, 122, 123, 124, 113, 223, 221, 25, 222, 197, 198, 199, 200, 201, 202, 203, 204, 205, 206, 24] (by decide +kernel)
set_option maxRecDepth 20000 in
theorem wsL_law0_r6_in : ∀ w ∈ wsL_law0_r6, w ∈ lw_tbl := lwm [207, 208, 210, 1, 211, 212, 213, 214, 215, 220, 216, 218, 2, 219, 224, 225, 226, 227, 59, 228, 229, 230, 232, 3] (by decide +kernel)
set_option maxRecDepth 20000 in
theorem wsL_law0_r7_in : ∀ w ∈ wsL_law0_r7, w ∈ lw_tbl := lwm [233, 56, 234, 236, 4, 237, 238, 240, 5, 241, 62, 48, 50, 52, 54, 242, 243, 245, 6, 246, 247, 248, 249, 250] (by decide +kernel)
set_option maxRecDepth 20000 in
theorem wsL_law0_r8_in : ∀ w ∈ wsL_law0_r8, w ∈ lw_tbl := lwm [252, 7, 253, 44, 46, 42, 254, 256, 8, 257, 258, 260, 9, 261, 262, 307, 308, 309, 310, 287, 289, 11, 290, 99] (by decide +kernel)
set_option maxRecDepth 20000 in
theorem wsL_law0_r9_in : ∀ w ∈ wsL_law0_r9, w ∈ lw_tbl := lwm [312, 313, 314, 315, 316, 318, 12, 319, 263, 264, 265, 266, 95, 400, 401, 402, 320, 321, 322, 323, 324, 325, 326, 327] (by decide +kernel)
set_option maxRecDepth 20000 in
theorem wsL_law0_r10_in : ∀ w ∈ wsL_law0_r10, w ∈ lw_tbl := lwm [328, 329, 330, 331, 332, 333, 334, 335, 336, 337, 338, 340, 341, 342, 343, 344, 345, 346, 347, 349, 351, 13, 352] (by decide +kernel)
theorem inTX0 : ∀ w ∈ wsX00, w ∈ lw_tbl := lwm [63, 65, 67, 69, 71, 73, 75, 77, 79, 81] (by decide +kernel)
theorem inTX1 : ∀ w ∈ wsX10, w ∈ lw_tbl := lwm [100, 102, 104, 106, 108] (by decide +kernel)
theorem inTX2 : ∀ w ∈ wsX20, w ∈ lw_tbl := lwm [114, 116, 118] (by decide +kernel)
theorem wsL_law0_rs : ∀ w ∈ (wsL_law0_r1 ++ (wsL_law0_r2 ++ (wsL_law0_r3 ++ (wsL_law0_r4 ++ (wsL_law0_r5 ++ (wsL_law0_r6 ++ (wsL_law0_r7 ++ (wsL_law0_r8 ++ (wsL_law0_r9 ++ (wsL_law0_r10)))))))))), w ∈ lw_tbl := fun w h => (List.mem_append.mp h).elim (fun h => wsL_law0_r1_in w h) (fun h => (List.mem_append.mp h).elim (fun h => wsL_law0_r2_in w h) (fun h => (List.mem_append.mp h).elim (fun h => wsL_law0_r3_in w h) (fun h => (List.mem_append.mp h).elim (fun h => wsL_law0_r4_in w h) (fun h => (List.mem_append.mp h).elim (fun h => wsL_law0_r5_in w h) (fun h => (List.mem_append.mp h).elim (fun h => wsL_law0_r6_in w h) (fun h => (List.mem_append.mp h).elim (fun h => wsL_law0_r7_in w h) (fun h => (List.mem_append.mp h).elim (fun h => wsL_law0_r8_in w h) (fun h => (List.mem_append.mp h).elim (fun h => wsL_law0_r9_in w h) (fun h => wsL_law0_r10_in w h)))))))))
theorem wsL_law_in0 : ∀ w ∈ wsL_law0, w ∈ lw_tbl := fun w h => (List.mem_append.mp h).elim (fun h => (List.mem_append.mp h).elim (fun h => (List.mem_append.mp h).elim (fun h => (List.mem_append.mp h).elim (fun h => wsL_law0_rs w h) (fun h => inTX2 w h)) (fun h => inTX0 w h)) (fun h => inTX1 w h)) (fun h => absurd h List.not_mem_nil)
theorem wsL_law_x0 : ∀ w ∈ (vx_atS RX2 33 "java/lang/IllegalArgumentException" ["java/lang/RuntimeException", "java/lang/Exception"]).filter goodWord, w ∈ lw_tbl := by decide +kernel
theorem wsL_law_x1 : ∀ w ∈ (vx_atS RX2 85 "java/lang/IndexOutOfBoundsException" ["java/lang/RuntimeException", "java/lang/Exception"]).filter goodWord, w ∈ lw_tbl := by decide +kernel
theorem wsL_law_x2 : ∀ w ∈ (vx_atS RX2 59 "java/lang/IllegalStateException" ["java/lang/RuntimeException", "java/lang/Exception"]).filter goodWord, w ∈ lw_tbl := by decide +kernel
theorem wsL_law_in : ∀ w ∈ wsL_law, w ∈ lw_tbl := fun w h => (List.mem_append.mp h).elim (fun h => (List.mem_append.mp h).elim (fun h => (List.mem_append.mp h).elim (fun h => wsL_law_in0 w h) (fun h => wsL_law_x0 w h)) (fun h => wsL_law_x1 w h)) (fun h => wsL_law_x2 w h)