theorem mem_r {big : List Cond} (ws : List Cond) (ps : List Nat) (hp : ws = ps.filterMap (fun i => big[i]?)) : ∀ w ∈ ws, w ∈ big := by
  intro w hw
  rw [hp] at hw
  obtain ⟨i, -, hi⟩ := List.mem_filterMap.mp hw
  exact List.mem_of_getElem? hi
theorem mem_ap {big a b : List Cond} (ha : ∀ w ∈ a, w ∈ big) (hb : ∀ w ∈ b, w ∈ big) : ∀ w ∈ a ++ b, w ∈ big := fun w h => (List.mem_append.mp h).elim (ha w) (hb w)
set_option maxRecDepth 20000 in
theorem in_wsL_law_r1 : ∀ w ∈ wsL_law_r1, w ∈ lw_tbl := mem_r _ [28, 29, 20, 358, 359, 23, 575, 30, 31, 32, 33, 34, 35, 36, 37, 21, 81, 52, 53, 22, 82, 97, 83, 38] (by decide +kernel)
set_option maxRecDepth 20000 in
theorem in_wsL_law_r2 : ∀ w ∈ wsL_law_r2, w ∈ lw_tbl := mem_r _ [39, 40, 41, 42, 44, 54, 55, 56, 57, 58, 360, 361, 362, 363, 365, 366, 367, 368, 370, 371, 235, 372, 377, 98] (by decide +kernel)
set_option maxRecDepth 20000 in
theorem in_wsL_law_r3 : ∀ w ∈ wsL_law_r3, w ∈ lw_tbl := mem_r _ [99, 100, 101, 105, 102, 103, 104, 106, 107, 108, 109, 45, 110, 24, 111, 112, 113, 114, 115, 118, 121, 416, 417, 418] (by decide +kernel)
set_option maxRecDepth 20000 in
theorem in_wsL_law_r4 : ∀ w ∈ wsL_law_r4, w ∈ lw_tbl := mem_r _ [419, 420, 424, 364, 421, 422, 423, 136, 137, 138, 139, 84, 425, 426, 427, 428, 373, 140, 141, 142, 143, 85, 429, 430] (by decide +kernel)
set_option maxRecDepth 20000 in
theorem in_wsL_law_r5 : ∀ w ∈ wsL_law_r5, w ∈ lw_tbl := mem_r _ [431, 432, 374, 144, 145, 146, 147, 61, 433, 434, 435, 436, 375, 148, 149, 150, 151, 65, 437, 438, 439, 440, 376, 152] (by decide +kernel)
set_option maxRecDepth 20000 in
theorem in_wsL_law_r6 : ∀ w ∈ wsL_law_r6, w ∈ lw_tbl := mem_r _ [153, 154, 155, 441, 442, 443, 444, 445, 156, 157, 158, 159, 117, 160, 161, 162, 163, 446, 447, 448, 449, 450, 452, 9] (by decide +kernel)
set_option maxRecDepth 20000 in
theorem in_wsL_law_r7 : ∀ w ∈ wsL_law_r7, w ∈ lw_tbl := mem_r _ [453, 164, 165, 166, 167, 168, 169, 170, 171, 454, 455, 456, 457, 172, 173, 174, 175, 120, 458, 459, 460, 461, 176, 177] (by decide +kernel)
set_option maxRecDepth 20000 in
theorem in_wsL_law_r8 : ∀ w ∈ wsL_law_r8, w ∈ lw_tbl := mem_r _ [178, 179, 462, 463, 464, 465, 180, 181, 182, 183, 123, 184, 185, 186, 187, 188, 466, 467, 468, 469, 189, 190, 191, 192] (by decide +kernel)
set_option maxRecDepth 20000 in
theorem in_wsL_law_r9 : ∀ w ∈ wsL_law_r9, w ∈ lw_tbl := mem_r _ [470, 471, 472, 473, 193, 194, 195, 196, 197, 199, 0, 200, 201, 203, 1, 204, 67, 474, 475, 476, 477, 478, 480, 10] (by decide +kernel)
set_option maxRecDepth 20000 in
theorem in_wsL_law_r10 : ∀ w ∈ wsL_law_r10, w ∈ lw_tbl := mem_r _ [481, 205, 206, 207, 208, 482, 483, 484, 485, 209, 210, 211, 212, 126, 213, 214, 25, 215, 216, 217, 218, 223, 227, 219] (by decide +kernel)
set_option maxRecDepth 20000 in
theorem in_wsL_law_r11 : ∀ w ∈ wsL_law_r11, w ∈ lw_tbl := mem_r _ [220, 221, 26, 222, 486, 487, 488, 489, 490, 369, 491, 236, 237, 238, 239, 240, 241, 242, 243, 124, 224, 492, 493, 494] (by decide +kernel)
set_option maxRecDepth 20000 in
theorem in_wsL_law_r12 : ∀ w ∈ wsL_law_r12, w ∈ lw_tbl := mem_r _ [495, 496, 497, 498, 499, 244, 245, 246, 247, 500, 248, 249, 250, 251, 229, 501, 502, 503, 504, 252, 253, 254, 255, 256] (by decide +kernel)
set_option maxRecDepth 20000 in
theorem in_wsL_law_r13 : ∀ w ∈ wsL_law_r13, w ∈ lw_tbl := mem_r _ [257, 258, 259, 226, 260, 261, 262, 263, 505, 506, 507, 508, 509, 510, 512, 11, 513, 264, 265, 266, 267, 268, 269, 270] (by decide +kernel)
set_option maxRecDepth 20000 in
theorem in_wsL_law_r14 : ∀ w ∈ wsL_law_r14, w ∈ lw_tbl := mem_r _ [271, 514, 515, 516, 517, 272, 273, 274, 275, 276, 277, 278, 279, 280, 518, 519, 520, 521, 522, 524, 12, 525, 281, 282] (by decide +kernel)
set_option maxRecDepth 20000 in
theorem in_wsL_law_r15 : ∀ w ∈ wsL_law_r15, w ∈ lw_tbl := mem_r _ [283, 284, 296, 298, 297, 27, 285, 286, 287, 288, 289, 290, 291, 292, 294, 2, 295, 526, 527, 528, 529, 530, 532, 13] (by decide +kernel)
set_option maxRecDepth 20000 in
theorem in_wsL_law_r16 : ∀ w ∈ wsL_law_r16, w ∈ lw_tbl := mem_r _ [533, 299, 300, 301, 302, 63, 303, 304, 305, 306, 307, 308, 309, 59, 60, 310, 311, 312, 313, 62, 64, 314, 316, 3] (by decide +kernel)
set_option maxRecDepth 20000 in
theorem in_wsL_law_r17 : ∀ w ∈ wsL_law_r17, w ∈ lw_tbl := mem_r _ [317, 318, 320, 4, 321, 322, 324, 5, 334, 228, 336, 326, 325, 116, 119, 122, 125, 327, 329, 6, 330, 66, 331, 333] (by decide +kernel)
set_option maxRecDepth 20000 in
theorem in_wsL_law_r18 : ∀ w ∈ wsL_law_r18, w ∈ lw_tbl := mem_r _ [7, 337, 339, 8, 340, 225, 534, 535, 536, 537, 538, 379, 539, 541, 14, 542, 380, 543, 545, 15, 546, 547, 549, 16] (by decide +kernel)
set_option maxRecDepth 20000 in
theorem in_wsL_law_r19 : ∀ w ∈ wsL_law_r19, w ∈ lw_tbl := mem_r _ [550, 378, 551, 553, 17, 554, 555, 557, 18, 558, 341, 342, 343, 344, 345, 559, 560, 561, 562, 346, 347, 348, 349, 563] (by decide +kernel)
set_option maxRecDepth 20000 in
theorem in_wsL_law_r20 : ∀ w ∈ wsL_law_r20, w ∈ lw_tbl := mem_r _ [564, 565, 566, 350, 351, 352, 353, 567, 568, 569, 570, 354, 355, 356, 357, 46, 571, 572, 573, 574] (by decide +kernel)
set_option maxRecDepth 20000 in
theorem in_wsX40 : ∀ w ∈ wsX40, w ∈ lw_tbl := mem_r _ [86, 88, 90, 92, 94] (by decide +kernel)
set_option maxRecDepth 20000 in
theorem in_wsX50 : ∀ w ∈ wsX50, w ∈ lw_tbl := mem_r _ [381, 383, 385, 387, 389, 391, 393, 395, 397, 399, 401, 403, 405, 407, 409, 411, 413] (by decide +kernel)
set_option maxRecDepth 20000 in
theorem in_wsX00 : ∀ w ∈ wsX00, w ∈ lw_tbl := mem_r _ [230, 232] (by decide +kernel)
set_option maxRecDepth 20000 in
theorem in_wsX30 : ∀ w ∈ wsX30, w ∈ lw_tbl := mem_r _ [68, 70, 72, 74, 76, 78] (by decide +kernel)
set_option maxRecDepth 20000 in
theorem in_wsX10 : ∀ w ∈ wsX10, w ∈ lw_tbl := mem_r _ [47, 49] (by decide +kernel)
set_option maxRecDepth 20000 in
theorem in_wsX20 : ∀ w ∈ wsX20, w ∈ lw_tbl := mem_r _ [127, 129, 131, 133] (by decide +kernel)
theorem wsL_law_in : ∀ w ∈ wsL_law, w ∈ lw_tbl := mem_ap (mem_ap (mem_ap (mem_ap (mem_ap (mem_ap (mem_ap (mem_ap in_wsL_law_r1 (mem_ap in_wsL_law_r2 (mem_ap in_wsL_law_r3 (mem_ap in_wsL_law_r4 (mem_ap in_wsL_law_r5 (mem_ap in_wsL_law_r6 (mem_ap in_wsL_law_r7 (mem_ap in_wsL_law_r8 (mem_ap in_wsL_law_r9 (mem_ap in_wsL_law_r10 (mem_ap in_wsL_law_r11 (mem_ap in_wsL_law_r12 (mem_ap in_wsL_law_r13 (mem_ap in_wsL_law_r14 (mem_ap in_wsL_law_r15 (mem_ap in_wsL_law_r16 (mem_ap in_wsL_law_r17 (mem_ap in_wsL_law_r18 (mem_ap in_wsL_law_r19 in_wsL_law_r20))))))))))))))))))) in_wsX40) in_wsX50) in_wsX10) in_wsX30) in_wsX20) in_wsX00) (fun _ h => absurd h List.not_mem_nil)
theorem inlX0 : ∀ w ∈ wsX00, w ∈ wsL_law := fun _ h => List.mem_append_left _ (List.mem_append_right _ h)
theorem inX0 : ∀ w ∈ wsX00, w ∈ lw_tbl := fun w h => wsL_law_in w (inlX0 w h)
theorem inlX1 : ∀ w ∈ wsX10, w ∈ wsL_law := fun _ h => List.mem_append_left _ (List.mem_append_left _ (List.mem_append_left _ (List.mem_append_left _ (List.mem_append_right _ h))))
theorem inX1 : ∀ w ∈ wsX10, w ∈ lw_tbl := fun w h => wsL_law_in w (inlX1 w h)
theorem inlX2 : ∀ w ∈ wsX20, w ∈ wsL_law := fun _ h => List.mem_append_left _ (List.mem_append_left _ (List.mem_append_right _ h))
theorem inX2 : ∀ w ∈ wsX20, w ∈ lw_tbl := fun w h => wsL_law_in w (inlX2 w h)
theorem inlX3 : ∀ w ∈ wsX30, w ∈ wsL_law := fun _ h => List.mem_append_left _ (List.mem_append_left _ (List.mem_append_left _ (List.mem_append_right _ h)))
theorem inX3 : ∀ w ∈ wsX30, w ∈ lw_tbl := fun w h => wsL_law_in w (inlX3 w h)
theorem inlX4 : ∀ w ∈ wsX40, w ∈ wsL_law := fun _ h => List.mem_append_left _ (List.mem_append_left _ (List.mem_append_left _ (List.mem_append_left _ (List.mem_append_left _ (List.mem_append_left _ (List.mem_append_right _ h))))))
theorem inX4 : ∀ w ∈ wsX40, w ∈ lw_tbl := fun w h => wsL_law_in w (inlX4 w h)
theorem inlX5 : ∀ w ∈ wsX50, w ∈ wsL_law := fun _ h => List.mem_append_left _ (List.mem_append_left _ (List.mem_append_left _ (List.mem_append_left _ (List.mem_append_left _ (List.mem_append_right _ h)))))
theorem inX5 : ∀ w ∈ wsX50, w ∈ lw_tbl := fun w h => wsL_law_in w (inlX5 w h)
theorem inJ10 : ∀ w ∈ wsJ100, w ∈ lw_tbl := by decide +kernel
theorem inJ7 : ∀ w ∈ wsJ70, w ∈ lw_tbl := by decide +kernel
set_option maxRecDepth 20000 in
theorem ggX0_init_J7_fill_d0a16 : GoodIn wsX0_init wsJ7_fill_d0a16 := goodIn_r _ [11] (by decide +kernel) (by decide +kernel)
set_option maxRecDepth 20000 in
theorem gX0_init_J7_fill_d0a16 : GoodIn wsX0_init (va_wsS RX0 21 yJ7_fill_d0a16 wsJ7_fill_d0a16) := goodIn_app (goodIn_of _ (by decide +kernel)) ggX0_init_J7_fill_d0a16
theorem dX0_init_0 : decode cX0_init 0 = .ok (.aload_n 0, 1) := by decide +kernel
theorem dX0_init_1 : decode cX0_init 1 = .ok (.invokespecial 3, 3) := by decide +kernel
theorem dX0_init_4 : decode cX0_init 4 = .ok (.aload_n 0, 1) := by decide +kernel
theorem dX0_init_5 : decode cX0_init 5 = .ok (.iload_n 1, 1) := by decide +kernel
theorem dX0_init_6 : decode cX0_init 6 = .ok (.putfield 9, 3) := by decide +kernel
theorem dX0_init_9 : decode cX0_init 9 = .ok (.aload_n 0, 1) := by decide +kernel
theorem dX0_init_10 : decode cX0_init 10 = .ok (.iload_n 2, 1) := by decide +kernel
theorem dX0_init_11 : decode cX0_init 11 = .ok (.newarray .long, 2) := by decide +kernel
theorem dX0_init_13 : decode cX0_init 13 = .ok (.putfield 15, 3) := by decide +kernel
theorem dX0_init_16 : decode cX0_init 16 = .ok (.iload_n 1, 1) := by decide +kernel
theorem dX0_init_17 : decode cX0_init 17 = .ok (.iconst 2, 1) := by decide +kernel
theorem dX0_init_18 : decode cX0_init 18 = .ok (.if_icmp .eq 8, 3) := by decide +kernel
theorem dX0_init_21 : decode cX0_init 21 = .ok (.iload_n 1, 1) := by decide +kernel
theorem dX0_init_22 : decode cX0_init 22 = .ok (.iconst 3, 1) := by decide +kernel
theorem dX0_init_23 : decode cX0_init 23 = .ok (.if_icmp .ne 13, 3) := by decide +kernel
theorem dX0_init_26 : decode cX0_init 26 = .ok (.aload_n 0, 1) := by decide +kernel
theorem dX0_init_27 : decode cX0_init 27 = .ok (.getfield 15, 3) := by decide +kernel
theorem dX0_init_30 : decode cX0_init 30 = .ok (.ldc2_w 19, 3) := by decide +kernel
theorem dX0_init_33 : decode cX0_init 33 = .ok (.invokestatic 21, 3) := by decide +kernel
theorem dX0_init_36 : decode cX0_init 36 = .ok (.return_, 1) := by decide +kernel
theorem dX0_isOfThings_0 : decode cX0_isOfThings 0 = .ok (.aload_n 0, 1) := by decide +kernel
theorem dX0_isOfThings_1 : decode cX0_isOfThings 1 = .ok (.getfield 9, 3) := by decide +kernel
theorem dX0_isOfThings_4 : decode cX0_isOfThings 4 = .ok (.iconst 2, 1) := by decide +kernel
theorem dX0_isOfThings_5 : decode cX0_isOfThings 5 = .ok (.if_icmp .eq 11, 3) := by decide +kernel
theorem dX0_isOfThings_8 : decode cX0_isOfThings 8 = .ok (.aload_n 0, 1) := by decide +kernel
theorem dX0_isOfThings_9 : decode cX0_isOfThings 9 = .ok (.getfield 9, 3) := by decide +kernel
theorem dX0_isOfThings_12 : decode cX0_isOfThings 12 = .ok (.iconst 3, 1) := by decide +kernel
theorem dX0_isOfThings_13 : decode cX0_isOfThings 13 = .ok (.if_icmp .ne 7, 3) := by decide +kernel
theorem dX0_isOfThings_16 : decode cX0_isOfThings 16 = .ok (.iconst 1, 1) := by decide +kernel
theorem dX0_isOfThings_17 : decode cX0_isOfThings 17 = .ok (.goto 4, 3) := by decide +kernel
theorem dX0_isOfThings_20 : decode cX0_isOfThings 20 = .ok (.iconst 0, 1) := by decide +kernel
theorem dX0_isOfThings_21 : decode cX0_isOfThings 21 = .ok (.ireturn, 1) := by decide +kernel
theorem dX0_hasItems_0 : decode cX0_hasItems 0 = .ok (.iload_n 1, 1) := by decide +kernel
theorem dX0_hasItems_1 : decode cX0_hasItems 1 = .ok (.ifCond .lt 22, 3) := by decide +kernel
theorem dX0_hasItems_4 : decode cX0_hasItems 4 = .ok (.iload_n 2, 1) := by decide +kernel
theorem dX0_hasItems_5 : decode cX0_hasItems 5 = .ok (.ifCond .lt 18, 3) := by decide +kernel
theorem dX0_hasItems_8 : decode cX0_hasItems 8 = .ok (.iload_n 1, 1) := by decide +kernel
theorem dX0_hasItems_9 : decode cX0_hasItems 9 = .ok (.aload_n 0, 1) := by decide +kernel
theorem dX0_hasItems_10 : decode cX0_hasItems 10 = .ok (.getfield 15, 3) := by decide +kernel
theorem dX0_hasItems_13 : decode cX0_hasItems 13 = .ok (.arraylength, 1) := by decide +kernel
theorem dX0_hasItems_14 : decode cX0_hasItems 14 = .ok (.iload_n 2, 1) := by decide +kernel
theorem dX0_hasItems_15 : decode cX0_hasItems 15 = .ok (.isub, 1) := by decide +kernel
theorem dX0_hasItems_16 : decode cX0_hasItems 16 = .ok (.if_icmp .gt 7, 3) := by decide +kernel
theorem dX0_hasItems_19 : decode cX0_hasItems 19 = .ok (.iconst 1, 1) := by decide +kernel
theorem dX0_hasItems_20 : decode cX0_hasItems 20 = .ok (.goto 4, 3) := by decide +kernel
theorem dX0_hasItems_23 : decode cX0_hasItems 23 = .ok (.iconst 0, 1) := by decide +kernel
theorem dX0_hasItems_24 : decode cX0_hasItems 24 = .ok (.ireturn, 1) := by decide +kernel
theorem dX0_put_0 : decode cX0_put 0 = .ok (.aload_n 0, 1) := by decide +kernel
theorem dX0_put_1 : decode cX0_put 1 = .ok (.getfield 15, 3) := by decide +kernel
theorem dX0_put_4 : decode cX0_put 4 = .ok (.iload_n 1, 1) := by decide +kernel
theorem dX0_put_5 : decode cX0_put 5 = .ok (.laload, 1) := by decide +kernel
theorem dX0_put_6 : decode cX0_put 6 = .ok (.lstore 4, 2) := by decide +kernel
theorem dX0_put_8 : decode cX0_put 8 = .ok (.aload_n 0, 1) := by decide +kernel
theorem dX0_put_9 : decode cX0_put 9 = .ok (.getfield 15, 3) := by decide +kernel
theorem dX0_put_12 : decode cX0_put 12 = .ok (.iload_n 1, 1) := by decide +kernel
theorem dX0_put_13 : decode cX0_put 13 = .ok (.lload_n 2, 1) := by decide +kernel
theorem dX0_put_14 : decode cX0_put 14 = .ok (.lastore, 1) := by decide +kernel
theorem dX0_put_15 : decode cX0_put 15 = .ok (.lload 4, 2) := by decide +kernel
theorem dX0_put_17 : decode cX0_put 17 = .ok (.lreturn, 1) := by decide +kernel
theorem dX1_init_0 : decode cX1_init 0 = .ok (.aload_n 0, 1) := by decide +kernel
theorem dX1_init_1 : decode cX1_init 1 = .ok (.invokespecial 3, 3) := by decide +kernel
theorem dX1_init_4 : decode cX1_init 4 = .ok (.aload_n 0, 1) := by decide +kernel
theorem dX1_init_5 : decode cX1_init 5 = .ok (.bipush 40, 2) := by decide +kernel
theorem dX1_init_7 : decode cX1_init 7 = .ok (.anewarray 9, 3) := by decide +kernel
theorem dX1_init_10 : decode cX1_init 10 = .ok (.putfield 11, 3) := by decide +kernel
theorem dX1_init_13 : decode cX1_init 13 = .ok (.return_, 1) := by decide +kernel
set_option maxRecDepth 20000 in
theorem ggX1_add_X2_init : GoodIn wsX1_add wsX2_init := goodIn_r _ [8, 9, 10, 11, 12, 13, 14, 17, 18, 19, 20] (by decide +kernel) (by decide +kernel)
set_option maxRecDepth 20000 in
theorem gX1_add_X2_init : GoodIn wsX1_add (wsX2_init) := ggX1_add_X2_init
theorem dX1_add_0 : decode cX1_add 0 = .ok (.aload_n 0, 1) := by decide +kernel
theorem dX1_add_1 : decode cX1_add 1 = .ok (.getfield 17, 3) := by decide +kernel
theorem dX1_add_4 : decode cX1_add 4 = .ok (.bipush 40, 2) := by decide +kernel
theorem dX1_add_6 : decode cX1_add 6 = .ok (.if_icmp .lt 6, 3) := by decide +kernel
theorem dX1_add_9 : decode cX1_add 9 = .ok (.bipush (-2), 2) := by decide +kernel
theorem dX1_add_11 : decode cX1_add 11 = .ok (.ireturn, 1) := by decide +kernel
theorem dX1_add_12 : decode cX1_add 12 = .ok (.aload_n 0, 1) := by decide +kernel
theorem dX1_add_13 : decode cX1_add 13 = .ok (.getfield 11, 3) := by decide +kernel
theorem dX1_add_16 : decode cX1_add 16 = .ok (.aload_n 0, 1) := by decide +kernel
theorem dX1_add_17 : decode cX1_add 17 = .ok (.getfield 17, 3) := by decide +kernel
theorem dX1_add_20 : decode cX1_add 20 = .ok (.new 9, 3) := by decide +kernel
theorem dX1_add_23 : decode cX1_add 23 = .ok (.dup, 1) := by decide +kernel
theorem dX1_add_24 : decode cX1_add 24 = .ok (.iload_n 1, 1) := by decide +kernel
theorem dX1_add_25 : decode cX1_add 25 = .ok (.iload_n 2, 1) := by decide +kernel
theorem dX1_add_26 : decode cX1_add 26 = .ok (.invokespecial 21, 3) := by decide +kernel
theorem dX1_add_29 : decode cX1_add 29 = .ok (.aastore, 1) := by decide +kernel
theorem dX1_add_30 : decode cX1_add 30 = .ok (.aload_n 0, 1) := by decide +kernel
theorem dX1_add_31 : decode cX1_add 31 = .ok (.dup, 1) := by decide +kernel
theorem dX1_add_32 : decode cX1_add 32 = .ok (.getfield 17, 3) := by decide +kernel
theorem dX1_add_35 : decode cX1_add 35 = .ok (.dup_x1, 1) := by decide +kernel
theorem dX1_add_36 : decode cX1_add 36 = .ok (.iconst 1, 1) := by decide +kernel
theorem dX1_add_37 : decode cX1_add 37 = .ok (.iadd, 1) := by decide +kernel
theorem dX1_add_38 : decode cX1_add 38 = .ok (.putfield 17, 3) := by decide +kernel

