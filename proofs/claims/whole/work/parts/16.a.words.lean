section CWords
theorem in_r {big ws : List Cond} (ps : List Nat) (hp : ws = ps.filterMap (fun i => big[i]?)) : ∀ w ∈ ws, w ∈ big := fun w hw => by
  subst hp
  obtain ⟨i, -, hi⟩ := List.mem_filterMap.mp hw
  exact List.mem_of_getElem? hi
set_option maxRecDepth 20000 in
theorem li_1 : ∀ w ∈ wsL_law0_r1, w ∈ lw_tbl := in_r [29, 30, 18, 409, 410, 20, 200, 571, 31, 32, 33, 34, 35, 36, 37, 74, 39, 40, 19, 75, 99, 76, 77, 78] (by decide +kernel)
set_option maxRecDepth 20000 in
theorem li_2 : ∀ w ∈ wsL_law0_r2, w ∈ lw_tbl := in_r [79, 80, 81, 42, 43, 44, 411, 412, 413, 414, 415, 416, 417, 418, 419, 420, 104, 105, 17, 106, 107, 108, 109, 110] (by decide +kernel)
set_option maxRecDepth 20000 in
theorem li_3 : ∀ w ∈ wsL_law0_r3, w ∈ lw_tbl := in_r [111, 115, 24, 184, 25, 112, 113, 114, 185, 186, 187, 188, 190, 192, 189, 465, 466, 467, 468, 429, 479, 469, 470, 471] (by decide +kernel)
set_option maxRecDepth 20000 in
theorem li_4 : ∀ w ∈ wsL_law0_r4, w ∈ lw_tbl := in_r [472, 473, 474, 475, 477, 8, 478, 461, 462, 463, 464, 202, 203, 204, 205, 206, 207, 208, 209, 211, 1, 212, 480, 481] (by decide +kernel)
set_option maxRecDepth 20000 in
theorem li_5 : ∀ w ∈ wsL_law0_r5, w ∈ lw_tbl := in_r [482, 483, 484, 486, 9, 487, 213, 214, 215, 216, 217, 218, 219, 220, 221, 26, 237, 239, 238, 27, 488, 489, 490, 491] (by decide +kernel)
set_option maxRecDepth 20000 in
theorem li_6 : ∀ w ∈ wsL_law0_r6, w ∈ lw_tbl := in_r [492, 494, 10, 495, 240, 241, 242, 243, 244, 245, 246, 247, 248, 249, 250, 251, 253, 254, 255, 256, 28, 496, 497, 498] (by decide +kernel)
set_option maxRecDepth 20000 in
theorem li_7 : ∀ w ∈ wsL_law0_r7, w ∈ lw_tbl := in_r [499, 500, 502, 11, 503, 272, 273, 274, 275, 276, 277, 278, 280, 281, 282, 283, 285, 286, 287, 288, 289, 504, 505, 506] (by decide +kernel)
set_option maxRecDepth 20000 in
theorem li_8 : ∀ w ∈ wsL_law0_r8, w ∈ lw_tbl := in_r [507, 516, 508, 510, 12, 511, 512, 514, 13, 515, 290, 291, 292, 293, 294, 295, 296, 297, 517, 518, 519, 520, 298, 299] (by decide +kernel)
set_option maxRecDepth 20000 in
theorem li_9 : ∀ w ∈ wsL_law0_r9, w ∈ lw_tbl := in_r [300, 301, 302, 303, 304, 305, 307, 2, 308, 309, 310, 311, 312, 51, 314, 315, 316, 317, 53, 55, 47, 49, 45, 318] (by decide +kernel)
set_option maxRecDepth 20000 in
theorem li_10 : ∀ w ∈ wsL_law0_r10, w ∈ lw_tbl := in_r [320, 3, 321, 333, 322, 323, 324, 325, 326, 327, 328, 329, 330, 331, 332, 525, 526, 527, 528, 529, 531, 14, 532, 425] (by decide +kernel)
set_option maxRecDepth 20000 in
theorem li_11 : ∀ w ∈ wsL_law0_r11, w ∈ lw_tbl := in_r [533, 535, 15, 536, 426, 423, 424, 422, 427, 537, 539, 16, 540, 334, 335, 336, 337, 338, 339, 340, 541, 542, 543, 544] (by decide +kernel)
set_option maxRecDepth 20000 in
theorem li_12 : ∀ w ∈ wsL_law0_r12, w ∈ lw_tbl := in_r [421, 342, 343, 344, 345, 346, 347, 348, 349, 351, 4, 352, 353, 355, 5, 356, 545, 546, 547, 548, 100, 101, 102, 103] (by decide +kernel)
set_option maxRecDepth 20000 in
theorem li_13 : ∀ w ∈ wsL_law0_r13, w ∈ lw_tbl := in_r [549, 550, 551, 552, 357, 358, 359, 360, 361, 362, 363, 365, 366, 367, 368, 57, 553, 554, 555, 556, 428, 369, 370, 371] (by decide +kernel)
set_option maxRecDepth 20000 in
theorem li_14 : ∀ w ∈ wsL_law0_r14, w ∈ lw_tbl := in_r [372, 373, 374, 375, 521, 522, 523, 524, 377, 378, 379, 380, 381, 382, 383, 384, 386, 6, 387, 388, 390, 7, 391, 557] (by decide +kernel)
set_option maxRecDepth 20000 in
theorem li_15 : ∀ w ∈ wsL_law0_r15, w ∈ lw_tbl := in_r [558, 559, 560, 393, 394, 395, 396, 397, 398, 399, 400, 401, 561, 562, 563, 564, 565, 566, 402, 403, 404, 405, 406, 407] (by decide +kernel)
set_option maxRecDepth 20000 in
theorem li_16 : ∀ w ∈ wsL_law0_r16, w ∈ lw_tbl := in_r [408, 567, 568, 569, 570] (by decide +kernel)
set_option maxRecDepth 20000 in
theorem li_X0 : ∀ w ∈ wsX00, w ∈ lw_tbl := by decide +kernel
set_option maxRecDepth 20000 in
theorem li_X1 : ∀ w ∈ wsX10, w ∈ lw_tbl := by decide +kernel
set_option maxRecDepth 20000 in
theorem li_X2 : ∀ w ∈ wsX20, w ∈ lw_tbl := by decide +kernel
set_option maxRecDepth 20000 in
theorem li_X3 : ∀ w ∈ wsX30, w ∈ lw_tbl := by decide +kernel
theorem li_all0 : ∀ w ∈ wsL_law0, w ∈ lw_tbl := by
  unfold wsL_law0
  exact (List.forall_mem_append.mpr ⟨(List.forall_mem_append.mpr ⟨(List.forall_mem_append.mpr ⟨(List.forall_mem_append.mpr ⟨(List.forall_mem_append.mpr ⟨(List.forall_mem_append.mpr ⟨li_1, (List.forall_mem_append.mpr ⟨li_2, (List.forall_mem_append.mpr ⟨li_3, (List.forall_mem_append.mpr ⟨li_4, (List.forall_mem_append.mpr ⟨li_5, (List.forall_mem_append.mpr ⟨li_6, (List.forall_mem_append.mpr ⟨li_7, (List.forall_mem_append.mpr ⟨li_8, (List.forall_mem_append.mpr ⟨li_9, (List.forall_mem_append.mpr ⟨li_10, (List.forall_mem_append.mpr ⟨li_11, (List.forall_mem_append.mpr ⟨li_12, (List.forall_mem_append.mpr ⟨li_13, (List.forall_mem_append.mpr ⟨li_14, (List.forall_mem_append.mpr ⟨li_15, li_16⟩)⟩)⟩)⟩)⟩)⟩)⟩)⟩)⟩)⟩)⟩)⟩)⟩)⟩)⟩), li_X2⟩), li_X3⟩), li_X0⟩), li_X1⟩), (fun _ h => absurd h List.not_mem_nil)⟩)
set_option maxRecDepth 20000 in
theorem li_x0 : ∀ w ∈ (vx_atS RX2 50 "java/lang/IllegalArgumentException" ["java/lang/RuntimeException", "java/lang/Exception"]).filter goodWord, w ∈ lw_tbl := by decide +kernel
set_option maxRecDepth 20000 in
theorem li_x1 : ∀ w ∈ (vx_atS RX2 69 "java/lang/IllegalStateException" ["java/lang/RuntimeException", "java/lang/Exception"]).filter goodWord, w ∈ lw_tbl := by decide +kernel
set_option maxRecDepth 20000 in
theorem li_x2 : ∀ w ∈ (vx_atS RX2 168 "java/lang/IndexOutOfBoundsException" ["java/lang/RuntimeException", "java/lang/Exception"]).filter goodWord, w ∈ lw_tbl := by decide +kernel
theorem li_all : ∀ w ∈ wsL_law, w ∈ lw_tbl := by
  unfold wsL_law
  exact (List.forall_mem_append.mpr ⟨(List.forall_mem_append.mpr ⟨(List.forall_mem_append.mpr ⟨li_all0, li_x0⟩), li_x1⟩), li_x2⟩)
theorem cNF_in : ∀ w ∈ cNF, w ∈ lw_tbl := in_r [58, 46, 48, 50, 52, 54, 56, 191, 193, 194] (by decide +kernel)
theorem cNF_ot : ∀ w ∈ cNF, w.onTables = true := by decide +kernel
theorem cNW_in : ∀ w ∈ cNW, w ∈ lw_tbl := in_r [117, 223, 258, 119, 121, 123] (by decide +kernel)
theorem cSL_w : ∀ q ∈ cSL, Cond.stringRef RX2 q.1 q.2 ∈ lw_tbl := by
  intro q hq
  simp only [cSL, List.mem_cons, List.not_mem_nil, or_false] at hq
  rcases hq with rfl | rfl | rfl | rfl | rfl | rfl | rfl | rfl | rfl | rfl | rfl | rfl | rfl
  · exact List.mem_of_getElem? (i := 183) (by decide +kernel)
  · exact List.mem_of_getElem? (i := 201) (by decide +kernel)
  · exact List.mem_of_getElem? (i := 230) (by decide +kernel)
  · exact List.mem_of_getElem? (i := 252) (by decide +kernel)
  · exact List.mem_of_getElem? (i := 279) (by decide +kernel)
  · exact List.mem_of_getElem? (i := 284) (by decide +kernel)
  · exact List.mem_of_getElem? (i := 341) (by decide +kernel)
  · exact List.mem_of_getElem? (i := 364) (by decide +kernel)
  · exact List.mem_of_getElem? (i := 376) (by decide +kernel)
  · exact List.mem_of_getElem? (i := 392) (by decide +kernel)
  · exact List.mem_of_getElem? (i := 156) (by decide +kernel)
  · exact List.mem_of_getElem? (i := 265) (by decide +kernel)
  · exact List.mem_of_getElem? (i := 313) (by decide +kernel)
theorem cSL_x : ∀ q ∈ cSL, Cond.exactly (Term.string RX2 q.1) "java/lang/String" ∈ flatC (Jvm.Cond.and given_1 narrow_1) := by
  intro q hq
  simp only [cSL, List.mem_cons, List.not_mem_nil, or_false] at hq
  rcases hq with rfl | rfl | rfl | rfl | rfl | rfl | rfl | rfl | rfl | rfl | rfl | rfl | rfl
  · exact List.mem_of_getElem? (i := 40) (by decide +kernel)
  · exact List.mem_of_getElem? (i := 57) (by decide +kernel)
  · exact List.mem_of_getElem? (i := 87) (by decide +kernel)
  · exact List.mem_of_getElem? (i := 118) (by decide +kernel)
  · exact List.mem_of_getElem? (i := 171) (by decide +kernel)
  · exact List.mem_of_getElem? (i := 195) (by decide +kernel)
  · exact List.mem_of_getElem? (i := 259) (by decide +kernel)
  · exact List.mem_of_getElem? (i := 289) (by decide +kernel)
  · exact List.mem_of_getElem? (i := 324) (by decide +kernel)
  · exact List.mem_of_getElem? (i := 357) (by decide +kernel)
  · exact List.mem_of_getElem? (i := 24) (by decide +kernel)
  · exact List.mem_of_getElem? (i := 149) (by decide +kernel)
  · exact List.mem_of_getElem? (i := 229) (by decide +kernel)
theorem cNC_x : ∀ q ∈ cNC, Cond.not (Cond.castable q.1 q.2) ∈ flatC (Jvm.Cond.and given_1 narrow_1) := by
  intro q hq
  simp only [cNC, List.mem_cons, List.not_mem_nil, or_false] at hq
  rcases hq with rfl | rfl | rfl | rfl | rfl | rfl
  · exact List.mem_of_getElem? (i := 15) (by decide +kernel)
  · exact List.mem_of_getElem? (i := 21) (by decide +kernel)
  · exact List.mem_of_getElem? (i := 10) (by decide +kernel)
  · exact List.mem_of_getElem? (i := 23) (by decide +kernel)
  · exact List.mem_of_getElem? (i := 11) (by decide +kernel)
  · exact List.mem_of_getElem? (i := 17) (by decide +kernel)
theorem zU_x : Cond.isRef (Term.static Bundle.tN "UNASSIGNED_STACK" Bundle.steD) ∈ flatC (Jvm.Cond.and given_1 narrow_1) := List.mem_of_getElem? (i := 4) (by decide +kernel)
theorem zS_x : Cond.isRef (Term.static Bundle.tN "SUPPRESSED_SENTINEL" Bundle.listD) ∈ flatC (Jvm.Cond.and given_1 narrow_1) := List.mem_of_getElem? (i := 5) (by decide +kernel)
theorem zU_l : Cond.laysStatic Bundle.tN "UNASSIGNED_STACK" Bundle.steD ∈ lw_tbl := List.mem_of_getElem? (i := 142) (by decide +kernel)
theorem zS_l : Cond.laysStatic Bundle.tN "SUPPRESSED_SENTINEL" Bundle.listD ∈ lw_tbl := List.mem_of_getElem? (i := 144) (by decide +kernel)
theorem z_i : Cond.initialized Bundle.tN ∈ lw_tbl := List.mem_of_getElem? (i := 21) (by decide +kernel)
theorem lwm_aI : Cond.arrayClass .int ∈ lw_tbl := List.mem_of_getElem? (i := 99) (by decide +kernel)
theorem lwm_aL : Cond.arrayClass .long ∈ lw_tbl := List.mem_of_getElem? (i := 200) (by decide +kernel)
theorem lwm_aO : Cond.arrayOver (.object RX1) ∈ lw_tbl := List.mem_of_getElem? (i := 38) (by decide +kernel)
theorem lwm_mN : Cond.methodLinkNest RX2 17 yX0_init "SpliceRoom" ∈ lw_tbl := List.mem_of_getElem? (i := 41) (by decide +kernel)
theorem lwm_n0 : Cond.instantiable RX0 7 ∈ lw_tbl := List.mem_of_getElem? (i := 40) (by decide +kernel)
theorem lwm_n1 : Cond.instantiable RX1 2 ∈ lw_tbl := List.mem_of_getElem? (i := 184) (by decide +kernel)
theorem lwm_n2 : Cond.instantiable RX2 8 ∈ lw_tbl := List.mem_of_getElem? (i := 30) (by decide +kernel)
theorem lwm_n3 : Cond.instantiable RX3 15 ∈ lw_tbl := List.mem_of_getElem? (i := 410) (by decide +kernel)
end CWords
