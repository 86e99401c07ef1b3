set_option maxRecDepth 20000 in
theorem in_wsL_law0_r1 : ∀ w ∈ wsL_law0_r1, w ∈ lw_tbl := fun w h => (goodIn_p wsL_law0_r1 [44, 47] (by decide +kernel) (by decide +kernel) w h).1
set_option maxRecDepth 20000 in
theorem in_wsL_law0_r2 : ∀ w ∈ wsL_law0_r2, w ∈ lw_tbl := fun w h => (goodIn_p wsL_law0_r2 [52] (by decide +kernel) (by decide +kernel) w h).1
set_option maxRecDepth 20000 in
theorem in_wsL_law0_r3 : ∀ w ∈ wsL_law0_r3, w ∈ lw_tbl := fun w h => (goodIn_p wsL_law0_r3 [91, 95, 114, 144] (by decide +kernel) (by decide +kernel) w h).1
set_option maxRecDepth 20000 in
theorem in_wsL_law0_r4 : ∀ w ∈ wsL_law0_r4, w ∈ lw_tbl := fun w h => (goodIn_p wsL_law0_r4 [162, 175, 195] (by decide +kernel) (by decide +kernel) w h).1
set_option maxRecDepth 20000 in
theorem in_wsL_law0_r5 : ∀ w ∈ wsL_law0_r5, w ∈ lw_tbl := fun w h => (goodIn_p wsL_law0_r5 [280, 283, 354] (by decide +kernel) (by decide +kernel) w h).1
set_option maxRecDepth 20000 in
theorem in_wsL_law0_r6 : ∀ w ∈ wsL_law0_r6, w ∈ lw_tbl := fun w h => (goodIn_p wsL_law0_r6 [359, 362, 366, 370, 374, 377] (by decide +kernel) (by decide +kernel) w h).1
set_option maxRecDepth 20000 in
theorem in_wsL_law0_r7 : ∀ w ∈ wsL_law0_r7, w ∈ lw_tbl := fun w h => (goodIn_p wsL_law0_r7 [382, 385, 404, 409, 430] (by decide +kernel) (by decide +kernel) w h).1
set_option maxRecDepth 20000 in
theorem in_wsL_law0_r8 : ∀ w ∈ wsL_law0_r8, w ∈ lw_tbl := fun w h => (goodIn_p wsL_law0_r8 [434, 438, 443, 446, 450, 454] (by decide +kernel) (by decide +kernel) w h).1
set_option maxRecDepth 20000 in
theorem in_wsL_law0_r9 : ∀ w ∈ wsL_law0_r9, w ∈ lw_tbl := fun w h => (goodIn_p wsL_law0_r9 [459, 464, 468, 471, 475] (by decide +kernel) (by decide +kernel) w h).1
set_option maxRecDepth 20000 in
theorem in_wsL_law0_r10 : ∀ w ∈ wsL_law0_r10, w ∈ lw_tbl := fun w h => (goodIn_p wsL_law0_r10 [480, 487, 491, 497] (by decide +kernel) (by decide +kernel) w h).1
set_option maxRecDepth 20000 in
theorem in_wsL_law0_r11 : ∀ w ∈ wsL_law0_r11, w ∈ lw_tbl := fun w h => (goodIn_p wsL_law0_r11 [501, 505, 509, 513, 518, 523] (by decide +kernel) (by decide +kernel) w h).1
set_option maxRecDepth 20000 in
theorem in_wsL_law0_r12 : ∀ w ∈ wsL_law0_r12, w ∈ lw_tbl := fun w h => (goodIn_p wsL_law0_r12 [527, 531, 535, 540] (by decide +kernel) (by decide +kernel) w h).1
set_option maxRecDepth 20000 in
theorem in_wsL_law0_r13 : ∀ w ∈ wsL_law0_r13, w ∈ lw_tbl := fun w h => (goodIn_p wsL_law0_r13 [545, 549, 555, 559] (by decide +kernel) (by decide +kernel) w h).1
set_option maxRecDepth 20000 in
theorem in_wsL_law0_r14 : ∀ w ∈ wsL_law0_r14, w ∈ lw_tbl := fun w h => (goodIn_p wsL_law0_r14 [564, 569, 573, 582, 579] (by decide +kernel) (by decide +kernel) w h).1
set_option maxRecDepth 20000 in
theorem in_wsL_law0_r15_n : ∀ w ∈ ([Cond.selects RX7 yX7_isKnown yX7_isKnown, Cond.methodLink RX7 233 yX7_loreToAsk, Cond.instanceMethod yX7_loreToAsk, Cond.selects RX7 yX7_loreToAsk yX7_loreToAsk, Cond.methodLink RL 76 yX7_holder, Cond.instanceMethod yX7_holder, Cond.selects RX7 yX7_holder yX7_holder, Cond.methodLink RL 79 yX7_count, Cond.instanceMethod yX7_count, Cond.selects RX7 yX7_count yX7_count, Cond.methodLink RL 142 yL_part, Cond.static yL_part, Cond.constant RL 7 (2147483647), Cond.methodLink RL 147 yL_isTold, Cond.static yL_isTold, Cond.constant RL 136 (32768), Cond.methodLink RL 151 yL_isNight, Cond.static yL_isNight] : List Cond), w ∈ lw_tbl := fun w h => (goodIn_p [Cond.selects RX7 yX7_isKnown yX7_isKnown, Cond.methodLink RX7 233 yX7_loreToAsk, Cond.instanceMethod yX7_loreToAsk, Cond.selects RX7 yX7_loreToAsk yX7_loreToAsk, Cond.methodLink RL 76 yX7_holder, Cond.instanceMethod yX7_holder, Cond.selects RX7 yX7_holder yX7_holder, Cond.methodLink RL 79 yX7_count, Cond.instanceMethod yX7_count, Cond.selects RX7 yX7_count yX7_count, Cond.methodLink RL 142 yL_part, Cond.static yL_part, Cond.constant RL 7 (2147483647), Cond.methodLink RL 147 yL_isTold, Cond.static yL_isTold, Cond.constant RL 136 (32768), Cond.methodLink RL 151 yL_isNight, Cond.static yL_isNight] [] (by decide +kernel) (by decide +kernel) w h).1
set_option maxRecDepth 20000 in
theorem in_wsL_law0_r15_0 : Cond.code yX7_isKnown cX7_isKnown 3 (some .boolean) ∈ lw_tbl := List.mem_of_getElem? (i := 587) rfl
set_option maxRecDepth 20000 in
theorem in_wsL_law0_r15_1 : Cond.code yX7_loreToAsk cX7_loreToAsk 1 (some (.object "MaskHall$Lore")) ∈ lw_tbl := List.mem_of_getElem? (i := 591) rfl
set_option maxRecDepth 20000 in
theorem in_wsL_law0_r15_2 : Cond.code yX7_holder cX7_holder 2 (some .int) ∈ lw_tbl := List.mem_of_getElem? (i := 595) rfl
set_option maxRecDepth 20000 in
theorem in_wsL_law0_r15_3 : Cond.code yX7_count cX7_count 2 (some .int) ∈ lw_tbl := List.mem_of_getElem? (i := 599) rfl
set_option maxRecDepth 20000 in
theorem in_wsL_law0_r15_4 : Cond.code yL_part cL_part 4 (some .int) ∈ lw_tbl := List.mem_of_getElem? (i := 269) rfl
set_option maxRecDepth 20000 in
theorem in_wsL_law0_r15_5 : Cond.code yL_isTold cL_isTold 17 (some .boolean) ∈ lw_tbl := List.mem_of_getElem? (i := 701) rfl
theorem in_wsL_law0_r15 : ∀ w ∈ wsL_law0_r15, w ∈ lw_tbl := List.forall_mem_cons.mpr ⟨(in_wsL_law0_r15_n _ (List.mem_of_getElem? (i := 0) rfl)), List.forall_mem_cons.mpr ⟨in_wsL_law0_r15_0, List.forall_mem_cons.mpr ⟨(in_wsL_law0_r15_n _ (List.mem_of_getElem? (i := 1) rfl)), List.forall_mem_cons.mpr ⟨(in_wsL_law0_r15_n _ (List.mem_of_getElem? (i := 2) rfl)), List.forall_mem_cons.mpr ⟨(in_wsL_law0_r15_n _ (List.mem_of_getElem? (i := 3) rfl)), List.forall_mem_cons.mpr ⟨in_wsL_law0_r15_1, List.forall_mem_cons.mpr ⟨(in_wsL_law0_r15_n _ (List.mem_of_getElem? (i := 4) rfl)), List.forall_mem_cons.mpr ⟨(in_wsL_law0_r15_n _ (List.mem_of_getElem? (i := 5) rfl)), List.forall_mem_cons.mpr ⟨(in_wsL_law0_r15_n _ (List.mem_of_getElem? (i := 6) rfl)), List.forall_mem_cons.mpr ⟨in_wsL_law0_r15_2, List.forall_mem_cons.mpr ⟨(in_wsL_law0_r15_n _ (List.mem_of_getElem? (i := 7) rfl)), List.forall_mem_cons.mpr ⟨(in_wsL_law0_r15_n _ (List.mem_of_getElem? (i := 8) rfl)), List.forall_mem_cons.mpr ⟨(in_wsL_law0_r15_n _ (List.mem_of_getElem? (i := 9) rfl)), List.forall_mem_cons.mpr ⟨in_wsL_law0_r15_3, List.forall_mem_cons.mpr ⟨(in_wsL_law0_r15_n _ (List.mem_of_getElem? (i := 10) rfl)), List.forall_mem_cons.mpr ⟨(in_wsL_law0_r15_n _ (List.mem_of_getElem? (i := 11) rfl)), List.forall_mem_cons.mpr ⟨in_wsL_law0_r15_4, List.forall_mem_cons.mpr ⟨(in_wsL_law0_r15_n _ (List.mem_of_getElem? (i := 12) rfl)), List.forall_mem_cons.mpr ⟨(in_wsL_law0_r15_n _ (List.mem_of_getElem? (i := 13) rfl)), List.forall_mem_cons.mpr ⟨(in_wsL_law0_r15_n _ (List.mem_of_getElem? (i := 14) rfl)), List.forall_mem_cons.mpr ⟨in_wsL_law0_r15_5, List.forall_mem_cons.mpr ⟨(in_wsL_law0_r15_n _ (List.mem_of_getElem? (i := 15) rfl)), List.forall_mem_cons.mpr ⟨(in_wsL_law0_r15_n _ (List.mem_of_getElem? (i := 16) rfl)), List.forall_mem_cons.mpr ⟨(in_wsL_law0_r15_n _ (List.mem_of_getElem? (i := 17) rfl)), fun _ h => absurd h List.not_mem_nil⟩⟩⟩⟩⟩⟩⟩⟩⟩⟩⟩⟩⟩⟩⟩⟩⟩⟩⟩⟩⟩⟩⟩⟩
set_option maxRecDepth 20000 in
theorem in_wsL_law0_r16_n : ∀ w ∈ ([Cond.methodLink RL 155 yL_isMove, Cond.static yL_isMove, Cond.methodLink RL 98 yL_isIn, Cond.static yL_isIn, Cond.methodLink RL 137 yL_moves, Cond.static yL_moves, Cond.methodLink RL 105 yL_passes, Cond.static yL_passes, Cond.methodLink RL 101 yL_closes, Cond.static yL_closes, Cond.methodLink RL 159 yL_isSo, Cond.static yL_isSo, Cond.methodLink RL 109 yL_way, Cond.static yL_way, Cond.methodLink RL 113 yX7_state, Cond.instanceMethod yX7_state] : List Cond), w ∈ lw_tbl := fun w h => (goodIn_p [Cond.methodLink RL 155 yL_isMove, Cond.static yL_isMove, Cond.methodLink RL 98 yL_isIn, Cond.static yL_isIn, Cond.methodLink RL 137 yL_moves, Cond.static yL_moves, Cond.methodLink RL 105 yL_passes, Cond.static yL_passes, Cond.methodLink RL 101 yL_closes, Cond.static yL_closes, Cond.methodLink RL 159 yL_isSo, Cond.static yL_isSo, Cond.methodLink RL 109 yL_way, Cond.static yL_way, Cond.methodLink RL 113 yX7_state, Cond.instanceMethod yX7_state] [] (by decide +kernel) (by decide +kernel) w h).1
set_option maxRecDepth 20000 in
theorem in_wsL_law0_r16_0 : Cond.code yL_isNight cL_isNight 9 (some .boolean) ∈ lw_tbl := List.mem_of_getElem? (i := 705) rfl
set_option maxRecDepth 20000 in
theorem in_wsL_law0_r16_1 : Cond.code yL_isMove cL_isMove 25 (some .boolean) ∈ lw_tbl := List.mem_of_getElem? (i := 708) rfl
set_option maxRecDepth 20000 in
theorem in_wsL_law0_r16_2 : Cond.code yL_isIn cL_isIn 2 (some .boolean) ∈ lw_tbl := List.mem_of_getElem? (i := 615) rfl
set_option maxRecDepth 20000 in
theorem in_wsL_law0_r16_3 : Cond.code yL_moves cL_moves 2 (some .int) ∈ lw_tbl := List.mem_of_getElem? (i := 711) rfl
set_option maxRecDepth 20000 in
theorem in_wsL_law0_r16_4 : Cond.code yL_passes cL_passes 4 none ∈ lw_tbl := List.mem_of_getElem? (i := 714) rfl
set_option maxRecDepth 20000 in
theorem in_wsL_law0_r16_5 : Cond.code yL_closes cL_closes 14 (some .boolean) ∈ lw_tbl := List.mem_of_getElem? (i := 612) rfl
set_option maxRecDepth 20000 in
theorem in_wsL_law0_r16_6 : Cond.code yL_isSo cL_isSo 11 (some .boolean) ∈ lw_tbl := List.mem_of_getElem? (i := 606) rfl
set_option maxRecDepth 20000 in
theorem in_wsL_law0_r16_7 : Cond.code yL_way cL_way 12 (some .int) ∈ lw_tbl := List.mem_of_getElem? (i := 609) rfl
theorem in_wsL_law0_r16 : ∀ w ∈ wsL_law0_r16, w ∈ lw_tbl := List.forall_mem_cons.mpr ⟨in_wsL_law0_r16_0, List.forall_mem_cons.mpr ⟨(in_wsL_law0_r16_n _ (List.mem_of_getElem? (i := 0) rfl)), List.forall_mem_cons.mpr ⟨(in_wsL_law0_r16_n _ (List.mem_of_getElem? (i := 1) rfl)), List.forall_mem_cons.mpr ⟨in_wsL_law0_r16_1, List.forall_mem_cons.mpr ⟨(in_wsL_law0_r16_n _ (List.mem_of_getElem? (i := 2) rfl)), List.forall_mem_cons.mpr ⟨(in_wsL_law0_r16_n _ (List.mem_of_getElem? (i := 3) rfl)), List.forall_mem_cons.mpr ⟨in_wsL_law0_r16_2, List.forall_mem_cons.mpr ⟨(in_wsL_law0_r16_n _ (List.mem_of_getElem? (i := 4) rfl)), List.forall_mem_cons.mpr ⟨(in_wsL_law0_r16_n _ (List.mem_of_getElem? (i := 5) rfl)), List.forall_mem_cons.mpr ⟨in_wsL_law0_r16_3, List.forall_mem_cons.mpr ⟨(in_wsL_law0_r16_n _ (List.mem_of_getElem? (i := 6) rfl)), List.forall_mem_cons.mpr ⟨(in_wsL_law0_r16_n _ (List.mem_of_getElem? (i := 7) rfl)), List.forall_mem_cons.mpr ⟨in_wsL_law0_r16_4, List.forall_mem_cons.mpr ⟨(in_wsL_law0_r16_n _ (List.mem_of_getElem? (i := 8) rfl)), List.forall_mem_cons.mpr ⟨(in_wsL_law0_r16_n _ (List.mem_of_getElem? (i := 9) rfl)), List.forall_mem_cons.mpr ⟨in_wsL_law0_r16_5, List.forall_mem_cons.mpr ⟨(in_wsL_law0_r16_n _ (List.mem_of_getElem? (i := 10) rfl)), List.forall_mem_cons.mpr ⟨(in_wsL_law0_r16_n _ (List.mem_of_getElem? (i := 11) rfl)), List.forall_mem_cons.mpr ⟨in_wsL_law0_r16_6, List.forall_mem_cons.mpr ⟨(in_wsL_law0_r16_n _ (List.mem_of_getElem? (i := 12) rfl)), List.forall_mem_cons.mpr ⟨(in_wsL_law0_r16_n _ (List.mem_of_getElem? (i := 13) rfl)), List.forall_mem_cons.mpr ⟨in_wsL_law0_r16_7, List.forall_mem_cons.mpr ⟨(in_wsL_law0_r16_n _ (List.mem_of_getElem? (i := 14) rfl)), List.forall_mem_cons.mpr ⟨(in_wsL_law0_r16_n _ (List.mem_of_getElem? (i := 15) rfl)), fun _ h => absurd h List.not_mem_nil⟩⟩⟩⟩⟩⟩⟩⟩⟩⟩⟩⟩⟩⟩⟩⟩⟩⟩⟩⟩⟩⟩⟩⟩
set_option maxRecDepth 20000 in
theorem in_wsL_law0_r17 : ∀ w ∈ wsL_law0_r17, w ∈ lw_tbl := fun w h => (goodIn_p wsL_law0_r17 [619, 623, 627, 631, 636] (by decide +kernel) (by decide +kernel) w h).1
set_option maxRecDepth 20000 in
theorem in_wsL_law0_r18 : ∀ w ∈ wsL_law0_r18, w ∈ lw_tbl := fun w h => (goodIn_p wsL_law0_r18 [641, 645, 649, 653, 657] (by decide +kernel) (by decide +kernel) w h).1
set_option maxRecDepth 20000 in
theorem in_wsL_law0_r19 : ∀ w ∈ wsL_law0_r19, w ∈ lw_tbl := fun w h => (goodIn_p wsL_law0_r19 [660, 664, 668, 672] (by decide +kernel) (by decide +kernel) w h).1
set_option maxRecDepth 20000 in
theorem in_wsL_law0_r20 : ∀ w ∈ wsL_law0_r20, w ∈ lw_tbl := fun w h => (goodIn_p wsL_law0_r20 [680, 686, 690, 694] (by decide +kernel) (by decide +kernel) w h).1
set_option maxRecDepth 20000 in
theorem in_wsL_law0_r21 : ∀ w ∈ wsL_law0_r21, w ∈ lw_tbl := fun w h => (goodIn_p wsL_law0_r21 [698] (by decide +kernel) (by decide +kernel) w h).1
theorem in_wsX70 : ∀ w ∈ wsX70, w ∈ lw_tbl := by decide +kernel
theorem in_wsX00 : ∀ w ∈ wsX00, w ∈ lw_tbl := by decide +kernel
theorem in_wsX20 : ∀ w ∈ wsX20, w ∈ lw_tbl := by decide +kernel
theorem in_wsX50 : ∀ w ∈ wsX50, w ∈ lw_tbl := by decide +kernel
theorem in_wsX30 : ∀ w ∈ wsX30, w ∈ lw_tbl := by decide +kernel
theorem in_wsX40 : ∀ w ∈ wsX40, w ∈ lw_tbl := by decide +kernel
theorem in_wsX60 : ∀ w ∈ wsX60, w ∈ lw_tbl := by decide +kernel
theorem in_wsX10 : ∀ w ∈ wsX10, w ∈ lw_tbl := by decide +kernel
theorem wsL_law_in0 : ∀ w ∈ wsL_law0, w ∈ lw_tbl := (List.forall_mem_append.mpr ⟨(List.forall_mem_append.mpr ⟨(List.forall_mem_append.mpr ⟨(List.forall_mem_append.mpr ⟨(List.forall_mem_append.mpr ⟨(List.forall_mem_append.mpr ⟨(List.forall_mem_append.mpr ⟨(List.forall_mem_append.mpr ⟨(List.forall_mem_append.mpr ⟨(List.forall_mem_append.mpr ⟨in_wsL_law0_r1, (List.forall_mem_append.mpr ⟨in_wsL_law0_r2, (List.forall_mem_append.mpr ⟨in_wsL_law0_r3, (List.forall_mem_append.mpr ⟨in_wsL_law0_r4, (List.forall_mem_append.mpr ⟨in_wsL_law0_r5, (List.forall_mem_append.mpr ⟨in_wsL_law0_r6, (List.forall_mem_append.mpr ⟨in_wsL_law0_r7, (List.forall_mem_append.mpr ⟨in_wsL_law0_r8, (List.forall_mem_append.mpr ⟨in_wsL_law0_r9, (List.forall_mem_append.mpr ⟨in_wsL_law0_r10, (List.forall_mem_append.mpr ⟨in_wsL_law0_r11, (List.forall_mem_append.mpr ⟨in_wsL_law0_r12, (List.forall_mem_append.mpr ⟨in_wsL_law0_r13, (List.forall_mem_append.mpr ⟨in_wsL_law0_r14, (List.forall_mem_append.mpr ⟨in_wsL_law0_r15, (List.forall_mem_append.mpr ⟨in_wsL_law0_r16, (List.forall_mem_append.mpr ⟨in_wsL_law0_r17, (List.forall_mem_append.mpr ⟨in_wsL_law0_r18, (List.forall_mem_append.mpr ⟨in_wsL_law0_r19, (List.forall_mem_append.mpr ⟨in_wsL_law0_r20, in_wsL_law0_r21⟩)⟩)⟩)⟩)⟩)⟩)⟩)⟩)⟩)⟩)⟩)⟩)⟩)⟩)⟩)⟩)⟩)⟩)⟩)⟩), in_wsX70⟩), in_wsX00⟩), in_wsX20⟩), in_wsX50⟩), in_wsX30⟩), in_wsX40⟩), in_wsX60⟩), in_wsX10⟩), fun _ h => absurd h List.not_mem_nil⟩)
theorem wsL_law_x0 : ∀ w ∈ (vx_atS RX7 193 "java/lang/IndexOutOfBoundsException" ["java/lang/RuntimeException", "java/lang/Exception"]).filter goodWord, w ∈ lw_tbl := by decide +kernel
theorem wsL_law_x1 : ∀ w ∈ (vx_atS RX7 118 "java/lang/IllegalStateException" ["java/lang/RuntimeException", "java/lang/Exception"]).filter goodWord, w ∈ lw_tbl := by decide +kernel
theorem wsL_law_x2 : ∀ w ∈ (vx_atS RX7 247 "java/lang/IllegalArgumentException" ["java/lang/RuntimeException", "java/lang/Exception"]).filter goodWord, w ∈ lw_tbl := by decide +kernel
theorem wsL_law_in : ∀ w ∈ wsL_law, w ∈ lw_tbl := fun w h => (List.mem_append.mp h).elim (fun h => (List.mem_append.mp h).elim (fun h => (List.mem_append.mp h).elim (fun h => wsL_law_in0 w h) (fun h => wsL_law_x0 w h)) (fun h => wsL_law_x1 w h)) (fun h => wsL_law_x2 w h)
theorem inlX0 : ∀ w ∈ wsX00, w ∈ wsL_law := fun _ h => List.mem_append_left _ (List.mem_append_left _ (List.mem_append_left _ (List.mem_append_left _ (List.mem_append_left _ (List.mem_append_left _ (List.mem_append_left _ (List.mem_append_left _ (List.mem_append_left _ (List.mem_append_left _ (List.mem_append_right _ h))))))))))
theorem inX0 : ∀ w ∈ wsX00, w ∈ lw_tbl := fun w h => wsL_law_in w (inlX0 w h)
theorem inlX1 : ∀ w ∈ wsX10, w ∈ wsL_law := fun _ h => List.mem_append_left _ (List.mem_append_left _ (List.mem_append_left _ (List.mem_append_left _ (List.mem_append_right _ h))))
theorem inX1 : ∀ w ∈ wsX10, w ∈ lw_tbl := fun w h => wsL_law_in w (inlX1 w h)
theorem inlX2 : ∀ w ∈ wsX20, w ∈ wsL_law := fun _ h => List.mem_append_left _ (List.mem_append_left _ (List.mem_append_left _ (List.mem_append_left _ (List.mem_append_left _ (List.mem_append_left _ (List.mem_append_left _ (List.mem_append_left _ (List.mem_append_left _ (List.mem_append_right _ h)))))))))
theorem inX2 : ∀ w ∈ wsX20, w ∈ lw_tbl := fun w h => wsL_law_in w (inlX2 w h)
theorem inlX3 : ∀ w ∈ wsX30, w ∈ wsL_law := fun _ h => List.mem_append_left _ (List.mem_append_left _ (List.mem_append_left _ (List.mem_append_left _ (List.mem_append_left _ (List.mem_append_left _ (List.mem_append_left _ (List.mem_append_right _ h)))))))
theorem inX3 : ∀ w ∈ wsX30, w ∈ lw_tbl := fun w h => wsL_law_in w (inlX3 w h)
theorem inlX4 : ∀ w ∈ wsX40, w ∈ wsL_law := fun _ h => List.mem_append_left _ (List.mem_append_left _ (List.mem_append_left _ (List.mem_append_left _ (List.mem_append_left _ (List.mem_append_left _ (List.mem_append_right _ h))))))
theorem inX4 : ∀ w ∈ wsX40, w ∈ lw_tbl := fun w h => wsL_law_in w (inlX4 w h)
theorem inlX5 : ∀ w ∈ wsX50, w ∈ wsL_law := fun _ h => List.mem_append_left _ (List.mem_append_left _ (List.mem_append_left _ (List.mem_append_left _ (List.mem_append_left _ (List.mem_append_left _ (List.mem_append_left _ (List.mem_append_left _ (List.mem_append_right _ h))))))))
theorem inX5 : ∀ w ∈ wsX50, w ∈ lw_tbl := fun w h => wsL_law_in w (inlX5 w h)
theorem inlX6 : ∀ w ∈ wsX60, w ∈ wsL_law := fun _ h => List.mem_append_left _ (List.mem_append_left _ (List.mem_append_left _ (List.mem_append_left _ (List.mem_append_left _ (List.mem_append_right _ h)))))
theorem inX6 : ∀ w ∈ wsX60, w ∈ lw_tbl := fun w h => wsL_law_in w (inlX6 w h)
theorem inlX7 : ∀ w ∈ wsX70, w ∈ wsL_law := fun _ h => List.mem_append_left _ (List.mem_append_left _ (List.mem_append_left _ (List.mem_append_left _ (List.mem_append_left _ (List.mem_append_left _ (List.mem_append_left _ (List.mem_append_left _ (List.mem_append_left _ (List.mem_append_left _ (List.mem_append_left _ (List.mem_append_right _ h)))))))))))
theorem inX7 : ∀ w ∈ wsX70, w ∈ lw_tbl := fun w h => wsL_law_in w (inlX7 w h)
theorem inX8 : ∀ w ∈ wsX80, w ∈ lw_tbl := by decide +kernel
theorem inJx145de : ∀ w ∈ wsJx145de0, w ∈ lw_tbl := by decide +kernel
theorem inJ9 : ∀ w ∈ wsJ90, w ∈ lw_tbl := by decide +kernel
theorem inJ0 : ∀ w ∈ wsJ00, w ∈ lw_tbl := by decide +kernel
theorem inJ10 : ∀ w ∈ wsJ100, w ∈ lw_tbl := by decide +kernel
theorem inJ7 : ∀ w ∈ wsJ70, w ∈ lw_tbl := by decide +kernel
