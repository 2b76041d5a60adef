set_option maxRecDepth 100000 in
theorem kk_wsL_law0_r1_0 : Cond.classLink RL 8 RX3 ∈ lw_tbl := by decide +kernel
set_option maxRecDepth 100000 in
theorem kk_wsL_law0_r1_1 : Cond.instantiable RX3 5 ∈ lw_tbl := by decide +kernel
set_option maxRecDepth 100000 in
theorem kk_wsL_law0_r1_2 : Cond.initialized RX3 ∈ lw_tbl := by decide +kernel
set_option maxRecDepth 100000 in
theorem kk_wsL_law0_r1_3 : Cond.methodLink RL 103 yL_pays ∈ lw_tbl := by decide +kernel
set_option maxRecDepth 100000 in
theorem kk_wsL_law0_r1_4 : Cond.static yL_pays ∈ lw_tbl := by decide +kernel
set_option maxRecDepth 100000 in
theorem kk_wsL_law0_r1_5 : Cond.initialized RL ∈ lw_tbl := by decide +kernel
set_option maxRecDepth 100000 in
theorem kk_wsL_law0_r1_6 : Cond.code yL_pays cL_pays 1 (some .boolean) ∈ lw_tbl := List.mem_of_getElem? (i := 533) rfl
set_option maxRecDepth 100000 in
theorem kk_wsL_law0_r1_7 : Cond.methodLink RL 89 yX3_init ∈ lw_tbl := by decide +kernel
set_option maxRecDepth 100000 in
theorem kk_wsL_law0_r1_8 : Cond.instanceMethod yX3_init ∈ lw_tbl := by decide +kernel
set_option maxRecDepth 100000 in
theorem kk_wsL_law0_r1_9 : Cond.code yX3_init cX3_init 1 none ∈ lw_tbl := by decide +kernel
set_option maxRecDepth 100000 in
theorem kk_wsL_law0_r1_10 : Cond.methodLink RX3 3 objectInit ∈ lw_tbl := by decide +kernel
set_option maxRecDepth 100000 in
theorem kk_wsL_law0_r1_11 : Cond.instanceMethod objectInit ∈ lw_tbl := by decide +kernel
set_option maxRecDepth 100000 in
theorem kk_wsL_law0_r1_12 : Cond.code objectInit ⟨#[0xb1]⟩ 1 none ∈ lw_tbl := by decide +kernel
set_option maxRecDepth 100000 in
theorem kk_wsL_law0_r1_13 : Cond.arrayClass .int ∈ lw_tbl := by decide +kernel
set_option maxRecDepth 100000 in
theorem kk_wsL_law0_r1_14 : Cond.fieldLink RX3 9 "RosterPay" "bases" "[I" ∈ lw_tbl := by decide +kernel
set_option maxRecDepth 100000 in
theorem kk_wsL_law0_r1_15 : Cond.arrayClass .boolean ∈ lw_tbl := by decide +kernel
set_option maxRecDepth 100000 in
theorem kk_wsL_law0_r1_16 : Cond.fieldLink RX3 19 "RosterPay" "holidays" "[Z" ∈ lw_tbl := by decide +kernel
set_option maxRecDepth 100000 in
theorem kk_wsL_law0_r1_17 : Cond.classLink RX3 23 RJx4a65c ∈ lw_tbl := by decide +kernel
set_option maxRecDepth 100000 in
theorem kk_wsL_law0_r1_18 : Cond.instantiable RJx4a65c 3 ∈ lw_tbl := by decide +kernel
set_option maxRecDepth 100000 in
theorem kk_wsL_law0_r1_19 : Cond.initialized RJx4a65c ∈ lw_tbl := by decide +kernel
set_option maxRecDepth 100000 in
theorem kk_wsL_law0_r1_20 : Cond.fieldLink RX3 26 "RosterPay" "rules" "Ljava/util/ArrayList;" ∈ lw_tbl := by decide +kernel
set_option maxRecDepth 100000 in
theorem kk_wsL_law0_r1_21 : Cond.fieldLink RX3 30 "RosterPay" "workers" "Ljava/util/ArrayList;" ∈ lw_tbl := by decide +kernel
set_option maxRecDepth 100000 in
theorem kk_wsL_law0_r1_22 : Cond.fieldLink RX3 33 "RosterPay" "roster" "Ljava/util/ArrayList;" ∈ lw_tbl := by decide +kernel
set_option maxRecDepth 100000 in
theorem kk_wsL_law0_r1_23 : Cond.methodLink RX3 13 yJ7_fill_53178 ∈ lw_tbl := by decide +kernel
theorem kk_wsL_law0_r1 : ∀ w ∈ wsL_law0_r1, w ∈ lw_tbl := List.forall_mem_cons.mpr ⟨kk_wsL_law0_r1_0, List.forall_mem_cons.mpr ⟨kk_wsL_law0_r1_1, List.forall_mem_cons.mpr ⟨kk_wsL_law0_r1_2, List.forall_mem_cons.mpr ⟨kk_wsL_law0_r1_3, List.forall_mem_cons.mpr ⟨kk_wsL_law0_r1_4, List.forall_mem_cons.mpr ⟨kk_wsL_law0_r1_5, List.forall_mem_cons.mpr ⟨kk_wsL_law0_r1_6, List.forall_mem_cons.mpr ⟨kk_wsL_law0_r1_7, List.forall_mem_cons.mpr ⟨kk_wsL_law0_r1_8, List.forall_mem_cons.mpr ⟨kk_wsL_law0_r1_9, List.forall_mem_cons.mpr ⟨kk_wsL_law0_r1_10, List.forall_mem_cons.mpr ⟨kk_wsL_law0_r1_11, List.forall_mem_cons.mpr ⟨kk_wsL_law0_r1_12, List.forall_mem_cons.mpr ⟨kk_wsL_law0_r1_13, List.forall_mem_cons.mpr ⟨kk_wsL_law0_r1_14, List.forall_mem_cons.mpr ⟨kk_wsL_law0_r1_15, List.forall_mem_cons.mpr ⟨kk_wsL_law0_r1_16, List.forall_mem_cons.mpr ⟨kk_wsL_law0_r1_17, List.forall_mem_cons.mpr ⟨kk_wsL_law0_r1_18, List.forall_mem_cons.mpr ⟨kk_wsL_law0_r1_19, List.forall_mem_cons.mpr ⟨kk_wsL_law0_r1_20, List.forall_mem_cons.mpr ⟨kk_wsL_law0_r1_21, List.forall_mem_cons.mpr ⟨kk_wsL_law0_r1_22, List.forall_mem_cons.mpr ⟨kk_wsL_law0_r1_23, fun _ h => absurd h List.not_mem_nil⟩⟩⟩⟩⟩⟩⟩⟩⟩⟩⟩⟩⟩⟩⟩⟩⟩⟩⟩⟩⟩⟩⟩⟩
set_option maxRecDepth 100000 in
theorem kk_wsL_law0_r2 : ∀ w ∈ wsL_law0_r2, w ∈ lw_tbl := by decide +kernel
set_option maxRecDepth 100000 in
theorem kk_wsL_law0_r3 : ∀ w ∈ wsL_law0_r3, w ∈ lw_tbl := by decide +kernel
set_option maxRecDepth 100000 in
theorem kk_wsL_law0_r4 : ∀ w ∈ wsL_law0_r4, w ∈ lw_tbl := by decide +kernel
set_option maxRecDepth 100000 in
theorem kk_wsL_law0_r5 : ∀ w ∈ wsL_law0_r5, w ∈ lw_tbl := by decide +kernel
set_option maxRecDepth 100000 in
theorem kk_wsL_law0_r6 : ∀ w ∈ wsL_law0_r6, w ∈ lw_tbl := by decide +kernel
set_option maxRecDepth 100000 in
theorem kk_wsL_law0_r7 : ∀ w ∈ wsL_law0_r7, w ∈ lw_tbl := by decide +kernel
set_option maxRecDepth 100000 in
theorem kk_wsL_law0_r8 : ∀ w ∈ wsL_law0_r8, w ∈ lw_tbl := by decide +kernel
set_option maxRecDepth 100000 in
theorem kk_wsL_law0_r9 : ∀ w ∈ wsL_law0_r9, w ∈ lw_tbl := by decide +kernel
set_option maxRecDepth 100000 in
theorem kk_wsL_law0_r10 : ∀ w ∈ wsL_law0_r10, w ∈ lw_tbl := by decide +kernel
set_option maxRecDepth 100000 in
theorem kk_wsL_law0_r11 : ∀ w ∈ wsL_law0_r11, w ∈ lw_tbl := by decide +kernel
set_option maxRecDepth 100000 in
theorem kk_wsL_law0_r12 : ∀ w ∈ wsL_law0_r12, w ∈ lw_tbl := by decide +kernel
set_option maxRecDepth 100000 in
theorem kk_wsL_law0_r13 : ∀ w ∈ wsL_law0_r13, w ∈ lw_tbl := by decide +kernel
set_option maxRecDepth 100000 in
theorem kk_wsL_law0_r14 : ∀ w ∈ wsL_law0_r14, w ∈ lw_tbl := by decide +kernel
set_option maxRecDepth 100000 in
theorem kk_wsL_law0_r15_0 : Cond.static yL_refuses ∈ lw_tbl := by decide +kernel
set_option maxRecDepth 100000 in
theorem kk_wsL_law0_r15_1 : Cond.code yL_refuses cL_refuses 16 (some .boolean) ∈ lw_tbl := List.mem_of_getElem? (i := 445) rfl
set_option maxRecDepth 100000 in
theorem kk_wsL_law0_r15_2 : Cond.constant RL 79 (2147483647) ∈ lw_tbl := by decide +kernel
set_option maxRecDepth 100000 in
theorem kk_wsL_law0_r15_3 : Cond.methodLink RL 86 yL_rule ∈ lw_tbl := by decide +kernel
set_option maxRecDepth 100000 in
theorem kk_wsL_law0_r15_4 : Cond.static yL_rule ∈ lw_tbl := by decide +kernel
set_option maxRecDepth 100000 in
theorem kk_wsL_law0_r15_5 : Cond.codeWith yL_rule cL_rule 7 (some .int) [(0, 11, 12, 13), (0, 11, 17, 15)] ∈ lw_tbl := by decide +kernel
set_option maxRecDepth 100000 in
theorem kk_wsL_law0_r15_6 : Cond.methodLink RL 7 yX3_addRule ∈ lw_tbl := by decide +kernel
set_option maxRecDepth 100000 in
theorem kk_wsL_law0_r15_7 : Cond.instanceMethod yX3_addRule ∈ lw_tbl := by decide +kernel
set_option maxRecDepth 100000 in
theorem kk_wsL_law0_r15_8 : Cond.selects RX3 yX3_addRule yX3_addRule ∈ lw_tbl := by decide +kernel
set_option maxRecDepth 100000 in
theorem kk_wsL_law0_r15_9 : Cond.code yX3_addRule cX3_addRule 7 (some .int) ∈ lw_tbl := by decide +kernel
set_option maxRecDepth 100000 in
theorem kk_wsL_law0_r15_10 : Cond.classLink RX3 56 RX0 ∈ lw_tbl := by decide +kernel
set_option maxRecDepth 100000 in
theorem kk_wsL_law0_r15_11 : Cond.instantiable RX0 7 ∈ lw_tbl := by decide +kernel
set_option maxRecDepth 100000 in
theorem kk_wsL_law0_r15_12 : Cond.methodLink RX3 58 yX0_init ∈ lw_tbl := by decide +kernel
set_option maxRecDepth 100000 in
theorem kk_wsL_law0_r15_13 : Cond.instanceMethod yX0_init ∈ lw_tbl := by decide +kernel
set_option maxRecDepth 100000 in
theorem kk_wsL_law0_r15_14 : Cond.code yX0_init cX0_init 7 none ∈ lw_tbl := by decide +kernel
set_option maxRecDepth 100000 in
theorem kk_wsL_law0_r15_15 : Cond.methodLink RX0 3 objectInit ∈ lw_tbl := by decide +kernel
set_option maxRecDepth 100000 in
theorem kk_wsL_law0_r15_16 : Cond.fieldLink RX0 9 "RosterPay$Rule" "number" "I" ∈ lw_tbl := by decide +kernel
set_option maxRecDepth 100000 in
theorem kk_wsL_law0_r15_17 : Cond.fieldLink RX0 27 "RosterPay$Rule" "percent" "I" ∈ lw_tbl := by decide +kernel
set_option maxRecDepth 100000 in
theorem kk_wsL_law0_r15_18 : Cond.methodLink RL 94 yL_at ∈ lw_tbl := by decide +kernel
set_option maxRecDepth 100000 in
theorem kk_wsL_law0_r15_19 : Cond.static yL_at ∈ lw_tbl := by decide +kernel
set_option maxRecDepth 100000 in
theorem kk_wsL_law0_r15_20 : Cond.code yL_at cL_at 5 (some .boolean) ∈ lw_tbl := List.mem_of_getElem? (i := 536) rfl
set_option maxRecDepth 100000 in
theorem kk_wsL_law0_r15_21 : Cond.methodLink RL 107 yL_hours ∈ lw_tbl := by decide +kernel
set_option maxRecDepth 100000 in
theorem kk_wsL_law0_r15_22 : Cond.static yL_hours ∈ lw_tbl := by decide +kernel
set_option maxRecDepth 100000 in
theorem kk_wsL_law0_r15_23 : Cond.code yL_hours cL_hours 2 (some .boolean) ∈ lw_tbl := List.mem_of_getElem? (i := 539) rfl
theorem kk_wsL_law0_r15 : ∀ w ∈ wsL_law0_r15, w ∈ lw_tbl := List.forall_mem_cons.mpr ⟨kk_wsL_law0_r15_0, List.forall_mem_cons.mpr ⟨kk_wsL_law0_r15_1, List.forall_mem_cons.mpr ⟨kk_wsL_law0_r15_2, List.forall_mem_cons.mpr ⟨kk_wsL_law0_r15_3, List.forall_mem_cons.mpr ⟨kk_wsL_law0_r15_4, List.forall_mem_cons.mpr ⟨kk_wsL_law0_r15_5, List.forall_mem_cons.mpr ⟨kk_wsL_law0_r15_6, List.forall_mem_cons.mpr ⟨kk_wsL_law0_r15_7, List.forall_mem_cons.mpr ⟨kk_wsL_law0_r15_8, List.forall_mem_cons.mpr ⟨kk_wsL_law0_r15_9, List.forall_mem_cons.mpr ⟨kk_wsL_law0_r15_10, List.forall_mem_cons.mpr ⟨kk_wsL_law0_r15_11, List.forall_mem_cons.mpr ⟨kk_wsL_law0_r15_12, List.forall_mem_cons.mpr ⟨kk_wsL_law0_r15_13, List.forall_mem_cons.mpr ⟨kk_wsL_law0_r15_14, List.forall_mem_cons.mpr ⟨kk_wsL_law0_r15_15, List.forall_mem_cons.mpr ⟨kk_wsL_law0_r15_16, List.forall_mem_cons.mpr ⟨kk_wsL_law0_r15_17, List.forall_mem_cons.mpr ⟨kk_wsL_law0_r15_18, List.forall_mem_cons.mpr ⟨kk_wsL_law0_r15_19, List.forall_mem_cons.mpr ⟨kk_wsL_law0_r15_20, List.forall_mem_cons.mpr ⟨kk_wsL_law0_r15_21, List.forall_mem_cons.mpr ⟨kk_wsL_law0_r15_22, List.forall_mem_cons.mpr ⟨kk_wsL_law0_r15_23, fun _ h => absurd h List.not_mem_nil⟩⟩⟩⟩⟩⟩⟩⟩⟩⟩⟩⟩⟩⟩⟩⟩⟩⟩⟩⟩⟩⟩⟩⟩
set_option maxRecDepth 100000 in
theorem kk_wsL_law0_r16_0 : Cond.constant RL 98 (48000) ∈ lw_tbl := by decide +kernel
set_option maxRecDepth 100000 in
theorem kk_wsL_law0_r16_1 : Cond.methodLink RL 99 yL_most ∈ lw_tbl := by decide +kernel
set_option maxRecDepth 100000 in
theorem kk_wsL_law0_r16_2 : Cond.static yL_most ∈ lw_tbl := by decide +kernel
set_option maxRecDepth 100000 in
theorem kk_wsL_law0_r16_3 : Cond.code yL_most cL_most 2 (some .boolean) ∈ lw_tbl := List.mem_of_getElem? (i := 543) rfl
theorem kk_wsL_law0_r16 : ∀ w ∈ wsL_law0_r16, w ∈ lw_tbl := List.forall_mem_cons.mpr ⟨kk_wsL_law0_r16_0, List.forall_mem_cons.mpr ⟨kk_wsL_law0_r16_1, List.forall_mem_cons.mpr ⟨kk_wsL_law0_r16_2, List.forall_mem_cons.mpr ⟨kk_wsL_law0_r16_3, fun _ h => absurd h List.not_mem_nil⟩⟩⟩⟩
set_option maxRecDepth 100000 in
theorem kk_wsX30 : ∀ w ∈ wsX30, w ∈ lw_tbl := by decide +kernel
set_option maxRecDepth 100000 in
theorem kk_wsJx4a65c0 : ∀ w ∈ wsJx4a65c0, w ∈ lw_tbl := by decide +kernel
set_option maxRecDepth 100000 in
theorem kk_wsX00 : ∀ w ∈ wsX00, w ∈ lw_tbl := by decide +kernel
set_option maxRecDepth 100000 in
theorem kk_wsX20 : ∀ w ∈ wsX20, w ∈ lw_tbl := by decide +kernel
set_option maxRecDepth 100000 in
theorem kk_wsX10 : ∀ w ∈ wsX10, w ∈ lw_tbl := by decide +kernel
theorem wsL_law_in0 : ∀ w ∈ wsL_law0, w ∈ lw_tbl := (List.forall_mem_append.mpr ⟨(List.forall_mem_append.mpr ⟨(List.forall_mem_append.mpr ⟨(List.forall_mem_append.mpr ⟨(List.forall_mem_append.mpr ⟨(List.forall_mem_append.mpr ⟨(List.forall_mem_append.mpr ⟨kk_wsL_law0_r1, (List.forall_mem_append.mpr ⟨kk_wsL_law0_r2, (List.forall_mem_append.mpr ⟨kk_wsL_law0_r3, (List.forall_mem_append.mpr ⟨kk_wsL_law0_r4, (List.forall_mem_append.mpr ⟨kk_wsL_law0_r5, (List.forall_mem_append.mpr ⟨kk_wsL_law0_r6, (List.forall_mem_append.mpr ⟨kk_wsL_law0_r7, (List.forall_mem_append.mpr ⟨kk_wsL_law0_r8, (List.forall_mem_append.mpr ⟨kk_wsL_law0_r9, (List.forall_mem_append.mpr ⟨kk_wsL_law0_r10, (List.forall_mem_append.mpr ⟨kk_wsL_law0_r11, (List.forall_mem_append.mpr ⟨kk_wsL_law0_r12, (List.forall_mem_append.mpr ⟨kk_wsL_law0_r13, (List.forall_mem_append.mpr ⟨kk_wsL_law0_r14, (List.forall_mem_append.mpr ⟨kk_wsL_law0_r15, kk_wsL_law0_r16⟩)⟩)⟩)⟩)⟩)⟩)⟩)⟩)⟩)⟩)⟩)⟩)⟩)⟩)⟩), kk_wsX30⟩), kk_wsJx4a65c0⟩), kk_wsX00⟩), kk_wsX20⟩), kk_wsX10⟩), (fun w h => absurd h List.not_mem_nil)⟩)
theorem wsL_law_x0 : ∀ w ∈ (vx_atS RX3 40 "java/lang/IllegalArgumentException" ["java/lang/RuntimeException", "java/lang/Exception"]).filter goodWord, w ∈ lw_tbl := by decide +kernel
theorem wsL_law_x1 : ∀ w ∈ (vx_atS RX3 174 "java/lang/IndexOutOfBoundsException" ["java/lang/RuntimeException", "java/lang/Exception"]).filter goodWord, w ∈ lw_tbl := by decide +kernel
theorem wsL_law_x2 : ∀ w ∈ (vx_atS RX3 55 "java/lang/IllegalStateException" ["java/lang/RuntimeException", "java/lang/Exception"]).filter goodWord, w ∈ lw_tbl := by decide +kernel
theorem wsL_law_in : ∀ w ∈ wsL_law, w ∈ lw_tbl := fun w h => (List.mem_append.mp h).elim (fun h => (List.mem_append.mp h).elim (fun h => (List.mem_append.mp h).elim (fun h => wsL_law_in0 w h) (fun h => wsL_law_x0 w h)) (fun h => wsL_law_x1 w h)) (fun h => wsL_law_x2 w h)
theorem inlX0 : ∀ w ∈ wsX00, w ∈ wsL_law := fun _ h => List.mem_append_left _ (List.mem_append_left _ (List.mem_append_left _ (List.mem_append_left _ (List.mem_append_left _ (List.mem_append_left _ (List.mem_append_right _ h))))))
theorem inX0 : ∀ w ∈ wsX00, w ∈ lw_tbl := fun w h => wsL_law_in w (inlX0 w h)
theorem inlX1 : ∀ w ∈ wsX10, w ∈ wsL_law := fun _ h => List.mem_append_left _ (List.mem_append_left _ (List.mem_append_left _ (List.mem_append_left _ (List.mem_append_right _ h))))
theorem inX1 : ∀ w ∈ wsX10, w ∈ lw_tbl := fun w h => wsL_law_in w (inlX1 w h)
theorem inlX2 : ∀ w ∈ wsX20, w ∈ wsL_law := fun _ h => List.mem_append_left _ (List.mem_append_left _ (List.mem_append_left _ (List.mem_append_left _ (List.mem_append_left _ (List.mem_append_right _ h)))))
theorem inX2 : ∀ w ∈ wsX20, w ∈ lw_tbl := fun w h => wsL_law_in w (inlX2 w h)
theorem inlX3 : ∀ w ∈ wsX30, w ∈ wsL_law := fun _ h => List.mem_append_left _ (List.mem_append_left _ (List.mem_append_left _ (List.mem_append_left _ (List.mem_append_left _ (List.mem_append_left _ (List.mem_append_left _ (List.mem_append_left _ (List.mem_append_right _ h))))))))
theorem inX3 : ∀ w ∈ wsX30, w ∈ lw_tbl := fun w h => wsL_law_in w (inlX3 w h)
theorem inX4 : ∀ w ∈ wsX40, w ∈ lw_tbl := by decide +kernel
theorem inJx145de : ∀ w ∈ wsJx145de0, w ∈ lw_tbl := by decide +kernel
theorem inJx8e188 : ∀ w ∈ wsJx8e1880, w ∈ lw_tbl := by decide +kernel
theorem inJxab1ab : ∀ w ∈ wsJxab1ab0, w ∈ lw_tbl := by decide +kernel
theorem inJ9 : ∀ w ∈ wsJ90, w ∈ lw_tbl := by decide +kernel
theorem inJ0 : ∀ w ∈ wsJ00, w ∈ lw_tbl := by decide +kernel
theorem inJ10 : ∀ w ∈ wsJ100, w ∈ lw_tbl := by decide +kernel
theorem inJxa1e45 : ∀ w ∈ wsJxa1e450, w ∈ lw_tbl := by decide +kernel
theorem inJxc12de : ∀ w ∈ wsJxc12de0, w ∈ lw_tbl := by decide +kernel
theorem inlJx4a65c : ∀ w ∈ wsJx4a65c0, w ∈ wsL_law := fun _ h => List.mem_append_left _ (List.mem_append_left _ (List.mem_append_left _ (List.mem_append_left _ (List.mem_append_left _ (List.mem_append_left _ (List.mem_append_left _ (List.mem_append_right _ h)))))))
theorem inJx4a65c : ∀ w ∈ wsJx4a65c0, w ∈ lw_tbl := fun w h => wsL_law_in w (inlJx4a65c w h)
theorem inJ7 : ∀ w ∈ wsJ70, w ∈ lw_tbl := by decide +kernel
theorem inJx5ef63 : ∀ w ∈ wsJx5ef630, w ∈ lw_tbl := by decide +kernel
theorem inJxbd725 : ∀ w ∈ wsJxbd7250, w ∈ lw_tbl := by decide +kernel
theorem inJ15 : ∀ w ∈ wsJ150, w ∈ lw_tbl := by decide +kernel
theorem inJxf0a74 : ∀ w ∈ wsJxf0a740, w ∈ lw_tbl := by decide +kernel
theorem inJxa66e6 : ∀ w ∈ wsJxa66e60, w ∈ lw_tbl := by decide +kernel
theorem inJ8 : ∀ w ∈ wsJ80, w ∈ lw_tbl := by decide +kernel
theorem inJ3 : ∀ w ∈ wsJ30, w ∈ lw_tbl := by decide +kernel
