abbrev MX4_init : gM := (yX4_init, cX4_init, 1, none, [])
abbrev MX1_init : gM := (yX1_init, cX1_init, 1, none, [])
abbrev MX2_init : gM := (yX2_init, cX2_init, 1, none, [])
abbrev MX0_init : gM := (yX0_init, cX0_init, 1, none, [])
abbrev MX3_init : gM := (yX3_init, cX3_init, 1, none, [])
abbrev MX4_startAnew : gM := (yX4_startAnew, cX4_startAnew, 2, none, [])
abbrev MX1_clear : gM := (yX1_clear, cX1_clear, 1, none, [])
abbrev MJ7_fill_031fb : gM := (yJ7_fill_031fb, cJ7_fill_031fb, 4, none, [])
abbrev MX2_forget : gM := (yX2_forget, cX2_forget, 2, none, [])
abbrev MJ7_fill_d0a16 : gM := (yJ7_fill_d0a16, cJ7_fill_d0a16, 5, none, [])
abbrev MX0_forget : gM := (yX0_forget, cX0_forget, 1, none, [])
abbrev MX4_writeHead : gM := (yX4_writeHead, cX4_writeHead, 2, none, [])
abbrev MX1_goTo : gM := (yX1_goTo, cX1_goTo, 2, none, [])
abbrev MX1_write : gM := (yX1_write, cX1_write, 5, none, [])
abbrev MX1_writeByte : gM := (yX1_writeByte, cX1_writeByte, 2, none, [])
abbrev MX1_get : gM := (yX1_get, cX1_get, 2, some .int, [])
abbrev MX1_set : gM := (yX1_set, cX1_set, 3, none, [])
abbrev MX1_sum : gM := (yX1_sum, cX1_sum, 11, some .long, [])
abbrev MJ9_min_7cf53 : gM := (yJ9_min_7cf53, cJ9_min_7cf53, 2, some .int, [])
abbrev MJ9_max_7cf53 : gM := (yJ9_max_7cf53, cJ9_max_7cf53, 2, some .int, [])
abbrev MX1_forgetWritten : gM := (yX1_forgetWritten, cX1_forgetWritten, 1, none, [])
abbrev MX4_crash : gM := (yX4_crash, cX4_crash, 2, some .int, [])
abbrev MX1_takeBack : gM := (yX1_takeBack, cX1_takeBack, 4, some .int, [])
abbrev MX4_open : gM := (yX4_open, cX4_open, 3, some .int, [])
abbrev MX4_headToTake : gM := (yX4_headToTake, cX4_headToTake, 3, some .int, [])
abbrev MX4_isHeadRight : gM := (yX4_isHeadRight, cX4_isHeadRight, 3, some .boolean, [])
abbrev MX1_number : gM := (yX1_number, cX1_number, 6, some .long, [])
abbrev MX2_readLog : gM := (yX2_readLog, cX2_readLog, 6, some .int, [])
abbrev MX2_isRowRight : gM := (yX2_isRowRight, cX2_isRowRight, 6, some .boolean, [])
abbrev MX4_sizeOf : gM := (yX4_sizeOf, cX4_sizeOf, 1, some .int, [])
abbrev MX2_isTextRight : gM := (yX2_isTextRight, cX2_isTextRight, 5, some .boolean, [])
abbrev MX0_find : gM := (yX0_find, cX0_find, 3, some .int, [])
abbrev MX0_namesOf : gM := (yX0_namesOf, cX0_namesOf, 2, some .int, [])
abbrev MX0_isSlot : gM := (yX0_isSlot, cX0_isSlot, 2, some .boolean, [])
abbrev MX2_isChange : gM := (yX2_isChange, cX2_isChange, 4, some .boolean, [])
abbrev MX2_edgesOfNow : gM := (yX2_edgesOfNow, cX2_edgesOfNow, 2, some .long, [])
abbrev MX2_haveCome : gM := (yX2_haveCome, cX2_haveCome, 4, some .boolean, [])
abbrev MX2_isThere : gM := (yX2_isThere, cX2_isThere, 2, some .boolean, [])
abbrev MX2_takeRow : gM := (yX2_takeRow, cX2_takeRow, 6, none, [])
abbrev MX0_take : gM := (yX0_take, cX0_take, 6, none, [])
abbrev MX0_addSlot : gM := (yX0_addSlot, cX0_addSlot, 2, some .int, [])
abbrev MX2_takeChange : gM := (yX2_takeChange, cX2_takeChange, 3, none, [])
abbrev MX2_takeVersion : gM := (yX2_takeVersion, cX2_takeVersion, 4, none, [])
abbrev MX2_nameChunks : gM := (yX2_nameChunks, cX2_nameChunks, 4, none, [])
abbrev MX2_hasBefore : gM := (yX2_hasBefore, cX2_hasBefore, 4, some .boolean, [])
abbrev MX2_slotOf : gM := (yX2_slotOf, cX2_slotOf, 4, some .int, [])
abbrev MX0_addName : gM := (yX0_addName, cX0_addName, 3, none, [])
abbrev MX2_takeAnswer : gM := (yX2_takeAnswer, cX2_takeAnswer, 4, none, [])
abbrev MX2_takeDrop : gM := (yX2_takeDrop, cX2_takeDrop, 2, none, [])
abbrev MX2_countThere : gM := (yX2_countThere, cX2_countThere, 3, some .int, [])
abbrev MX4_isOpen : gM := (yX4_isOpen, cX4_isOpen, 1, some .boolean, [])
abbrev ML_begin : gM := (yL_begin, cL_begin, 3, some .int, [(0, 5, 8, 13), (0, 5, 11, 15)])
abbrev MX4_begin : gM := (yX4_begin, cX4_begin, 2, none, [])
abbrev MJxde1cd_init_a7421 : gM := (yJxde1cd_init_a7421, cJxde1cd_init_a7421, 2, none, [])
abbrev ML_edge : gM := (yL_edge, cL_edge, 6, some .int, [(0, 12, 15, 21), (0, 12, 19, 23)])
abbrev MX4_edge : gM := (yX4_edge, cX4_edge, 4, some .int, [])
abbrev MX4_requireOpen : gM := (yX4_requireOpen, cX4_requireOpen, 1, none, [])
abbrev MX4_requireNode : gM := (yX4_requireNode, cX4_requireNode, 2, none, [])
abbrev MX2_joins : gM := (yX2_joins, cX2_joins, 4, some .boolean, [])
abbrev MX2_edgesFrom : gM := (yX2_edgesFrom, cX2_edgesFrom, 3, some .long, [])
abbrev MX0_edgesOf : gM := (yX0_edgesOf, cX0_edgesOf, 3, some .long, [])
abbrev MX4_logHasRoom : gM := (yX4_logHasRoom, cX4_logHasRoom, 2, some .boolean, [])
abbrev MX4_startRow : gM := (yX4_startRow, cX4_startRow, 3, none, [])
abbrev MX4_endRow : gM := (yX4_endRow, cX4_endRow, 2, none, [])
abbrev ML_version : gM := (yL_version, cL_version, 3, some .int, [(0, 8, 11, 21)])
abbrev MX4_version : gM := (yX4_version, cX4_version, 3, some .int, [])
abbrev MX3_numberChunks : gM := (yX3_numberChunks, cX3_numberChunks, 4, some .boolean, [])
abbrev MX0_markNamed : gM := (yX0_markNamed, cX0_markNamed, 4, none, [])
abbrev MX0_numberIn : gM := (yX0_numberIn, cX0_numberIn, 2, some .int, [])
abbrev MX0_namedAlike : gM := (yX0_namedAlike, cX0_namedAlike, 6, some .int, [])
abbrev MX0_isAlike : gM := (yX0_isAlike, cX0_isAlike, 5, some .boolean, [])
abbrev MX3_alikeBefore : gM := (yX3_alikeBefore, cX3_alikeBefore, 4, some .int, [])
abbrev MX3_areAlike : gM := (yX3_areAlike, cX3_areAlike, 5, some .boolean, [])
abbrev MX3_numberOf : gM := (yX3_numberOf, cX3_numberOf, 2, some .int, [])
abbrev MX3_takeLeast : gM := (yX3_takeLeast, cX3_takeLeast, 3, some .int, [])
abbrev MX3_bytes : gM := (yX3_bytes, cX3_bytes, 1, some .int, [])
abbrev MX3_isNew : gM := (yX3_isNew, cX3_isNew, 2, some .boolean, [])
abbrev MX4_writeChunk : gM := (yX4_writeChunk, cX4_writeChunk, 4, none, [])
abbrev ML_answer : gM := (yL_answer, cL_answer, 5, some .int, [(0, 10, 13, 21), (0, 10, 17, 23)])
abbrev MX4_answer : gM := (yX4_answer, cX4_answer, 4, some .int, [])
abbrev MX4_requireVersion : gM := (yX4_requireVersion, cX4_requireVersion, 2, none, [])
abbrev MX4_reachedFrom : gM := (yX4_reachedFrom, cX4_reachedFrom, 8, some .long, [])
abbrev MX4_oneEdgeOn : gM := (yX4_oneEdgeOn, cX4_oneEdgeOn, 7, some .long, [])
abbrev ML_drop : gM := (yL_drop, cL_drop, 4, some .int, [(0, 9, 12, 21), (0, 9, 15, 23)])
abbrev MX4_drop : gM := (yX4_drop, cX4_drop, 3, some .int, [])
abbrev MX0_countNamed : gM := (yX0_countNamed, cX0_countNamed, 3, some .int, [])
abbrev ML_keep : gM := (yL_keep, cL_keep, 3, some .int, [(0, 8, 11, 21)])
abbrev MX4_keep : gM := (yX4_keep, cX4_keep, 1, some .int, [])
abbrev ML_poke : gM := (yL_poke, cL_poke, 5, some .int, [(0, 10, 13, 23)])
abbrev MX4_poke : gM := (yX4_poke, cX4_poke, 4, some .int, [])
abbrev MX4_requirePlace : gM := (yX4_requirePlace, cX4_requirePlace, 2, none, [])
abbrev ML_byteAt : gM := (yL_byteAt, cL_byteAt, 4, some .int, [(0, 9, 12, 23)])
abbrev MX4_byteAt : gM := (yX4_byteAt, cX4_byteAt, 2, some .int, [])
abbrev ML_badAt : gM := (yL_badAt, cL_badAt, 3, some .int, [(0, 8, 11, 21)])
abbrev MX4_badAt : gM := (yX4_badAt, cX4_badAt, 1, some .int, [])
abbrev ML_has : gM := (yL_has, cL_has, 6, some .int, [(0, 19, 22, 21), (0, 19, 26, 23)])
abbrev MX4_has : gM := (yX4_has, cX4_has, 4, some .boolean, [])
abbrev MX4_requireGraph : gM := (yX4_requireGraph, cX4_requireGraph, 2, none, [])
abbrev ML_chunk : gM := (yL_chunk, cL_chunk, 5, some .int, [(0, 10, 13, 21), (0, 10, 17, 23)])
abbrev MX4_chunk : gM := (yX4_chunk, cX4_chunk, 3, some .int, [])
abbrev ML_named : gM := (yL_named, cL_named, 4, some .int, [(0, 9, 12, 21), (0, 9, 15, 23)])
abbrev MX4_named : gM := (yX4_named, cX4_named, 2, some .int, [])
abbrev ML_differ : gM := (yL_differ, cL_differ, 5, some .int, [(0, 10, 13, 21), (0, 10, 17, 23)])
abbrev MX4_differ : gM := (yX4_differ, cX4_differ, 5, some .int, [])
abbrev MJ13_bitCount_95d88 : gM := (yJ13_bitCount_95d88, cJ13_bitCount_95d88, 2, some .int, [])
abbrev ML_far : gM := (yL_far, cL_far, 6, some .int, [(0, 12, 15, 21), (0, 12, 19, 23)])
abbrev MX4_far : gM := (yX4_far, cX4_far, 9, some .int, [])
abbrev ML_usable : gM := (yL_usable, cL_usable, 4, some .int, [(0, 16, 19, 21), (0, 16, 22, 23)])
abbrev MX4_usable : gM := (yX4_usable, cX4_usable, 2, some .boolean, [])
abbrev MX4_requireAnswer : gM := (yX4_requireAnswer, cX4_requireAnswer, 2, none, [])
abbrev MX2_versionOfAnswer : gM := (yX2_versionOfAnswer, cX2_versionOfAnswer, 2, some .int, [])
abbrev ML_mask : gM := (yL_mask, cL_mask, 4, some .int, [(0, 8, 11, 21), (0, 8, 14, 23)])
abbrev MX4_mask : gM := (yX4_mask, cX4_mask, 2, some .long, [])
abbrev MX2_maskOfAnswer : gM := (yX2_maskOfAnswer, cX2_maskOfAnswer, 2, some .long, [])
abbrev ML_told : gM := (yL_told, cL_told, 4, some .int, [(0, 9, 12, 21), (0, 9, 15, 23)])
abbrev MX4_told : gM := (yX4_told, cX4_told, 2, some .int, [])
abbrev MX2_countEdges : gM := (yX2_countEdges, cX2_countEdges, 3, some .int, [])
abbrev MX5_init : gM := (yX5_init, cX5_init, 1, none, [])
abbrev MX5_anew : gM := (yX5_anew, cX5_anew, 3, none, [])
abbrev MX5_forget : gM := (yX5_forget, cX5_forget, 2, none, [])
abbrev MX5_putHead : gM := (yX5_putHead, cX5_putHead, 3, none, [])
abbrev MX5_putNumber : gM := (yX5_putNumber, cX5_putNumber, 6, none, [])
abbrev MX5_put : gM := (yX5_put, cX5_put, 3, none, [])
abbrev MX5_sum : gM := (yX5_sum, cX5_sum, 8, some .long, [])
abbrev MX5_begin : gM := (yX5_begin, cX5_begin, 2, none, [])
abbrev MX5_thrown : gM := (yX5_thrown, cX5_thrown, 1, some .int, [])
abbrev MX5_edge : gM := (yX5_edge, cX5_edge, 5, some .int, [])
abbrev MX5_in : gM := (yX5_in, cX5_in, 3, some .boolean, [])
abbrev MX5_hasNow : gM := (yX5_hasNow, cX5_hasNow, 3, some .boolean, [])
abbrev MX5_fits : gM := (yX5_fits, cX5_fits, 2, some .boolean, [])
abbrev MX5_begin_ : gM := (yX5_begin_, cX5_begin_, 5, some .int, [])
abbrev MX5_end : gM := (yX5_end, cX5_end, 3, none, [])
abbrev MX5_take : gM := (yX5_take, cX5_take, 8, none, [])
abbrev MX5_number : gM := (yX5_number, cX5_number, 6, some .long, [])
abbrev MX5_version : gM := (yX5_version, cX5_version, 5, some .int, [])
abbrev MX5_find : gM := (yX5_find, cX5_find, 4, some .int, [])
abbrev MX5_isAlike : gM := (yX5_isAlike, cX5_isAlike, 5, some .boolean, [])
abbrev MX5_earlier : gM := (yX5_earlier, cX5_earlier, 5, some .int, [])
abbrev MX5_leastFree : gM := (yX5_leastFree, cX5_leastFree, 5, some .int, [])
abbrev MX5_namedBy : gM := (yX5_namedBy, cX5_namedBy, 6, some .int, [])
abbrev MX5_answer : gM := (yX5_answer, cX5_answer, 4, some .int, [])
abbrev MX5_isThere : gM := (yX5_isThere, cX5_isThere, 2, some .boolean, [])
abbrev MX5_reach : gM := (yX5_reach, cX5_reach, 8, some .long, [])
abbrev MX5_edges : gM := (yX5_edges, cX5_edges, 3, some .long, [])
abbrev MX5_drop : gM := (yX5_drop, cX5_drop, 3, some .int, [])
abbrev MX5_namedMany : gM := (yX5_namedMany, cX5_namedMany, 3, some .int, [])
abbrev MX5_keep : gM := (yX5_keep, cX5_keep, 1, some .int, [])
abbrev MX5_crash : gM := (yX5_crash, cX5_crash, 4, some .int, [])
abbrev MX5_open : gM := (yX5_open, cX5_open, 6, some .int, [])
abbrev MX5_isHead : gM := (yX5_isHead, cX5_isHead, 2, some .boolean, [])
abbrev MX5_isRight : gM := (yX5_isRight, cX5_isRight, 9, some .boolean, [])
abbrev MX5_sizeOf : gM := (yX5_sizeOf, cX5_sizeOf, 1, some .int, [])
abbrev MX5_thereMany : gM := (yX5_thereMany, cX5_thereMany, 3, some .int, [])
abbrev MX5_poke : gM := (yX5_poke, cX5_poke, 4, some .int, [])
abbrev MX5_byteAt : gM := (yX5_byteAt, cX5_byteAt, 2, some .int, [])
abbrev MX5_badAt : gM := (yX5_badAt, cX5_badAt, 8, some .int, [])
abbrev MX5_keepBeside : gM := (yX5_keepBeside, cX5_keepBeside, 3, none, [])
abbrev MX5_has : gM := (yX5_has, cX5_has, 4, some .boolean, [])
abbrev MX5_isVersion : gM := (yX5_isVersion, cX5_isVersion, 2, some .boolean, [])
abbrev MX5_chunk : gM := (yX5_chunk, cX5_chunk, 3, some .int, [])
abbrev MX5_named : gM := (yX5_named, cX5_named, 2, some .int, [])
abbrev MX5_differ : gM := (yX5_differ, cX5_differ, 6, some .int, [])
abbrev MX5_far : gM := (yX5_far, cX5_far, 10, some .int, [])
abbrev MX5_usable : gM := (yX5_usable, cX5_usable, 2, some .boolean, [])
abbrev MX5_mask : gM := (yX5_mask, cX5_mask, 2, some .long, [])
abbrev MX5_told : gM := (yX5_told, cX5_told, 5, some .int, [])
abbrev MX5_isOpen : gM := (yX5_isOpen, cX5_isOpen, 1, some .boolean, [])
set_option maxRecDepth 40000 in
theorem uT0 : ∀ x ∈ u_ws RX0 TX0 4, x ∈ gT := by decide +kernel
set_option maxRecDepth 40000 in
theorem uT1 : ∀ x ∈ u_ws RX1 TX1 4, x ∈ gT := by decide +kernel
set_option maxRecDepth 40000 in
theorem uT2 : ∀ x ∈ u_ws RX2 TX2 12, x ∈ gT := by decide +kernel
set_option maxRecDepth 40000 in
theorem uT3 : ∀ x ∈ u_ws RX3 TX3 4, x ∈ gT := by decide +kernel
set_option maxRecDepth 40000 in
theorem uT4 : ∀ x ∈ u_ws RX4 TX4 6, x ∈ gT := by decide +kernel
set_option maxRecDepth 40000 in
theorem uT5 : ∀ x ∈ u_ws RX5 TX5 31, x ∈ gT := by decide +kernel
set_option maxRecDepth 40000 in
theorem flX1_9 : gF RX1 9 1 0 := ⟨RX1, TX1, 4, rfl, by decide, uT1, Or.inl (gin 91 rfl rfl)⟩
set_option maxRecDepth 40000 in
theorem ffX1_9 : gFf RX1 9 1 0 (.array .byte) := ⟨RX1, TX1, 4, tyX1, rfl, by decide, uT1, tyX1_ok, nmX1, by decide +kernel, rfl, rfl, gin 91 rfl rfl⟩
set_option maxRecDepth 40000 in
theorem flX1_15 : gF RX1 15 1 1 := ⟨RX1, TX1, 4, rfl, by decide, uT1, Or.inl (gin 92 rfl rfl)⟩
set_option maxRecDepth 40000 in
theorem ffX1_15 : gFf RX1 15 1 1 (.array .int) := ⟨RX1, TX1, 4, tyX1, rfl, by decide, uT1, tyX1_ok, nmX1, by decide +kernel, rfl, rfl, gin 92 rfl rfl⟩
set_option maxRecDepth 40000 in
theorem flX1_25 : gF RX1 25 1 2 := ⟨RX1, TX1, 4, rfl, by decide, uT1, Or.inl (gin 93 rfl rfl)⟩
set_option maxRecDepth 40000 in
theorem fpX1_25 : gFp RX1 25 1 2 (.int) := ⟨RX1, TX1, 4, tyX1, rfl, by decide, uT1, tyX1_ok, nmX1, by decide +kernel, rfl, Or.inl (gin 93 rfl rfl)⟩
set_option maxRecDepth 40000 in
theorem flX4_220 : gF RX4 220 1 2 := ⟨RX1, TX1, 4, rfl, by decide, uT1, Or.inr ⟨"GraphLog", gin 94 rfl rfl⟩⟩
set_option maxRecDepth 40000 in
theorem fpX4_220 : gFp RX4 220 1 2 (.int) := ⟨RX1, TX1, 4, tyX1, rfl, by decide, uT1, tyX1_ok, nmX1, by decide +kernel, rfl, Or.inr ⟨"GraphLog", gin 94 rfl rfl⟩⟩
set_option maxRecDepth 40000 in
theorem flX1_29 : gF RX1 29 1 3 := ⟨RX1, TX1, 4, rfl, by decide, uT1, Or.inl (gin 95 rfl rfl)⟩
set_option maxRecDepth 40000 in
theorem fpX1_29 : gFp RX1 29 1 3 (.int) := ⟨RX1, TX1, 4, tyX1, rfl, by decide, uT1, tyX1_ok, nmX1, by decide +kernel, rfl, Or.inl (gin 95 rfl rfl)⟩
set_option maxRecDepth 40000 in
theorem flX4_250 : gF RX4 250 1 3 := ⟨RX1, TX1, 4, rfl, by decide, uT1, Or.inr ⟨"GraphLog", gin 96 rfl rfl⟩⟩
set_option maxRecDepth 40000 in
theorem fpX4_250 : gFp RX4 250 1 3 (.int) := ⟨RX1, TX1, 4, tyX1, rfl, by decide, uT1, tyX1_ok, nmX1, by decide +kernel, rfl, Or.inr ⟨"GraphLog", gin 96 rfl rfl⟩⟩
set_option maxRecDepth 40000 in
theorem flX0_9 : gF RX0 9 0 0 := ⟨RX0, TX0, 4, rfl, by decide, uT0, Or.inl (gin 120 rfl rfl)⟩
set_option maxRecDepth 40000 in
theorem ffX0_9 : gFf RX0 9 0 0 (.array .int) := ⟨RX0, TX0, 4, tyX0, rfl, by decide, uT0, tyX0_ok, nmX0, by decide +kernel, rfl, rfl, gin 120 rfl rfl⟩
set_option maxRecDepth 40000 in
theorem flX0_15 : gF RX0 15 0 1 := ⟨RX0, TX0, 4, rfl, by decide, uT0, Or.inl (gin 121 rfl rfl)⟩
set_option maxRecDepth 40000 in
theorem ffX0_15 : gFf RX0 15 0 1 (.array .int) := ⟨RX0, TX0, 4, tyX0, rfl, by decide, uT0, tyX0_ok, nmX0, by decide +kernel, rfl, rfl, gin 121 rfl rfl⟩
set_option maxRecDepth 40000 in
theorem flX0_18 : gF RX0 18 0 2 := ⟨RX0, TX0, 4, rfl, by decide, uT0, Or.inl (gin 122 rfl rfl)⟩
set_option maxRecDepth 40000 in
theorem ffX0_18 : gFf RX0 18 0 2 (.array .long) := ⟨RX0, TX0, 4, tyX0, rfl, by decide, uT0, tyX0_ok, nmX0, by decide +kernel, rfl, rfl, gin 122 rfl rfl⟩
set_option maxRecDepth 40000 in
theorem flX0_22 : gF RX0 22 0 3 := ⟨RX0, TX0, 4, rfl, by decide, uT0, Or.inl (gin 123 rfl rfl)⟩
set_option maxRecDepth 40000 in
theorem fpX0_22 : gFp RX0 22 0 3 (.int) := ⟨RX0, TX0, 4, tyX0, rfl, by decide, uT0, tyX0_ok, nmX0, by decide +kernel, rfl, Or.inl (gin 123 rfl rfl)⟩
set_option maxRecDepth 40000 in
theorem flX2_9 : gF RX2 9 2 0 := ⟨RX2, TX2, 12, rfl, by decide, uT2, Or.inl (gin 134 rfl rfl)⟩
set_option maxRecDepth 40000 in
theorem ffX2_9 : gFf RX2 9 2 0 (.array .long) := ⟨RX2, TX2, 12, tyX2, rfl, by decide, uT2, tyX2_ok, nmX2, by decide +kernel, rfl, rfl, gin 134 rfl rfl⟩
set_option maxRecDepth 40000 in
theorem flX2_18 : gF RX2 18 2 1 := ⟨RX2, TX2, 12, rfl, by decide, uT2, Or.inl (gin 135 rfl rfl)⟩
set_option maxRecDepth 40000 in
theorem ffX2_18 : gFf RX2 18 2 1 (.object "GraphLog$Chunks") := ⟨RX2, TX2, 12, tyX2, rfl, by decide, uT2, tyX2_ok, nmX2, by decide +kernel, rfl, rfl, gin 135 rfl rfl⟩
set_option maxRecDepth 40000 in
theorem flX3_26 : gF RX3 26 2 1 := ⟨RX2, TX2, 12, rfl, by decide, uT2, Or.inr ⟨"GraphLog", gin 136 rfl rfl⟩⟩
set_option maxRecDepth 40000 in
theorem flX4_110 : gF RX4 110 2 1 := ⟨RX2, TX2, 12, rfl, by decide, uT2, Or.inr ⟨"GraphLog", gin 137 rfl rfl⟩⟩
set_option maxRecDepth 40000 in
theorem flX2_22 : gF RX2 22 2 2 := ⟨RX2, TX2, 12, rfl, by decide, uT2, Or.inl (gin 138 rfl rfl)⟩
set_option maxRecDepth 40000 in
theorem ffX2_22 : gFf RX2 22 2 2 (.array .boolean) := ⟨RX2, TX2, 12, tyX2, rfl, by decide, uT2, tyX2_ok, nmX2, by decide +kernel, rfl, rfl, gin 138 rfl rfl⟩
set_option maxRecDepth 40000 in
theorem flX2_26 : gF RX2 26 2 3 := ⟨RX2, TX2, 12, rfl, by decide, uT2, Or.inl (gin 139 rfl rfl)⟩
set_option maxRecDepth 40000 in
theorem ffX2_26 : gFf RX2 26 2 3 (.array .int) := ⟨RX2, TX2, 12, tyX2, rfl, by decide, uT2, tyX2_ok, nmX2, by decide +kernel, rfl, rfl, gin 139 rfl rfl⟩
set_option maxRecDepth 40000 in
theorem flX2_30 : gF RX2 30 2 4 := ⟨RX2, TX2, 12, rfl, by decide, uT2, Or.inl (gin 140 rfl rfl)⟩
set_option maxRecDepth 40000 in
theorem ffX2_30 : gFf RX2 30 2 4 (.array .int) := ⟨RX2, TX2, 12, tyX2, rfl, by decide, uT2, tyX2_ok, nmX2, by decide +kernel, rfl, rfl, gin 140 rfl rfl⟩
set_option maxRecDepth 40000 in
theorem flX2_33 : gF RX2 33 2 5 := ⟨RX2, TX2, 12, rfl, by decide, uT2, Or.inl (gin 141 rfl rfl)⟩
set_option maxRecDepth 40000 in
theorem ffX2_33 : gFf RX2 33 2 5 (.array .long) := ⟨RX2, TX2, 12, tyX2, rfl, by decide, uT2, tyX2_ok, nmX2, by decide +kernel, rfl, rfl, gin 141 rfl rfl⟩
set_option maxRecDepth 40000 in
theorem flX2_36 : gF RX2 36 2 6 := ⟨RX2, TX2, 12, rfl, by decide, uT2, Or.inl (gin 142 rfl rfl)⟩
set_option maxRecDepth 40000 in
theorem fpX2_36 : gFp RX2 36 2 6 (.int) := ⟨RX2, TX2, 12, tyX2, rfl, by decide, uT2, tyX2_ok, nmX2, by decide +kernel, rfl, Or.inl (gin 142 rfl rfl)⟩
set_option maxRecDepth 40000 in
theorem flX3_45 : gF RX3 45 2 6 := ⟨RX2, TX2, 12, rfl, by decide, uT2, Or.inr ⟨"GraphLog", gin 143 rfl rfl⟩⟩
set_option maxRecDepth 40000 in
theorem fpX3_45 : gFp RX3 45 2 6 (.int) := ⟨RX2, TX2, 12, tyX2, rfl, by decide, uT2, tyX2_ok, nmX2, by decide +kernel, rfl, Or.inr ⟨"GraphLog", gin 143 rfl rfl⟩⟩
set_option maxRecDepth 40000 in
theorem flX4_138 : gF RX4 138 2 6 := ⟨RX2, TX2, 12, rfl, by decide, uT2, Or.inr ⟨"GraphLog", gin 144 rfl rfl⟩⟩
set_option maxRecDepth 40000 in
theorem fpX4_138 : gFp RX4 138 2 6 (.int) := ⟨RX2, TX2, 12, tyX2, rfl, by decide, uT2, tyX2_ok, nmX2, by decide +kernel, rfl, Or.inr ⟨"GraphLog", gin 144 rfl rfl⟩⟩
set_option maxRecDepth 40000 in
theorem flX2_49 : gF RX2 49 2 7 := ⟨RX2, TX2, 12, rfl, by decide, uT2, Or.inl (gin 145 rfl rfl)⟩
set_option maxRecDepth 40000 in
theorem fpX2_49 : gFp RX2 49 2 7 (.int) := ⟨RX2, TX2, 12, tyX2, rfl, by decide, uT2, tyX2_ok, nmX2, by decide +kernel, rfl, Or.inl (gin 145 rfl rfl)⟩
set_option maxRecDepth 40000 in
theorem flX4_64 : gF RX4 64 2 7 := ⟨RX2, TX2, 12, rfl, by decide, uT2, Or.inr ⟨"GraphLog", gin 146 rfl rfl⟩⟩
set_option maxRecDepth 40000 in
theorem fpX4_64 : gFp RX4 64 2 7 (.int) := ⟨RX2, TX2, 12, tyX2, rfl, by decide, uT2, tyX2_ok, nmX2, by decide +kernel, rfl, Or.inr ⟨"GraphLog", gin 146 rfl rfl⟩⟩
set_option maxRecDepth 40000 in
theorem flX2_52 : gF RX2 52 2 8 := ⟨RX2, TX2, 12, rfl, by decide, uT2, Or.inl (gin 147 rfl rfl)⟩
set_option maxRecDepth 40000 in
theorem fpX2_52 : gFp RX2 52 2 8 (.int) := ⟨RX2, TX2, 12, tyX2, rfl, by decide, uT2, tyX2_ok, nmX2, by decide +kernel, rfl, Or.inl (gin 147 rfl rfl)⟩
set_option maxRecDepth 40000 in
theorem flX4_79 : gF RX4 79 2 8 := ⟨RX2, TX2, 12, rfl, by decide, uT2, Or.inr ⟨"GraphLog", gin 148 rfl rfl⟩⟩
set_option maxRecDepth 40000 in
theorem fpX4_79 : gFp RX4 79 2 8 (.int) := ⟨RX2, TX2, 12, tyX2, rfl, by decide, uT2, tyX2_ok, nmX2, by decide +kernel, rfl, Or.inr ⟨"GraphLog", gin 148 rfl rfl⟩⟩
set_option maxRecDepth 40000 in
theorem flX2_55 : gF RX2 55 2 9 := ⟨RX2, TX2, 12, rfl, by decide, uT2, Or.inl (gin 149 rfl rfl)⟩
set_option maxRecDepth 40000 in
theorem fpX2_55 : gFp RX2 55 2 9 (.int) := ⟨RX2, TX2, 12, tyX2, rfl, by decide, uT2, tyX2_ok, nmX2, by decide +kernel, rfl, Or.inl (gin 149 rfl rfl)⟩
set_option maxRecDepth 40000 in
theorem flX4_103 : gF RX4 103 2 9 := ⟨RX2, TX2, 12, rfl, by decide, uT2, Or.inr ⟨"GraphLog", gin 150 rfl rfl⟩⟩
set_option maxRecDepth 40000 in
theorem fpX4_103 : gFp RX4 103 2 9 (.int) := ⟨RX2, TX2, 12, tyX2, rfl, by decide, uT2, tyX2_ok, nmX2, by decide +kernel, rfl, Or.inr ⟨"GraphLog", gin 150 rfl rfl⟩⟩
set_option maxRecDepth 40000 in
theorem flX2_58 : gF RX2 58 2 10 := ⟨RX2, TX2, 12, rfl, by decide, uT2, Or.inl (gin 151 rfl rfl)⟩
set_option maxRecDepth 40000 in
theorem fpX2_58 : gFp RX2 58 2 10 (.int) := ⟨RX2, TX2, 12, tyX2, rfl, by decide, uT2, tyX2_ok, nmX2, by decide +kernel, rfl, Or.inl (gin 151 rfl rfl)⟩
set_option maxRecDepth 40000 in
theorem flX4_217 : gF RX4 217 2 10 := ⟨RX2, TX2, 12, rfl, by decide, uT2, Or.inr ⟨"GraphLog", gin 152 rfl rfl⟩⟩
set_option maxRecDepth 40000 in
theorem fpX4_217 : gFp RX4 217 2 10 (.int) := ⟨RX2, TX2, 12, tyX2, rfl, by decide, uT2, tyX2_ok, nmX2, by decide +kernel, rfl, Or.inr ⟨"GraphLog", gin 152 rfl rfl⟩⟩
set_option maxRecDepth 40000 in
theorem flX2_61 : gF RX2 61 2 11 := ⟨RX2, TX2, 12, rfl, by decide, uT2, Or.inl (gin 153 rfl rfl)⟩
set_option maxRecDepth 40000 in
theorem fpX2_61 : gFp RX2 61 2 11 (.int) := ⟨RX2, TX2, 12, tyX2, rfl, by decide, uT2, tyX2_ok, nmX2, by decide +kernel, rfl, Or.inl (gin 153 rfl rfl)⟩
set_option maxRecDepth 40000 in
theorem flX4_160 : gF RX4 160 2 11 := ⟨RX2, TX2, 12, rfl, by decide, uT2, Or.inr ⟨"GraphLog", gin 154 rfl rfl⟩⟩
set_option maxRecDepth 40000 in
theorem fpX4_160 : gFp RX4 160 2 11 (.int) := ⟨RX2, TX2, 12, tyX2, rfl, by decide, uT2, tyX2_ok, nmX2, by decide +kernel, rfl, Or.inr ⟨"GraphLog", gin 154 rfl rfl⟩⟩
set_option maxRecDepth 40000 in
theorem flX3_9 : gF RX3 9 3 0 := ⟨RX3, TX3, 4, rfl, by decide, uT3, Or.inl (gin 187 rfl rfl)⟩
set_option maxRecDepth 40000 in
theorem ffX3_9 : gFf RX3 9 3 0 (.array .int) := ⟨RX3, TX3, 4, tyX3, rfl, by decide, uT3, tyX3_ok, nmX3, by decide +kernel, rfl, rfl, gin 187 rfl rfl⟩
set_option maxRecDepth 40000 in
theorem flX3_15 : gF RX3 15 3 1 := ⟨RX3, TX3, 4, rfl, by decide, uT3, Or.inl (gin 188 rfl rfl)⟩
set_option maxRecDepth 40000 in
theorem ffX3_15 : gFf RX3 15 3 1 (.array .boolean) := ⟨RX3, TX3, 4, tyX3, rfl, by decide, uT3, tyX3_ok, nmX3, by decide +kernel, rfl, rfl, gin 188 rfl rfl⟩
set_option maxRecDepth 40000 in
theorem flX3_19 : gF RX3 19 3 2 := ⟨RX3, TX3, 4, rfl, by decide, uT3, Or.inl (gin 189 rfl rfl)⟩
set_option maxRecDepth 40000 in
theorem ffX3_19 : gFf RX3 19 3 2 (.array .boolean) := ⟨RX3, TX3, 4, tyX3, rfl, by decide, uT3, tyX3_ok, nmX3, by decide +kernel, rfl, rfl, gin 189 rfl rfl⟩
set_option maxRecDepth 40000 in
theorem flX3_22 : gF RX3 22 3 3 := ⟨RX3, TX3, 4, rfl, by decide, uT3, Or.inl (gin 190 rfl rfl)⟩
set_option maxRecDepth 40000 in
theorem fpX3_22 : gFp RX3 22 3 3 (.int) := ⟨RX3, TX3, 4, tyX3, rfl, by decide, uT3, tyX3_ok, nmX3, by decide +kernel, rfl, Or.inl (gin 190 rfl rfl)⟩
set_option maxRecDepth 40000 in
theorem flX4_12 : gF RX4 12 4 0 := ⟨RX4, TX4, 6, rfl, by decide, uT4, Or.inl (gin 261 rfl rfl)⟩
set_option maxRecDepth 40000 in
theorem ffX4_12 : gFf RX4 12 4 0 (.object "GraphLog$Disk") := ⟨RX4, TX4, 6, tyX4, rfl, by decide, uT4, tyX4_ok, nmX4, by decide +kernel, rfl, rfl, gin 261 rfl rfl⟩
set_option maxRecDepth 40000 in
theorem flX4_19 : gF RX4 19 4 1 := ⟨RX4, TX4, 6, rfl, by decide, uT4, Or.inl (gin 262 rfl rfl)⟩
set_option maxRecDepth 40000 in
theorem ffX4_19 : gFf RX4 19 4 1 (.object "GraphLog$Known") := ⟨RX4, TX4, 6, tyX4, rfl, by decide, uT4, tyX4_ok, nmX4, by decide +kernel, rfl, rfl, gin 262 rfl rfl⟩
set_option maxRecDepth 40000 in
theorem flX4_23 : gF RX4 23 4 2 := ⟨RX4, TX4, 6, rfl, by decide, uT4, Or.inl (gin 263 rfl rfl)⟩
set_option maxRecDepth 40000 in
theorem ffX4_23 : gFf RX4 23 4 2 (.object "GraphLog$Known") := ⟨RX4, TX4, 6, tyX4, rfl, by decide, uT4, tyX4_ok, nmX4, by decide +kernel, rfl, rfl, gin 263 rfl rfl⟩
set_option maxRecDepth 40000 in
theorem flX4_29 : gF RX4 29 4 3 := ⟨RX4, TX4, 6, rfl, by decide, uT4, Or.inl (gin 264 rfl rfl)⟩
set_option maxRecDepth 40000 in
theorem ffX4_29 : gFf RX4 29 4 3 (.object "GraphLog$Plan") := ⟨RX4, TX4, 6, tyX4, rfl, by decide, uT4, tyX4_ok, nmX4, by decide +kernel, rfl, rfl, gin 264 rfl rfl⟩
set_option maxRecDepth 40000 in
theorem flX4_119 : gF RX4 119 4 4 := ⟨RX4, TX4, 6, rfl, by decide, uT4, Or.inl (gin 265 rfl rfl)⟩
set_option maxRecDepth 40000 in
theorem fpX4_119 : gFp RX4 119 4 4 (.int) := ⟨RX4, TX4, 6, tyX4, rfl, by decide, uT4, tyX4_ok, nmX4, by decide +kernel, rfl, Or.inl (gin 265 rfl rfl)⟩
set_option maxRecDepth 40000 in
theorem flX4_125 : gF RX4 125 4 5 := ⟨RX4, TX4, 6, rfl, by decide, uT4, Or.inl (gin 266 rfl rfl)⟩
set_option maxRecDepth 40000 in
theorem fpX4_125 : gFp RX4 125 4 5 (.boolean) := ⟨RX4, TX4, 6, tyX4, rfl, by decide, uT4, tyX4_ok, nmX4, by decide +kernel, rfl, Or.inl (gin 266 rfl rfl)⟩
set_option maxRecDepth 40000 in
theorem flX5_75 : gF RX5 75 5 0 := ⟨RX5, TX5, 31, rfl, by decide, uT5, Or.inl (gin 829 rfl rfl)⟩
set_option maxRecDepth 40000 in
theorem fpX5_75 : gFp RX5 75 5 0 (.int) := ⟨RX5, TX5, 31, tyX5, rfl, by decide, uT5, tyX5_ok, nmX5, by decide +kernel, rfl, Or.inl (gin 829 rfl rfl)⟩
set_option maxRecDepth 40000 in
theorem flX5_79 : gF RX5 79 5 1 := ⟨RX5, TX5, 31, rfl, by decide, uT5, Or.inl (gin 830 rfl rfl)⟩
set_option maxRecDepth 40000 in
theorem fpX5_79 : gFp RX5 79 5 1 (.int) := ⟨RX5, TX5, 31, tyX5, rfl, by decide, uT5, tyX5_ok, nmX5, by decide +kernel, rfl, Or.inl (gin 830 rfl rfl)⟩
set_option maxRecDepth 40000 in
theorem flX5_7 : gF RX5 7 5 2 := ⟨RX5, TX5, 31, rfl, by decide, uT5, Or.inl (gin 831 rfl rfl)⟩
set_option maxRecDepth 40000 in
theorem ffX5_7 : gFf RX5 7 5 2 (.array .int) := ⟨RX5, TX5, 31, tyX5, rfl, by decide, uT5, tyX5_ok, nmX5, by decide +kernel, rfl, rfl, gin 831 rfl rfl⟩
set_option maxRecDepth 40000 in
theorem flX5_94 : gF RX5 94 5 3 := ⟨RX5, TX5, 31, rfl, by decide, uT5, Or.inl (gin 832 rfl rfl)⟩
set_option maxRecDepth 40000 in
theorem fpX5_94 : gFp RX5 94 5 3 (.boolean) := ⟨RX5, TX5, 31, tyX5, rfl, by decide, uT5, tyX5_ok, nmX5, by decide +kernel, rfl, Or.inl (gin 832 rfl rfl)⟩
set_option maxRecDepth 40000 in
theorem flX5_88 : gF RX5 88 5 4 := ⟨RX5, TX5, 31, rfl, by decide, uT5, Or.inl (gin 833 rfl rfl)⟩
set_option maxRecDepth 40000 in
theorem fpX5_88 : gFp RX5 88 5 4 (.int) := ⟨RX5, TX5, 31, tyX5, rfl, by decide, uT5, tyX5_ok, nmX5, by decide +kernel, rfl, Or.inl (gin 833 rfl rfl)⟩
set_option maxRecDepth 40000 in
theorem flX5_14 : gF RX5 14 5 5 := ⟨RX5, TX5, 31, rfl, by decide, uT5, Or.inl (gin 834 rfl rfl)⟩
set_option maxRecDepth 40000 in
theorem ffX5_14 : gFf RX5 14 5 5 (.array .int) := ⟨RX5, TX5, 31, tyX5, rfl, by decide, uT5, tyX5_ok, nmX5, by decide +kernel, rfl, rfl, gin 834 rfl rfl⟩
set_option maxRecDepth 40000 in
theorem flX5_17 : gF RX5 17 5 6 := ⟨RX5, TX5, 31, rfl, by decide, uT5, Or.inl (gin 835 rfl rfl)⟩
set_option maxRecDepth 40000 in
theorem ffX5_17 : gFf RX5 17 5 6 (.array .int) := ⟨RX5, TX5, 31, tyX5, rfl, by decide, uT5, tyX5_ok, nmX5, by decide +kernel, rfl, rfl, gin 835 rfl rfl⟩
set_option maxRecDepth 40000 in
theorem flX5_85 : gF RX5 85 5 7 := ⟨RX5, TX5, 31, rfl, by decide, uT5, Or.inl (gin 836 rfl rfl)⟩
set_option maxRecDepth 40000 in
theorem fpX5_85 : gFp RX5 85 5 7 (.int) := ⟨RX5, TX5, 31, tyX5, rfl, by decide, uT5, tyX5_ok, nmX5, by decide +kernel, rfl, Or.inl (gin 836 rfl rfl)⟩
set_option maxRecDepth 40000 in
theorem flX5_98 : gF RX5 98 5 9 := ⟨RX5, TX5, 31, rfl, by decide, uT5, Or.inl (gin 837 rfl rfl)⟩
set_option maxRecDepth 40000 in
theorem fpX5_98 : gFp RX5 98 5 9 (.int) := ⟨RX5, TX5, 31, tyX5, rfl, by decide, uT5, tyX5_ok, nmX5, by decide +kernel, rfl, Or.inl (gin 837 rfl rfl)⟩
set_option maxRecDepth 40000 in
theorem flX5_101 : gF RX5 101 5 10 := ⟨RX5, TX5, 31, rfl, by decide, uT5, Or.inl (gin 838 rfl rfl)⟩
set_option maxRecDepth 40000 in
theorem fpX5_101 : gFp RX5 101 5 10 (.int) := ⟨RX5, TX5, 31, tyX5, rfl, by decide, uT5, tyX5_ok, nmX5, by decide +kernel, rfl, Or.inl (gin 838 rfl rfl)⟩
set_option maxRecDepth 40000 in
theorem flX5_104 : gF RX5 104 5 11 := ⟨RX5, TX5, 31, rfl, by decide, uT5, Or.inl (gin 839 rfl rfl)⟩
set_option maxRecDepth 40000 in
theorem fpX5_104 : gFp RX5 104 5 11 (.int) := ⟨RX5, TX5, 31, tyX5, rfl, by decide, uT5, tyX5_ok, nmX5, by decide +kernel, rfl, Or.inl (gin 839 rfl rfl)⟩
set_option maxRecDepth 40000 in
theorem flX5_20 : gF RX5 20 5 12 := ⟨RX5, TX5, 31, rfl, by decide, uT5, Or.inl (gin 840 rfl rfl)⟩
set_option maxRecDepth 40000 in
theorem ffX5_20 : gFf RX5 20 5 12 (.array .long) := ⟨RX5, TX5, 31, tyX5, rfl, by decide, uT5, tyX5_ok, nmX5, by decide +kernel, rfl, rfl, gin 840 rfl rfl⟩
set_option maxRecDepth 40000 in
theorem flX5_25 : gF RX5 25 5 13 := ⟨RX5, TX5, 31, rfl, by decide, uT5, Or.inl (gin 841 rfl rfl)⟩
set_option maxRecDepth 40000 in
theorem ffX5_25 : gFf RX5 25 5 13 (.array .int) := ⟨RX5, TX5, 31, tyX5, rfl, by decide, uT5, tyX5_ok, nmX5, by decide +kernel, rfl, rfl, gin 841 rfl rfl⟩
set_option maxRecDepth 40000 in
theorem flX5_107 : gF RX5 107 5 14 := ⟨RX5, TX5, 31, rfl, by decide, uT5, Or.inl (gin 842 rfl rfl)⟩
set_option maxRecDepth 40000 in
theorem fpX5_107 : gFp RX5 107 5 14 (.int) := ⟨RX5, TX5, 31, tyX5, rfl, by decide, uT5, tyX5_ok, nmX5, by decide +kernel, rfl, Or.inl (gin 842 rfl rfl)⟩
set_option maxRecDepth 40000 in
theorem flX5_28 : gF RX5 28 5 15 := ⟨RX5, TX5, 31, rfl, by decide, uT5, Or.inl (gin 843 rfl rfl)⟩
set_option maxRecDepth 40000 in
theorem ffX5_28 : gFf RX5 28 5 15 (.array .long) := ⟨RX5, TX5, 31, tyX5, rfl, by decide, uT5, tyX5_ok, nmX5, by decide +kernel, rfl, rfl, gin 843 rfl rfl⟩
set_option maxRecDepth 40000 in
theorem flX5_110 : gF RX5 110 5 16 := ⟨RX5, TX5, 31, rfl, by decide, uT5, Or.inl (gin 844 rfl rfl)⟩
set_option maxRecDepth 40000 in
theorem fpX5_110 : gFp RX5 110 5 16 (.int) := ⟨RX5, TX5, 31, tyX5, rfl, by decide, uT5, tyX5_ok, nmX5, by decide +kernel, rfl, Or.inl (gin 844 rfl rfl)⟩
set_option maxRecDepth 40000 in
theorem flX5_31 : gF RX5 31 5 17 := ⟨RX5, TX5, 31, rfl, by decide, uT5, Or.inl (gin 845 rfl rfl)⟩
set_option maxRecDepth 40000 in
theorem ffX5_31 : gFf RX5 31 5 17 (.array .boolean) := ⟨RX5, TX5, 31, tyX5, rfl, by decide, uT5, tyX5_ok, nmX5, by decide +kernel, rfl, rfl, gin 845 rfl rfl⟩
set_option maxRecDepth 40000 in
theorem flX5_35 : gF RX5 35 5 18 := ⟨RX5, TX5, 31, rfl, by decide, uT5, Or.inl (gin 846 rfl rfl)⟩
set_option maxRecDepth 40000 in
theorem ffX5_35 : gFf RX5 35 5 18 (.array .int) := ⟨RX5, TX5, 31, tyX5, rfl, by decide, uT5, tyX5_ok, nmX5, by decide +kernel, rfl, rfl, gin 846 rfl rfl⟩
set_option maxRecDepth 40000 in
theorem flX5_113 : gF RX5 113 5 19 := ⟨RX5, TX5, 31, rfl, by decide, uT5, Or.inl (gin 847 rfl rfl)⟩
set_option maxRecDepth 40000 in
theorem fpX5_113 : gFp RX5 113 5 19 (.int) := ⟨RX5, TX5, 31, tyX5, rfl, by decide, uT5, tyX5_ok, nmX5, by decide +kernel, rfl, Or.inl (gin 847 rfl rfl)⟩
set_option maxRecDepth 40000 in
theorem flX5_38 : gF RX5 38 5 20 := ⟨RX5, TX5, 31, rfl, by decide, uT5, Or.inl (gin 848 rfl rfl)⟩
set_option maxRecDepth 40000 in
theorem ffX5_38 : gFf RX5 38 5 20 (.array .int) := ⟨RX5, TX5, 31, tyX5, rfl, by decide, uT5, tyX5_ok, nmX5, by decide +kernel, rfl, rfl, gin 848 rfl rfl⟩
set_option maxRecDepth 40000 in
theorem flX5_41 : gF RX5 41 5 21 := ⟨RX5, TX5, 31, rfl, by decide, uT5, Or.inl (gin 849 rfl rfl)⟩
set_option maxRecDepth 40000 in
theorem ffX5_41 : gFf RX5 41 5 21 (.array .long) := ⟨RX5, TX5, 31, tyX5, rfl, by decide, uT5, tyX5_ok, nmX5, by decide +kernel, rfl, rfl, gin 849 rfl rfl⟩
set_option maxRecDepth 40000 in
theorem flX5_44 : gF RX5 44 5 22 := ⟨RX5, TX5, 31, rfl, by decide, uT5, Or.inl (gin 850 rfl rfl)⟩
set_option maxRecDepth 40000 in
theorem ffX5_44 : gFf RX5 44 5 22 (.array .int) := ⟨RX5, TX5, 31, tyX5, rfl, by decide, uT5, tyX5_ok, nmX5, by decide +kernel, rfl, rfl, gin 850 rfl rfl⟩
set_option maxRecDepth 40000 in
theorem flX5_47 : gF RX5 47 5 23 := ⟨RX5, TX5, 31, rfl, by decide, uT5, Or.inl (gin 851 rfl rfl)⟩
set_option maxRecDepth 40000 in
theorem ffX5_47 : gFf RX5 47 5 23 (.array .boolean) := ⟨RX5, TX5, 31, tyX5, rfl, by decide, uT5, tyX5_ok, nmX5, by decide +kernel, rfl, rfl, gin 851 rfl rfl⟩
set_option maxRecDepth 40000 in
theorem flX5_50 : gF RX5 50 5 24 := ⟨RX5, TX5, 31, rfl, by decide, uT5, Or.inl (gin 852 rfl rfl)⟩
set_option maxRecDepth 40000 in
theorem ffX5_50 : gFf RX5 50 5 24 (.array .long) := ⟨RX5, TX5, 31, tyX5, rfl, by decide, uT5, tyX5_ok, nmX5, by decide +kernel, rfl, rfl, gin 852 rfl rfl⟩
set_option maxRecDepth 40000 in
theorem flX5_53 : gF RX5 53 5 25 := ⟨RX5, TX5, 31, rfl, by decide, uT5, Or.inl (gin 853 rfl rfl)⟩
set_option maxRecDepth 40000 in
theorem ffX5_53 : gFf RX5 53 5 25 (.array .int) := ⟨RX5, TX5, 31, tyX5, rfl, by decide, uT5, tyX5_ok, nmX5, by decide +kernel, rfl, rfl, gin 853 rfl rfl⟩
set_option maxRecDepth 40000 in
theorem flX5_56 : gF RX5 56 5 26 := ⟨RX5, TX5, 31, rfl, by decide, uT5, Or.inl (gin 854 rfl rfl)⟩
set_option maxRecDepth 40000 in
theorem ffX5_56 : gFf RX5 56 5 26 (.array .long) := ⟨RX5, TX5, 31, tyX5, rfl, by decide, uT5, tyX5_ok, nmX5, by decide +kernel, rfl, rfl, gin 854 rfl rfl⟩
set_option maxRecDepth 40000 in
theorem flX5_59 : gF RX5 59 5 27 := ⟨RX5, TX5, 31, rfl, by decide, uT5, Or.inl (gin 855 rfl rfl)⟩
set_option maxRecDepth 40000 in
theorem ffX5_59 : gFf RX5 59 5 27 (.array .boolean) := ⟨RX5, TX5, 31, tyX5, rfl, by decide, uT5, tyX5_ok, nmX5, by decide +kernel, rfl, rfl, gin 855 rfl rfl⟩
set_option maxRecDepth 40000 in
theorem flX5_62 : gF RX5 62 5 28 := ⟨RX5, TX5, 31, rfl, by decide, uT5, Or.inl (gin 856 rfl rfl)⟩
set_option maxRecDepth 40000 in
theorem ffX5_62 : gFf RX5 62 5 28 (.array .int) := ⟨RX5, TX5, 31, tyX5, rfl, by decide, uT5, tyX5_ok, nmX5, by decide +kernel, rfl, rfl, gin 856 rfl rfl⟩
set_option maxRecDepth 40000 in
theorem flX5_65 : gF RX5 65 5 29 := ⟨RX5, TX5, 31, rfl, by decide, uT5, Or.inl (gin 857 rfl rfl)⟩
set_option maxRecDepth 40000 in
theorem ffX5_65 : gFf RX5 65 5 29 (.array .int) := ⟨RX5, TX5, 31, tyX5, rfl, by decide, uT5, tyX5_ok, nmX5, by decide +kernel, rfl, rfl, gin 857 rfl rfl⟩
set_option maxRecDepth 40000 in
theorem flX5_68 : gF RX5 68 5 30 := ⟨RX5, TX5, 31, rfl, by decide, uT5, Or.inl (gin 858 rfl rfl)⟩
set_option maxRecDepth 40000 in
theorem ffX5_68 : gFf RX5 68 5 30 (.array .long) := ⟨RX5, TX5, 31, tyX5, rfl, by decide, uT5, tyX5_ok, nmX5, by decide +kernel, rfl, rfl, gin 858 rfl rfl⟩
set_option maxRecDepth 40000 in
theorem mlL_77 : gL RL 77 MX4_init 0 := ⟨gin 81 rfl rfl, gin 61 rfl rfl, ⟨by decide, by decide⟩, by decide +kernel, Or.inl (gin 79 rfl rfl)⟩
set_option maxRecDepth 40000 in
theorem imX4_init : Cond.instanceMethod yX4_init ∈ gT := gin 80 rfl rfl
set_option maxRecDepth 40000 in
theorem mlX4_11 : gL RX4 11 MX1_init 0 := ⟨gin 89 rfl rfl, gin 62 rfl rfl, ⟨by decide, by decide⟩, by decide +kernel, Or.inr ⟨"GraphLog", gin 87 rfl rfl⟩⟩
set_option maxRecDepth 40000 in
theorem imX1_init : Cond.instanceMethod yX1_init ∈ gT := gin 88 rfl rfl
set_option maxRecDepth 40000 in
theorem mlX4_18 : gL RX4 18 MX2_init 0 := ⟨gin 112 rfl rfl, gin 63 rfl rfl, ⟨by decide, by decide⟩, by decide +kernel, Or.inr ⟨"GraphLog", gin 110 rfl rfl⟩⟩
set_option maxRecDepth 40000 in
theorem imX2_init : Cond.instanceMethod yX2_init ∈ gT := gin 111 rfl rfl
set_option maxRecDepth 40000 in
theorem mlX2_17 : gL RX2 17 MX0_init 0 := ⟨gin 118 rfl rfl, gin 64 rfl rfl, ⟨by decide, by decide⟩, by decide +kernel, Or.inr ⟨"GraphLog", gin 116 rfl rfl⟩⟩
set_option maxRecDepth 40000 in
theorem imX0_init : Cond.instanceMethod yX0_init ∈ gT := gin 117 rfl rfl
set_option maxRecDepth 40000 in
theorem mlX4_28 : gL RX4 28 MX3_init 0 := ⟨gin 185 rfl rfl, gin 65 rfl rfl, ⟨by decide, by decide⟩, by decide +kernel, Or.inr ⟨"GraphLog", gin 183 rfl rfl⟩⟩
set_option maxRecDepth 40000 in
theorem imX3_init : Cond.instanceMethod yX3_init ∈ gT := gin 184 rfl rfl
set_option maxRecDepth 40000 in
theorem mlX4_33 : gL RX4 33 MX4_startAnew 1 := ⟨gin 203 rfl rfl, gin 61 rfl rfl, ⟨by decide, by decide⟩, by decide +kernel, Or.inl (gin 200 rfl rfl)⟩
set_option maxRecDepth 40000 in
theorem imX4_startAnew : Cond.instanceMethod yX4_startAnew ∈ gT := gin 202 rfl rfl
set_option maxRecDepth 40000 in
theorem seX4_startAnew : Cond.selects RX4 yX4_startAnew yX4_startAnew ∈ gT := gin 0 rfl rfl
set_option maxRecDepth 40000 in
theorem mlX4_238 : gL RX4 238 MX1_clear 0 := ⟨gin 207 rfl rfl, gin 62 rfl rfl, ⟨by decide, by decide⟩, by decide +kernel, Or.inl (gin 204 rfl rfl)⟩
set_option maxRecDepth 40000 in
theorem imX1_clear : Cond.instanceMethod yX1_clear ∈ gT := gin 205 rfl rfl
set_option maxRecDepth 40000 in
theorem seX1_clear : Cond.selects RX1 yX1_clear yX1_clear ∈ gT := gin 206 rfl rfl
set_option maxRecDepth 40000 in
theorem mlX1_19 : gL RX1 19 MJ7_fill_031fb 2 := ⟨gin 210 rfl rfl, gin 66 rfl rfl, ⟨by decide, by decide⟩, by decide +kernel, Or.inl (gin 208 rfl rfl)⟩
set_option maxRecDepth 40000 in
theorem isJ7_fill_031fb : Cond.static yJ7_fill_031fb ∈ gT := gin 209 rfl rfl
set_option maxRecDepth 40000 in
theorem mlX4_241 : gL RX4 241 MX2_forget 1 := ⟨gin 214 rfl rfl, gin 63 rfl rfl, ⟨by decide, by decide⟩, by decide +kernel, Or.inl (gin 211 rfl rfl)⟩
set_option maxRecDepth 40000 in
theorem imX2_forget : Cond.instanceMethod yX2_forget ∈ gT := gin 212 rfl rfl
set_option maxRecDepth 40000 in
theorem seX2_forget : Cond.selects RX2 yX2_forget yX2_forget ∈ gT := gin 213 rfl rfl
set_option maxRecDepth 40000 in
theorem mlX2_40 : gL RX2 40 MJ7_fill_d0a16 2 := ⟨gin 217 rfl rfl, gin 66 rfl rfl, ⟨by decide, by decide⟩, by decide +kernel, Or.inl (gin 215 rfl rfl)⟩
set_option maxRecDepth 40000 in
theorem isJ7_fill_d0a16 : Cond.static yJ7_fill_d0a16 ∈ gT := gin 216 rfl rfl
set_option maxRecDepth 40000 in
theorem mlX2_46 : gL RX2 46 MX0_forget 0 := ⟨gin 221 rfl rfl, gin 64 rfl rfl, ⟨by decide, by decide⟩, by decide +kernel, Or.inl (gin 218 rfl rfl)⟩
set_option maxRecDepth 40000 in
theorem imX0_forget : Cond.instanceMethod yX0_forget ∈ gT := gin 219 rfl rfl
set_option maxRecDepth 40000 in
theorem seX0_forget : Cond.selects RX0 yX0_forget yX0_forget ∈ gT := gin 220 rfl rfl
set_option maxRecDepth 40000 in
theorem mlX4_122 : gL RX4 122 MX4_writeHead 0 := ⟨gin 225 rfl rfl, gin 61 rfl rfl, ⟨by decide, by decide⟩, by decide +kernel, Or.inl (gin 222 rfl rfl)⟩
set_option maxRecDepth 40000 in
theorem imX4_writeHead : Cond.instanceMethod yX4_writeHead ∈ gT := gin 224 rfl rfl
set_option maxRecDepth 40000 in
theorem seX4_writeHead : Cond.selects RX4 yX4_writeHead yX4_writeHead ∈ gT := gin 1 rfl rfl
set_option maxRecDepth 40000 in
theorem mlX4_244 : gL RX4 244 MX1_goTo 1 := ⟨gin 229 rfl rfl, gin 62 rfl rfl, ⟨by decide, by decide⟩, by decide +kernel, Or.inl (gin 226 rfl rfl)⟩
set_option maxRecDepth 40000 in
theorem imX1_goTo : Cond.instanceMethod yX1_goTo ∈ gT := gin 227 rfl rfl
set_option maxRecDepth 40000 in
theorem seX1_goTo : Cond.selects RX1 yX1_goTo yX1_goTo ∈ gT := gin 228 rfl rfl
set_option maxRecDepth 40000 in
theorem mlX4_72 : gL RX4 72 MX1_write 2 := ⟨gin 233 rfl rfl, gin 62 rfl rfl, ⟨by decide, by decide⟩, by decide +kernel, Or.inl (gin 230 rfl rfl)⟩
set_option maxRecDepth 40000 in
theorem imX1_write : Cond.instanceMethod yX1_write ∈ gT := gin 231 rfl rfl
set_option maxRecDepth 40000 in
theorem seX1_write : Cond.selects RX1 yX1_write yX1_write ∈ gT := gin 232 rfl rfl
set_option maxRecDepth 40000 in
theorem mlX1_36 : gL RX1 36 MX1_writeByte 1 := ⟨gin 237 rfl rfl, gin 62 rfl rfl, ⟨by decide, by decide⟩, by decide +kernel, Or.inl (gin 234 rfl rfl)⟩
set_option maxRecDepth 40000 in
theorem imX1_writeByte : Cond.instanceMethod yX1_writeByte ∈ gT := gin 236 rfl rfl
set_option maxRecDepth 40000 in
theorem seX1_writeByte : Cond.selects RX1 yX1_writeByte yX1_writeByte ∈ gT := gin 2 rfl rfl
set_option maxRecDepth 40000 in
theorem mlX1_32 : gL RX1 32 MX1_get 1 := ⟨gin 241 rfl rfl, gin 62 rfl rfl, ⟨by decide, by decide⟩, by decide +kernel, Or.inl (gin 238 rfl rfl)⟩
set_option maxRecDepth 40000 in
theorem imX1_get : Cond.instanceMethod yX1_get ∈ gT := gin 239 rfl rfl
set_option maxRecDepth 40000 in
theorem seX1_get : Cond.selects RX1 yX1_get yX1_get ∈ gT := gin 240 rfl rfl
set_option maxRecDepth 40000 in
theorem mlX1_40 : gL RX1 40 MX1_set 2 := ⟨gin 245 rfl rfl, gin 62 rfl rfl, ⟨by decide, by decide⟩, by decide +kernel, Or.inl (gin 242 rfl rfl)⟩
set_option maxRecDepth 40000 in
theorem imX1_set : Cond.instanceMethod yX1_set ∈ gT := gin 243 rfl rfl
set_option maxRecDepth 40000 in
theorem seX1_set : Cond.selects RX1 yX1_set yX1_set ∈ gT := gin 244 rfl rfl
set_option maxRecDepth 40000 in
theorem mlX4_253 : gL RX4 253 MX1_sum 3 := ⟨gin 249 rfl rfl, gin 62 rfl rfl, ⟨by decide, by decide⟩, by decide +kernel, Or.inl (gin 246 rfl rfl)⟩
set_option maxRecDepth 40000 in
theorem imX1_sum : Cond.instanceMethod yX1_sum ∈ gT := gin 247 rfl rfl
set_option maxRecDepth 40000 in
theorem seX1_sum : Cond.selects RX1 yX1_sum yX1_sum ∈ gT := gin 248 rfl rfl
set_option maxRecDepth 40000 in
theorem mlX1_44 : gL RX1 44 MJ9_min_7cf53 2 := ⟨gin 252 rfl rfl, gin 67 rfl rfl, ⟨by decide, by decide⟩, by decide +kernel, Or.inl (gin 250 rfl rfl)⟩
set_option maxRecDepth 40000 in
theorem isJ9_min_7cf53 : Cond.static yJ9_min_7cf53 ∈ gT := gin 251 rfl rfl
set_option maxRecDepth 40000 in
theorem mlX1_50 : gL RX1 50 MJ9_max_7cf53 2 := ⟨gin 255 rfl rfl, gin 67 rfl rfl, ⟨by decide, by decide⟩, by decide +kernel, Or.inl (gin 253 rfl rfl)⟩
set_option maxRecDepth 40000 in
theorem isJ9_max_7cf53 : Cond.static yJ9_max_7cf53 ∈ gT := gin 254 rfl rfl
set_option maxRecDepth 40000 in
theorem mlX4_145 : gL RX4 145 MX1_forgetWritten 0 := ⟨gin 260 rfl rfl, gin 62 rfl rfl, ⟨by decide, by decide⟩, by decide +kernel, Or.inl (gin 257 rfl rfl)⟩
set_option maxRecDepth 40000 in
theorem imX1_forgetWritten : Cond.instanceMethod yX1_forgetWritten ∈ gT := gin 258 rfl rfl
set_option maxRecDepth 40000 in
theorem seX1_forgetWritten : Cond.selects RX1 yX1_forgetWritten yX1_forgetWritten ∈ gT := gin 259 rfl rfl
set_option maxRecDepth 40000 in
theorem mlL_109 : gL RL 109 MX4_crash 1 := ⟨gin 283 rfl rfl, gin 61 rfl rfl, ⟨by decide, by decide⟩, by decide +kernel, Or.inl (gin 280 rfl rfl)⟩
set_option maxRecDepth 40000 in
theorem imX4_crash : Cond.instanceMethod yX4_crash ∈ gT := gin 281 rfl rfl
set_option maxRecDepth 40000 in
theorem seX4_crash : Cond.selects RX4 yX4_crash yX4_crash ∈ gT := gin 282 rfl rfl
set_option maxRecDepth 40000 in
theorem mlX4_129 : gL RX4 129 MX1_takeBack 1 := ⟨gin 287 rfl rfl, gin 62 rfl rfl, ⟨by decide, by decide⟩, by decide +kernel, Or.inl (gin 284 rfl rfl)⟩
set_option maxRecDepth 40000 in
theorem imX1_takeBack : Cond.instanceMethod yX1_takeBack ∈ gT := gin 285 rfl rfl
set_option maxRecDepth 40000 in
theorem seX1_takeBack : Cond.selects RX1 yX1_takeBack yX1_takeBack ∈ gT := gin 286 rfl rfl
set_option maxRecDepth 40000 in
theorem mlL_113 : gL RL 113 MX4_open 0 := ⟨gin 291 rfl rfl, gin 61 rfl rfl, ⟨by decide, by decide⟩, by decide +kernel, Or.inl (gin 288 rfl rfl)⟩
set_option maxRecDepth 40000 in
theorem imX4_open : Cond.instanceMethod yX4_open ∈ gT := gin 289 rfl rfl
set_option maxRecDepth 40000 in
theorem seX4_open : Cond.selects RX4 yX4_open yX4_open ∈ gT := gin 290 rfl rfl
set_option maxRecDepth 40000 in
theorem mlX4_132 : gL RX4 132 MX4_headToTake 0 := ⟨gin 295 rfl rfl, gin 61 rfl rfl, ⟨by decide, by decide⟩, by decide +kernel, Or.inl (gin 292 rfl rfl)⟩
set_option maxRecDepth 40000 in
theorem imX4_headToTake : Cond.instanceMethod yX4_headToTake ∈ gT := gin 294 rfl rfl
set_option maxRecDepth 40000 in
theorem seX4_headToTake : Cond.selects RX4 yX4_headToTake yX4_headToTake ∈ gT := gin 3 rfl rfl
set_option maxRecDepth 40000 in
theorem mlX4_264 : gL RX4 264 MX4_isHeadRight 1 := ⟨gin 299 rfl rfl, gin 61 rfl rfl, ⟨by decide, by decide⟩, by decide +kernel, Or.inl (gin 296 rfl rfl)⟩
set_option maxRecDepth 40000 in
theorem imX4_isHeadRight : Cond.instanceMethod yX4_isHeadRight ∈ gT := gin 298 rfl rfl
set_option maxRecDepth 40000 in
theorem seX4_isHeadRight : Cond.selects RX4 yX4_isHeadRight yX4_isHeadRight ∈ gT := gin 4 rfl rfl
set_option maxRecDepth 40000 in
theorem mlX4_135 : gL RX4 135 MX1_number 2 := ⟨gin 303 rfl rfl, gin 62 rfl rfl, ⟨by decide, by decide⟩, by decide +kernel, Or.inl (gin 300 rfl rfl)⟩
set_option maxRecDepth 40000 in
theorem imX1_number : Cond.instanceMethod yX1_number ∈ gT := gin 301 rfl rfl
set_option maxRecDepth 40000 in
theorem seX1_number : Cond.selects RX1 yX1_number yX1_number ∈ gT := gin 302 rfl rfl
set_option maxRecDepth 40000 in
theorem mlX4_141 : gL RX4 141 MX2_readLog 3 := ⟨gin 308 rfl rfl, gin 63 rfl rfl, ⟨by decide, by decide⟩, by decide +kernel, Or.inl (gin 305 rfl rfl)⟩
set_option maxRecDepth 40000 in
theorem imX2_readLog : Cond.instanceMethod yX2_readLog ∈ gT := gin 306 rfl rfl
set_option maxRecDepth 40000 in
theorem seX2_readLog : Cond.selects RX2 yX2_readLog yX2_readLog ∈ gT := gin 307 rfl rfl
set_option maxRecDepth 40000 in
theorem mlX2_89 : gL RX2 89 MX2_forget 1 := ⟨gin 214 rfl rfl, gin 63 rfl rfl, ⟨by decide, by decide⟩, by decide +kernel, Or.inl (gin 309 rfl rfl)⟩
set_option maxRecDepth 40000 in
theorem mlX2_92 : gL RX2 92 MX2_isRowRight 3 := ⟨gin 313 rfl rfl, gin 63 rfl rfl, ⟨by decide, by decide⟩, by decide +kernel, Or.inl (gin 310 rfl rfl)⟩
set_option maxRecDepth 40000 in
theorem imX2_isRowRight : Cond.instanceMethod yX2_isRowRight ∈ gT := gin 312 rfl rfl
set_option maxRecDepth 40000 in
theorem seX2_isRowRight : Cond.selects RX2 yX2_isRowRight yX2_isRowRight ∈ gT := gin 5 rfl rfl
set_option maxRecDepth 40000 in
theorem mlX2_100 : gL RX2 100 MX1_get 1 := ⟨gin 241 rfl rfl, gin 62 rfl rfl, ⟨by decide, by decide⟩, by decide +kernel, Or.inl (gin 314 rfl rfl)⟩
set_option maxRecDepth 40000 in
theorem mlX2_106 : gL RX2 106 MX4_sizeOf 1 := ⟨gin 317 rfl rfl, gin 61 rfl rfl, ⟨by decide, by decide⟩, by decide +kernel, Or.inr ⟨"GraphLog", gin 315 rfl rfl⟩⟩
set_option maxRecDepth 40000 in
theorem isX4_sizeOf : Cond.static yX4_sizeOf ∈ gT := gin 316 rfl rfl
set_option maxRecDepth 40000 in
theorem mlX2_109 : gL RX2 109 MX1_sum 3 := ⟨gin 249 rfl rfl, gin 62 rfl rfl, ⟨by decide, by decide⟩, by decide +kernel, Or.inl (gin 318 rfl rfl)⟩
set_option maxRecDepth 40000 in
theorem mlX2_113 : gL RX2 113 MX1_number 2 := ⟨gin 303 rfl rfl, gin 62 rfl rfl, ⟨by decide, by decide⟩, by decide +kernel, Or.inl (gin 319 rfl rfl)⟩
set_option maxRecDepth 40000 in
theorem mlX2_116 : gL RX2 116 MX2_isTextRight 2 := ⟨gin 323 rfl rfl, gin 63 rfl rfl, ⟨by decide, by decide⟩, by decide +kernel, Or.inl (gin 320 rfl rfl)⟩
set_option maxRecDepth 40000 in
theorem imX2_isTextRight : Cond.instanceMethod yX2_isTextRight ∈ gT := gin 322 rfl rfl
set_option maxRecDepth 40000 in
theorem seX2_isTextRight : Cond.selects RX2 yX2_isTextRight yX2_isTextRight ∈ gT := gin 6 rfl rfl
set_option maxRecDepth 40000 in
theorem mlX2_120 : gL RX2 120 MX0_find 1 := ⟨gin 327 rfl rfl, gin 64 rfl rfl, ⟨by decide, by decide⟩, by decide +kernel, Or.inl (gin 324 rfl rfl)⟩
set_option maxRecDepth 40000 in
theorem imX0_find : Cond.instanceMethod yX0_find ∈ gT := gin 325 rfl rfl
set_option maxRecDepth 40000 in
theorem seX0_find : Cond.selects RX0 yX0_find yX0_find ∈ gT := gin 326 rfl rfl
set_option maxRecDepth 40000 in
theorem mlX2_123 : gL RX2 123 MX0_namesOf 1 := ⟨gin 331 rfl rfl, gin 64 rfl rfl, ⟨by decide, by decide⟩, by decide +kernel, Or.inl (gin 328 rfl rfl)⟩
set_option maxRecDepth 40000 in
theorem imX0_namesOf : Cond.instanceMethod yX0_namesOf ∈ gT := gin 329 rfl rfl
set_option maxRecDepth 40000 in
theorem seX0_namesOf : Cond.selects RX0 yX0_namesOf yX0_namesOf ∈ gT := gin 330 rfl rfl
set_option maxRecDepth 40000 in
theorem mlX0_26 : gL RX0 26 MX0_isSlot 1 := ⟨gin 335 rfl rfl, gin 64 rfl rfl, ⟨by decide, by decide⟩, by decide +kernel, Or.inl (gin 332 rfl rfl)⟩
set_option maxRecDepth 40000 in
theorem imX0_isSlot : Cond.instanceMethod yX0_isSlot ∈ gT := gin 334 rfl rfl
set_option maxRecDepth 40000 in
theorem seX0_isSlot : Cond.selects RX0 yX0_isSlot yX0_isSlot ∈ gT := gin 7 rfl rfl
set_option maxRecDepth 40000 in
theorem mlX2_126 : gL RX2 126 MX2_isChange 3 := ⟨gin 339 rfl rfl, gin 63 rfl rfl, ⟨by decide, by decide⟩, by decide +kernel, Or.inl (gin 336 rfl rfl)⟩
set_option maxRecDepth 40000 in
theorem imX2_isChange : Cond.instanceMethod yX2_isChange ∈ gT := gin 338 rfl rfl
set_option maxRecDepth 40000 in
theorem seX2_isChange : Cond.selects RX2 yX2_isChange yX2_isChange ∈ gT := gin 8 rfl rfl
set_option maxRecDepth 40000 in
theorem mlX2_68 : gL RX2 68 MX2_edgesOfNow 1 := ⟨gin 343 rfl rfl, gin 63 rfl rfl, ⟨by decide, by decide⟩, by decide +kernel, Or.inl (gin 340 rfl rfl)⟩
set_option maxRecDepth 40000 in
theorem imX2_edgesOfNow : Cond.instanceMethod yX2_edgesOfNow ∈ gT := gin 341 rfl rfl
set_option maxRecDepth 40000 in
theorem seX2_edgesOfNow : Cond.selects RX2 yX2_edgesOfNow yX2_edgesOfNow ∈ gT := gin 342 rfl rfl
set_option maxRecDepth 40000 in
theorem mlX2_130 : gL RX2 130 MX2_haveCome 2 := ⟨gin 347 rfl rfl, gin 63 rfl rfl, ⟨by decide, by decide⟩, by decide +kernel, Or.inl (gin 344 rfl rfl)⟩
set_option maxRecDepth 40000 in
theorem imX2_haveCome : Cond.instanceMethod yX2_haveCome ∈ gT := gin 346 rfl rfl
set_option maxRecDepth 40000 in
theorem seX2_haveCome : Cond.selects RX2 yX2_haveCome yX2_haveCome ∈ gT := gin 9 rfl rfl
set_option maxRecDepth 40000 in
theorem mlX2_64 : gL RX2 64 MX2_isThere 1 := ⟨gin 351 rfl rfl, gin 63 rfl rfl, ⟨by decide, by decide⟩, by decide +kernel, Or.inl (gin 348 rfl rfl)⟩
set_option maxRecDepth 40000 in
theorem imX2_isThere : Cond.instanceMethod yX2_isThere ∈ gT := gin 349 rfl rfl
set_option maxRecDepth 40000 in
theorem seX2_isThere : Cond.selects RX2 yX2_isThere yX2_isThere ∈ gT := gin 350 rfl rfl
set_option maxRecDepth 40000 in
theorem mlX2_96 : gL RX2 96 MX2_takeRow 2 := ⟨gin 355 rfl rfl, gin 63 rfl rfl, ⟨by decide, by decide⟩, by decide +kernel, Or.inl (gin 352 rfl rfl)⟩
set_option maxRecDepth 40000 in
theorem imX2_takeRow : Cond.instanceMethod yX2_takeRow ∈ gT := gin 353 rfl rfl
set_option maxRecDepth 40000 in
theorem seX2_takeRow : Cond.selects RX2 yX2_takeRow yX2_takeRow ∈ gT := gin 354 rfl rfl
set_option maxRecDepth 40000 in
theorem mlX2_133 : gL RX2 133 MX0_take 3 := ⟨gin 359 rfl rfl, gin 64 rfl rfl, ⟨by decide, by decide⟩, by decide +kernel, Or.inl (gin 356 rfl rfl)⟩
set_option maxRecDepth 40000 in
theorem imX0_take : Cond.instanceMethod yX0_take ∈ gT := gin 357 rfl rfl
set_option maxRecDepth 40000 in
theorem seX0_take : Cond.selects RX0 yX0_take yX0_take ∈ gT := gin 358 rfl rfl
set_option maxRecDepth 40000 in
theorem mlX0_30 : gL RX0 30 MX0_find 1 := ⟨gin 327 rfl rfl, gin 64 rfl rfl, ⟨by decide, by decide⟩, by decide +kernel, Or.inl (gin 360 rfl rfl)⟩
set_option maxRecDepth 40000 in
theorem mlX0_34 : gL RX0 34 MX0_addSlot 1 := ⟨gin 364 rfl rfl, gin 64 rfl rfl, ⟨by decide, by decide⟩, by decide +kernel, Or.inl (gin 361 rfl rfl)⟩
set_option maxRecDepth 40000 in
theorem imX0_addSlot : Cond.instanceMethod yX0_addSlot ∈ gT := gin 363 rfl rfl
set_option maxRecDepth 40000 in
theorem seX0_addSlot : Cond.selects RX0 yX0_addSlot yX0_addSlot ∈ gT := gin 10 rfl rfl
set_option maxRecDepth 40000 in
theorem mlX0_37 : gL RX0 37 MX1_number 2 := ⟨gin 303 rfl rfl, gin 62 rfl rfl, ⟨by decide, by decide⟩, by decide +kernel, Or.inl (gin 365 rfl rfl)⟩
set_option maxRecDepth 40000 in
theorem mlX2_137 : gL RX2 137 MX2_takeChange 2 := ⟨gin 369 rfl rfl, gin 63 rfl rfl, ⟨by decide, by decide⟩, by decide +kernel, Or.inl (gin 366 rfl rfl)⟩
set_option maxRecDepth 40000 in
theorem imX2_takeChange : Cond.instanceMethod yX2_takeChange ∈ gT := gin 368 rfl rfl
set_option maxRecDepth 40000 in
theorem seX2_takeChange : Cond.selects RX2 yX2_takeChange yX2_takeChange ∈ gT := gin 11 rfl rfl
set_option maxRecDepth 40000 in
theorem mlX2_141 : gL RX2 141 MX2_takeVersion 2 := ⟨gin 373 rfl rfl, gin 63 rfl rfl, ⟨by decide, by decide⟩, by decide +kernel, Or.inl (gin 370 rfl rfl)⟩
set_option maxRecDepth 40000 in
theorem imX2_takeVersion : Cond.instanceMethod yX2_takeVersion ∈ gT := gin 372 rfl rfl
set_option maxRecDepth 40000 in
theorem seX2_takeVersion : Cond.selects RX2 yX2_takeVersion yX2_takeVersion ∈ gT := gin 12 rfl rfl
set_option maxRecDepth 40000 in
theorem mlX2_151 : gL RX2 151 MX2_nameChunks 2 := ⟨gin 377 rfl rfl, gin 63 rfl rfl, ⟨by decide, by decide⟩, by decide +kernel, Or.inl (gin 374 rfl rfl)⟩
set_option maxRecDepth 40000 in
theorem imX2_nameChunks : Cond.instanceMethod yX2_nameChunks ∈ gT := gin 376 rfl rfl
set_option maxRecDepth 40000 in
theorem seX2_nameChunks : Cond.selects RX2 yX2_nameChunks yX2_nameChunks ∈ gT := gin 13 rfl rfl
set_option maxRecDepth 40000 in
theorem mlX2_154 : gL RX2 154 MX2_hasBefore 2 := ⟨gin 381 rfl rfl, gin 63 rfl rfl, ⟨by decide, by decide⟩, by decide +kernel, Or.inl (gin 378 rfl rfl)⟩
set_option maxRecDepth 40000 in
theorem imX2_hasBefore : Cond.instanceMethod yX2_hasBefore ∈ gT := gin 380 rfl rfl
set_option maxRecDepth 40000 in
theorem seX2_hasBefore : Cond.selects RX2 yX2_hasBefore yX2_hasBefore ∈ gT := gin 14 rfl rfl
set_option maxRecDepth 40000 in
theorem mlX2_72 : gL RX2 72 MX2_slotOf 2 := ⟨gin 385 rfl rfl, gin 63 rfl rfl, ⟨by decide, by decide⟩, by decide +kernel, Or.inl (gin 382 rfl rfl)⟩
set_option maxRecDepth 40000 in
theorem imX2_slotOf : Cond.instanceMethod yX2_slotOf ∈ gT := gin 383 rfl rfl
set_option maxRecDepth 40000 in
theorem seX2_slotOf : Cond.selects RX2 yX2_slotOf yX2_slotOf ∈ gT := gin 384 rfl rfl
set_option maxRecDepth 40000 in
theorem mlX2_158 : gL RX2 158 MX0_addName 2 := ⟨gin 389 rfl rfl, gin 64 rfl rfl, ⟨by decide, by decide⟩, by decide +kernel, Or.inl (gin 386 rfl rfl)⟩
set_option maxRecDepth 40000 in
theorem imX0_addName : Cond.instanceMethod yX0_addName ∈ gT := gin 387 rfl rfl
set_option maxRecDepth 40000 in
theorem seX0_addName : Cond.selects RX0 yX0_addName yX0_addName ∈ gT := gin 388 rfl rfl
set_option maxRecDepth 40000 in
theorem mlX2_144 : gL RX2 144 MX2_takeAnswer 2 := ⟨gin 393 rfl rfl, gin 63 rfl rfl, ⟨by decide, by decide⟩, by decide +kernel, Or.inl (gin 390 rfl rfl)⟩
set_option maxRecDepth 40000 in
theorem imX2_takeAnswer : Cond.instanceMethod yX2_takeAnswer ∈ gT := gin 392 rfl rfl
set_option maxRecDepth 40000 in
theorem seX2_takeAnswer : Cond.selects RX2 yX2_takeAnswer yX2_takeAnswer ∈ gT := gin 15 rfl rfl
set_option maxRecDepth 40000 in
theorem mlX2_148 : gL RX2 148 MX2_takeDrop 1 := ⟨gin 397 rfl rfl, gin 63 rfl rfl, ⟨by decide, by decide⟩, by decide +kernel, Or.inl (gin 394 rfl rfl)⟩
set_option maxRecDepth 40000 in
theorem imX2_takeDrop : Cond.instanceMethod yX2_takeDrop ∈ gT := gin 396 rfl rfl
set_option maxRecDepth 40000 in
theorem seX2_takeDrop : Cond.selects RX2 yX2_takeDrop yX2_takeDrop ∈ gT := gin 16 rfl rfl
set_option maxRecDepth 40000 in
theorem mlX4_148 : gL RX4 148 MX2_countThere 0 := ⟨gin 401 rfl rfl, gin 63 rfl rfl, ⟨by decide, by decide⟩, by decide +kernel, Or.inl (gin 398 rfl rfl)⟩
set_option maxRecDepth 40000 in
theorem imX2_countThere : Cond.instanceMethod yX2_countThere ∈ gT := gin 399 rfl rfl
set_option maxRecDepth 40000 in
theorem seX2_countThere : Cond.selects RX2 yX2_countThere yX2_countThere ∈ gT := gin 400 rfl rfl
set_option maxRecDepth 40000 in
theorem mlL_151 : gL RL 151 MX4_isOpen 0 := ⟨gin 405 rfl rfl, gin 61 rfl rfl, ⟨by decide, by decide⟩, by decide +kernel, Or.inl (gin 402 rfl rfl)⟩
set_option maxRecDepth 40000 in
theorem imX4_isOpen : Cond.instanceMethod yX4_isOpen ∈ gT := gin 403 rfl rfl
set_option maxRecDepth 40000 in
theorem seX4_isOpen : Cond.selects RX4 yX4_isOpen yX4_isOpen ∈ gT := gin 404 rfl rfl
set_option maxRecDepth 40000 in
theorem mlL_81 : gL RL 81 ML_begin 2 := ⟨gin 408 rfl rfl, gin 60 rfl rfl, ⟨by decide, by decide⟩, by decide +kernel, Or.inl (gin 406 rfl rfl)⟩
set_option maxRecDepth 40000 in
theorem isL_begin : Cond.static yL_begin ∈ gT := gin 407 rfl rfl
set_option maxRecDepth 40000 in
theorem mlL_7 : gL RL 7 MX4_begin 1 := ⟨gin 414 rfl rfl, gin 61 rfl rfl, ⟨by decide, by decide⟩, by decide +kernel, Or.inl (gin 411 rfl rfl)⟩
set_option maxRecDepth 40000 in
theorem imX4_begin : Cond.instanceMethod yX4_begin ∈ gT := gin 412 rfl rfl
set_option maxRecDepth 40000 in
theorem seX4_begin : Cond.selects RX4 yX4_begin yX4_begin ∈ gT := gin 413 rfl rfl
set_option maxRecDepth 40000 in
theorem mlX4_41 : gL RX4 41 MJxde1cd_init_a7421 1 := ⟨gin 460 rfl rfl, gin 72 rfl rfl, ⟨by decide, by decide⟩, by decide +kernel, Or.inl (gin 458 rfl rfl)⟩
set_option maxRecDepth 40000 in
theorem imJxde1cd_init_a7421 : Cond.instanceMethod yJxde1cd_init_a7421 ∈ gT := gin 459 rfl rfl
set_option maxRecDepth 40000 in
theorem mlL_90 : gL RL 90 ML_edge 5 := ⟨gin 502 rfl rfl, gin 60 rfl rfl, ⟨by decide, by decide⟩, by decide +kernel, Or.inl (gin 500 rfl rfl)⟩
set_option maxRecDepth 40000 in
theorem isL_edge : Cond.static yL_edge ∈ gT := gin 501 rfl rfl
set_option maxRecDepth 40000 in
theorem mlL_17 : gL RL 17 MX4_edge 3 := ⟨gin 508 rfl rfl, gin 61 rfl rfl, ⟨by decide, by decide⟩, by decide +kernel, Or.inl (gin 505 rfl rfl)⟩
set_option maxRecDepth 40000 in
theorem imX4_edge : Cond.instanceMethod yX4_edge ∈ gT := gin 506 rfl rfl
set_option maxRecDepth 40000 in
theorem seX4_edge : Cond.selects RX4 yX4_edge yX4_edge ∈ gT := gin 507 rfl rfl
set_option maxRecDepth 40000 in
theorem mlX4_50 : gL RX4 50 MX4_requireOpen 0 := ⟨gin 512 rfl rfl, gin 61 rfl rfl, ⟨by decide, by decide⟩, by decide +kernel, Or.inl (gin 509 rfl rfl)⟩
set_option maxRecDepth 40000 in
theorem imX4_requireOpen : Cond.instanceMethod yX4_requireOpen ∈ gT := gin 511 rfl rfl
set_option maxRecDepth 40000 in
theorem seX4_requireOpen : Cond.selects RX4 yX4_requireOpen yX4_requireOpen ∈ gT := gin 18 rfl rfl
set_option maxRecDepth 40000 in
theorem mlX4_53 : gL RX4 53 MX4_requireNode 1 := ⟨gin 532 rfl rfl, gin 61 rfl rfl, ⟨by decide, by decide⟩, by decide +kernel, Or.inl (gin 529 rfl rfl)⟩
set_option maxRecDepth 40000 in
theorem imX4_requireNode : Cond.instanceMethod yX4_requireNode ∈ gT := gin 531 rfl rfl
set_option maxRecDepth 40000 in
theorem seX4_requireNode : Cond.selects RX4 yX4_requireNode yX4_requireNode ∈ gT := gin 19 rfl rfl
set_option maxRecDepth 40000 in
theorem mlX4_56 : gL RX4 56 MX2_joins 3 := ⟨gin 552 rfl rfl, gin 63 rfl rfl, ⟨by decide, by decide⟩, by decide +kernel, Or.inl (gin 549 rfl rfl)⟩
set_option maxRecDepth 40000 in
theorem imX2_joins : Cond.instanceMethod yX2_joins ∈ gT := gin 550 rfl rfl
set_option maxRecDepth 40000 in
theorem seX2_joins : Cond.selects RX2 yX2_joins yX2_joins ∈ gT := gin 551 rfl rfl
set_option maxRecDepth 40000 in
theorem mlX2_80 : gL RX2 80 MX2_edgesFrom 2 := ⟨gin 556 rfl rfl, gin 63 rfl rfl, ⟨by decide, by decide⟩, by decide +kernel, Or.inl (gin 553 rfl rfl)⟩
set_option maxRecDepth 40000 in
theorem imX2_edgesFrom : Cond.instanceMethod yX2_edgesFrom ∈ gT := gin 554 rfl rfl
set_option maxRecDepth 40000 in
theorem seX2_edgesFrom : Cond.selects RX2 yX2_edgesFrom yX2_edgesFrom ∈ gT := gin 555 rfl rfl
set_option maxRecDepth 40000 in
theorem mlX2_76 : gL RX2 76 MX0_edgesOf 2 := ⟨gin 560 rfl rfl, gin 64 rfl rfl, ⟨by decide, by decide⟩, by decide +kernel, Or.inl (gin 557 rfl rfl)⟩
set_option maxRecDepth 40000 in
theorem imX0_edgesOf : Cond.instanceMethod yX0_edgesOf ∈ gT := gin 558 rfl rfl
set_option maxRecDepth 40000 in
theorem seX0_edgesOf : Cond.selects RX0 yX0_edgesOf yX0_edgesOf ∈ gT := gin 559 rfl rfl
set_option maxRecDepth 40000 in
theorem mlX4_60 : gL RX4 60 MX4_logHasRoom 1 := ⟨gin 564 rfl rfl, gin 61 rfl rfl, ⟨by decide, by decide⟩, by decide +kernel, Or.inl (gin 561 rfl rfl)⟩
set_option maxRecDepth 40000 in
theorem imX4_logHasRoom : Cond.instanceMethod yX4_logHasRoom ∈ gT := gin 563 rfl rfl
set_option maxRecDepth 40000 in
theorem seX4_logHasRoom : Cond.selects RX4 yX4_logHasRoom yX4_logHasRoom ∈ gT := gin 20 rfl rfl
set_option maxRecDepth 40000 in
theorem mlX4_68 : gL RX4 68 MX4_startRow 2 := ⟨gin 568 rfl rfl, gin 61 rfl rfl, ⟨by decide, by decide⟩, by decide +kernel, Or.inl (gin 565 rfl rfl)⟩
set_option maxRecDepth 40000 in
theorem imX4_startRow : Cond.instanceMethod yX4_startRow ∈ gT := gin 567 rfl rfl
set_option maxRecDepth 40000 in
theorem seX4_startRow : Cond.selects RX4 yX4_startRow yX4_startRow ∈ gT := gin 21 rfl rfl
set_option maxRecDepth 40000 in
theorem mlX4_247 : gL RX4 247 MX4_sizeOf 1 := ⟨gin 317 rfl rfl, gin 61 rfl rfl, ⟨by decide, by decide⟩, by decide +kernel, Or.inl (gin 569 rfl rfl)⟩
set_option maxRecDepth 40000 in
theorem mlX4_76 : gL RX4 76 MX4_endRow 0 := ⟨gin 573 rfl rfl, gin 61 rfl rfl, ⟨by decide, by decide⟩, by decide +kernel, Or.inl (gin 570 rfl rfl)⟩
set_option maxRecDepth 40000 in
theorem imX4_endRow : Cond.instanceMethod yX4_endRow ∈ gT := gin 572 rfl rfl
set_option maxRecDepth 40000 in
theorem seX4_endRow : Cond.selects RX4 yX4_endRow yX4_endRow ∈ gT := gin 22 rfl rfl
set_option maxRecDepth 40000 in
theorem mlX4_257 : gL RX4 257 MX2_takeRow 2 := ⟨gin 355 rfl rfl, gin 63 rfl rfl, ⟨by decide, by decide⟩, by decide +kernel, Or.inl (gin 574 rfl rfl)⟩
set_option maxRecDepth 40000 in
theorem mlL_94 : gL RL 94 ML_version 2 := ⟨gin 577 rfl rfl, gin 60 rfl rfl, ⟨by decide, by decide⟩, by decide +kernel, Or.inl (gin 575 rfl rfl)⟩
set_option maxRecDepth 40000 in
theorem isL_version : Cond.static yL_version ∈ gT := gin 576 rfl rfl
set_option maxRecDepth 40000 in
theorem mlL_25 : gL RL 25 MX4_version 0 := ⟨gin 581 rfl rfl, gin 61 rfl rfl, ⟨by decide, by decide⟩, by decide +kernel, Or.inl (gin 578 rfl rfl)⟩
set_option maxRecDepth 40000 in
theorem imX4_version : Cond.instanceMethod yX4_version ∈ gT := gin 579 rfl rfl
set_option maxRecDepth 40000 in
theorem seX4_version : Cond.selects RX4 yX4_version yX4_version ∈ gT := gin 580 rfl rfl
set_option maxRecDepth 40000 in
theorem mlX4_82 : gL RX4 82 MX3_numberChunks 1 := ⟨gin 585 rfl rfl, gin 65 rfl rfl, ⟨by decide, by decide⟩, by decide +kernel, Or.inl (gin 582 rfl rfl)⟩
set_option maxRecDepth 40000 in
theorem imX3_numberChunks : Cond.instanceMethod yX3_numberChunks ∈ gT := gin 583 rfl rfl
set_option maxRecDepth 40000 in
theorem seX3_numberChunks : Cond.selects RX3 yX3_numberChunks yX3_numberChunks ∈ gT := gin 584 rfl rfl
set_option maxRecDepth 40000 in
theorem mlX3_32 : gL RX3 32 MX0_markNamed 1 := ⟨gin 589 rfl rfl, gin 64 rfl rfl, ⟨by decide, by decide⟩, by decide +kernel, Or.inl (gin 586 rfl rfl)⟩
set_option maxRecDepth 40000 in
theorem imX0_markNamed : Cond.instanceMethod yX0_markNamed ∈ gT := gin 587 rfl rfl
set_option maxRecDepth 40000 in
theorem seX0_markNamed : Cond.selects RX0 yX0_markNamed yX0_markNamed ∈ gT := gin 588 rfl rfl
set_option maxRecDepth 40000 in
theorem mlX0_46 : gL RX0 46 MX0_numberIn 1 := ⟨gin 593 rfl rfl, gin 64 rfl rfl, ⟨by decide, by decide⟩, by decide +kernel, Or.inl (gin 590 rfl rfl)⟩
set_option maxRecDepth 40000 in
theorem imX0_numberIn : Cond.instanceMethod yX0_numberIn ∈ gT := gin 591 rfl rfl
set_option maxRecDepth 40000 in
theorem seX0_numberIn : Cond.selects RX0 yX0_numberIn yX0_numberIn ∈ gT := gin 592 rfl rfl
set_option maxRecDepth 40000 in
theorem mlX0_43 : gL RX0 43 MX0_namesOf 1 := ⟨gin 331 rfl rfl, gin 64 rfl rfl, ⟨by decide, by decide⟩, by decide +kernel, Or.inl (gin 594 rfl rfl)⟩
set_option maxRecDepth 40000 in
theorem mlX3_38 : gL RX3 38 MX0_namedAlike 2 := ⟨gin 598 rfl rfl, gin 64 rfl rfl, ⟨by decide, by decide⟩, by decide +kernel, Or.inl (gin 595 rfl rfl)⟩
set_option maxRecDepth 40000 in
theorem imX0_namedAlike : Cond.instanceMethod yX0_namedAlike ∈ gT := gin 596 rfl rfl
set_option maxRecDepth 40000 in
theorem seX0_namedAlike : Cond.selects RX0 yX0_namedAlike yX0_namedAlike ∈ gT := gin 597 rfl rfl
set_option maxRecDepth 40000 in
theorem mlX0_49 : gL RX0 49 MX0_isAlike 3 := ⟨gin 602 rfl rfl, gin 64 rfl rfl, ⟨by decide, by decide⟩, by decide +kernel, Or.inl (gin 599 rfl rfl)⟩
set_option maxRecDepth 40000 in
theorem imX0_isAlike : Cond.instanceMethod yX0_isAlike ∈ gT := gin 601 rfl rfl
set_option maxRecDepth 40000 in
theorem seX0_isAlike : Cond.selects RX0 yX0_isAlike yX0_isAlike ∈ gT := gin 23 rfl rfl
set_option maxRecDepth 40000 in
theorem mlX0_53 : gL RX0 53 MX0_edgesOf 2 := ⟨gin 560 rfl rfl, gin 64 rfl rfl, ⟨by decide, by decide⟩, by decide +kernel, Or.inl (gin 603 rfl rfl)⟩
set_option maxRecDepth 40000 in
theorem mlX0_56 : gL RX0 56 MX2_edgesOfNow 1 := ⟨gin 343 rfl rfl, gin 63 rfl rfl, ⟨by decide, by decide⟩, by decide +kernel, Or.inl (gin 604 rfl rfl)⟩
set_option maxRecDepth 40000 in
theorem mlX3_42 : gL RX3 42 MX3_alikeBefore 2 := ⟨gin 608 rfl rfl, gin 65 rfl rfl, ⟨by decide, by decide⟩, by decide +kernel, Or.inl (gin 605 rfl rfl)⟩
set_option maxRecDepth 40000 in
theorem imX3_alikeBefore : Cond.instanceMethod yX3_alikeBefore ∈ gT := gin 607 rfl rfl
set_option maxRecDepth 40000 in
theorem seX3_alikeBefore : Cond.selects RX3 yX3_alikeBefore yX3_alikeBefore ∈ gT := gin 24 rfl rfl
set_option maxRecDepth 40000 in
theorem mlX3_52 : gL RX3 52 MX3_areAlike 3 := ⟨gin 612 rfl rfl, gin 65 rfl rfl, ⟨by decide, by decide⟩, by decide +kernel, Or.inl (gin 609 rfl rfl)⟩
set_option maxRecDepth 40000 in
theorem imX3_areAlike : Cond.instanceMethod yX3_areAlike ∈ gT := gin 611 rfl rfl
set_option maxRecDepth 40000 in
theorem seX3_areAlike : Cond.selects RX3 yX3_areAlike yX3_areAlike ∈ gT := gin 25 rfl rfl
set_option maxRecDepth 40000 in
theorem mlX3_59 : gL RX3 59 MX2_edgesOfNow 1 := ⟨gin 343 rfl rfl, gin 63 rfl rfl, ⟨by decide, by decide⟩, by decide +kernel, Or.inl (gin 613 rfl rfl)⟩
set_option maxRecDepth 40000 in
theorem mlX3_56 : gL RX3 56 MX3_numberOf 1 := ⟨gin 617 rfl rfl, gin 65 rfl rfl, ⟨by decide, by decide⟩, by decide +kernel, Or.inl (gin 614 rfl rfl)⟩
set_option maxRecDepth 40000 in
theorem imX3_numberOf : Cond.instanceMethod yX3_numberOf ∈ gT := gin 615 rfl rfl
set_option maxRecDepth 40000 in
theorem seX3_numberOf : Cond.selects RX3 yX3_numberOf yX3_numberOf ∈ gT := gin 616 rfl rfl
set_option maxRecDepth 40000 in
theorem mlX3_48 : gL RX3 48 MX3_takeLeast 1 := ⟨gin 621 rfl rfl, gin 65 rfl rfl, ⟨by decide, by decide⟩, by decide +kernel, Or.inl (gin 618 rfl rfl)⟩
set_option maxRecDepth 40000 in
theorem imX3_takeLeast : Cond.instanceMethod yX3_takeLeast ∈ gT := gin 620 rfl rfl
set_option maxRecDepth 40000 in
theorem seX3_takeLeast : Cond.selects RX3 yX3_takeLeast yX3_takeLeast ∈ gT := gin 26 rfl rfl
set_option maxRecDepth 40000 in
theorem mlX4_86 : gL RX4 86 MX3_bytes 0 := ⟨gin 625 rfl rfl, gin 65 rfl rfl, ⟨by decide, by decide⟩, by decide +kernel, Or.inl (gin 622 rfl rfl)⟩
set_option maxRecDepth 40000 in
theorem imX3_bytes : Cond.instanceMethod yX3_bytes ∈ gT := gin 623 rfl rfl
set_option maxRecDepth 40000 in
theorem seX3_bytes : Cond.selects RX3 yX3_bytes yX3_bytes ∈ gT := gin 624 rfl rfl
set_option maxRecDepth 40000 in
theorem mlX4_90 : gL RX4 90 MX3_isNew 1 := ⟨gin 629 rfl rfl, gin 65 rfl rfl, ⟨by decide, by decide⟩, by decide +kernel, Or.inl (gin 626 rfl rfl)⟩
set_option maxRecDepth 40000 in
theorem imX3_isNew : Cond.instanceMethod yX3_isNew ∈ gT := gin 627 rfl rfl
set_option maxRecDepth 40000 in
theorem seX3_isNew : Cond.selects RX3 yX3_isNew yX3_isNew ∈ gT := gin 628 rfl rfl
set_option maxRecDepth 40000 in
theorem mlX4_93 : gL RX4 93 MX3_numberOf 1 := ⟨gin 617 rfl rfl, gin 65 rfl rfl, ⟨by decide, by decide⟩, by decide +kernel, Or.inl (gin 630 rfl rfl)⟩
set_option maxRecDepth 40000 in
theorem mlX4_97 : gL RX4 97 MX4_writeChunk 2 := ⟨gin 634 rfl rfl, gin 61 rfl rfl, ⟨by decide, by decide⟩, by decide +kernel, Or.inl (gin 631 rfl rfl)⟩
set_option maxRecDepth 40000 in
theorem imX4_writeChunk : Cond.instanceMethod yX4_writeChunk ∈ gT := gin 633 rfl rfl
set_option maxRecDepth 40000 in
theorem seX4_writeChunk : Cond.selects RX4 yX4_writeChunk yX4_writeChunk ∈ gT := gin 27 rfl rfl
set_option maxRecDepth 40000 in
theorem mlX4_261 : gL RX4 261 MX2_edgesOfNow 1 := ⟨gin 343 rfl rfl, gin 63 rfl rfl, ⟨by decide, by decide⟩, by decide +kernel, Or.inl (gin 635 rfl rfl)⟩
set_option maxRecDepth 40000 in
theorem mlL_98 : gL RL 98 ML_answer 4 := ⟨gin 638 rfl rfl, gin 60 rfl rfl, ⟨by decide, by decide⟩, by decide +kernel, Or.inl (gin 636 rfl rfl)⟩
set_option maxRecDepth 40000 in
theorem isL_answer : Cond.static yL_answer ∈ gT := gin 637 rfl rfl
set_option maxRecDepth 40000 in
theorem mlL_29 : gL RL 29 MX4_answer 2 := ⟨gin 642 rfl rfl, gin 61 rfl rfl, ⟨by decide, by decide⟩, by decide +kernel, Or.inl (gin 639 rfl rfl)⟩
set_option maxRecDepth 40000 in
theorem imX4_answer : Cond.instanceMethod yX4_answer ∈ gT := gin 640 rfl rfl
set_option maxRecDepth 40000 in
theorem seX4_answer : Cond.selects RX4 yX4_answer yX4_answer ∈ gT := gin 641 rfl rfl
set_option maxRecDepth 40000 in
theorem mlX4_100 : gL RX4 100 MX4_requireVersion 1 := ⟨gin 646 rfl rfl, gin 61 rfl rfl, ⟨by decide, by decide⟩, by decide +kernel, Or.inl (gin 643 rfl rfl)⟩
set_option maxRecDepth 40000 in
theorem imX4_requireVersion : Cond.instanceMethod yX4_requireVersion ∈ gT := gin 645 rfl rfl
set_option maxRecDepth 40000 in
theorem seX4_requireVersion : Cond.selects RX4 yX4_requireVersion yX4_requireVersion ∈ gT := gin 28 rfl rfl
set_option maxRecDepth 40000 in
theorem mlX4_207 : gL RX4 207 MX2_isThere 1 := ⟨gin 351 rfl rfl, gin 63 rfl rfl, ⟨by decide, by decide⟩, by decide +kernel, Or.inl (gin 647 rfl rfl)⟩
set_option maxRecDepth 40000 in
theorem mlX4_106 : gL RX4 106 MX4_reachedFrom 2 := ⟨gin 652 rfl rfl, gin 61 rfl rfl, ⟨by decide, by decide⟩, by decide +kernel, Or.inl (gin 649 rfl rfl)⟩
set_option maxRecDepth 40000 in
theorem imX4_reachedFrom : Cond.instanceMethod yX4_reachedFrom ∈ gT := gin 651 rfl rfl
set_option maxRecDepth 40000 in
theorem seX4_reachedFrom : Cond.selects RX4 yX4_reachedFrom yX4_reachedFrom ∈ gT := gin 29 rfl rfl
set_option maxRecDepth 40000 in
theorem mlX4_195 : gL RX4 195 MX4_oneEdgeOn 2 := ⟨gin 656 rfl rfl, gin 61 rfl rfl, ⟨by decide, by decide⟩, by decide +kernel, Or.inl (gin 653 rfl rfl)⟩
set_option maxRecDepth 40000 in
theorem imX4_oneEdgeOn : Cond.instanceMethod yX4_oneEdgeOn ∈ gT := gin 655 rfl rfl
set_option maxRecDepth 40000 in
theorem seX4_oneEdgeOn : Cond.selects RX4 yX4_oneEdgeOn yX4_oneEdgeOn ∈ gT := gin 30 rfl rfl
set_option maxRecDepth 40000 in
theorem mlX4_186 : gL RX4 186 MX2_edgesFrom 2 := ⟨gin 556 rfl rfl, gin 63 rfl rfl, ⟨by decide, by decide⟩, by decide +kernel, Or.inl (gin 657 rfl rfl)⟩
set_option maxRecDepth 40000 in
theorem mlL_102 : gL RL 102 ML_drop 3 := ⟨gin 661 rfl rfl, gin 60 rfl rfl, ⟨by decide, by decide⟩, by decide +kernel, Or.inl (gin 659 rfl rfl)⟩
set_option maxRecDepth 40000 in
theorem isL_drop : Cond.static yL_drop ∈ gT := gin 660 rfl rfl
set_option maxRecDepth 40000 in
theorem mlL_33 : gL RL 33 MX4_drop 1 := ⟨gin 665 rfl rfl, gin 61 rfl rfl, ⟨by decide, by decide⟩, by decide +kernel, Or.inl (gin 662 rfl rfl)⟩
set_option maxRecDepth 40000 in
theorem imX4_drop : Cond.instanceMethod yX4_drop ∈ gT := gin 663 rfl rfl
set_option maxRecDepth 40000 in
theorem seX4_drop : Cond.selects RX4 yX4_drop yX4_drop ∈ gT := gin 664 rfl rfl
set_option maxRecDepth 40000 in
theorem mlX4_114 : gL RX4 114 MX0_countNamed 0 := ⟨gin 669 rfl rfl, gin 64 rfl rfl, ⟨by decide, by decide⟩, by decide +kernel, Or.inl (gin 666 rfl rfl)⟩
set_option maxRecDepth 40000 in
theorem imX0_countNamed : Cond.instanceMethod yX0_countNamed ∈ gT := gin 667 rfl rfl
set_option maxRecDepth 40000 in
theorem seX0_countNamed : Cond.selects RX0 yX0_countNamed yX0_countNamed ∈ gT := gin 668 rfl rfl
set_option maxRecDepth 40000 in
theorem mlL_106 : gL RL 106 ML_keep 2 := ⟨gin 672 rfl rfl, gin 60 rfl rfl, ⟨by decide, by decide⟩, by decide +kernel, Or.inl (gin 670 rfl rfl)⟩
set_option maxRecDepth 40000 in
theorem isL_keep : Cond.static yL_keep ∈ gT := gin 671 rfl rfl
set_option maxRecDepth 40000 in
theorem mlL_37 : gL RL 37 MX4_keep 0 := ⟨gin 676 rfl rfl, gin 61 rfl rfl, ⟨by decide, by decide⟩, by decide +kernel, Or.inl (gin 673 rfl rfl)⟩
set_option maxRecDepth 40000 in
theorem imX4_keep : Cond.instanceMethod yX4_keep ∈ gT := gin 674 rfl rfl
set_option maxRecDepth 40000 in
theorem seX4_keep : Cond.selects RX4 yX4_keep yX4_keep ∈ gT := gin 675 rfl rfl
set_option maxRecDepth 40000 in
theorem mlL_117 : gL RL 117 ML_poke 4 := ⟨gin 679 rfl rfl, gin 60 rfl rfl, ⟨by decide, by decide⟩, by decide +kernel, Or.inl (gin 677 rfl rfl)⟩
set_option maxRecDepth 40000 in
theorem isL_poke : Cond.static yL_poke ∈ gT := gin 678 rfl rfl
set_option maxRecDepth 40000 in
theorem mlL_40 : gL RL 40 MX4_poke 2 := ⟨gin 683 rfl rfl, gin 61 rfl rfl, ⟨by decide, by decide⟩, by decide +kernel, Or.inl (gin 680 rfl rfl)⟩
set_option maxRecDepth 40000 in
theorem imX4_poke : Cond.instanceMethod yX4_poke ∈ gT := gin 681 rfl rfl
set_option maxRecDepth 40000 in
theorem seX4_poke : Cond.selects RX4 yX4_poke yX4_poke ∈ gT := gin 682 rfl rfl
set_option maxRecDepth 40000 in
theorem mlX4_151 : gL RX4 151 MX4_requirePlace 1 := ⟨gin 687 rfl rfl, gin 61 rfl rfl, ⟨by decide, by decide⟩, by decide +kernel, Or.inl (gin 684 rfl rfl)⟩
set_option maxRecDepth 40000 in
theorem imX4_requirePlace : Cond.instanceMethod yX4_requirePlace ∈ gT := gin 686 rfl rfl
set_option maxRecDepth 40000 in
theorem seX4_requirePlace : Cond.selects RX4 yX4_requirePlace yX4_requirePlace ∈ gT := gin 31 rfl rfl
set_option maxRecDepth 40000 in
theorem mlX4_154 : gL RX4 154 MX1_get 1 := ⟨gin 241 rfl rfl, gin 62 rfl rfl, ⟨by decide, by decide⟩, by decide +kernel, Or.inl (gin 689 rfl rfl)⟩
set_option maxRecDepth 40000 in
theorem mlX4_157 : gL RX4 157 MX1_set 2 := ⟨gin 245 rfl rfl, gin 62 rfl rfl, ⟨by decide, by decide⟩, by decide +kernel, Or.inl (gin 690 rfl rfl)⟩
set_option maxRecDepth 40000 in
theorem mlL_120 : gL RL 120 ML_byteAt 3 := ⟨gin 693 rfl rfl, gin 60 rfl rfl, ⟨by decide, by decide⟩, by decide +kernel, Or.inl (gin 691 rfl rfl)⟩
set_option maxRecDepth 40000 in
theorem isL_byteAt : Cond.static yL_byteAt ∈ gT := gin 692 rfl rfl
set_option maxRecDepth 40000 in
theorem mlL_43 : gL RL 43 MX4_byteAt 1 := ⟨gin 697 rfl rfl, gin 61 rfl rfl, ⟨by decide, by decide⟩, by decide +kernel, Or.inl (gin 694 rfl rfl)⟩
set_option maxRecDepth 40000 in
theorem imX4_byteAt : Cond.instanceMethod yX4_byteAt ∈ gT := gin 695 rfl rfl
set_option maxRecDepth 40000 in
theorem seX4_byteAt : Cond.selects RX4 yX4_byteAt yX4_byteAt ∈ gT := gin 696 rfl rfl
set_option maxRecDepth 40000 in
theorem mlL_123 : gL RL 123 ML_badAt 2 := ⟨gin 700 rfl rfl, gin 60 rfl rfl, ⟨by decide, by decide⟩, by decide +kernel, Or.inl (gin 698 rfl rfl)⟩
set_option maxRecDepth 40000 in
theorem isL_badAt : Cond.static yL_badAt ∈ gT := gin 699 rfl rfl
set_option maxRecDepth 40000 in
theorem mlL_46 : gL RL 46 MX4_badAt 0 := ⟨gin 704 rfl rfl, gin 61 rfl rfl, ⟨by decide, by decide⟩, by decide +kernel, Or.inl (gin 701 rfl rfl)⟩
set_option maxRecDepth 40000 in
theorem imX4_badAt : Cond.instanceMethod yX4_badAt ∈ gT := gin 702 rfl rfl
set_option maxRecDepth 40000 in
theorem seX4_badAt : Cond.selects RX4 yX4_badAt yX4_badAt ∈ gT := gin 703 rfl rfl
set_option maxRecDepth 40000 in
theorem mlL_126 : gL RL 126 ML_has 5 := ⟨gin 707 rfl rfl, gin 60 rfl rfl, ⟨by decide, by decide⟩, by decide +kernel, Or.inl (gin 705 rfl rfl)⟩
set_option maxRecDepth 40000 in
theorem isL_has : Cond.static yL_has ∈ gT := gin 706 rfl rfl
set_option maxRecDepth 40000 in
theorem mlL_49 : gL RL 49 MX4_has 3 := ⟨gin 711 rfl rfl, gin 61 rfl rfl, ⟨by decide, by decide⟩, by decide +kernel, Or.inl (gin 708 rfl rfl)⟩
set_option maxRecDepth 40000 in
theorem imX4_has : Cond.instanceMethod yX4_has ∈ gT := gin 709 rfl rfl
set_option maxRecDepth 40000 in
theorem seX4_has : Cond.selects RX4 yX4_has yX4_has ∈ gT := gin 710 rfl rfl
set_option maxRecDepth 40000 in
theorem mlX4_163 : gL RX4 163 MX4_requireGraph 1 := ⟨gin 715 rfl rfl, gin 61 rfl rfl, ⟨by decide, by decide⟩, by decide +kernel, Or.inl (gin 712 rfl rfl)⟩
set_option maxRecDepth 40000 in
theorem imX4_requireGraph : Cond.instanceMethod yX4_requireGraph ∈ gT := gin 714 rfl rfl
set_option maxRecDepth 40000 in
theorem seX4_requireGraph : Cond.selects RX4 yX4_requireGraph yX4_requireGraph ∈ gT := gin 32 rfl rfl
set_option maxRecDepth 40000 in
theorem mlL_130 : gL RL 130 ML_chunk 4 := ⟨gin 718 rfl rfl, gin 60 rfl rfl, ⟨by decide, by decide⟩, by decide +kernel, Or.inl (gin 716 rfl rfl)⟩
set_option maxRecDepth 40000 in
theorem isL_chunk : Cond.static yL_chunk ∈ gT := gin 717 rfl rfl
set_option maxRecDepth 40000 in
theorem mlL_53 : gL RL 53 MX4_chunk 2 := ⟨gin 722 rfl rfl, gin 61 rfl rfl, ⟨by decide, by decide⟩, by decide +kernel, Or.inl (gin 719 rfl rfl)⟩
set_option maxRecDepth 40000 in
theorem imX4_chunk : Cond.instanceMethod yX4_chunk ∈ gT := gin 720 rfl rfl
set_option maxRecDepth 40000 in
theorem seX4_chunk : Cond.selects RX4 yX4_chunk yX4_chunk ∈ gT := gin 721 rfl rfl
set_option maxRecDepth 40000 in
theorem mlX4_171 : gL RX4 171 MX2_slotOf 2 := ⟨gin 385 rfl rfl, gin 63 rfl rfl, ⟨by decide, by decide⟩, by decide +kernel, Or.inl (gin 724 rfl rfl)⟩
set_option maxRecDepth 40000 in
theorem mlX4_175 : gL RX4 175 MX0_numberIn 1 := ⟨gin 593 rfl rfl, gin 64 rfl rfl, ⟨by decide, by decide⟩, by decide +kernel, Or.inl (gin 725 rfl rfl)⟩
set_option maxRecDepth 40000 in
theorem mlL_133 : gL RL 133 ML_named 3 := ⟨gin 728 rfl rfl, gin 60 rfl rfl, ⟨by decide, by decide⟩, by decide +kernel, Or.inl (gin 726 rfl rfl)⟩
set_option maxRecDepth 40000 in
theorem isL_named : Cond.static yL_named ∈ gT := gin 727 rfl rfl
set_option maxRecDepth 40000 in
theorem mlL_56 : gL RL 56 MX4_named 1 := ⟨gin 732 rfl rfl, gin 61 rfl rfl, ⟨by decide, by decide⟩, by decide +kernel, Or.inl (gin 729 rfl rfl)⟩
set_option maxRecDepth 40000 in
theorem imX4_named : Cond.instanceMethod yX4_named ∈ gT := gin 730 rfl rfl
set_option maxRecDepth 40000 in
theorem seX4_named : Cond.selects RX4 yX4_named yX4_named ∈ gT := gin 731 rfl rfl
set_option maxRecDepth 40000 in
theorem mlX4_180 : gL RX4 180 MX0_find 1 := ⟨gin 327 rfl rfl, gin 64 rfl rfl, ⟨by decide, by decide⟩, by decide +kernel, Or.inl (gin 734 rfl rfl)⟩
set_option maxRecDepth 40000 in
theorem mlX4_183 : gL RX4 183 MX0_namesOf 1 := ⟨gin 331 rfl rfl, gin 64 rfl rfl, ⟨by decide, by decide⟩, by decide +kernel, Or.inl (gin 735 rfl rfl)⟩
set_option maxRecDepth 40000 in
theorem mlL_136 : gL RL 136 ML_differ 4 := ⟨gin 738 rfl rfl, gin 60 rfl rfl, ⟨by decide, by decide⟩, by decide +kernel, Or.inl (gin 736 rfl rfl)⟩
set_option maxRecDepth 40000 in
theorem isL_differ : Cond.static yL_differ ∈ gT := gin 737 rfl rfl
set_option maxRecDepth 40000 in
theorem mlL_59 : gL RL 59 MX4_differ 2 := ⟨gin 742 rfl rfl, gin 61 rfl rfl, ⟨by decide, by decide⟩, by decide +kernel, Or.inl (gin 739 rfl rfl)⟩
set_option maxRecDepth 40000 in
theorem imX4_differ : Cond.instanceMethod yX4_differ ∈ gT := gin 740 rfl rfl
set_option maxRecDepth 40000 in
theorem seX4_differ : Cond.selects RX4 yX4_differ yX4_differ ∈ gT := gin 741 rfl rfl
set_option maxRecDepth 40000 in
theorem mlX4_189 : gL RX4 189 MJ13_bitCount_95d88 1 := ⟨gin 745 rfl rfl, gin 76 rfl rfl, ⟨by decide, by decide⟩, by decide +kernel, Or.inl (gin 743 rfl rfl)⟩
set_option maxRecDepth 40000 in
theorem isJ13_bitCount_95d88 : Cond.static yJ13_bitCount_95d88 ∈ gT := gin 744 rfl rfl
set_option maxRecDepth 40000 in
theorem mlL_139 : gL RL 139 ML_far 5 := ⟨gin 751 rfl rfl, gin 60 rfl rfl, ⟨by decide, by decide⟩, by decide +kernel, Or.inl (gin 749 rfl rfl)⟩
set_option maxRecDepth 40000 in
theorem isL_far : Cond.static yL_far ∈ gT := gin 750 rfl rfl
set_option maxRecDepth 40000 in
theorem mlL_62 : gL RL 62 MX4_far 3 := ⟨gin 755 rfl rfl, gin 61 rfl rfl, ⟨by decide, by decide⟩, by decide +kernel, Or.inl (gin 752 rfl rfl)⟩
set_option maxRecDepth 40000 in
theorem imX4_far : Cond.instanceMethod yX4_far ∈ gT := gin 753 rfl rfl
set_option maxRecDepth 40000 in
theorem seX4_far : Cond.selects RX4 yX4_far yX4_far ∈ gT := gin 754 rfl rfl
set_option maxRecDepth 40000 in
theorem mlL_142 : gL RL 142 ML_usable 3 := ⟨gin 758 rfl rfl, gin 60 rfl rfl, ⟨by decide, by decide⟩, by decide +kernel, Or.inl (gin 756 rfl rfl)⟩
set_option maxRecDepth 40000 in
theorem isL_usable : Cond.static yL_usable ∈ gT := gin 757 rfl rfl
set_option maxRecDepth 40000 in
theorem mlL_66 : gL RL 66 MX4_usable 1 := ⟨gin 762 rfl rfl, gin 61 rfl rfl, ⟨by decide, by decide⟩, by decide +kernel, Or.inl (gin 759 rfl rfl)⟩
set_option maxRecDepth 40000 in
theorem imX4_usable : Cond.instanceMethod yX4_usable ∈ gT := gin 760 rfl rfl
set_option maxRecDepth 40000 in
theorem seX4_usable : Cond.selects RX4 yX4_usable yX4_usable ∈ gT := gin 761 rfl rfl
set_option maxRecDepth 40000 in
theorem mlX4_201 : gL RX4 201 MX4_requireAnswer 1 := ⟨gin 766 rfl rfl, gin 61 rfl rfl, ⟨by decide, by decide⟩, by decide +kernel, Or.inl (gin 763 rfl rfl)⟩
set_option maxRecDepth 40000 in
theorem imX4_requireAnswer : Cond.instanceMethod yX4_requireAnswer ∈ gT := gin 765 rfl rfl
set_option maxRecDepth 40000 in
theorem seX4_requireAnswer : Cond.selects RX4 yX4_requireAnswer yX4_requireAnswer ∈ gT := gin 33 rfl rfl
set_option maxRecDepth 40000 in
theorem mlX4_204 : gL RX4 204 MX2_versionOfAnswer 1 := ⟨gin 771 rfl rfl, gin 63 rfl rfl, ⟨by decide, by decide⟩, by decide +kernel, Or.inl (gin 768 rfl rfl)⟩
set_option maxRecDepth 40000 in
theorem imX2_versionOfAnswer : Cond.instanceMethod yX2_versionOfAnswer ∈ gT := gin 769 rfl rfl
set_option maxRecDepth 40000 in
theorem seX2_versionOfAnswer : Cond.selects RX2 yX2_versionOfAnswer yX2_versionOfAnswer ∈ gT := gin 770 rfl rfl
set_option maxRecDepth 40000 in
theorem mlL_145 : gL RL 145 ML_mask 3 := ⟨gin 774 rfl rfl, gin 60 rfl rfl, ⟨by decide, by decide⟩, by decide +kernel, Or.inl (gin 772 rfl rfl)⟩
set_option maxRecDepth 40000 in
theorem isL_mask : Cond.static yL_mask ∈ gT := gin 773 rfl rfl
set_option maxRecDepth 40000 in
theorem mlL_70 : gL RL 70 MX4_mask 1 := ⟨gin 778 rfl rfl, gin 61 rfl rfl, ⟨by decide, by decide⟩, by decide +kernel, Or.inl (gin 775 rfl rfl)⟩
set_option maxRecDepth 40000 in
theorem imX4_mask : Cond.instanceMethod yX4_mask ∈ gT := gin 776 rfl rfl
set_option maxRecDepth 40000 in
theorem seX4_mask : Cond.selects RX4 yX4_mask yX4_mask ∈ gT := gin 777 rfl rfl
set_option maxRecDepth 40000 in
theorem mlX4_210 : gL RX4 210 MX2_maskOfAnswer 1 := ⟨gin 782 rfl rfl, gin 63 rfl rfl, ⟨by decide, by decide⟩, by decide +kernel, Or.inl (gin 779 rfl rfl)⟩
set_option maxRecDepth 40000 in
theorem imX2_maskOfAnswer : Cond.instanceMethod yX2_maskOfAnswer ∈ gT := gin 780 rfl rfl
set_option maxRecDepth 40000 in
theorem seX2_maskOfAnswer : Cond.selects RX2 yX2_maskOfAnswer yX2_maskOfAnswer ∈ gT := gin 781 rfl rfl
set_option maxRecDepth 40000 in
theorem mlL_148 : gL RL 148 ML_told 3 := ⟨gin 785 rfl rfl, gin 60 rfl rfl, ⟨by decide, by decide⟩, by decide +kernel, Or.inl (gin 783 rfl rfl)⟩
set_option maxRecDepth 40000 in
theorem isL_told : Cond.static yL_told ∈ gT := gin 784 rfl rfl
set_option maxRecDepth 40000 in
theorem mlL_74 : gL RL 74 MX4_told 1 := ⟨gin 789 rfl rfl, gin 61 rfl rfl, ⟨by decide, by decide⟩, by decide +kernel, Or.inl (gin 786 rfl rfl)⟩
set_option maxRecDepth 40000 in
theorem imX4_told : Cond.instanceMethod yX4_told ∈ gT := gin 787 rfl rfl
set_option maxRecDepth 40000 in
theorem seX4_told : Cond.selects RX4 yX4_told yX4_told ∈ gT := gin 788 rfl rfl
set_option maxRecDepth 40000 in
theorem mlX4_214 : gL RX4 214 MX2_countEdges 0 := ⟨gin 793 rfl rfl, gin 63 rfl rfl, ⟨by decide, by decide⟩, by decide +kernel, Or.inl (gin 790 rfl rfl)⟩
set_option maxRecDepth 40000 in
theorem imX2_countEdges : Cond.instanceMethod yX2_countEdges ∈ gT := gin 791 rfl rfl
set_option maxRecDepth 40000 in
theorem seX2_countEdges : Cond.selects RX2 yX2_countEdges yX2_countEdges ∈ gT := gin 792 rfl rfl
set_option maxRecDepth 40000 in
theorem mlX2_83 : gL RX2 83 MJ13_bitCount_95d88 1 := ⟨gin 745 rfl rfl, gin 76 rfl rfl, ⟨by decide, by decide⟩, by decide +kernel, Or.inl (gin 794 rfl rfl)⟩
set_option maxRecDepth 40000 in
theorem mlL_80 : gL RL 80 MX5_init 0 := ⟨gin 800 rfl rfl, gin 68 rfl rfl, ⟨by decide, by decide⟩, by decide +kernel, Or.inl (gin 798 rfl rfl)⟩
set_option maxRecDepth 40000 in
theorem imX5_init : Cond.instanceMethod yX5_init ∈ gT := gin 799 rfl rfl
set_option maxRecDepth 40000 in
theorem mlX5_71 : gL RX5 71 MX5_anew 1 := ⟨gin 807 rfl rfl, gin 68 rfl rfl, ⟨by decide, by decide⟩, by decide +kernel, Or.inl (gin 804 rfl rfl)⟩
set_option maxRecDepth 40000 in
theorem imX5_anew : Cond.instanceMethod yX5_anew ∈ gT := gin 806 rfl rfl
set_option maxRecDepth 40000 in
theorem seX5_anew : Cond.selects RX5 yX5_anew yX5_anew ∈ gT := gin 34 rfl rfl
set_option maxRecDepth 40000 in
theorem mlX5_82 : gL RX5 82 MX5_forget 0 := ⟨gin 811 rfl rfl, gin 68 rfl rfl, ⟨by decide, by decide⟩, by decide +kernel, Or.inl (gin 808 rfl rfl)⟩
set_option maxRecDepth 40000 in
theorem imX5_forget : Cond.instanceMethod yX5_forget ∈ gT := gin 810 rfl rfl
set_option maxRecDepth 40000 in
theorem seX5_forget : Cond.selects RX5 yX5_forget yX5_forget ∈ gT := gin 35 rfl rfl
set_option maxRecDepth 40000 in
theorem mlX5_91 : gL RX5 91 MX5_putHead 1 := ⟨gin 815 rfl rfl, gin 68 rfl rfl, ⟨by decide, by decide⟩, by decide +kernel, Or.inl (gin 812 rfl rfl)⟩
set_option maxRecDepth 40000 in
theorem imX5_putHead : Cond.instanceMethod yX5_putHead ∈ gT := gin 814 rfl rfl
set_option maxRecDepth 40000 in
theorem seX5_putHead : Cond.selects RX5 yX5_putHead yX5_putHead ∈ gT := gin 36 rfl rfl
set_option maxRecDepth 40000 in
theorem mlX5_122 : gL RX5 122 MX5_putNumber 3 := ⟨gin 819 rfl rfl, gin 68 rfl rfl, ⟨by decide, by decide⟩, by decide +kernel, Or.inl (gin 816 rfl rfl)⟩
set_option maxRecDepth 40000 in
theorem imX5_putNumber : Cond.instanceMethod yX5_putNumber ∈ gT := gin 818 rfl rfl
set_option maxRecDepth 40000 in
theorem seX5_putNumber : Cond.selects RX5 yX5_putNumber yX5_putNumber ∈ gT := gin 37 rfl rfl
set_option maxRecDepth 40000 in
theorem mlX5_118 : gL RX5 118 MX5_put 2 := ⟨gin 823 rfl rfl, gin 68 rfl rfl, ⟨by decide, by decide⟩, by decide +kernel, Or.inl (gin 820 rfl rfl)⟩
set_option maxRecDepth 40000 in
theorem imX5_put : Cond.instanceMethod yX5_put ∈ gT := gin 822 rfl rfl
set_option maxRecDepth 40000 in
theorem seX5_put : Cond.selects RX5 yX5_put yX5_put ∈ gT := gin 38 rfl rfl
set_option maxRecDepth 40000 in
theorem mlX5_126 : gL RX5 126 MX5_sum 3 := ⟨gin 827 rfl rfl, gin 68 rfl rfl, ⟨by decide, by decide⟩, by decide +kernel, Or.inl (gin 824 rfl rfl)⟩
set_option maxRecDepth 40000 in
theorem imX5_sum : Cond.instanceMethod yX5_sum ∈ gT := gin 826 rfl rfl
set_option maxRecDepth 40000 in
theorem seX5_sum : Cond.selects RX5 yX5_sum yX5_sum ∈ gT := gin 39 rfl rfl
set_option maxRecDepth 40000 in
theorem mlL_86 : gL RL 86 MX5_begin 1 := ⟨gin 925 rfl rfl, gin 68 rfl rfl, ⟨by decide, by decide⟩, by decide +kernel, Or.inl (gin 922 rfl rfl)⟩
set_option maxRecDepth 40000 in
theorem imX5_begin : Cond.instanceMethod yX5_begin ∈ gT := gin 923 rfl rfl
set_option maxRecDepth 40000 in
theorem seX5_begin : Cond.selects RX5 yX5_begin yX5_begin ∈ gT := gin 924 rfl rfl
set_option maxRecDepth 40000 in
theorem mlL_87 : gL RL 87 MX5_thrown 0 := ⟨gin 929 rfl rfl, gin 68 rfl rfl, ⟨by decide, by decide⟩, by decide +kernel, Or.inl (gin 926 rfl rfl)⟩
set_option maxRecDepth 40000 in
theorem imX5_thrown : Cond.instanceMethod yX5_thrown ∈ gT := gin 927 rfl rfl
set_option maxRecDepth 40000 in
theorem seX5_thrown : Cond.selects RX5 yX5_thrown yX5_thrown ∈ gT := gin 928 rfl rfl
set_option maxRecDepth 40000 in
theorem mlL_93 : gL RL 93 MX5_edge 3 := ⟨gin 933 rfl rfl, gin 68 rfl rfl, ⟨by decide, by decide⟩, by decide +kernel, Or.inl (gin 930 rfl rfl)⟩
set_option maxRecDepth 40000 in
theorem imX5_edge : Cond.instanceMethod yX5_edge ∈ gT := gin 931 rfl rfl
set_option maxRecDepth 40000 in
theorem seX5_edge : Cond.selects RX5 yX5_edge yX5_edge ∈ gT := gin 932 rfl rfl
set_option maxRecDepth 40000 in
theorem mlX5_133 : gL RX5 133 MX5_in 3 := ⟨gin 936 rfl rfl, gin 68 rfl rfl, ⟨by decide, by decide⟩, by decide +kernel, Or.inl (gin 934 rfl rfl)⟩
set_option maxRecDepth 40000 in
theorem isX5_in : Cond.static yX5_in ∈ gT := gin 935 rfl rfl
set_option maxRecDepth 40000 in
theorem mlX5_148 : gL RX5 148 MX5_hasNow 2 := ⟨gin 940 rfl rfl, gin 68 rfl rfl, ⟨by decide, by decide⟩, by decide +kernel, Or.inl (gin 937 rfl rfl)⟩
set_option maxRecDepth 40000 in
theorem imX5_hasNow : Cond.instanceMethod yX5_hasNow ∈ gT := gin 939 rfl rfl
set_option maxRecDepth 40000 in
theorem seX5_hasNow : Cond.selects RX5 yX5_hasNow yX5_hasNow ∈ gT := gin 40 rfl rfl
set_option maxRecDepth 40000 in
theorem mlX5_156 : gL RX5 156 MX5_fits 1 := ⟨gin 944 rfl rfl, gin 68 rfl rfl, ⟨by decide, by decide⟩, by decide +kernel, Or.inl (gin 941 rfl rfl)⟩
set_option maxRecDepth 40000 in
theorem imX5_fits : Cond.instanceMethod yX5_fits ∈ gT := gin 943 rfl rfl
set_option maxRecDepth 40000 in
theorem seX5_fits : Cond.selects RX5 yX5_fits yX5_fits ∈ gT := gin 41 rfl rfl
set_option maxRecDepth 40000 in
theorem mlX5_159 : gL RX5 159 MX5_begin_ 3 := ⟨gin 948 rfl rfl, gin 68 rfl rfl, ⟨by decide, by decide⟩, by decide +kernel, Or.inl (gin 945 rfl rfl)⟩
set_option maxRecDepth 40000 in
theorem imX5_begin_ : Cond.instanceMethod yX5_begin_ ∈ gT := gin 947 rfl rfl
set_option maxRecDepth 40000 in
theorem seX5_begin_ : Cond.selects RX5 yX5_begin_ yX5_begin_ ∈ gT := gin 42 rfl rfl
set_option maxRecDepth 40000 in
theorem mlX5_163 : gL RX5 163 MX5_end 1 := ⟨gin 952 rfl rfl, gin 68 rfl rfl, ⟨by decide, by decide⟩, by decide +kernel, Or.inl (gin 949 rfl rfl)⟩
set_option maxRecDepth 40000 in
theorem imX5_end : Cond.instanceMethod yX5_end ∈ gT := gin 951 rfl rfl
set_option maxRecDepth 40000 in
theorem seX5_end : Cond.selects RX5 yX5_end yX5_end ∈ gT := gin 43 rfl rfl
set_option maxRecDepth 40000 in
theorem mlX5_130 : gL RX5 130 MX5_take 2 := ⟨gin 956 rfl rfl, gin 68 rfl rfl, ⟨by decide, by decide⟩, by decide +kernel, Or.inl (gin 953 rfl rfl)⟩
set_option maxRecDepth 40000 in
theorem imX5_take : Cond.instanceMethod yX5_take ∈ gT := gin 955 rfl rfl
set_option maxRecDepth 40000 in
theorem seX5_take : Cond.selects RX5 yX5_take yX5_take ∈ gT := gin 44 rfl rfl
set_option maxRecDepth 40000 in
theorem mlX5_137 : gL RX5 137 MX5_number 2 := ⟨gin 960 rfl rfl, gin 68 rfl rfl, ⟨by decide, by decide⟩, by decide +kernel, Or.inl (gin 957 rfl rfl)⟩
set_option maxRecDepth 40000 in
theorem imX5_number : Cond.instanceMethod yX5_number ∈ gT := gin 959 rfl rfl
set_option maxRecDepth 40000 in
theorem seX5_number : Cond.selects RX5 yX5_number yX5_number ∈ gT := gin 45 rfl rfl
set_option maxRecDepth 40000 in
theorem mlL_97 : gL RL 97 MX5_version 0 := ⟨gin 964 rfl rfl, gin 68 rfl rfl, ⟨by decide, by decide⟩, by decide +kernel, Or.inl (gin 961 rfl rfl)⟩
set_option maxRecDepth 40000 in
theorem imX5_version : Cond.instanceMethod yX5_version ∈ gT := gin 962 rfl rfl
set_option maxRecDepth 40000 in
theorem seX5_version : Cond.selects RX5 yX5_version yX5_version ∈ gT := gin 963 rfl rfl
set_option maxRecDepth 40000 in
theorem mlX5_169 : gL RX5 169 MX5_find 1 := ⟨gin 968 rfl rfl, gin 68 rfl rfl, ⟨by decide, by decide⟩, by decide +kernel, Or.inl (gin 965 rfl rfl)⟩
set_option maxRecDepth 40000 in
theorem imX5_find : Cond.instanceMethod yX5_find ∈ gT := gin 967 rfl rfl
set_option maxRecDepth 40000 in
theorem seX5_find : Cond.selects RX5 yX5_find yX5_find ∈ gT := gin 46 rfl rfl
set_option maxRecDepth 40000 in
theorem mlX5_166 : gL RX5 166 MX5_isAlike 2 := ⟨gin 972 rfl rfl, gin 68 rfl rfl, ⟨by decide, by decide⟩, by decide +kernel, Or.inl (gin 969 rfl rfl)⟩
set_option maxRecDepth 40000 in
theorem imX5_isAlike : Cond.instanceMethod yX5_isAlike ∈ gT := gin 971 rfl rfl
set_option maxRecDepth 40000 in
theorem seX5_isAlike : Cond.selects RX5 yX5_isAlike yX5_isAlike ∈ gT := gin 47 rfl rfl
set_option maxRecDepth 40000 in
theorem mlX5_172 : gL RX5 172 MX5_earlier 1 := ⟨gin 976 rfl rfl, gin 68 rfl rfl, ⟨by decide, by decide⟩, by decide +kernel, Or.inl (gin 973 rfl rfl)⟩
set_option maxRecDepth 40000 in
theorem imX5_earlier : Cond.instanceMethod yX5_earlier ∈ gT := gin 975 rfl rfl
set_option maxRecDepth 40000 in
theorem seX5_earlier : Cond.selects RX5 yX5_earlier yX5_earlier ∈ gT := gin 48 rfl rfl
set_option maxRecDepth 40000 in
theorem mlX5_175 : gL RX5 175 MX5_leastFree 1 := ⟨gin 980 rfl rfl, gin 68 rfl rfl, ⟨by decide, by decide⟩, by decide +kernel, Or.inl (gin 977 rfl rfl)⟩
set_option maxRecDepth 40000 in
theorem imX5_leastFree : Cond.instanceMethod yX5_leastFree ∈ gT := gin 979 rfl rfl
set_option maxRecDepth 40000 in
theorem seX5_leastFree : Cond.selects RX5 yX5_leastFree yX5_leastFree ∈ gT := gin 49 rfl rfl
set_option maxRecDepth 40000 in
theorem mlX5_145 : gL RX5 145 MX5_namedBy 1 := ⟨gin 984 rfl rfl, gin 68 rfl rfl, ⟨by decide, by decide⟩, by decide +kernel, Or.inl (gin 981 rfl rfl)⟩
set_option maxRecDepth 40000 in
theorem imX5_namedBy : Cond.instanceMethod yX5_namedBy ∈ gT := gin 983 rfl rfl
set_option maxRecDepth 40000 in
theorem seX5_namedBy : Cond.selects RX5 yX5_namedBy yX5_namedBy ∈ gT := gin 50 rfl rfl
set_option maxRecDepth 40000 in
theorem mlL_101 : gL RL 101 MX5_answer 2 := ⟨gin 988 rfl rfl, gin 68 rfl rfl, ⟨by decide, by decide⟩, by decide +kernel, Or.inl (gin 985 rfl rfl)⟩
set_option maxRecDepth 40000 in
theorem imX5_answer : Cond.instanceMethod yX5_answer ∈ gT := gin 986 rfl rfl
set_option maxRecDepth 40000 in
theorem seX5_answer : Cond.selects RX5 yX5_answer yX5_answer ∈ gT := gin 987 rfl rfl
set_option maxRecDepth 40000 in
theorem mlX5_152 : gL RX5 152 MX5_isThere 1 := ⟨gin 992 rfl rfl, gin 68 rfl rfl, ⟨by decide, by decide⟩, by decide +kernel, Or.inl (gin 989 rfl rfl)⟩
set_option maxRecDepth 40000 in
theorem imX5_isThere : Cond.instanceMethod yX5_isThere ∈ gT := gin 991 rfl rfl
set_option maxRecDepth 40000 in
theorem seX5_isThere : Cond.selects RX5 yX5_isThere yX5_isThere ∈ gT := gin 51 rfl rfl
set_option maxRecDepth 40000 in
theorem mlX5_181 : gL RX5 181 MX5_reach 2 := ⟨gin 996 rfl rfl, gin 68 rfl rfl, ⟨by decide, by decide⟩, by decide +kernel, Or.inl (gin 993 rfl rfl)⟩
set_option maxRecDepth 40000 in
theorem imX5_reach : Cond.instanceMethod yX5_reach ∈ gT := gin 995 rfl rfl
set_option maxRecDepth 40000 in
theorem seX5_reach : Cond.selects RX5 yX5_reach yX5_reach ∈ gT := gin 52 rfl rfl
set_option maxRecDepth 40000 in
theorem mlX5_178 : gL RX5 178 MX5_edges 2 := ⟨gin 1000 rfl rfl, gin 68 rfl rfl, ⟨by decide, by decide⟩, by decide +kernel, Or.inl (gin 997 rfl rfl)⟩
set_option maxRecDepth 40000 in
theorem imX5_edges : Cond.instanceMethod yX5_edges ∈ gT := gin 999 rfl rfl
set_option maxRecDepth 40000 in
theorem seX5_edges : Cond.selects RX5 yX5_edges yX5_edges ∈ gT := gin 53 rfl rfl
set_option maxRecDepth 40000 in
theorem mlL_105 : gL RL 105 MX5_drop 1 := ⟨gin 1004 rfl rfl, gin 68 rfl rfl, ⟨by decide, by decide⟩, by decide +kernel, Or.inl (gin 1001 rfl rfl)⟩
set_option maxRecDepth 40000 in
theorem imX5_drop : Cond.instanceMethod yX5_drop ∈ gT := gin 1002 rfl rfl
set_option maxRecDepth 40000 in
theorem seX5_drop : Cond.selects RX5 yX5_drop yX5_drop ∈ gT := gin 1003 rfl rfl
set_option maxRecDepth 40000 in
theorem mlX5_184 : gL RX5 184 MX5_namedMany 0 := ⟨gin 1008 rfl rfl, gin 68 rfl rfl, ⟨by decide, by decide⟩, by decide +kernel, Or.inl (gin 1005 rfl rfl)⟩
set_option maxRecDepth 40000 in
theorem imX5_namedMany : Cond.instanceMethod yX5_namedMany ∈ gT := gin 1007 rfl rfl
set_option maxRecDepth 40000 in
theorem seX5_namedMany : Cond.selects RX5 yX5_namedMany yX5_namedMany ∈ gT := gin 54 rfl rfl
set_option maxRecDepth 40000 in
theorem mlL_108 : gL RL 108 MX5_keep 0 := ⟨gin 1012 rfl rfl, gin 68 rfl rfl, ⟨by decide, by decide⟩, by decide +kernel, Or.inl (gin 1009 rfl rfl)⟩
set_option maxRecDepth 40000 in
theorem imX5_keep : Cond.instanceMethod yX5_keep ∈ gT := gin 1010 rfl rfl
set_option maxRecDepth 40000 in
theorem seX5_keep : Cond.selects RX5 yX5_keep yX5_keep ∈ gT := gin 1011 rfl rfl
set_option maxRecDepth 40000 in
theorem mlL_112 : gL RL 112 MX5_crash 1 := ⟨gin 1016 rfl rfl, gin 68 rfl rfl, ⟨by decide, by decide⟩, by decide +kernel, Or.inl (gin 1013 rfl rfl)⟩
set_option maxRecDepth 40000 in
theorem imX5_crash : Cond.instanceMethod yX5_crash ∈ gT := gin 1014 rfl rfl
set_option maxRecDepth 40000 in
theorem seX5_crash : Cond.selects RX5 yX5_crash yX5_crash ∈ gT := gin 1015 rfl rfl
set_option maxRecDepth 40000 in
theorem mlL_116 : gL RL 116 MX5_open 0 := ⟨gin 1020 rfl rfl, gin 68 rfl rfl, ⟨by decide, by decide⟩, by decide +kernel, Or.inl (gin 1017 rfl rfl)⟩
set_option maxRecDepth 40000 in
theorem imX5_open : Cond.instanceMethod yX5_open ∈ gT := gin 1018 rfl rfl
set_option maxRecDepth 40000 in
theorem seX5_open : Cond.selects RX5 yX5_open yX5_open ∈ gT := gin 1019 rfl rfl
set_option maxRecDepth 40000 in
theorem mlX5_190 : gL RX5 190 MX5_isHead 1 := ⟨gin 1024 rfl rfl, gin 68 rfl rfl, ⟨by decide, by decide⟩, by decide +kernel, Or.inl (gin 1021 rfl rfl)⟩
set_option maxRecDepth 40000 in
theorem imX5_isHead : Cond.instanceMethod yX5_isHead ∈ gT := gin 1023 rfl rfl
set_option maxRecDepth 40000 in
theorem seX5_isHead : Cond.selects RX5 yX5_isHead yX5_isHead ∈ gT := gin 55 rfl rfl
set_option maxRecDepth 40000 in
theorem mlX5_193 : gL RX5 193 MX5_isRight 2 := ⟨gin 1029 rfl rfl, gin 68 rfl rfl, ⟨by decide, by decide⟩, by decide +kernel, Or.inl (gin 1026 rfl rfl)⟩
set_option maxRecDepth 40000 in
theorem imX5_isRight : Cond.instanceMethod yX5_isRight ∈ gT := gin 1028 rfl rfl
set_option maxRecDepth 40000 in
theorem seX5_isRight : Cond.selects RX5 yX5_isRight yX5_isRight ∈ gT := gin 56 rfl rfl
set_option maxRecDepth 40000 in
theorem mlX5_141 : gL RX5 141 MX5_sizeOf 1 := ⟨gin 1032 rfl rfl, gin 68 rfl rfl, ⟨by decide, by decide⟩, by decide +kernel, Or.inl (gin 1030 rfl rfl)⟩
set_option maxRecDepth 40000 in
theorem isX5_sizeOf : Cond.static yX5_sizeOf ∈ gT := gin 1031 rfl rfl
set_option maxRecDepth 40000 in
theorem mlX5_196 : gL RX5 196 MX5_thereMany 0 := ⟨gin 1036 rfl rfl, gin 68 rfl rfl, ⟨by decide, by decide⟩, by decide +kernel, Or.inl (gin 1033 rfl rfl)⟩
set_option maxRecDepth 40000 in
theorem imX5_thereMany : Cond.instanceMethod yX5_thereMany ∈ gT := gin 1035 rfl rfl
set_option maxRecDepth 40000 in
theorem seX5_thereMany : Cond.selects RX5 yX5_thereMany yX5_thereMany ∈ gT := gin 57 rfl rfl
set_option maxRecDepth 40000 in
theorem mlL_119 : gL RL 119 MX5_poke 2 := ⟨gin 1040 rfl rfl, gin 68 rfl rfl, ⟨by decide, by decide⟩, by decide +kernel, Or.inl (gin 1037 rfl rfl)⟩
set_option maxRecDepth 40000 in
theorem imX5_poke : Cond.instanceMethod yX5_poke ∈ gT := gin 1038 rfl rfl
set_option maxRecDepth 40000 in
theorem seX5_poke : Cond.selects RX5 yX5_poke yX5_poke ∈ gT := gin 1039 rfl rfl
set_option maxRecDepth 40000 in
theorem mlL_122 : gL RL 122 MX5_byteAt 1 := ⟨gin 1044 rfl rfl, gin 68 rfl rfl, ⟨by decide, by decide⟩, by decide +kernel, Or.inl (gin 1041 rfl rfl)⟩
set_option maxRecDepth 40000 in
theorem imX5_byteAt : Cond.instanceMethod yX5_byteAt ∈ gT := gin 1042 rfl rfl
set_option maxRecDepth 40000 in
theorem seX5_byteAt : Cond.selects RX5 yX5_byteAt yX5_byteAt ∈ gT := gin 1043 rfl rfl
set_option maxRecDepth 40000 in
theorem mlL_125 : gL RL 125 MX5_badAt 0 := ⟨gin 1048 rfl rfl, gin 68 rfl rfl, ⟨by decide, by decide⟩, by decide +kernel, Or.inl (gin 1045 rfl rfl)⟩
set_option maxRecDepth 40000 in
theorem imX5_badAt : Cond.instanceMethod yX5_badAt ∈ gT := gin 1046 rfl rfl
set_option maxRecDepth 40000 in
theorem seX5_badAt : Cond.selects RX5 yX5_badAt yX5_badAt ∈ gT := gin 1047 rfl rfl
set_option maxRecDepth 40000 in
theorem mlX5_199 : gL RX5 199 MX5_keepBeside 1 := ⟨gin 1052 rfl rfl, gin 68 rfl rfl, ⟨by decide, by decide⟩, by decide +kernel, Or.inl (gin 1049 rfl rfl)⟩
set_option maxRecDepth 40000 in
theorem imX5_keepBeside : Cond.instanceMethod yX5_keepBeside ∈ gT := gin 1051 rfl rfl
set_option maxRecDepth 40000 in
theorem seX5_keepBeside : Cond.selects RX5 yX5_keepBeside yX5_keepBeside ∈ gT := gin 58 rfl rfl
set_option maxRecDepth 40000 in
theorem mlL_129 : gL RL 129 MX5_has 3 := ⟨gin 1056 rfl rfl, gin 68 rfl rfl, ⟨by decide, by decide⟩, by decide +kernel, Or.inl (gin 1053 rfl rfl)⟩
set_option maxRecDepth 40000 in
theorem imX5_has : Cond.instanceMethod yX5_has ∈ gT := gin 1054 rfl rfl
set_option maxRecDepth 40000 in
theorem seX5_has : Cond.selects RX5 yX5_has yX5_has ∈ gT := gin 1055 rfl rfl
set_option maxRecDepth 40000 in
theorem mlX5_203 : gL RX5 203 MX5_isVersion 1 := ⟨gin 1060 rfl rfl, gin 68 rfl rfl, ⟨by decide, by decide⟩, by decide +kernel, Or.inl (gin 1057 rfl rfl)⟩
set_option maxRecDepth 40000 in
theorem imX5_isVersion : Cond.instanceMethod yX5_isVersion ∈ gT := gin 1059 rfl rfl
set_option maxRecDepth 40000 in
theorem seX5_isVersion : Cond.selects RX5 yX5_isVersion yX5_isVersion ∈ gT := gin 59 rfl rfl
set_option maxRecDepth 40000 in
theorem mlL_132 : gL RL 132 MX5_chunk 2 := ⟨gin 1064 rfl rfl, gin 68 rfl rfl, ⟨by decide, by decide⟩, by decide +kernel, Or.inl (gin 1061 rfl rfl)⟩
set_option maxRecDepth 40000 in
theorem imX5_chunk : Cond.instanceMethod yX5_chunk ∈ gT := gin 1062 rfl rfl
set_option maxRecDepth 40000 in
theorem seX5_chunk : Cond.selects RX5 yX5_chunk yX5_chunk ∈ gT := gin 1063 rfl rfl
set_option maxRecDepth 40000 in
theorem mlL_135 : gL RL 135 MX5_named 1 := ⟨gin 1068 rfl rfl, gin 68 rfl rfl, ⟨by decide, by decide⟩, by decide +kernel, Or.inl (gin 1065 rfl rfl)⟩
set_option maxRecDepth 40000 in
theorem imX5_named : Cond.instanceMethod yX5_named ∈ gT := gin 1066 rfl rfl
set_option maxRecDepth 40000 in
theorem seX5_named : Cond.selects RX5 yX5_named yX5_named ∈ gT := gin 1067 rfl rfl
set_option maxRecDepth 40000 in
theorem mlL_138 : gL RL 138 MX5_differ 2 := ⟨gin 1072 rfl rfl, gin 68 rfl rfl, ⟨by decide, by decide⟩, by decide +kernel, Or.inl (gin 1069 rfl rfl)⟩
set_option maxRecDepth 40000 in
theorem imX5_differ : Cond.instanceMethod yX5_differ ∈ gT := gin 1070 rfl rfl
set_option maxRecDepth 40000 in
theorem seX5_differ : Cond.selects RX5 yX5_differ yX5_differ ∈ gT := gin 1071 rfl rfl
set_option maxRecDepth 40000 in
theorem mlL_141 : gL RL 141 MX5_far 3 := ⟨gin 1076 rfl rfl, gin 68 rfl rfl, ⟨by decide, by decide⟩, by decide +kernel, Or.inl (gin 1073 rfl rfl)⟩
set_option maxRecDepth 40000 in
theorem imX5_far : Cond.instanceMethod yX5_far ∈ gT := gin 1074 rfl rfl
set_option maxRecDepth 40000 in
theorem seX5_far : Cond.selects RX5 yX5_far yX5_far ∈ gT := gin 1075 rfl rfl
set_option maxRecDepth 40000 in
theorem mlL_144 : gL RL 144 MX5_usable 1 := ⟨gin 1080 rfl rfl, gin 68 rfl rfl, ⟨by decide, by decide⟩, by decide +kernel, Or.inl (gin 1077 rfl rfl)⟩
set_option maxRecDepth 40000 in
theorem imX5_usable : Cond.instanceMethod yX5_usable ∈ gT := gin 1078 rfl rfl
set_option maxRecDepth 40000 in
theorem seX5_usable : Cond.selects RX5 yX5_usable yX5_usable ∈ gT := gin 1079 rfl rfl
set_option maxRecDepth 40000 in
theorem mlL_147 : gL RL 147 MX5_mask 1 := ⟨gin 1084 rfl rfl, gin 68 rfl rfl, ⟨by decide, by decide⟩, by decide +kernel, Or.inl (gin 1081 rfl rfl)⟩
set_option maxRecDepth 40000 in
theorem imX5_mask : Cond.instanceMethod yX5_mask ∈ gT := gin 1082 rfl rfl
set_option maxRecDepth 40000 in
theorem seX5_mask : Cond.selects RX5 yX5_mask yX5_mask ∈ gT := gin 1083 rfl rfl
set_option maxRecDepth 40000 in
theorem mlL_150 : gL RL 150 MX5_told 1 := ⟨gin 1088 rfl rfl, gin 68 rfl rfl, ⟨by decide, by decide⟩, by decide +kernel, Or.inl (gin 1085 rfl rfl)⟩
set_option maxRecDepth 40000 in
theorem imX5_told : Cond.instanceMethod yX5_told ∈ gT := gin 1086 rfl rfl
set_option maxRecDepth 40000 in
theorem seX5_told : Cond.selects RX5 yX5_told yX5_told ∈ gT := gin 1087 rfl rfl
set_option maxRecDepth 40000 in
theorem mlL_155 : gL RL 155 MX5_isOpen 0 := ⟨gin 1092 rfl rfl, gin 68 rfl rfl, ⟨by decide, by decide⟩, by decide +kernel, Or.inl (gin 1089 rfl rfl)⟩
set_option maxRecDepth 40000 in
theorem imX5_isOpen : Cond.instanceMethod yX5_isOpen ∈ gT := gin 1090 rfl rfl
set_option maxRecDepth 40000 in
theorem seX5_isOpen : Cond.selects RX5 yX5_isOpen yX5_isOpen ∈ gT := gin 1091 rfl rfl
set_option maxRecDepth 40000 in
theorem clL_8 : Cond.classLink RL 8 RX4 ∈ gT := gin 77 rfl rfl
set_option maxRecDepth 40000 in
theorem clX4_9 : Cond.classLink RX4 9 RX1 ∈ gT := gin 85 rfl rfl
set_option maxRecDepth 40000 in
theorem clX4_16 : Cond.classLink RX4 16 RX2 ∈ gT := gin 108 rfl rfl
set_option maxRecDepth 40000 in
theorem clX2_15 : Cond.classLink RX2 15 RX0 ∈ gT := gin 114 rfl rfl
set_option maxRecDepth 40000 in
theorem clX4_26 : Cond.classLink RX4 26 RX3 ∈ gT := gin 181 rfl rfl
set_option maxRecDepth 40000 in
theorem clL_13 : Cond.classLink RL 13 RJxde1cd ∈ gT := gin 409 rfl rfl
set_option maxRecDepth 40000 in
theorem clL_15 : Cond.classLink RL 15 "java/lang/IllegalArgumentException" ∈ gT := gin 410 rfl rfl
set_option maxRecDepth 40000 in
theorem clX4_37 : Cond.classLink RX4 37 RJxde1cd ∈ gT := gin 415 rfl rfl
set_option maxRecDepth 40000 in
theorem clX4_45 : Cond.classLink RX4 45 "java/lang/IllegalArgumentException" ∈ gT := gin 484 rfl rfl
set_option maxRecDepth 40000 in
theorem clL_21 : Cond.classLink RL 21 "java/lang/IllegalStateException" ∈ gT := gin 503 rfl rfl
set_option maxRecDepth 40000 in
theorem clL_23 : Cond.classLink RL 23 "java/lang/IndexOutOfBoundsException" ∈ gT := gin 504 rfl rfl
set_option maxRecDepth 40000 in
theorem clX4_225 : Cond.classLink RX4 225 "java/lang/IllegalStateException" ∈ gT := gin 513 rfl rfl
set_option maxRecDepth 40000 in
theorem clX4_166 : Cond.classLink RX4 166 "java/lang/IndexOutOfBoundsException" ∈ gT := gin 533 rfl rfl
set_option maxRecDepth 40000 in
theorem clL_78 : Cond.classLink RL 78 RX5 ∈ gT := gin 796 rfl rfl
set_option maxRecDepth 40000 in
theorem coX1_53 : Cond.constantLong RX1 53 (-4417276706812531889) ∈ gT := gin 256 rfl rfl
set_option maxRecDepth 40000 in
theorem coX4_267 : Cond.constantLong RX4 267 (24000) ∈ gT := gin 304 rfl rfl
set_option maxRecDepth 40000 in
theorem coX4_44 : Cond.constant RX4 44 (65536) ∈ gT := gin 483 rfl rfl
set_option maxRecDepth 40000 in
theorem coX4_199 : Cond.constantLong RX4 199 (-1) ∈ gT := gin 658 rfl rfl
set_option maxRecDepth 40000 in
theorem coJ13_314 : Cond.constantLong RJ13 314 (6148914691236517205) ∈ gT := gin 746 rfl rfl
set_option maxRecDepth 40000 in
theorem coJ13_316 : Cond.constantLong RJ13 316 (3689348814741910323) ∈ gT := gin 747 rfl rfl
set_option maxRecDepth 40000 in
theorem coJ13_318 : Cond.constantLong RJ13 318 (1085102592571150095) ∈ gT := gin 748 rfl rfl
set_option maxRecDepth 40000 in
theorem coX5_13 : Cond.constant RX5 13 (131072) ∈ gT := gin 802 rfl rfl
set_option maxRecDepth 40000 in
theorem coX5_24 : Cond.constant RX5 24 (65536) ∈ gT := gin 803 rfl rfl
set_option maxRecDepth 40000 in
theorem coX5_116 : Cond.constantLong RX5 116 (-4417276706812531889) ∈ gT := gin 828 rfl rfl
set_option maxRecDepth 40000 in
theorem coX5_188 : Cond.constantLong RX5 188 (24000) ∈ gT := gin 1025 rfl rfl
set_option maxRecDepth 40000 in
theorem in_L : Cond.initialized RL ∈ gT := gin 60 rfl rfl
set_option maxRecDepth 40000 in
theorem in_X4 : Cond.initialized RX4 ∈ gT := gin 61 rfl rfl
set_option maxRecDepth 40000 in
theorem in_X1 : Cond.initialized RX1 ∈ gT := gin 62 rfl rfl
set_option maxRecDepth 40000 in
theorem in_X2 : Cond.initialized RX2 ∈ gT := gin 63 rfl rfl
set_option maxRecDepth 40000 in
theorem in_X0 : Cond.initialized RX0 ∈ gT := gin 64 rfl rfl
set_option maxRecDepth 40000 in
theorem in_X3 : Cond.initialized RX3 ∈ gT := gin 65 rfl rfl
set_option maxRecDepth 40000 in
theorem in_J7 : Cond.initialized RJ7 ∈ gT := gin 66 rfl rfl
set_option maxRecDepth 40000 in
theorem in_J9 : Cond.initialized RJ9 ∈ gT := gin 67 rfl rfl
set_option maxRecDepth 40000 in
theorem in_X5 : Cond.initialized RX5 ∈ gT := gin 68 rfl rfl
set_option maxRecDepth 40000 in
theorem in_java_lang_Throwable : Cond.initialized "java/lang/Throwable" ∈ gT := gin 69 rfl rfl
set_option maxRecDepth 40000 in
theorem in_java_lang_Exception : Cond.initialized "java/lang/Exception" ∈ gT := gin 70 rfl rfl
set_option maxRecDepth 40000 in
theorem in_java_lang_RuntimeException : Cond.initialized "java/lang/RuntimeException" ∈ gT := gin 71 rfl rfl
set_option maxRecDepth 40000 in
theorem in_Jxde1cd : Cond.initialized RJxde1cd ∈ gT := gin 72 rfl rfl
set_option maxRecDepth 40000 in
theorem in_java_lang_IllegalArgumentException : Cond.initialized "java/lang/IllegalArgumentException" ∈ gT := gin 73 rfl rfl
set_option maxRecDepth 40000 in
theorem in_java_lang_IllegalStateException : Cond.initialized "java/lang/IllegalStateException" ∈ gT := gin 74 rfl rfl
set_option maxRecDepth 40000 in
theorem in_java_lang_IndexOutOfBoundsException : Cond.initialized "java/lang/IndexOutOfBoundsException" ∈ gT := gin 75 rfl rfl
set_option maxRecDepth 40000 in
theorem in_J13 : Cond.initialized RJ13 ∈ gT := gin 76 rfl rfl
set_option maxRecDepth 40000 in
theorem nw_X4 : Cond.instantiable RX4 6 ∈ gT := gin 78 rfl rfl
set_option maxRecDepth 40000 in
theorem nw_X1 : Cond.instantiable RX1 4 ∈ gT := gin 86 rfl rfl
set_option maxRecDepth 40000 in
theorem ac_byte : Cond.arrayClass .byte ∈ gT := gin 106 rfl rfl
set_option maxRecDepth 40000 in
theorem ac_int : Cond.arrayClass .int ∈ gT := gin 107 rfl rfl
set_option maxRecDepth 40000 in
theorem nw_X2 : Cond.instantiable RX2 12 ∈ gT := gin 109 rfl rfl
set_option maxRecDepth 40000 in
theorem nw_X0 : Cond.instantiable RX0 4 ∈ gT := gin 115 rfl rfl
set_option maxRecDepth 40000 in
theorem ac_long : Cond.arrayClass .long ∈ gT := gin 133 rfl rfl
set_option maxRecDepth 40000 in
theorem ac_boolean : Cond.arrayClass .boolean ∈ gT := gin 180 rfl rfl
set_option maxRecDepth 40000 in
theorem nw_X3 : Cond.instantiable RX3 4 ∈ gT := gin 182 rfl rfl
set_option maxRecDepth 40000 in
theorem nw_Jxde1cd : Cond.instantiable RJxde1cd 6 ∈ gT := gin 416 rfl rfl
set_option maxRecDepth 40000 in
theorem nw_java_lang_Throwable : Cond.instantiable "java/lang/Throwable" 6 ∈ gT := gin 455 rfl rfl
set_option maxRecDepth 40000 in
theorem nw_java_lang_IllegalArgumentException : Cond.instantiable "java/lang/IllegalArgumentException" 6 ∈ gT := gin 485 rfl rfl
set_option maxRecDepth 40000 in
theorem nw_java_lang_IllegalStateException : Cond.instantiable "java/lang/IllegalStateException" 6 ∈ gT := gin 514 rfl rfl
set_option maxRecDepth 40000 in
theorem nw_java_lang_IndexOutOfBoundsException : Cond.instantiable "java/lang/IndexOutOfBoundsException" 6 ∈ gT := gin 534 rfl rfl
set_option maxRecDepth 40000 in
theorem nw_X5 : Cond.instantiable RX5 31 ∈ gT := gin 797 rfl rfl
set_option maxRecDepth 40000 in
theorem oiX4_3 : Cond.methodLink RX4 3 Lib.objectInit ∈ gT := gin 82 rfl rfl
set_option maxRecDepth 40000 in
theorem oi_i : Cond.instanceMethod Lib.objectInit ∈ gT := gin 83 rfl rfl
set_option maxRecDepth 40000 in
theorem oi_c : Cond.code Lib.objectInit ⟨#[0xb1]⟩ 1 none ∈ gT := gin 84 rfl rfl
set_option maxRecDepth 40000 in
theorem oiX1_3 : Cond.methodLink RX1 3 Lib.objectInit ∈ gT := gin 90 rfl rfl
set_option maxRecDepth 40000 in
theorem oiX2_3 : Cond.methodLink RX2 3 Lib.objectInit ∈ gT := gin 113 rfl rfl
set_option maxRecDepth 40000 in
theorem oiX0_3 : Cond.methodLink RX0 3 Lib.objectInit ∈ gT := gin 119 rfl rfl
set_option maxRecDepth 40000 in
theorem oiX3_3 : Cond.methodLink RX3 3 Lib.objectInit ∈ gT := gin 186 rfl rfl
set_option maxRecDepth 40000 in
theorem oiX5_1 : Cond.methodLink RX5 1 Lib.objectInit ∈ gT := gin 801 rfl rfl
