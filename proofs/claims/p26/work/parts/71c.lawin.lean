set_option maxRecDepth 20000 in
theorem lin_wsL_law_r9 : ∀ w ∈ wsL_law_r9, w ∈ lw_tbl := fun w h => (goodIn_p wsL_law_r9 [198, 202, 355, 359, 296, 300] (by decide +kernel) (by decide +kernel) w h).1
set_option maxRecDepth 20000 in
theorem lin_wsL_law_r10_w0 : (Cond.methodLink RX0 20 yX2_takeOver) ∈ lw_tbl := by decide +kernel
set_option maxRecDepth 20000 in
theorem lin_wsL_law_r10_w1 : (Cond.instanceMethod yX2_takeOver) ∈ lw_tbl := by decide +kernel
set_option maxRecDepth 20000 in
theorem lin_wsL_law_r10_w2 : (Cond.selects RX2 yX2_takeOver yX2_takeOver) ∈ lw_tbl := by decide +kernel
theorem lin_wsL_law_r10_w3 : (Cond.code yX2_takeOver cX2_takeOver 2 none) ∈ lw_tbl := List.mem_of_getElem? (i := 161) (by decide +kernel)
set_option maxRecDepth 20000 in
theorem lin_wsL_law_r10_w4 : (Cond.methodLink RX2 58 arraycopyName) ∈ lw_tbl := by decide +kernel
set_option maxRecDepth 20000 in
theorem lin_wsL_law_r10_w5 : (Cond.native arraycopyName) ∈ lw_tbl := by decide +kernel
set_option maxRecDepth 20000 in
theorem lin_wsL_law_r10_w6 : (Cond.static arraycopyName) ∈ lw_tbl := by decide +kernel
set_option maxRecDepth 20000 in
theorem lin_wsL_law_r10_w7 : (Cond.initialized "java/lang/System") ∈ lw_tbl := by decide +kernel
set_option maxRecDepth 20000 in
theorem lin_wsL_law_r10_w8 : (Cond.methodLink RL 101 yL_cell) ∈ lw_tbl := by decide +kernel
set_option maxRecDepth 20000 in
theorem lin_wsL_law_r10_w9 : (Cond.static yL_cell) ∈ lw_tbl := by decide +kernel
theorem lin_wsL_law_r10_w10 : (Cond.code yL_cell cL_cell 2 (some .int)) ∈ lw_tbl := List.mem_of_getElem? (i := 303) (by decide +kernel)
set_option maxRecDepth 20000 in
theorem lin_wsL_law_r10_w11 : (Cond.methodLink RL 105 yL_does) ∈ lw_tbl := by decide +kernel
set_option maxRecDepth 20000 in
theorem lin_wsL_law_r10_w12 : (Cond.static yL_does) ∈ lw_tbl := by decide +kernel
theorem lin_wsL_law_r10_w13 : (Cond.code yL_does cL_does 16 (some .boolean)) ∈ lw_tbl := List.mem_of_getElem? (i := 373) rfl
set_option maxRecDepth 20000 in
theorem lin_wsL_law_r10_w14 : (Cond.methodLink RL 65 yL_low) ∈ lw_tbl := by decide +kernel
set_option maxRecDepth 20000 in
theorem lin_wsL_law_r10_w15 : (Cond.static yL_low) ∈ lw_tbl := by decide +kernel
theorem lin_wsL_law_r10_w16 : (Cond.code yL_low cL_low 2 (some .int)) ∈ lw_tbl := List.mem_of_getElem? (i := 376) (by decide +kernel)
set_option maxRecDepth 20000 in
theorem lin_wsL_law_r10_w17 : (Cond.constant RL 7 (2147483647)) ∈ lw_tbl := by decide +kernel
set_option maxRecDepth 20000 in
theorem lin_wsL_law_r10_w18 : (Cond.methodLink RL 68 yL_isArgued) ∈ lw_tbl := by decide +kernel
set_option maxRecDepth 20000 in
theorem lin_wsL_law_r10_w19 : (Cond.static yL_isArgued) ∈ lw_tbl := by decide +kernel
theorem lin_wsL_law_r10_w20 : (Cond.code yL_isArgued cL_isArgued 12 (some .boolean)) ∈ lw_tbl := List.mem_of_getElem? (i := 380) (by decide +kernel)
set_option maxRecDepth 20000 in
theorem lin_wsL_law_r10_w21 : (Cond.methodLink RL 53 yX3_argue) ∈ lw_tbl := by decide +kernel
set_option maxRecDepth 20000 in
theorem lin_wsL_law_r10_w22 : (Cond.instanceMethod yX3_argue) ∈ lw_tbl := by decide +kernel
set_option maxRecDepth 20000 in
theorem lin_wsL_law_r10_w23 : (Cond.selects RX3 yX3_argue yX3_argue) ∈ lw_tbl := by decide +kernel
theorem lin_wsL_law_r10 : ∀ w ∈ wsL_law_r10, w ∈ lw_tbl := by
  unfold wsL_law_r10
  exact (List.forall_mem_cons.mpr ⟨lin_wsL_law_r10_w0, (List.forall_mem_cons.mpr ⟨lin_wsL_law_r10_w1, (List.forall_mem_cons.mpr ⟨lin_wsL_law_r10_w2, (List.forall_mem_cons.mpr ⟨lin_wsL_law_r10_w3, (List.forall_mem_cons.mpr ⟨lin_wsL_law_r10_w4, (List.forall_mem_cons.mpr ⟨lin_wsL_law_r10_w5, (List.forall_mem_cons.mpr ⟨lin_wsL_law_r10_w6, (List.forall_mem_cons.mpr ⟨lin_wsL_law_r10_w7, (List.forall_mem_cons.mpr ⟨lin_wsL_law_r10_w8, (List.forall_mem_cons.mpr ⟨lin_wsL_law_r10_w9, (List.forall_mem_cons.mpr ⟨lin_wsL_law_r10_w10, (List.forall_mem_cons.mpr ⟨lin_wsL_law_r10_w11, (List.forall_mem_cons.mpr ⟨lin_wsL_law_r10_w12, (List.forall_mem_cons.mpr ⟨lin_wsL_law_r10_w13, (List.forall_mem_cons.mpr ⟨lin_wsL_law_r10_w14, (List.forall_mem_cons.mpr ⟨lin_wsL_law_r10_w15, (List.forall_mem_cons.mpr ⟨lin_wsL_law_r10_w16, (List.forall_mem_cons.mpr ⟨lin_wsL_law_r10_w17, (List.forall_mem_cons.mpr ⟨lin_wsL_law_r10_w18, (List.forall_mem_cons.mpr ⟨lin_wsL_law_r10_w19, (List.forall_mem_cons.mpr ⟨lin_wsL_law_r10_w20, (List.forall_mem_cons.mpr ⟨lin_wsL_law_r10_w21, (List.forall_mem_cons.mpr ⟨lin_wsL_law_r10_w22, (List.forall_mem_cons.mpr ⟨lin_wsL_law_r10_w23, (fun _ h => absurd h List.not_mem_nil)⟩)⟩)⟩)⟩)⟩)⟩)⟩)⟩)⟩)⟩)⟩)⟩)⟩)⟩)⟩)⟩)⟩)⟩)⟩)⟩)⟩)⟩)⟩)⟩)
theorem lin_wsL_law_r11_w0 : (Cond.code yX3_argue cX3_argue 4 (some .int)) ∈ lw_tbl := List.mem_of_getElem? (i := 384) (by decide +kernel)
set_option maxRecDepth 20000 in
theorem lin_wsL_law_r11_w1 : (Cond.methodLink RX3 38 yX0_note) ∈ lw_tbl := by decide +kernel
set_option maxRecDepth 20000 in
theorem lin_wsL_law_r11_w2 : (Cond.instanceMethod yX0_note) ∈ lw_tbl := by decide +kernel
set_option maxRecDepth 20000 in
theorem lin_wsL_law_r11_w3 : (Cond.selects RX0 yX0_note yX0_note) ∈ lw_tbl := by decide +kernel
theorem lin_wsL_law_r11_w4 : (Cond.code yX0_note cX0_note 2 none) ∈ lw_tbl := List.mem_of_getElem? (i := 157) (by decide +kernel)
set_option maxRecDepth 20000 in
theorem lin_wsL_law_r11_w5 : (Cond.methodLink RX3 54 yX2_argueAgainst) ∈ lw_tbl := by decide +kernel
set_option maxRecDepth 20000 in
theorem lin_wsL_law_r11_w6 : (Cond.instanceMethod yX2_argueAgainst) ∈ lw_tbl := by decide +kernel
set_option maxRecDepth 20000 in
theorem lin_wsL_law_r11_w7 : (Cond.selects RX2 yX2_argueAgainst yX2_argueAgainst) ∈ lw_tbl := by decide +kernel
theorem lin_wsL_law_r11_w8 : (Cond.code yX2_argueAgainst cX2_argueAgainst 5 (some .int)) ∈ lw_tbl := List.mem_of_getElem? (i := 388) (by decide +kernel)
set_option maxRecDepth 20000 in
theorem lin_wsL_law_r11_w9 : (Cond.methodLink RX3 46 yX3_recorded) ∈ lw_tbl := by decide +kernel
set_option maxRecDepth 20000 in
theorem lin_wsL_law_r11_w10 : (Cond.instanceMethod yX3_recorded) ∈ lw_tbl := by decide +kernel
set_option maxRecDepth 20000 in
theorem lin_wsL_law_r11_w11 : (Cond.selects RX3 yX3_recorded yX3_recorded) ∈ lw_tbl := by decide +kernel
theorem lin_wsL_law_r11_w12 : (Cond.code yX3_recorded cX3_recorded 2 (some .int)) ∈ lw_tbl := List.mem_of_getElem? (i := 176) (by decide +kernel)
set_option maxRecDepth 20000 in
theorem lin_wsL_law_r11_w13 : (Cond.methodLink RX3 130 yX0_keep) ∈ lw_tbl := by decide +kernel
set_option maxRecDepth 20000 in
theorem lin_wsL_law_r11_w14 : (Cond.instanceMethod yX0_keep) ∈ lw_tbl := by decide +kernel
set_option maxRecDepth 20000 in
theorem lin_wsL_law_r11_w15 : (Cond.selects RX0 yX0_keep yX0_keep) ∈ lw_tbl := by decide +kernel
theorem lin_wsL_law_r11_w16 : (Cond.code yX0_keep cX0_keep 3 none) ∈ lw_tbl := List.mem_of_getElem? (i := 180) (by decide +kernel)
set_option maxRecDepth 20000 in
theorem lin_wsL_law_r11_w17 : (Cond.methodLink RL 72 yL_isRound) ∈ lw_tbl := by decide +kernel
set_option maxRecDepth 20000 in
theorem lin_wsL_law_r11_w18 : (Cond.static yL_isRound) ∈ lw_tbl := by decide +kernel
theorem lin_wsL_law_r11_w19 : (Cond.code yL_isRound cL_isRound 12 (some .boolean)) ∈ lw_tbl := List.mem_of_getElem? (i := 391) rfl
set_option maxRecDepth 20000 in
theorem lin_wsL_law_r11_w20 : (Cond.constant RL 49 (100000)) ∈ lw_tbl := by decide +kernel
set_option maxRecDepth 20000 in
theorem lin_wsL_law_r11_w21 : (Cond.methodLink RL 50 yX3_round) ∈ lw_tbl := by decide +kernel
set_option maxRecDepth 20000 in
theorem lin_wsL_law_r11_w22 : (Cond.instanceMethod yX3_round) ∈ lw_tbl := by decide +kernel
set_option maxRecDepth 20000 in
theorem lin_wsL_law_r11_w23 : (Cond.selects RX3 yX3_round yX3_round) ∈ lw_tbl := by decide +kernel
theorem lin_wsL_law_r11 : ∀ w ∈ wsL_law_r11, w ∈ lw_tbl := by
  unfold wsL_law_r11
  exact (List.forall_mem_cons.mpr ⟨lin_wsL_law_r11_w0, (List.forall_mem_cons.mpr ⟨lin_wsL_law_r11_w1, (List.forall_mem_cons.mpr ⟨lin_wsL_law_r11_w2, (List.forall_mem_cons.mpr ⟨lin_wsL_law_r11_w3, (List.forall_mem_cons.mpr ⟨lin_wsL_law_r11_w4, (List.forall_mem_cons.mpr ⟨lin_wsL_law_r11_w5, (List.forall_mem_cons.mpr ⟨lin_wsL_law_r11_w6, (List.forall_mem_cons.mpr ⟨lin_wsL_law_r11_w7, (List.forall_mem_cons.mpr ⟨lin_wsL_law_r11_w8, (List.forall_mem_cons.mpr ⟨lin_wsL_law_r11_w9, (List.forall_mem_cons.mpr ⟨lin_wsL_law_r11_w10, (List.forall_mem_cons.mpr ⟨lin_wsL_law_r11_w11, (List.forall_mem_cons.mpr ⟨lin_wsL_law_r11_w12, (List.forall_mem_cons.mpr ⟨lin_wsL_law_r11_w13, (List.forall_mem_cons.mpr ⟨lin_wsL_law_r11_w14, (List.forall_mem_cons.mpr ⟨lin_wsL_law_r11_w15, (List.forall_mem_cons.mpr ⟨lin_wsL_law_r11_w16, (List.forall_mem_cons.mpr ⟨lin_wsL_law_r11_w17, (List.forall_mem_cons.mpr ⟨lin_wsL_law_r11_w18, (List.forall_mem_cons.mpr ⟨lin_wsL_law_r11_w19, (List.forall_mem_cons.mpr ⟨lin_wsL_law_r11_w20, (List.forall_mem_cons.mpr ⟨lin_wsL_law_r11_w21, (List.forall_mem_cons.mpr ⟨lin_wsL_law_r11_w22, (List.forall_mem_cons.mpr ⟨lin_wsL_law_r11_w23, (fun _ h => absurd h List.not_mem_nil)⟩)⟩)⟩)⟩)⟩)⟩)⟩)⟩)⟩)⟩)⟩)⟩)⟩)⟩)⟩)⟩)⟩)⟩)⟩)⟩)⟩)⟩)⟩)⟩)
set_option maxRecDepth 20000 in
theorem lin_wsL_law_r12 : ∀ w ∈ wsL_law_r12, w ∈ lw_tbl := fun w h => (goodIn_p wsL_law_r12 [396, 400, 234, 404, 408, 366, 370] (by decide +kernel) (by decide +kernel) w h).1
