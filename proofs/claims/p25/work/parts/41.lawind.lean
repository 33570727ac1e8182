set_option maxRecDepth 20000 in
theorem wsL_in_r17_0 : Cond.code yX3_take cX3_take 1 (some .int) ∈ lw_tbl := List.mem_of_getElem? (i := 474) rfl
set_option maxRecDepth 20000 in
theorem wsL_in_r17_1 : Cond.methodLink RL 94 yX3_repair ∈ lw_tbl := by decide +kernel
set_option maxRecDepth 20000 in
theorem wsL_in_r17_2 : Cond.instanceMethod yX3_repair ∈ lw_tbl := by decide +kernel
set_option maxRecDepth 20000 in
theorem wsL_in_r17_3 : Cond.selects RX3 yX3_repair yX3_repair ∈ lw_tbl := by decide +kernel
set_option maxRecDepth 20000 in
theorem wsL_in_r17_4 : Cond.code yX3_repair cX3_repair 1 (some .int) ∈ lw_tbl := List.mem_of_getElem? (i := 128) rfl
set_option maxRecDepth 20000 in
theorem wsL_in_r17_5 : Cond.methodLink RX3 75 yX2_repairBits ∈ lw_tbl := by decide +kernel
set_option maxRecDepth 20000 in
theorem wsL_in_r17_6 : Cond.methodLink RL 110 yL_words ∈ lw_tbl := by decide +kernel
set_option maxRecDepth 20000 in
theorem wsL_in_r17_7 : Cond.static yL_words ∈ lw_tbl := by decide +kernel
set_option maxRecDepth 20000 in
theorem wsL_in_r17_8 : Cond.code yL_words cL_words 14 (some .boolean) ∈ lw_tbl := List.mem_of_getElem? (i := 453) rfl
set_option maxRecDepth 20000 in
theorem wsL_in_r17_9 : Cond.methodLink RL 113 yL_blocks ∈ lw_tbl := by decide +kernel
set_option maxRecDepth 20000 in
theorem wsL_in_r17_10 : Cond.static yL_blocks ∈ lw_tbl := by decide +kernel
set_option maxRecDepth 20000 in
theorem wsL_in_r17_11 : Cond.code yL_blocks cL_blocks 9 (some .boolean) ∈ lw_tbl := List.mem_of_getElem? (i := 456) rfl
set_option maxRecDepth 20000 in
theorem wsL_in_r17_12 : Cond.methodLink RL 116 yL_runs ∈ lw_tbl := by decide +kernel
set_option maxRecDepth 20000 in
theorem wsL_in_r17_13 : Cond.static yL_runs ∈ lw_tbl := by decide +kernel
set_option maxRecDepth 20000 in
theorem wsL_in_r17_14 : Cond.code yL_runs cL_runs 12 (some .boolean) ∈ lw_tbl := List.mem_of_getElem? (i := 459) rfl
set_option maxRecDepth 20000 in
theorem wsL_in_r17_15 : Cond.methodLink RL 119 yL_takes ∈ lw_tbl := by decide +kernel
set_option maxRecDepth 20000 in
theorem wsL_in_r17_16 : Cond.static yL_takes ∈ lw_tbl := by decide +kernel
set_option maxRecDepth 20000 in
theorem wsL_in_r17_17 : Cond.code yL_takes cL_takes 10 (some .boolean) ∈ lw_tbl := List.mem_of_getElem? (i := 466) rfl
set_option maxRecDepth 20000 in
theorem wsL_in_r17_18 : Cond.methodLink RL 78 yX3_clearText ∈ lw_tbl := by decide +kernel
set_option maxRecDepth 20000 in
theorem wsL_in_r17_19 : Cond.instanceMethod yX3_clearText ∈ lw_tbl := by decide +kernel
set_option maxRecDepth 20000 in
theorem wsL_in_r17_20 : Cond.selects RX3 yX3_clearText yX3_clearText ∈ lw_tbl := by decide +kernel
set_option maxRecDepth 20000 in
theorem wsL_in_r17_21 : Cond.code yX3_clearText cX3_clearText 2 (some .int) ∈ lw_tbl := List.mem_of_getElem? (i := 470) rfl
set_option maxRecDepth 20000 in
theorem wsL_in_r17_22 : Cond.methodLink RL 87 yL_types ∈ lw_tbl := by decide +kernel
set_option maxRecDepth 20000 in
theorem wsL_in_r17_23 : Cond.static yL_types ∈ lw_tbl := by decide +kernel
theorem wsL_in_r17 : ∀ w ∈ wsL_law_r17, w ∈ lw_tbl := by
  unfold wsL_law_r17
  exact List.forall_mem_cons.mpr ⟨wsL_in_r17_0, List.forall_mem_cons.mpr ⟨wsL_in_r17_1, List.forall_mem_cons.mpr ⟨wsL_in_r17_2, List.forall_mem_cons.mpr ⟨wsL_in_r17_3, List.forall_mem_cons.mpr ⟨wsL_in_r17_4, List.forall_mem_cons.mpr ⟨wsL_in_r17_5, List.forall_mem_cons.mpr ⟨wsL_in_r17_6, List.forall_mem_cons.mpr ⟨wsL_in_r17_7, List.forall_mem_cons.mpr ⟨wsL_in_r17_8, List.forall_mem_cons.mpr ⟨wsL_in_r17_9, List.forall_mem_cons.mpr ⟨wsL_in_r17_10, List.forall_mem_cons.mpr ⟨wsL_in_r17_11, List.forall_mem_cons.mpr ⟨wsL_in_r17_12, List.forall_mem_cons.mpr ⟨wsL_in_r17_13, List.forall_mem_cons.mpr ⟨wsL_in_r17_14, List.forall_mem_cons.mpr ⟨wsL_in_r17_15, List.forall_mem_cons.mpr ⟨wsL_in_r17_16, List.forall_mem_cons.mpr ⟨wsL_in_r17_17, List.forall_mem_cons.mpr ⟨wsL_in_r17_18, List.forall_mem_cons.mpr ⟨wsL_in_r17_19, List.forall_mem_cons.mpr ⟨wsL_in_r17_20, List.forall_mem_cons.mpr ⟨wsL_in_r17_21, List.forall_mem_cons.mpr ⟨wsL_in_r17_22, List.forall_mem_cons.mpr ⟨wsL_in_r17_23, fun _ h => absurd h List.not_mem_nil⟩⟩⟩⟩⟩⟩⟩⟩⟩⟩⟩⟩⟩⟩⟩⟩⟩⟩⟩⟩⟩⟩⟩⟩
