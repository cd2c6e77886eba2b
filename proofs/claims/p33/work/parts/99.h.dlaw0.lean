set_option maxRecDepth 20000 in
theorem wsL_in_1 : ∀ w ∈ wsL_law_r1, w ∈ lw_tbl := fun w h => (goodIn_p wsL_law_r1 [34, 37] (by decide +kernel) (by decide +kernel) w h).1
set_option maxRecDepth 20000 in
theorem wsL_in_2 : ∀ w ∈ wsL_law_r2, w ∈ lw_tbl := fun w h => (goodIn_p wsL_law_r2 [42] (by decide +kernel) (by decide +kernel) w h).1
set_option maxRecDepth 20000 in
theorem wsL_in_3 : ∀ w ∈ wsL_law_r3, w ∈ lw_tbl := fun w h => (goodIn_p wsL_law_r3 [50, 68, 75, 120] (by decide +kernel) (by decide +kernel) w h).1
set_option maxRecDepth 20000 in
theorem wsL_in_4 : ∀ w ∈ wsL_law_r4, w ∈ lw_tbl := fun w h => (goodIn_p wsL_law_r4 [127, 273, 290, 296] (by decide +kernel) (by decide +kernel) w h).1
set_option maxRecDepth 100000 in
theorem wL5_0 : (Cond.fieldLink RX9 9 "TransitMeter$Text" "bytes" "[I") ∈ lw_tbl := by decide +kernel
set_option maxRecDepth 100000 in
theorem wL5_1 : (Cond.instanceMethod yX2_init) ∈ lw_tbl := by decide +kernel
set_option maxRecDepth 100000 in
theorem wL5_2 : (Cond.code yX2_init cX2_init 1 none) ∈ lw_tbl := by decide +kernel
set_option maxRecDepth 100000 in
theorem wL5_3 : (Cond.methodLink RX2 3 objectInit) ∈ lw_tbl := by decide +kernel
set_option maxRecDepth 100000 in
theorem wL5_4 : (Cond.fieldLink RX2 9 "TransitMeter$Judgement" "votes" "[Z") ∈ lw_tbl := by decide +kernel
set_option maxRecDepth 100000 in
theorem wL5_5 : (Cond.fieldLink RX2 15 "TransitMeter$Judgement" "forwardShifts" "[I") ∈ lw_tbl := by decide +kernel
set_option maxRecDepth 100000 in
theorem wL5_6 : (Cond.fieldLink RX2 19 "TransitMeter$Judgement" "backwardShifts" "[I") ∈ lw_tbl := by decide +kernel
set_option maxRecDepth 100000 in
theorem wL5_7 : (Cond.fieldLink RX2 22 "TransitMeter$Judgement" "outcomes" "[I") ∈ lw_tbl := by decide +kernel
set_option maxRecDepth 100000 in
theorem wL5_8 : (Cond.fieldLink RX2 25 "TransitMeter$Judgement" "velocities" "[I") ∈ lw_tbl := by decide +kernel
set_option maxRecDepth 100000 in
theorem wL5_9 : (Cond.methodLink RL 118 yL_paths) ∈ lw_tbl := by decide +kernel
set_option maxRecDepth 100000 in
theorem wL5_10 : (Cond.static yL_paths) ∈ lw_tbl := by decide +kernel
set_option maxRecDepth 100000 in
theorem wL5_11 : (Cond.initialized RL) ∈ lw_tbl := by decide +kernel
set_option maxRecDepth 100000 in
theorem wL5_12 : (Cond.code yL_paths cL_paths 11 (some .boolean)) ∈ lw_tbl := List.mem_append_right _ (List.mem_of_getElem? (i := 467) rfl)
set_option maxRecDepth 100000 in
theorem wL5_13 : (Cond.constantLong RL 32 (-2000000005)) ∈ lw_tbl := by decide +kernel
set_option maxRecDepth 100000 in
theorem wL5_14 : (Cond.constant RL 34 (-100000)) ∈ lw_tbl := by decide +kernel
set_option maxRecDepth 100000 in
theorem wL5_15 : (Cond.constant RL 35 (100000)) ∈ lw_tbl := by decide +kernel
set_option maxRecDepth 100000 in
theorem wL5_16 : (Cond.constant RL 43 (-2000000001)) ∈ lw_tbl := by decide +kernel
set_option maxRecDepth 100000 in
theorem wL5_17 : (Cond.methodLink RL 9 yX10_total) ∈ lw_tbl := by decide +kernel
set_option maxRecDepth 100000 in
theorem wL5_18 : (Cond.instanceMethod yX10_total) ∈ lw_tbl := by decide +kernel
set_option maxRecDepth 100000 in
theorem wL5_19 : (Cond.selects RX10 yX10_total yX10_total) ∈ lw_tbl := by decide +kernel
set_option maxRecDepth 100000 in
theorem wL5_20 : (Cond.code yX10_total cX10_total 3 (some .int)) ∈ lw_tbl := by decide +kernel
set_option maxRecDepth 100000 in
theorem wL5_21 : (Cond.fieldLink RX10 55 "TransitMeter$State" "pathCount" "I") ∈ lw_tbl := by decide +kernel
set_option maxRecDepth 100000 in
theorem wL5_22 : (Cond.fieldLink RX10 83 "TransitMeter$State" "profile" "LTransitMeter$Profile;") ∈ lw_tbl := by decide +kernel
set_option maxRecDepth 100000 in
theorem wL5_23 : (Cond.fieldLink RX10 93 "TransitMeter$Profile" "count" "I") ∈ lw_tbl := by decide +kernel
theorem wsL_in_5 : ∀ w ∈ wsL_law_r5, w ∈ lw_tbl := (List.forall_mem_cons.mpr ⟨wL5_0, (List.forall_mem_cons.mpr ⟨wL5_1, (List.forall_mem_cons.mpr ⟨wL5_2, (List.forall_mem_cons.mpr ⟨wL5_3, (List.forall_mem_cons.mpr ⟨wL5_4, (List.forall_mem_cons.mpr ⟨wL5_5, (List.forall_mem_cons.mpr ⟨wL5_6, (List.forall_mem_cons.mpr ⟨wL5_7, (List.forall_mem_cons.mpr ⟨wL5_8, (List.forall_mem_cons.mpr ⟨wL5_9, (List.forall_mem_cons.mpr ⟨wL5_10, (List.forall_mem_cons.mpr ⟨wL5_11, (List.forall_mem_cons.mpr ⟨wL5_12, (List.forall_mem_cons.mpr ⟨wL5_13, (List.forall_mem_cons.mpr ⟨wL5_14, (List.forall_mem_cons.mpr ⟨wL5_15, (List.forall_mem_cons.mpr ⟨wL5_16, (List.forall_mem_cons.mpr ⟨wL5_17, (List.forall_mem_cons.mpr ⟨wL5_18, (List.forall_mem_cons.mpr ⟨wL5_19, (List.forall_mem_cons.mpr ⟨wL5_20, (List.forall_mem_cons.mpr ⟨wL5_21, (List.forall_mem_cons.mpr ⟨wL5_22, (List.forall_mem_cons.mpr ⟨wL5_23, (fun _ h => absurd h List.not_mem_nil)⟩)⟩)⟩)⟩)⟩)⟩)⟩)⟩)⟩)⟩)⟩)⟩)⟩)⟩)⟩)⟩)⟩)⟩)⟩)⟩)⟩)⟩)⟩)⟩)
set_option maxRecDepth 20000 in
theorem wsL_in_6 : ∀ w ∈ wsL_law_r6, w ∈ lw_tbl := fun w h => (goodIn_p wsL_law_r6 [491, 471, 497] (by decide +kernel) (by decide +kernel) w h).1
set_option maxRecDepth 20000 in
theorem wsL_in_7 : ∀ w ∈ wsL_law_r7, w ∈ lw_tbl := fun w h => (goodIn_p wsL_law_r7 [468, 394, 502, 506, 460, 511] (by decide +kernel) (by decide +kernel) w h).1
set_option maxRecDepth 20000 in
theorem wsL_in_8 : ∀ w ∈ wsL_law_r8, w ∈ lw_tbl := fun w h => (goodIn_p wsL_law_r8 [456, 464] (by decide +kernel) (by decide +kernel) w h).1
