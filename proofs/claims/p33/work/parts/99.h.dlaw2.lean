/-! THE WORDS OF law OUT OF THE TABLES -/
set_option maxRecDepth 100000 in
theorem wL17_0 : (Cond.constant RX10 212 (-100000)) ∈ lw_tbl := by decide +kernel
set_option maxRecDepth 100000 in
theorem wL17_1 : (Cond.constant RX10 82 (100000)) ∈ lw_tbl := by decide +kernel
set_option maxRecDepth 100000 in
theorem wL17_2 : (Cond.methodLink RX10 213 yX4_factorFor) ∈ lw_tbl := by decide +kernel
set_option maxRecDepth 100000 in
theorem wL17_3 : (Cond.methodLink RL 84 yL_closes) ∈ lw_tbl := by decide +kernel
set_option maxRecDepth 100000 in
theorem wL17_4 : (Cond.static yL_closes) ∈ lw_tbl := by decide +kernel
set_option maxRecDepth 100000 in
theorem wL17_5 : (Cond.code yL_closes cL_closes 19 (some .boolean)) ∈ lw_tbl := List.mem_append_right _ (List.mem_of_getElem? (i := 667) rfl)
set_option maxRecDepth 100000 in
theorem wL17_6 : (Cond.constantLong RL 63 (1000)) ∈ lw_tbl := by decide +kernel
set_option maxRecDepth 100000 in
theorem wL17_7 : (Cond.methodLink RL 60 yX10_close) ∈ lw_tbl := by decide +kernel
set_option maxRecDepth 100000 in
theorem wL17_8 : (Cond.instanceMethod yX10_close) ∈ lw_tbl := by decide +kernel
set_option maxRecDepth 100000 in
theorem wL17_9 : (Cond.selects RX10 yX10_close yX10_close) ∈ lw_tbl := by decide +kernel
set_option maxRecDepth 100000 in
theorem wL17_10 : (Cond.code yX10_close cX10_close 1 (some .int)) ∈ lw_tbl := by decide +kernel
set_option maxRecDepth 100000 in
theorem wL17_11 : (Cond.methodLink RX10 60 yX1_push) ∈ lw_tbl := by decide +kernel
set_option maxRecDepth 100000 in
theorem wL17_12 : (Cond.instanceMethod yX1_push) ∈ lw_tbl := by decide +kernel
set_option maxRecDepth 100000 in
theorem wL17_13 : (Cond.selects RX1 yX1_push yX1_push) ∈ lw_tbl := by decide +kernel
set_option maxRecDepth 100000 in
theorem wL17_14 : (Cond.code yX1_push cX1_push 2 none) ∈ lw_tbl := by decide +kernel
set_option maxRecDepth 100000 in
theorem wL17_15 : (Cond.fieldLink RX1 18 "TransitMeter$History" "count" "I") ∈ lw_tbl := by decide +kernel
set_option maxRecDepth 100000 in
theorem wL17_16 : (Cond.methodLink RX1 22 yX1_dropOldest) ∈ lw_tbl := by decide +kernel
set_option maxRecDepth 100000 in
theorem wL17_17 : (Cond.instanceMethod yX1_dropOldest) ∈ lw_tbl := by decide +kernel
set_option maxRecDepth 100000 in
theorem wL17_18 : (Cond.selects RX1 yX1_dropOldest yX1_dropOldest) ∈ lw_tbl := by decide +kernel
set_option maxRecDepth 100000 in
theorem wL17_19 : (Cond.code yX1_dropOldest cX1_dropOldest 3 none) ∈ lw_tbl := by decide +kernel
set_option maxRecDepth 100000 in
theorem wL17_20 : (Cond.methodLink RX1 25 yX8_copyFrom) ∈ lw_tbl := by decide +kernel
set_option maxRecDepth 100000 in
theorem wL17_21 : (Cond.instanceMethod yX8_copyFrom) ∈ lw_tbl := by decide +kernel
set_option maxRecDepth 100000 in
theorem wL17_22 : (Cond.selects RX8 yX8_copyFrom yX8_copyFrom) ∈ lw_tbl := by decide +kernel
set_option maxRecDepth 100000 in
theorem wL17_23 : (Cond.code yX8_copyFrom cX8_copyFrom 3 none) ∈ lw_tbl := by decide +kernel
theorem wsL_in_17 : ∀ w ∈ wsL_law_r17, w ∈ lw_tbl := (List.forall_mem_cons.mpr ⟨wL17_0, (List.forall_mem_cons.mpr ⟨wL17_1, (List.forall_mem_cons.mpr ⟨wL17_2, (List.forall_mem_cons.mpr ⟨wL17_3, (List.forall_mem_cons.mpr ⟨wL17_4, (List.forall_mem_cons.mpr ⟨wL17_5, (List.forall_mem_cons.mpr ⟨wL17_6, (List.forall_mem_cons.mpr ⟨wL17_7, (List.forall_mem_cons.mpr ⟨wL17_8, (List.forall_mem_cons.mpr ⟨wL17_9, (List.forall_mem_cons.mpr ⟨wL17_10, (List.forall_mem_cons.mpr ⟨wL17_11, (List.forall_mem_cons.mpr ⟨wL17_12, (List.forall_mem_cons.mpr ⟨wL17_13, (List.forall_mem_cons.mpr ⟨wL17_14, (List.forall_mem_cons.mpr ⟨wL17_15, (List.forall_mem_cons.mpr ⟨wL17_16, (List.forall_mem_cons.mpr ⟨wL17_17, (List.forall_mem_cons.mpr ⟨wL17_18, (List.forall_mem_cons.mpr ⟨wL17_19, (List.forall_mem_cons.mpr ⟨wL17_20, (List.forall_mem_cons.mpr ⟨wL17_21, (List.forall_mem_cons.mpr ⟨wL17_22, (List.forall_mem_cons.mpr ⟨wL17_23, (fun _ h => absurd h List.not_mem_nil)⟩)⟩)⟩)⟩)⟩)⟩)⟩)⟩)⟩)⟩)⟩)⟩)⟩)⟩)⟩)⟩)⟩)⟩)⟩)⟩)⟩)⟩)⟩)⟩)
set_option maxRecDepth 20000 in
theorem wsL_in_18 : ∀ w ∈ wsL_law_r18, w ∈ lw_tbl := fun w h => (goodIn_p wsL_law_r18 [412, 416, 420] (by decide +kernel) (by decide +kernel) w h).1
set_option maxRecDepth 20000 in
theorem wsL_in_19 : ∀ w ∈ wsL_law_r19, w ∈ lw_tbl := fun w h => (goodIn_p wsL_law_r19 [424, 432, 436, 691] (by decide +kernel) (by decide +kernel) w h).1
set_option maxRecDepth 20000 in
theorem wsL_in_20 : ∀ w ∈ wsL_law_r20, w ∈ lw_tbl := fun w h => (goodIn_p wsL_law_r20 [695, 699, 705, 708] (by decide +kernel) (by decide +kernel) w h).1
set_option maxRecDepth 20000 in
theorem wsL_in_21 : ∀ w ∈ wsL_law_r21, w ∈ lw_tbl := fun w h => (goodIn_p wsL_law_r21 [712, 716, 441, 446] (by decide +kernel) (by decide +kernel) w h).1
set_option maxRecDepth 100000 in
theorem wL22_0 : (Cond.instanceMethod yX10_restore) ∈ lw_tbl := by decide +kernel
set_option maxRecDepth 100000 in
theorem wL22_1 : (Cond.selects RX10 yX10_restore yX10_restore) ∈ lw_tbl := by decide +kernel
set_option maxRecDepth 100000 in
theorem wL22_2 : (Cond.code yX10_restore cX10_restore 2 (some .int)) ∈ lw_tbl := by decide +kernel
set_option maxRecDepth 100000 in
theorem wL22_3 : (Cond.methodLink RX10 177 yX8_copyFrom) ∈ lw_tbl := by decide +kernel
set_option maxRecDepth 100000 in
theorem wL22_4 : (Cond.methodLink RL 124 yL_lot) ∈ lw_tbl := by decide +kernel
set_option maxRecDepth 100000 in
theorem wL22_5 : (Cond.static yL_lot) ∈ lw_tbl := by decide +kernel
set_option maxRecDepth 100000 in
theorem wL22_6 : (Cond.code yL_lot cL_lot 2 (some .int)) ∈ lw_tbl := by decide +kernel
set_option maxRecDepth 100000 in
theorem wL22_7 : (Cond.constant RL 7 (1874447181)) ∈ lw_tbl := by decide +kernel
set_option maxRecDepth 100000 in
theorem wL22_8 : (Cond.methodLink RL 65 yL_low) ∈ lw_tbl := by decide +kernel
set_option maxRecDepth 100000 in
theorem wL22_9 : (Cond.static yL_low) ∈ lw_tbl := by decide +kernel
set_option maxRecDepth 100000 in
theorem wL22_10 : (Cond.code yL_low cL_low 2 (some .int)) ∈ lw_tbl := by decide +kernel
set_option maxRecDepth 100000 in
theorem wL22_11 : (Cond.constant RL 8 (2147483647)) ∈ lw_tbl := by decide +kernel
set_option maxRecDepth 100000 in
theorem wL22_12 : (Cond.methodLink RL 128 yX10_addPath) ∈ lw_tbl := by decide +kernel
set_option maxRecDepth 100000 in
theorem wL22_13 : (Cond.instanceMethod yX10_addPath) ∈ lw_tbl := by decide +kernel
set_option maxRecDepth 100000 in
theorem wL22_14 : (Cond.selects RX10 yX10_addPath yX10_addPath) ∈ lw_tbl := by decide +kernel
set_option maxRecDepth 100000 in
theorem wL22_15 : (Cond.code yX10_addPath cX10_addPath 8 (some .int)) ∈ lw_tbl := by decide +kernel
set_option maxRecDepth 100000 in
theorem wL22_16 : (Cond.constant RX10 59 (-2000000004)) ∈ lw_tbl := by decide +kernel
set_option maxRecDepth 100000 in
theorem wL22_17 : (Cond.fieldLink RX10 64 "TransitMeter$State" "paths" "[LTransitMeter$Path;") ∈ lw_tbl := by decide +kernel
set_option maxRecDepth 100000 in
theorem wL22_18 : (Cond.methodLink RX10 68 yX3_begin) ∈ lw_tbl := by decide +kernel
set_option maxRecDepth 100000 in
theorem wL22_19 : (Cond.methodLink RL 132 yL_acts) ∈ lw_tbl := by decide +kernel
set_option maxRecDepth 100000 in
theorem wL22_20 : (Cond.static yL_acts) ∈ lw_tbl := by decide +kernel
set_option maxRecDepth 100000 in
theorem wL22_21 : (Cond.code yL_acts cL_acts 12 (some .boolean)) ∈ lw_tbl := List.mem_append_right _ (List.mem_of_getElem? (i := 705) rfl)
set_option maxRecDepth 100000 in
theorem wL22_22 : (Cond.constant RL 100 (-2000000004)) ∈ lw_tbl := by decide +kernel
set_option maxRecDepth 100000 in
theorem wL22_23 : (Cond.constant RL 107 (-2000000002)) ∈ lw_tbl := by decide +kernel
theorem wsL_in_22 : ∀ w ∈ wsL_law_r22, w ∈ lw_tbl := (List.forall_mem_cons.mpr ⟨wL22_0, (List.forall_mem_cons.mpr ⟨wL22_1, (List.forall_mem_cons.mpr ⟨wL22_2, (List.forall_mem_cons.mpr ⟨wL22_3, (List.forall_mem_cons.mpr ⟨wL22_4, (List.forall_mem_cons.mpr ⟨wL22_5, (List.forall_mem_cons.mpr ⟨wL22_6, (List.forall_mem_cons.mpr ⟨wL22_7, (List.forall_mem_cons.mpr ⟨wL22_8, (List.forall_mem_cons.mpr ⟨wL22_9, (List.forall_mem_cons.mpr ⟨wL22_10, (List.forall_mem_cons.mpr ⟨wL22_11, (List.forall_mem_cons.mpr ⟨wL22_12, (List.forall_mem_cons.mpr ⟨wL22_13, (List.forall_mem_cons.mpr ⟨wL22_14, (List.forall_mem_cons.mpr ⟨wL22_15, (List.forall_mem_cons.mpr ⟨wL22_16, (List.forall_mem_cons.mpr ⟨wL22_17, (List.forall_mem_cons.mpr ⟨wL22_18, (List.forall_mem_cons.mpr ⟨wL22_19, (List.forall_mem_cons.mpr ⟨wL22_20, (List.forall_mem_cons.mpr ⟨wL22_21, (List.forall_mem_cons.mpr ⟨wL22_22, (List.forall_mem_cons.mpr ⟨wL22_23, (fun _ h => absurd h List.not_mem_nil)⟩)⟩)⟩)⟩)⟩)⟩)⟩)⟩)⟩)⟩)⟩)⟩)⟩)⟩)⟩)⟩)⟩)⟩)⟩)⟩)⟩)⟩)⟩)⟩)
set_option maxRecDepth 20000 in
theorem wsL_in_23 : ∀ w ∈ wsL_law_r23, w ∈ lw_tbl := fun w h => (goodIn_p wsL_law_r23 [724, 728, 732, 737, 741] (by decide +kernel) (by decide +kernel) w h).1
set_option maxRecDepth 20000 in
theorem wsL_in_24 : ∀ w ∈ wsL_law_r24, w ∈ lw_tbl := fun w h => (goodIn_p wsL_law_r24 [749, 753, 757, 761, 765] (by decide +kernel) (by decide +kernel) w h).1
set_option maxRecDepth 20000 in
theorem wsL_in_25 : ∀ w ∈ wsL_law_r25, w ∈ lw_tbl := fun w h => (goodIn_p wsL_law_r25 [769, 773, 777, 781, 785, 793] (by decide +kernel) (by decide +kernel) w h).1
set_option maxRecDepth 20000 in
theorem wsL_in_26 : ∀ w ∈ wsL_law_r26, w ∈ lw_tbl := fun w h => (goodIn_p wsL_law_r26 [797, 801, 807, 811, 816] (by decide +kernel) (by decide +kernel) w h).1
set_option maxRecDepth 20000 in
theorem wsL_in_27 : ∀ w ∈ wsL_law_r27, w ∈ lw_tbl := fun w h => (goodIn_p wsL_law_r27 [821, 825] (by decide +kernel) (by decide +kernel) w h).1
theorem inlX0 : ∀ w ∈ wsX00, w ∈ wsL_law := fun _ h => List.mem_append_left _ (List.mem_append_left _ (List.mem_append_left _ (List.mem_append_left _ (List.mem_append_left _ (List.mem_append_left _ (List.mem_append_left _ (List.mem_append_left _ (List.mem_append_right _ h))))))))
set_option maxRecDepth 20000 in
theorem inX0 : ∀ w ∈ wsX00, w ∈ lw_tbl := by decide +kernel
theorem inlX1 : ∀ w ∈ wsX10, w ∈ wsL_law := fun _ h => List.mem_append_left _ (List.mem_append_left _ (List.mem_append_left _ (List.mem_append_left _ (List.mem_append_left _ (List.mem_append_left _ (List.mem_append_left _ (List.mem_append_left _ (List.mem_append_left _ (List.mem_append_right _ h)))))))))
set_option maxRecDepth 20000 in
theorem inX1 : ∀ w ∈ wsX10, w ∈ lw_tbl := by decide +kernel
theorem inlX2 : ∀ w ∈ wsX20, w ∈ wsL_law := fun _ h => List.mem_append_left _ (List.mem_append_left _ (List.mem_append_left _ (List.mem_append_left _ (List.mem_append_left _ (List.mem_append_left _ (List.mem_append_left _ (List.mem_append_right _ h)))))))
set_option maxRecDepth 20000 in
theorem inX2 : ∀ w ∈ wsX20, w ∈ lw_tbl := by decide +kernel
theorem inlX3 : ∀ w ∈ wsX30, w ∈ wsL_law := fun _ h => List.mem_append_left _ (List.mem_append_left _ (List.mem_append_left _ (List.mem_append_left _ (List.mem_append_right _ h))))
set_option maxRecDepth 20000 in
theorem inX3 : ∀ w ∈ wsX30, w ∈ lw_tbl := by decide +kernel
theorem inlX4 : ∀ w ∈ wsX40, w ∈ wsL_law := fun _ h => List.mem_append_left _ (List.mem_append_left _ (List.mem_append_left _ (List.mem_append_left _ (List.mem_append_left _ (List.mem_append_left _ (List.mem_append_right _ h))))))
set_option maxRecDepth 20000 in
theorem inX4 : ∀ w ∈ wsX40, w ∈ lw_tbl := by decide +kernel
theorem inlX5 : ∀ w ∈ wsX50, w ∈ wsL_law := fun _ h => List.mem_append_left _ (List.mem_append_left _ (List.mem_append_left _ (List.mem_append_right _ h)))
set_option maxRecDepth 20000 in
theorem inX5 : ∀ w ∈ wsX50, w ∈ lw_tbl := by decide +kernel
theorem inlX6 : ∀ w ∈ wsX60, w ∈ wsL_law := fun _ h => List.mem_append_left _ (List.mem_append_left _ (List.mem_append_left _ (List.mem_append_left _ (List.mem_append_left _ (List.mem_append_right _ h)))))
set_option maxRecDepth 20000 in
theorem inX6 : ∀ w ∈ wsX60, w ∈ lw_tbl := by decide +kernel
theorem inlX7 : ∀ w ∈ wsX70, w ∈ wsL_law := fun _ h => List.mem_append_left _ (List.mem_append_left _ (List.mem_append_right _ h))
set_option maxRecDepth 20000 in
theorem inX7 : ∀ w ∈ wsX70, w ∈ lw_tbl := by decide +kernel
theorem inlX8 : ∀ w ∈ wsX80, w ∈ wsL_law := fun _ h => List.mem_append_left _ (List.mem_append_left _ (List.mem_append_left _ (List.mem_append_left _ (List.mem_append_left _ (List.mem_append_left _ (List.mem_append_left _ (List.mem_append_left _ (List.mem_append_left _ (List.mem_append_left _ (List.mem_append_right _ h))))))))))
set_option maxRecDepth 20000 in
theorem inX8 : ∀ w ∈ wsX80, w ∈ lw_tbl := by decide +kernel
theorem inlX9 : ∀ w ∈ wsX90, w ∈ wsL_law := fun _ h => List.mem_append_left _ (List.mem_append_right _ h)
set_option maxRecDepth 20000 in
theorem inX9 : ∀ w ∈ wsX90, w ∈ lw_tbl := by decide +kernel
theorem inlX10 : ∀ w ∈ wsX100, w ∈ wsL_law := fun _ h => List.mem_append_left _ (List.mem_append_left _ (List.mem_append_left _ (List.mem_append_left _ (List.mem_append_left _ (List.mem_append_left _ (List.mem_append_left _ (List.mem_append_left _ (List.mem_append_left _ (List.mem_append_left _ (List.mem_append_left _ (List.mem_append_right _ h)))))))))))
set_option maxRecDepth 20000 in
theorem inX10 : ∀ w ∈ wsX100, w ∈ lw_tbl := by decide +kernel
set_option maxRecDepth 20000 in
theorem inX11 : ∀ w ∈ wsX110, w ∈ lw_tbl := by decide +kernel
theorem inJ9 : ∀ w ∈ wsJ90, w ∈ lw_tbl := by decide +kernel
theorem inJ10 : ∀ w ∈ wsJ100, w ∈ lw_tbl := by decide +kernel
theorem wsL_law_in : ∀ w ∈ wsL_law, w ∈ lw_tbl := List.forall_mem_append.mpr ⟨List.forall_mem_append.mpr ⟨List.forall_mem_append.mpr ⟨List.forall_mem_append.mpr ⟨List.forall_mem_append.mpr ⟨List.forall_mem_append.mpr ⟨List.forall_mem_append.mpr ⟨List.forall_mem_append.mpr ⟨List.forall_mem_append.mpr ⟨List.forall_mem_append.mpr ⟨List.forall_mem_append.mpr ⟨List.forall_mem_append.mpr ⟨List.forall_mem_append.mpr ⟨wsL_in_1, List.forall_mem_append.mpr ⟨wsL_in_2, List.forall_mem_append.mpr ⟨wsL_in_3, List.forall_mem_append.mpr ⟨wsL_in_4, List.forall_mem_append.mpr ⟨wsL_in_5, List.forall_mem_append.mpr ⟨wsL_in_6, List.forall_mem_append.mpr ⟨wsL_in_7, List.forall_mem_append.mpr ⟨wsL_in_8, List.forall_mem_append.mpr ⟨wsL_in_9, List.forall_mem_append.mpr ⟨wsL_in_10, List.forall_mem_append.mpr ⟨wsL_in_11, List.forall_mem_append.mpr ⟨wsL_in_12, List.forall_mem_append.mpr ⟨wsL_in_13, List.forall_mem_append.mpr ⟨wsL_in_14, List.forall_mem_append.mpr ⟨wsL_in_15, List.forall_mem_append.mpr ⟨wsL_in_16, List.forall_mem_append.mpr ⟨wsL_in_17, List.forall_mem_append.mpr ⟨wsL_in_18, List.forall_mem_append.mpr ⟨wsL_in_19, List.forall_mem_append.mpr ⟨wsL_in_20, List.forall_mem_append.mpr ⟨wsL_in_21, List.forall_mem_append.mpr ⟨wsL_in_22, List.forall_mem_append.mpr ⟨wsL_in_23, List.forall_mem_append.mpr ⟨wsL_in_24, List.forall_mem_append.mpr ⟨wsL_in_25, List.forall_mem_append.mpr ⟨wsL_in_26, wsL_in_27⟩⟩⟩⟩⟩⟩⟩⟩⟩⟩⟩⟩⟩⟩⟩⟩⟩⟩⟩⟩⟩⟩⟩⟩⟩⟩, inX10⟩, inX8⟩, inX1⟩, inX0⟩, inX2⟩, inX4⟩, inX6⟩, inX3⟩, inX5⟩, inX7⟩, inX9⟩, fun _ h => absurd h List.not_mem_nil⟩
