theorem inL_law_X7 : ∀ w ∈ wsX70, w ∈ wsL_law := inlX7
theorem inL_law_X8 : ∀ w ∈ wsX80, w ∈ wsL_law := inlX8
theorem inX0_bestLeft_X0 : ∀ w ∈ wsX00, w ∈ wsX0_bestLeft := fun _ h => List.mem_cons_of_mem _ (List.mem_append_left _ (List.mem_append_right _ h))
theorem inX0_countWanted_X0 : ∀ w ∈ wsX00, w ∈ wsX0_countWanted := fun _ h => List.mem_cons_of_mem _ (List.mem_append_left _ (List.mem_append_left _ (List.mem_append_right _ h)))
theorem inX0_countWanted_X3 : ∀ w ∈ wsX30, w ∈ wsX0_countWanted := fun _ h => List.mem_cons_of_mem _ (List.mem_append_left _ (List.mem_append_right _ h))
theorem inX0_forgetChosen_X0 : ∀ w ∈ wsX00, w ∈ wsX0_forgetChosen := fun _ h => List.mem_cons_of_mem _ (List.mem_append_right _ h)
theorem inX0_gatherAged_X0 : ∀ w ∈ wsX00, w ∈ wsX0_gatherAged := fun _ h => List.mem_cons_of_mem _ (List.mem_append_left _ (List.mem_append_left _ (List.mem_append_right _ h)))
theorem inX0_init_X0 : ∀ w ∈ wsX00, w ∈ wsX0_init := fun _ h => List.mem_cons_of_mem _ (List.mem_append_right _ h)
theorem inX0_spend_X0 : ∀ w ∈ wsX00, w ∈ wsX0_spend := fun _ h => List.mem_cons_of_mem _ (List.mem_append_left _ (List.mem_append_left _ (List.mem_append_right _ h)))
theorem inX0_weighLive_X0 : ∀ w ∈ wsX00, w ∈ wsX0_weighLive := fun _ h => List.mem_cons_of_mem _ (List.mem_append_left _ (List.mem_append_left _ (List.mem_append_right _ h)))
theorem inX1_cutAt_X1 : ∀ w ∈ wsX10, w ∈ wsX1_cutAt := fun _ h => List.mem_cons_of_mem _ (List.mem_append_right _ h)
theorem inX1_flip_X1 : ∀ w ∈ wsX10, w ∈ wsX1_flip := fun _ h => List.mem_cons_of_mem _ (List.mem_append_right _ h)
theorem inX1_init_X1 : ∀ w ∈ wsX10, w ∈ wsX1_init := fun _ h => List.mem_cons_of_mem _ (List.mem_append_right _ h)
theorem inX1_write_X1 : ∀ w ∈ wsX10, w ∈ wsX1_write := fun _ h => List.mem_cons_of_mem _ (List.mem_append_right _ h)
theorem inX2_clear_X2 : ∀ w ∈ wsX20, w ∈ wsX2_clear := fun _ h => List.mem_cons_of_mem _ (List.mem_append_right _ h)
theorem inX2_follow_X2 : ∀ w ∈ wsX20, w ∈ wsX2_follow := fun _ h => List.mem_cons_of_mem _ (List.mem_append_right _ h)
theorem inX2_has_X2 : ∀ w ∈ wsX20, w ∈ wsX2_has := fun _ h => List.mem_cons_of_mem _ (List.mem_append_right _ h)
theorem inX2_init_X2 : ∀ w ∈ wsX20, w ∈ wsX2_init := fun _ h => List.mem_cons_of_mem _ (List.mem_append_right _ h)
theorem inX3_append_X3 : ∀ w ∈ wsX30, w ∈ wsX3_append := fun _ h => List.mem_cons_of_mem _ (List.mem_append_left _ (List.mem_append_right _ h))
theorem inX3_countFree_X3 : ∀ w ∈ wsX30, w ∈ wsX3_countFree := fun _ h => List.mem_cons_of_mem _ (List.mem_append_right _ h)
theorem inX3_countFreshOctets_X3 : ∀ w ∈ wsX30, w ∈ wsX3_countFreshOctets := fun _ h => List.mem_cons_of_mem _ (List.mem_append_right _ h)
theorem inX3_fits_X3 : ∀ w ∈ wsX30, w ∈ wsX3_fits := fun _ h => List.mem_cons_of_mem _ (List.mem_append_right _ h)
theorem inX3_forgetTimes_X3 : ∀ w ∈ wsX30, w ∈ wsX3_forgetTimes := fun _ h => List.mem_cons_of_mem _ (List.mem_append_right _ h)
theorem inX3_freeSpent_X3 : ∀ w ∈ wsX30, w ∈ wsX3_freeSpent := fun _ h => List.mem_cons_of_mem _ (List.mem_append_right _ h)
theorem inX3_init_X3 : ∀ w ∈ wsX30, w ∈ wsX3_init := fun _ h => List.mem_cons_of_mem _ (List.mem_append_right _ h)
theorem inX3_isUsed_X3 : ∀ w ∈ wsX30, w ∈ wsX3_isUsed := fun _ h => List.mem_cons_of_mem _ (List.mem_append_right _ h)
theorem inX3_leastFree_X3 : ∀ w ∈ wsX30, w ∈ wsX3_leastFree := fun _ h => List.mem_cons_of_mem _ (List.mem_append_right _ h)
theorem inX3_loadMemory_X3 : ∀ w ∈ wsX30, w ∈ wsX3_loadMemory := fun _ h => List.mem_cons_of_mem _ (List.mem_append_right _ h)
theorem inX3_noteFresh_X3 : ∀ w ∈ wsX30, w ∈ wsX3_noteFresh := fun _ h => List.mem_cons_of_mem _ (List.mem_append_right _ h)
theorem inX3_noteTime_X3 : ∀ w ∈ wsX30, w ∈ wsX3_noteTime := fun _ h => List.mem_cons_of_mem _ (List.mem_append_right _ h)
theorem inX3_openNext_X3 : ∀ w ∈ wsX30, w ∈ wsX3_openNext := fun _ h => List.mem_cons_of_mem _ (List.mem_append_right _ h)
theorem inX3_setAsAtFirst_X3 : ∀ w ∈ wsX30, w ∈ wsX3_setAsAtFirst := fun _ h => List.mem_cons_of_mem _ (List.mem_append_right _ h)
theorem inX3_stateOf_X3 : ∀ w ∈ wsX30, w ∈ wsX3_stateOf := fun _ h => List.mem_cons_of_mem _ (List.mem_append_right _ h)
theorem inX3_use_X3 : ∀ w ∈ wsX30, w ∈ wsX3_use := fun _ h => List.mem_cons_of_mem _ (List.mem_append_right _ h)
theorem inX3_writeFresh_X3 : ∀ w ∈ wsX30, w ∈ wsX3_writeFresh := fun _ h => List.mem_cons_of_mem _ (List.mem_append_left _ (List.mem_append_right _ h))
theorem inX5_fillMemory_X5 : ∀ w ∈ wsX50, w ∈ wsX5_fillMemory := fun _ h => List.mem_cons_of_mem _ (List.mem_append_left _ (List.mem_append_left _ (List.mem_append_right _ h)))
theorem inX5_findNext_X3 : ∀ w ∈ wsX30, w ∈ wsX5_findNext := fun _ h => List.mem_cons_of_mem _ (List.mem_append_left _ (List.mem_append_right _ h))
theorem inX5_findNext_X5 : ∀ w ∈ wsX50, w ∈ wsX5_findNext := fun _ h => List.mem_cons_of_mem _ (List.mem_append_left _ (List.mem_append_left _ (List.mem_append_right _ h)))
theorem inX5_hasNextHead_X1 : ∀ w ∈ wsX10, w ∈ wsX5_hasNextHead := fun _ h => List.mem_cons_of_mem _ (List.mem_append_left _ (List.mem_append_right _ h))
theorem inX5_hasNextHead_X5 : ∀ w ∈ wsX50, w ∈ wsX5_hasNextHead := fun _ h => List.mem_cons_of_mem _ (List.mem_append_left _ (List.mem_append_left _ (List.mem_append_right _ h)))
theorem inX5_init_X5 : ∀ w ∈ wsX50, w ∈ wsX5_init := fun _ h => List.mem_cons_of_mem _ (List.mem_append_right _ h)
theorem inX5_takeCheckpoint_X5 : ∀ w ∈ wsX50, w ∈ wsX5_takeCheckpoint := fun _ h => List.mem_cons_of_mem _ (List.mem_append_left _ (List.mem_append_left _ (List.mem_append_left _ (List.mem_append_left _ (List.mem_append_right _ h)))))
theorem inX6_fillRow_X2 : ∀ w ∈ wsX20, w ∈ wsX6_fillRow := fun _ h => List.mem_cons_of_mem _ (List.mem_append_right _ h)
theorem inX6_fillRow_X3 : ∀ w ∈ wsX30, w ∈ wsX6_fillRow := fun _ h => List.mem_cons_of_mem _ (List.mem_append_left _ (List.mem_append_right _ h))
theorem inX6_fillRow_X6 : ∀ w ∈ wsX60, w ∈ wsX6_fillRow := fun _ h => List.mem_cons_of_mem _ (List.mem_append_left _ (List.mem_append_left _ (List.mem_append_right _ h)))
theorem inX6_init_X6 : ∀ w ∈ wsX60, w ∈ wsX6_init := fun _ h => List.mem_cons_of_mem _ (List.mem_append_right _ h)
theorem inX6_numberAt_X1 : ∀ w ∈ wsX10, w ∈ wsX6_numberAt := fun _ h => List.mem_cons_of_mem _ (List.mem_append_right _ h)
theorem inX6_numberAt_X6 : ∀ w ∈ wsX60, w ∈ wsX6_numberAt := fun _ h => List.mem_cons_of_mem _ (List.mem_append_left _ (List.mem_append_right _ h))
theorem inX6_setAsAtFirst_X6 : ∀ w ∈ wsX60, w ∈ wsX6_setAsAtFirst := fun _ h => List.mem_cons_of_mem _ (List.mem_append_right _ h)
theorem inX6_write_X6 : ∀ w ∈ wsX60, w ∈ wsX6_write := fun _ h => List.mem_cons_of_mem _ (List.mem_append_left _ (List.mem_append_left _ (List.mem_append_left _ (List.mem_append_right _ h))))
theorem inX7_checkpoint_X6 : ∀ w ∈ wsX60, w ∈ wsX7_checkpoint := fun _ h => List.mem_cons_of_mem _ (List.mem_append_left _ (List.mem_append_left _ (List.mem_append_left _ (List.mem_append_right _ h))))
theorem inX7_checkpoint_X7 : ∀ w ∈ wsX70, w ∈ wsX7_checkpoint := fun _ h => List.mem_cons_of_mem _ (List.mem_append_left _ (List.mem_append_left _ (List.mem_append_left _ (List.mem_append_left _ (List.mem_append_right _ h)))))
theorem inX7_clean_X7 : ∀ w ∈ wsX70, w ∈ wsX7_clean := fun _ h => List.mem_cons_of_mem _ (List.mem_append_left _ (List.mem_append_left _ (List.mem_append_left _ (List.mem_append_right _ h))))
theorem inX7_cut_X7 : ∀ w ∈ wsX70, w ∈ wsX7_cut := fun _ h => List.mem_cons_of_mem _ (List.mem_append_left _ (List.mem_append_right _ h))
theorem inX7_disk_X1 : ∀ w ∈ wsX10, w ∈ wsX7_disk := fun _ h => List.mem_cons_of_mem _ (List.mem_append_right _ h)
theorem inX7_disk_X7 : ∀ w ∈ wsX70, w ∈ wsX7_disk := fun _ h => List.mem_cons_of_mem _ (List.mem_append_left _ (List.mem_append_right _ h))
theorem inX7_feed_X7 : ∀ w ∈ wsX70, w ∈ wsX7_feed := fun _ h => List.mem_cons_of_mem _ (List.mem_append_right _ h)
theorem inX7_init_X0 : ∀ w ∈ wsX00, w ∈ wsX7_init := fun _ h => List.mem_cons_of_mem _ (List.mem_append_left _ (List.mem_append_left _ (List.mem_append_right _ h)))
theorem inX7_init_X1 : ∀ w ∈ wsX10, w ∈ wsX7_init := fun _ h => List.mem_cons_of_mem _ (List.mem_append_left _ (List.mem_append_left _ (List.mem_append_left _ (List.mem_append_left _ (List.mem_append_left _ (List.mem_append_left _ (List.mem_append_right _ h)))))))
theorem inX7_init_X2 : ∀ w ∈ wsX20, w ∈ wsX7_init := fun _ h => List.mem_cons_of_mem _ (List.mem_append_left _ (List.mem_append_left _ (List.mem_append_left _ (List.mem_append_left _ (List.mem_append_right _ h)))))
theorem inX7_init_X3 : ∀ w ∈ wsX30, w ∈ wsX7_init := fun _ h => List.mem_cons_of_mem _ (List.mem_append_left _ (List.mem_append_left _ (List.mem_append_left _ (List.mem_append_right _ h))))
theorem inX7_init_X5 : ∀ w ∈ wsX50, w ∈ wsX7_init := fun _ h => List.mem_cons_of_mem _ (List.mem_append_right _ h)
theorem inX7_init_X6 : ∀ w ∈ wsX60, w ∈ wsX7_init := fun _ h => List.mem_cons_of_mem _ (List.mem_append_left _ (List.mem_append_right _ h))
theorem inX7_init_X7 : ∀ w ∈ wsX70, w ∈ wsX7_init := fun _ h => List.mem_cons_of_mem _ (List.mem_append_left _ (List.mem_append_left _ (List.mem_append_left _ (List.mem_append_left _ (List.mem_append_left _ (List.mem_append_right _ h))))))
theorem inX7_poke_X7 : ∀ w ∈ wsX70, w ∈ wsX7_poke := fun _ h => List.mem_cons_of_mem _ (List.mem_append_left _ (List.mem_append_right _ h))
theorem inX7_put_X3 : ∀ w ∈ wsX30, w ∈ wsX7_put := fun _ h => List.mem_cons_of_mem _ (List.mem_append_left _ (List.mem_append_right _ h))
theorem inX7_put_X7 : ∀ w ∈ wsX70, w ∈ wsX7_put := fun _ h => List.mem_cons_of_mem _ (List.mem_append_left _ (List.mem_append_left _ (List.mem_append_right _ h)))
theorem inX7_remove_X7 : ∀ w ∈ wsX70, w ∈ wsX7_remove := fun _ h => List.mem_cons_of_mem _ (List.mem_append_left _ (List.mem_append_left _ (List.mem_append_right _ h)))
theorem inX7_segment_X7 : ∀ w ∈ wsX70, w ∈ wsX7_segment := fun _ h => List.mem_cons_of_mem _ (List.mem_append_left _ (List.mem_append_left _ (List.mem_append_right _ h)))
theorem inX7_size_X7 : ∀ w ∈ wsX70, w ∈ wsX7_size := fun _ h => List.mem_cons_of_mem _ (List.mem_append_left _ (List.mem_append_left _ (List.mem_append_right _ h)))
theorem inX7_start_X7 : ∀ w ∈ wsX70, w ∈ wsX7_start := fun _ h => List.mem_cons_of_mem _ (List.mem_append_left _ (List.mem_append_left _ (List.mem_append_left _ (List.mem_append_left _ (List.mem_append_left _ (List.mem_append_right _ h))))))
theorem inX7_sync_X7 : ∀ w ∈ wsX70, w ∈ wsX7_sync := fun _ h => List.mem_cons_of_mem _ (List.mem_append_left _ (List.mem_append_left _ (List.mem_append_right _ h)))
theorem inX7_tick_X3 : ∀ w ∈ wsX30, w ∈ wsX7_tick := fun _ h => List.mem_cons_of_mem _ (List.mem_append_right _ h)
theorem inX7_tick_X7 : ∀ w ∈ wsX70, w ∈ wsX7_tick := fun _ h => List.mem_cons_of_mem _ (List.mem_append_left _ (List.mem_append_right _ h))
theorem inX7_told_X1 : ∀ w ∈ wsX10, w ∈ wsX7_told := fun _ h => List.mem_cons_of_mem _ (List.mem_append_left _ (List.mem_append_left _ (List.mem_append_left _ (List.mem_append_right _ h))))
theorem inX7_told_X7 : ∀ w ∈ wsX70, w ∈ wsX7_told := fun _ h => List.mem_cons_of_mem _ (List.mem_append_left _ (List.mem_append_left _ (List.mem_append_left _ (List.mem_append_left _ (List.mem_append_right _ h)))))
theorem inX7_toldWhileUp_X2 : ∀ w ∈ wsX20, w ∈ wsX7_toldWhileUp := fun _ h => List.mem_cons_of_mem _ (List.mem_append_left _ (List.mem_append_right _ h))
theorem inX7_toldWhileUp_X3 : ∀ w ∈ wsX30, w ∈ wsX7_toldWhileUp := fun _ h => List.mem_cons_of_mem _ (List.mem_append_left _ (List.mem_append_left _ (List.mem_append_right _ h)))
theorem inX7_toldWhileUp_X6 : ∀ w ∈ wsX60, w ∈ wsX7_toldWhileUp := fun _ h => List.mem_cons_of_mem _ (List.mem_append_right _ h)
theorem inX7_toldWhileUp_X7 : ∀ w ∈ wsX70, w ∈ wsX7_toldWhileUp := fun _ h => List.mem_cons_of_mem _ (List.mem_append_left _ (List.mem_append_left _ (List.mem_append_left _ (List.mem_append_right _ h))))
theorem inX7_value_X7 : ∀ w ∈ wsX70, w ∈ wsX7_value := fun _ h => List.mem_cons_of_mem _ (List.mem_append_left _ (List.mem_append_left _ (List.mem_append_right _ h)))
theorem inX7_where_X7 : ∀ w ∈ wsX70, w ∈ wsX7_where := fun _ h => List.mem_cons_of_mem _ (List.mem_append_left _ (List.mem_append_left _ (List.mem_append_right _ h)))
theorem inX8_best_X8 : ∀ w ∈ wsX80, w ∈ wsX8_best := fun _ h => List.mem_cons_of_mem _ (List.mem_append_right _ h)
theorem inX8_came_X8 : ∀ w ∈ wsX80, w ∈ wsX8_came := fun _ h => List.mem_cons_of_mem _ (List.mem_append_right _ h)
theorem inX8_checkpoint_X8 : ∀ w ∈ wsX80, w ∈ wsX8_checkpoint := fun _ h => List.mem_cons_of_mem _ (List.mem_append_right _ h)
theorem inX8_clean_X8 : ∀ w ∈ wsX80, w ∈ wsX8_clean := fun _ h => List.mem_cons_of_mem _ (List.mem_append_right _ h)
theorem inX8_cut_X8 : ∀ w ∈ wsX80, w ∈ wsX8_cut := fun _ h => List.mem_cons_of_mem _ (List.mem_append_right _ h)
theorem inX8_disk_X8 : ∀ w ∈ wsX80, w ∈ wsX8_disk := fun _ h => List.mem_cons_of_mem _ (List.mem_append_right _ h)
theorem inX8_feed_X8 : ∀ w ∈ wsX80, w ∈ wsX8_feed := fun _ h => List.mem_cons_of_mem _ (List.mem_append_right _ h)
theorem inX8_frees_X8 : ∀ w ∈ wsX80, w ∈ wsX8_frees := fun _ h => List.mem_cons_of_mem _ (List.mem_append_right _ h)
theorem inX8_goesOn_X8 : ∀ w ∈ wsX80, w ∈ wsX8_goesOn := fun _ h => List.mem_cons_of_mem _ (List.mem_append_right _ h)
theorem inX8_init_X8 : ∀ w ∈ wsX80, w ∈ wsX8_init := fun _ h => List.mem_cons_of_mem _ (List.mem_append_right _ h)
theorem inX8_isRight_X8 : ∀ w ∈ wsX80, w ∈ wsX8_isRight := fun _ h => List.mem_cons_of_mem _ (List.mem_append_right _ h)
theorem inX8_keys_X8 : ∀ w ∈ wsX80, w ∈ wsX8_keys := fun _ h => List.mem_cons_of_mem _ (List.mem_append_right _ h)
theorem inX8_none_X8 : ∀ w ∈ wsX80, w ∈ wsX8_none := fun _ h => List.mem_cons_of_mem _ (List.mem_append_right _ h)
theorem inX8_octets_X8 : ∀ w ∈ wsX80, w ∈ wsX8_octets := fun _ h => List.mem_cons_of_mem _ (List.mem_append_right _ h)
theorem inX8_openNext_X8 : ∀ w ∈ wsX80, w ∈ wsX8_openNext := fun _ h => List.mem_cons_of_mem _ (List.mem_append_right _ h)
theorem inX8_opens_X8 : ∀ w ∈ wsX80, w ∈ wsX8_opens := fun _ h => List.mem_cons_of_mem _ (List.mem_append_right _ h)
theorem inX8_poke_X8 : ∀ w ∈ wsX80, w ∈ wsX8_poke := fun _ h => List.mem_cons_of_mem _ (List.mem_append_right _ h)
theorem inX8_put_X8 : ∀ w ∈ wsX80, w ∈ wsX8_put := fun _ h => List.mem_cons_of_mem _ (List.mem_append_right _ h)
theorem inX8_record_X8 : ∀ w ∈ wsX80, w ∈ wsX8_record := fun _ h => List.mem_cons_of_mem _ (List.mem_append_right _ h)
theorem inX8_remove_X8 : ∀ w ∈ wsX80, w ∈ wsX8_remove := fun _ h => List.mem_cons_of_mem _ (List.mem_append_right _ h)
theorem inX8_segment_X8 : ∀ w ∈ wsX80, w ∈ wsX8_segment := fun _ h => List.mem_cons_of_mem _ (List.mem_append_right _ h)
theorem inX8_size_X8 : ∀ w ∈ wsX80, w ∈ wsX8_size := fun _ h => List.mem_cons_of_mem _ (List.mem_append_right _ h)
theorem inX8_start_X8 : ∀ w ∈ wsX80, w ∈ wsX8_start := fun _ h => List.mem_cons_of_mem _ (List.mem_append_right _ h)
theorem inX8_sync_X8 : ∀ w ∈ wsX80, w ∈ wsX8_sync := fun _ h => List.mem_cons_of_mem _ (List.mem_append_right _ h)
theorem inX8_syncAll_X8 : ∀ w ∈ wsX80, w ∈ wsX8_syncAll := fun _ h => List.mem_cons_of_mem _ (List.mem_append_right _ h)
theorem inX8_tick_X8 : ∀ w ∈ wsX80, w ∈ wsX8_tick := fun _ h => List.mem_cons_of_mem _ (List.mem_append_right _ h)
theorem inX8_told_X8 : ∀ w ∈ wsX80, w ∈ wsX8_told := fun _ h => List.mem_cons_of_mem _ (List.mem_append_right _ h)
theorem inX8_value_X8 : ∀ w ∈ wsX80, w ∈ wsX8_value := fun _ h => List.mem_cons_of_mem _ (List.mem_append_right _ h)
theorem inX8_where_X8 : ∀ w ∈ wsX80, w ∈ wsX8_where := fun _ h => List.mem_cons_of_mem _ (List.mem_append_right _ h)
theorem inX8_write_X8 : ∀ w ∈ wsX80, w ∈ wsX8_write := fun _ h => List.mem_cons_of_mem _ (List.mem_append_right _ h)
set_option maxRecDepth 20000 in
theorem wdL_law_0 : Cond.classLink RL 7 RX7 ∈ wsL_law := by decide +kernel
set_option maxRecDepth 20000 in
theorem wdL_law_1 : Cond.instantiable RX7 9 ∈ wsL_law := by decide +kernel
set_option maxRecDepth 20000 in
theorem wdL_law_2 : Cond.initialized RX7 ∈ wsL_law := by decide +kernel
set_option maxRecDepth 20000 in
theorem wdL_law_3 : Cond.methodLink RL 9 yX7_init ∈ wsL_law := by decide +kernel
set_option maxRecDepth 20000 in
theorem wdL_law_4 : Cond.instanceMethod yX7_init ∈ wsL_law := by decide +kernel
set_option maxRecDepth 20000 in
theorem wdL_law_5 : Cond.classLink RL 10 RX8 ∈ wsL_law := by decide +kernel
set_option maxRecDepth 20000 in
theorem wdL_law_6 : Cond.instantiable RX8 30 ∈ wsL_law := by decide +kernel
set_option maxRecDepth 20000 in
theorem wdL_law_7 : Cond.initialized RX8 ∈ wsL_law := by decide +kernel
set_option maxRecDepth 20000 in
theorem wdL_law_8 : Cond.methodLink RL 12 yX8_init ∈ wsL_law := by decide +kernel
set_option maxRecDepth 20000 in
theorem wdL_law_9 : Cond.instanceMethod yX8_init ∈ wsL_law := by decide +kernel
set_option maxRecDepth 20000 in
theorem wdL_law_10 : Cond.constantLong RL 13 4294967295 ∈ wsL_law := by decide +kernel
set_option maxRecDepth 20000 in
theorem wdX0_bestLeft_0 : Cond.fieldLink RX0 26 "AgedLog$Cleaner" "log" "LAgedLog$Log;" ∈ wsX0_bestLeft := by decide +kernel
set_option maxRecDepth 20000 in
theorem wdX0_countWanted_0 : Cond.fieldLink RX0 26 "AgedLog$Cleaner" "log" "LAgedLog$Log;" ∈ wsX0_countWanted := by decide +kernel
set_option maxRecDepth 20000 in
theorem wdX0_countWanted_1 : Cond.fieldLink RX0 22 "AgedLog$Cleaner" "agedCount" "I" ∈ wsX0_countWanted := by decide +kernel
set_option maxRecDepth 20000 in
theorem wdX0_forgetChosen_0 : Cond.fieldLink RX0 9 "AgedLog$Cleaner" "chosen" "[Z" ∈ wsX0_forgetChosen := by decide +kernel
set_option maxRecDepth 20000 in
theorem wdX0_gatherAged_0 : Cond.fieldLink RX0 22 "AgedLog$Cleaner" "agedCount" "I" ∈ wsX0_gatherAged := by decide +kernel
set_option maxRecDepth 20000 in
theorem wdX0_gatherAged_1 : Cond.fieldLink RX0 30 "AgedLog$Cleaner" "index" "LAgedLog$Index;" ∈ wsX0_gatherAged := by decide +kernel
set_option maxRecDepth 20000 in
theorem wdX0_init_0 : Cond.methodLink RX0 3 objectInit ∈ wsX0_init := by decide +kernel
set_option maxRecDepth 20000 in
theorem wdX0_init_1 : Cond.instanceMethod objectInit ∈ wsX0_init := by decide +kernel
set_option maxRecDepth 20000 in
theorem wdX0_init_2 : Cond.code objectInit ⟨#[0xb1]⟩ 1 none ∈ wsX0_init := by decide +kernel
set_option maxRecDepth 20000 in
theorem wdX0_init_3 : Cond.arrayClass .boolean ∈ wsX0_init := by decide +kernel
set_option maxRecDepth 20000 in
theorem wdX0_init_4 : Cond.fieldLink RX0 9 "AgedLog$Cleaner" "chosen" "[Z" ∈ wsX0_init := by decide +kernel
set_option maxRecDepth 20000 in
theorem wdX0_init_5 : Cond.arrayClass .int ∈ wsX0_init := by decide +kernel
set_option maxRecDepth 20000 in
theorem wdX0_init_6 : Cond.fieldLink RX0 15 "AgedLog$Cleaner" "live" "[I" ∈ wsX0_init := by decide +kernel
set_option maxRecDepth 20000 in
theorem wdX0_init_7 : Cond.fieldLink RX0 19 "AgedLog$Cleaner" "aged" "[I" ∈ wsX0_init := by decide +kernel
set_option maxRecDepth 20000 in
theorem wdX0_init_8 : Cond.fieldLink RX0 22 "AgedLog$Cleaner" "agedCount" "I" ∈ wsX0_init := by decide +kernel
set_option maxRecDepth 20000 in
theorem wdX0_init_9 : Cond.fieldLink RX0 26 "AgedLog$Cleaner" "log" "LAgedLog$Log;" ∈ wsX0_init := by decide +kernel
set_option maxRecDepth 20000 in
theorem wdX0_init_10 : Cond.fieldLink RX0 30 "AgedLog$Cleaner" "index" "LAgedLog$Index;" ∈ wsX0_init := by decide +kernel
set_option maxRecDepth 20000 in
theorem wdX0_spend_0 : Cond.fieldLink RX0 26 "AgedLog$Cleaner" "log" "LAgedLog$Log;" ∈ wsX0_spend := by decide +kernel
set_option maxRecDepth 20000 in
theorem wdX0_spend_1 : Cond.fieldLink RX0 22 "AgedLog$Cleaner" "agedCount" "I" ∈ wsX0_spend := by decide +kernel
set_option maxRecDepth 20000 in
theorem wdX0_spend_2 : Cond.fieldLink RX0 9 "AgedLog$Cleaner" "chosen" "[Z" ∈ wsX0_spend := by decide +kernel
set_option maxRecDepth 20000 in
theorem wdX0_weighLive_0 : Cond.fieldLink RX0 15 "AgedLog$Cleaner" "live" "[I" ∈ wsX0_weighLive := by decide +kernel
set_option maxRecDepth 20000 in
theorem wdX0_weighLive_1 : Cond.fieldLink RX0 30 "AgedLog$Cleaner" "index" "LAgedLog$Index;" ∈ wsX0_weighLive := by decide +kernel
set_option maxRecDepth 20000 in
theorem wdX1_cutAt_0 : Cond.fieldLink RX1 24 "AgedLog$Disk" "sectorsToCut" "I" ∈ wsX1_cutAt := by decide +kernel
set_option maxRecDepth 20000 in
theorem wdX1_cutAt_1 : Cond.fieldLink RX1 27 "AgedLog$Disk" "octetsToCut" "I" ∈ wsX1_cutAt := by decide +kernel
set_option maxRecDepth 20000 in
theorem wdX1_flip_0 : Cond.fieldLink RX1 10 "AgedLog$Disk" "row" "[B" ∈ wsX1_flip := by decide +kernel
set_option maxRecDepth 20000 in
theorem wdX1_init_0 : Cond.methodLink RX1 3 objectInit ∈ wsX1_init := by decide +kernel
set_option maxRecDepth 20000 in
theorem wdX1_init_1 : Cond.instanceMethod objectInit ∈ wsX1_init := by decide +kernel
set_option maxRecDepth 20000 in
theorem wdX1_init_2 : Cond.code objectInit ⟨#[0xb1]⟩ 1 none ∈ wsX1_init := by decide +kernel
set_option maxRecDepth 20000 in
theorem wdX1_init_3 : Cond.constant RX1 9 65536 ∈ wsX1_init := by decide +kernel
set_option maxRecDepth 20000 in
theorem wdX1_init_4 : Cond.arrayClass .byte ∈ wsX1_init := by decide +kernel
set_option maxRecDepth 20000 in
theorem wdX1_init_5 : Cond.fieldLink RX1 10 "AgedLog$Disk" "row" "[B" ∈ wsX1_init := by decide +kernel
set_option maxRecDepth 20000 in
theorem wdX1_init_6 : Cond.arrayClass .int ∈ wsX1_init := by decide +kernel
set_option maxRecDepth 20000 in
theorem wdX1_init_7 : Cond.fieldLink RX1 16 "AgedLog$Disk" "tornTail" "[I" ∈ wsX1_init := by decide +kernel
set_option maxRecDepth 20000 in
theorem wdX1_init_8 : Cond.fieldLink RX1 20 "AgedLog$Disk" "written" "I" ∈ wsX1_init := by decide +kernel
set_option maxRecDepth 20000 in
theorem wdX1_init_9 : Cond.fieldLink RX1 24 "AgedLog$Disk" "sectorsToCut" "I" ∈ wsX1_init := by decide +kernel
set_option maxRecDepth 20000 in
theorem wdX1_init_10 : Cond.fieldLink RX1 27 "AgedLog$Disk" "octetsToCut" "I" ∈ wsX1_init := by decide +kernel
set_option maxRecDepth 20000 in
theorem wdX1_write_0 : Cond.fieldLink RX1 16 "AgedLog$Disk" "tornTail" "[I" ∈ wsX1_write := by decide +kernel
set_option maxRecDepth 20000 in
theorem wdX1_write_1 : Cond.fieldLink RX1 24 "AgedLog$Disk" "sectorsToCut" "I" ∈ wsX1_write := by decide +kernel
set_option maxRecDepth 20000 in
theorem wdX1_write_2 : Cond.fieldLink RX1 10 "AgedLog$Disk" "row" "[B" ∈ wsX1_write := by decide +kernel
set_option maxRecDepth 20000 in
theorem wdX1_write_3 : Cond.fieldLink RX1 20 "AgedLog$Disk" "written" "I" ∈ wsX1_write := by decide +kernel
set_option maxRecDepth 20000 in
theorem wdX2_clear_0 : Cond.fieldLink RX2 9 "AgedLog$Index" "segments" "[I" ∈ wsX2_clear := by decide +kernel
set_option maxRecDepth 20000 in
theorem wdX2_clear_1 : Cond.fieldLink RX2 15 "AgedLog$Index" "places" "[I" ∈ wsX2_clear := by decide +kernel
set_option maxRecDepth 20000 in
theorem wdX2_clear_2 : Cond.fieldLink RX2 18 "AgedLog$Index" "count" "I" ∈ wsX2_clear := by decide +kernel
set_option maxRecDepth 20000 in
theorem wdX2_follow_0 : Cond.initialized RX7 ∈ wsX2_follow := by decide +kernel
set_option maxRecDepth 20000 in
theorem wdX2_follow_1 : Cond.static yX7_isKey ∈ wsX2_follow := by decide +kernel
set_option maxRecDepth 20000 in
theorem wdX2_follow_2 : Cond.fieldLink RX2 9 "AgedLog$Index" "segments" "[I" ∈ wsX2_follow := by decide +kernel
set_option maxRecDepth 20000 in
theorem wdX2_follow_3 : Cond.fieldLink RX2 15 "AgedLog$Index" "places" "[I" ∈ wsX2_follow := by decide +kernel
set_option maxRecDepth 20000 in
theorem wdX2_follow_4 : Cond.fieldLink RX2 18 "AgedLog$Index" "count" "I" ∈ wsX2_follow := by decide +kernel
set_option maxRecDepth 20000 in
theorem wdX2_has_0 : Cond.initialized RX7 ∈ wsX2_has := by decide +kernel
set_option maxRecDepth 20000 in
theorem wdX2_has_1 : Cond.static yX7_isKey ∈ wsX2_has := by decide +kernel
set_option maxRecDepth 20000 in
theorem wdX2_has_2 : Cond.fieldLink RX2 9 "AgedLog$Index" "segments" "[I" ∈ wsX2_has := by decide +kernel
set_option maxRecDepth 20000 in
theorem wdX2_has_3 : Cond.static yX7_isOfLog ∈ wsX2_has := by decide +kernel
set_option maxRecDepth 20000 in
theorem wdX2_init_0 : Cond.methodLink RX2 3 objectInit ∈ wsX2_init := by decide +kernel
set_option maxRecDepth 20000 in
theorem wdX2_init_1 : Cond.instanceMethod objectInit ∈ wsX2_init := by decide +kernel
set_option maxRecDepth 20000 in
theorem wdX2_init_2 : Cond.code objectInit ⟨#[0xb1]⟩ 1 none ∈ wsX2_init := by decide +kernel
set_option maxRecDepth 20000 in
theorem wdX2_init_3 : Cond.arrayClass .int ∈ wsX2_init := by decide +kernel
set_option maxRecDepth 20000 in
theorem wdX2_init_4 : Cond.fieldLink RX2 9 "AgedLog$Index" "segments" "[I" ∈ wsX2_init := by decide +kernel
set_option maxRecDepth 20000 in
theorem wdX2_init_5 : Cond.fieldLink RX2 15 "AgedLog$Index" "places" "[I" ∈ wsX2_init := by decide +kernel
set_option maxRecDepth 20000 in
theorem wdX2_init_6 : Cond.fieldLink RX2 18 "AgedLog$Index" "count" "I" ∈ wsX2_init := by decide +kernel
set_option maxRecDepth 20000 in
theorem wdX3_append_0 : Cond.fieldLink RX3 49 "AgedLog$Log" "nextSequence" "I" ∈ wsX3_append := by decide +kernel
set_option maxRecDepth 20000 in
theorem wdX3_append_1 : Cond.fieldLink RX3 40 "AgedLog$Log" "open" "I" ∈ wsX3_append := by decide +kernel
set_option maxRecDepth 20000 in
theorem wdX3_append_2 : Cond.fieldLink RX3 43 "AgedLog$Log" "place" "I" ∈ wsX3_append := by decide +kernel
set_option maxRecDepth 20000 in
theorem wdX3_append_3 : Cond.fieldLink RX3 10 "AgedLog$Log" "memory" "[B" ∈ wsX3_append := by decide +kernel
set_option maxRecDepth 20000 in
theorem wdX3_append_4 : Cond.fieldLink RX3 55 "AgedLog$Log" "index" "LAgedLog$Index;" ∈ wsX3_append := by decide +kernel
set_option maxRecDepth 20000 in
theorem wdX3_countFree_0 : Cond.fieldLink RX3 16 "AgedLog$Log" "states" "[I" ∈ wsX3_countFree := by decide +kernel
set_option maxRecDepth 20000 in
theorem wdX3_countFreshOctets_0 : Cond.fieldLink RX3 36 "AgedLog$Log" "freshCount" "I" ∈ wsX3_countFreshOctets := by decide +kernel
set_option maxRecDepth 20000 in
theorem wdX3_fits_0 : Cond.fieldLink RX3 40 "AgedLog$Log" "open" "I" ∈ wsX3_fits := by decide +kernel
set_option maxRecDepth 20000 in
theorem wdX3_forgetTimes_0 : Cond.initialized RX7 ∈ wsX3_forgetTimes := by decide +kernel
set_option maxRecDepth 20000 in
theorem wdX3_forgetTimes_1 : Cond.static yX7_isOfLog ∈ wsX3_forgetTimes := by decide +kernel
set_option maxRecDepth 20000 in
theorem wdX3_forgetTimes_2 : Cond.fieldLink RX3 20 "AgedLog$Log" "hasRecords" "[Z" ∈ wsX3_forgetTimes := by decide +kernel
set_option maxRecDepth 20000 in
theorem wdX3_freeSpent_0 : Cond.fieldLink RX3 16 "AgedLog$Log" "states" "[I" ∈ wsX3_freeSpent := by decide +kernel
set_option maxRecDepth 20000 in
theorem wdX3_init_0 : Cond.methodLink RX3 3 objectInit ∈ wsX3_init := by decide +kernel
set_option maxRecDepth 20000 in
theorem wdX3_init_1 : Cond.instanceMethod objectInit ∈ wsX3_init := by decide +kernel
set_option maxRecDepth 20000 in
theorem wdX3_init_2 : Cond.code objectInit ⟨#[0xb1]⟩ 1 none ∈ wsX3_init := by decide +kernel
set_option maxRecDepth 20000 in
theorem wdX3_init_3 : Cond.constant RX3 9 65536 ∈ wsX3_init := by decide +kernel
set_option maxRecDepth 20000 in
theorem wdX3_init_4 : Cond.arrayClass .byte ∈ wsX3_init := by decide +kernel
set_option maxRecDepth 20000 in
theorem wdX3_init_5 : Cond.fieldLink RX3 10 "AgedLog$Log" "memory" "[B" ∈ wsX3_init := by decide +kernel
set_option maxRecDepth 20000 in
theorem wdX3_init_6 : Cond.arrayClass .int ∈ wsX3_init := by decide +kernel
set_option maxRecDepth 20000 in
theorem wdX3_init_7 : Cond.fieldLink RX3 16 "AgedLog$Log" "states" "[I" ∈ wsX3_init := by decide +kernel
set_option maxRecDepth 20000 in
theorem wdX3_init_8 : Cond.arrayClass .boolean ∈ wsX3_init := by decide +kernel
set_option maxRecDepth 20000 in
theorem wdX3_init_9 : Cond.fieldLink RX3 20 "AgedLog$Log" "hasRecords" "[Z" ∈ wsX3_init := by decide +kernel
set_option maxRecDepth 20000 in
theorem wdX3_init_10 : Cond.fieldLink RX3 24 "AgedLog$Log" "latestTimes" "[I" ∈ wsX3_init := by decide +kernel
set_option maxRecDepth 20000 in
theorem wdX3_init_11 : Cond.fieldLink RX3 27 "AgedLog$Log" "fresh" "[I" ∈ wsX3_init := by decide +kernel
set_option maxRecDepth 20000 in
theorem wdX3_init_12 : Cond.fieldLink RX3 30 "AgedLog$Log" "freshFrom" "[I" ∈ wsX3_init := by decide +kernel
set_option maxRecDepth 20000 in
theorem wdX3_init_13 : Cond.fieldLink RX3 33 "AgedLog$Log" "freshTo" "[I" ∈ wsX3_init := by decide +kernel
set_option maxRecDepth 20000 in
theorem wdX3_init_14 : Cond.fieldLink RX3 36 "AgedLog$Log" "freshCount" "I" ∈ wsX3_init := by decide +kernel
set_option maxRecDepth 20000 in
theorem wdX3_init_15 : Cond.fieldLink RX3 40 "AgedLog$Log" "open" "I" ∈ wsX3_init := by decide +kernel
set_option maxRecDepth 20000 in
theorem wdX3_init_16 : Cond.fieldLink RX3 43 "AgedLog$Log" "place" "I" ∈ wsX3_init := by decide +kernel
set_option maxRecDepth 20000 in
theorem wdX3_init_17 : Cond.fieldLink RX3 46 "AgedLog$Log" "order" "I" ∈ wsX3_init := by decide +kernel
set_option maxRecDepth 20000 in
theorem wdX3_init_18 : Cond.fieldLink RX3 49 "AgedLog$Log" "nextSequence" "I" ∈ wsX3_init := by decide +kernel
set_option maxRecDepth 20000 in
theorem wdX3_init_19 : Cond.fieldLink RX3 52 "AgedLog$Log" "clock" "I" ∈ wsX3_init := by decide +kernel
set_option maxRecDepth 20000 in
theorem wdX3_init_20 : Cond.fieldLink RX3 55 "AgedLog$Log" "index" "LAgedLog$Index;" ∈ wsX3_init := by decide +kernel
set_option maxRecDepth 20000 in
theorem wdX3_isUsed_0 : Cond.initialized RX7 ∈ wsX3_isUsed := by decide +kernel
set_option maxRecDepth 20000 in
theorem wdX3_isUsed_1 : Cond.static yX7_isOfLog ∈ wsX3_isUsed := by decide +kernel
set_option maxRecDepth 20000 in
theorem wdX3_isUsed_2 : Cond.fieldLink RX3 16 "AgedLog$Log" "states" "[I" ∈ wsX3_isUsed := by decide +kernel
set_option maxRecDepth 20000 in
theorem wdX3_leastFree_0 : Cond.fieldLink RX3 16 "AgedLog$Log" "states" "[I" ∈ wsX3_leastFree := by decide +kernel
set_option maxRecDepth 20000 in
theorem wdX3_loadMemory_0 : Cond.fieldLink RX3 40 "AgedLog$Log" "open" "I" ∈ wsX3_loadMemory := by decide +kernel
set_option maxRecDepth 20000 in
theorem wdX3_noteFresh_0 : Cond.fieldLink RX3 40 "AgedLog$Log" "open" "I" ∈ wsX3_noteFresh := by decide +kernel
set_option maxRecDepth 20000 in
theorem wdX3_noteFresh_1 : Cond.initialized RX7 ∈ wsX3_noteFresh := by decide +kernel
set_option maxRecDepth 20000 in
theorem wdX3_noteFresh_2 : Cond.static yX7_isOfLog ∈ wsX3_noteFresh := by decide +kernel
set_option maxRecDepth 20000 in
theorem wdX3_noteFresh_3 : Cond.fieldLink RX3 36 "AgedLog$Log" "freshCount" "I" ∈ wsX3_noteFresh := by decide +kernel
set_option maxRecDepth 20000 in
theorem wdX3_noteFresh_4 : Cond.fieldLink RX3 27 "AgedLog$Log" "fresh" "[I" ∈ wsX3_noteFresh := by decide +kernel
set_option maxRecDepth 20000 in
theorem wdX3_noteFresh_5 : Cond.fieldLink RX3 30 "AgedLog$Log" "freshFrom" "[I" ∈ wsX3_noteFresh := by decide +kernel
set_option maxRecDepth 20000 in
theorem wdX3_noteFresh_6 : Cond.fieldLink RX3 43 "AgedLog$Log" "place" "I" ∈ wsX3_noteFresh := by decide +kernel
set_option maxRecDepth 20000 in
theorem wdX3_noteFresh_7 : Cond.fieldLink RX3 33 "AgedLog$Log" "freshTo" "[I" ∈ wsX3_noteFresh := by decide +kernel
set_option maxRecDepth 20000 in
theorem wdX3_noteTime_0 : Cond.initialized RX7 ∈ wsX3_noteTime := by decide +kernel
set_option maxRecDepth 20000 in
theorem wdX3_noteTime_1 : Cond.static yX7_isOfLog ∈ wsX3_noteTime := by decide +kernel
set_option maxRecDepth 20000 in
theorem wdX3_noteTime_2 : Cond.fieldLink RX3 20 "AgedLog$Log" "hasRecords" "[Z" ∈ wsX3_noteTime := by decide +kernel
set_option maxRecDepth 20000 in
theorem wdX3_noteTime_3 : Cond.fieldLink RX3 24 "AgedLog$Log" "latestTimes" "[I" ∈ wsX3_noteTime := by decide +kernel
set_option maxRecDepth 20000 in
theorem wdX3_openNext_0 : Cond.fieldLink RX3 40 "AgedLog$Log" "open" "I" ∈ wsX3_openNext := by decide +kernel
set_option maxRecDepth 20000 in
theorem wdX3_openNext_1 : Cond.fieldLink RX3 43 "AgedLog$Log" "place" "I" ∈ wsX3_openNext := by decide +kernel
set_option maxRecDepth 20000 in
theorem wdX3_openNext_2 : Cond.fieldLink RX3 46 "AgedLog$Log" "order" "I" ∈ wsX3_openNext := by decide +kernel
set_option maxRecDepth 20000 in
theorem wdX3_openNext_3 : Cond.fieldLink RX3 10 "AgedLog$Log" "memory" "[B" ∈ wsX3_openNext := by decide +kernel
set_option maxRecDepth 20000 in
theorem wdX3_setAsAtFirst_0 : Cond.fieldLink RX3 16 "AgedLog$Log" "states" "[I" ∈ wsX3_setAsAtFirst := by decide +kernel
set_option maxRecDepth 20000 in
theorem wdX3_setAsAtFirst_1 : Cond.fieldLink RX3 36 "AgedLog$Log" "freshCount" "I" ∈ wsX3_setAsAtFirst := by decide +kernel
set_option maxRecDepth 20000 in
theorem wdX3_setAsAtFirst_2 : Cond.fieldLink RX3 40 "AgedLog$Log" "open" "I" ∈ wsX3_setAsAtFirst := by decide +kernel
set_option maxRecDepth 20000 in
theorem wdX3_setAsAtFirst_3 : Cond.fieldLink RX3 43 "AgedLog$Log" "place" "I" ∈ wsX3_setAsAtFirst := by decide +kernel
set_option maxRecDepth 20000 in
theorem wdX3_setAsAtFirst_4 : Cond.fieldLink RX3 46 "AgedLog$Log" "order" "I" ∈ wsX3_setAsAtFirst := by decide +kernel
set_option maxRecDepth 20000 in
theorem wdX3_setAsAtFirst_5 : Cond.fieldLink RX3 49 "AgedLog$Log" "nextSequence" "I" ∈ wsX3_setAsAtFirst := by decide +kernel
set_option maxRecDepth 20000 in
theorem wdX3_setAsAtFirst_6 : Cond.fieldLink RX3 52 "AgedLog$Log" "clock" "I" ∈ wsX3_setAsAtFirst := by decide +kernel
set_option maxRecDepth 20000 in
theorem wdX3_stateOf_0 : Cond.initialized RX7 ∈ wsX3_stateOf := by decide +kernel
set_option maxRecDepth 20000 in
theorem wdX3_stateOf_1 : Cond.static yX7_isOfLog ∈ wsX3_stateOf := by decide +kernel
set_option maxRecDepth 20000 in
theorem wdX3_stateOf_2 : Cond.fieldLink RX3 40 "AgedLog$Log" "open" "I" ∈ wsX3_stateOf := by decide +kernel
set_option maxRecDepth 20000 in
theorem wdX3_stateOf_3 : Cond.fieldLink RX3 16 "AgedLog$Log" "states" "[I" ∈ wsX3_stateOf := by decide +kernel
set_option maxRecDepth 20000 in
theorem wdX3_use_0 : Cond.initialized RX7 ∈ wsX3_use := by decide +kernel
set_option maxRecDepth 20000 in
theorem wdX3_use_1 : Cond.static yX7_isOfLog ∈ wsX3_use := by decide +kernel
set_option maxRecDepth 20000 in
theorem wdX3_use_2 : Cond.fieldLink RX3 16 "AgedLog$Log" "states" "[I" ∈ wsX3_use := by decide +kernel
set_option maxRecDepth 20000 in
theorem wdX3_writeFresh_0 : Cond.fieldLink RX3 36 "AgedLog$Log" "freshCount" "I" ∈ wsX3_writeFresh := by decide +kernel
set_option maxRecDepth 20000 in
theorem wdX4_copy_0 : Cond.methodLink RX4 28 arraycopyName ∈ wsX4_copy := by decide +kernel
set_option maxRecDepth 20000 in
theorem wdX4_copy_1 : Cond.native arraycopyName ∈ wsX4_copy := by decide +kernel
set_option maxRecDepth 20000 in
theorem wdX4_copy_2 : Cond.static arraycopyName ∈ wsX4_copy := by decide +kernel
set_option maxRecDepth 20000 in
theorem wdX4_copy_3 : Cond.initialized "java/lang/System" ∈ wsX4_copy := by decide +kernel
set_option maxRecDepth 20000 in
theorem wdX4_sum_0 : Cond.constant RX4 19 (-1640531535) ∈ wsX4_sum := by decide +kernel
set_option maxRecDepth 20000 in
theorem wdX5_fillMemory_0 : Cond.fieldLink RX5 15 "AgedLog$Recovery" "log" "LAgedLog$Log;" ∈ wsX5_fillMemory := by decide +kernel
set_option maxRecDepth 20000 in
theorem wdX5_fillMemory_1 : Cond.fieldLink RX5 9 "AgedLog$Recovery" "drive" "LAgedLog$Disk;" ∈ wsX5_fillMemory := by decide +kernel
set_option maxRecDepth 20000 in
theorem wdX5_findNext_0 : Cond.fieldLink RX5 15 "AgedLog$Recovery" "log" "LAgedLog$Log;" ∈ wsX5_findNext := by decide +kernel
set_option maxRecDepth 20000 in
theorem wdX5_hasNextHead_0 : Cond.fieldLink RX5 9 "AgedLog$Recovery" "drive" "LAgedLog$Disk;" ∈ wsX5_hasNextHead := by decide +kernel
set_option maxRecDepth 20000 in
theorem wdX5_init_0 : Cond.methodLink RX5 3 objectInit ∈ wsX5_init := by decide +kernel
set_option maxRecDepth 20000 in
theorem wdX5_init_1 : Cond.instanceMethod objectInit ∈ wsX5_init := by decide +kernel
set_option maxRecDepth 20000 in
theorem wdX5_init_2 : Cond.code objectInit ⟨#[0xb1]⟩ 1 none ∈ wsX5_init := by decide +kernel
set_option maxRecDepth 20000 in
theorem wdX5_init_3 : Cond.fieldLink RX5 9 "AgedLog$Recovery" "drive" "LAgedLog$Disk;" ∈ wsX5_init := by decide +kernel
set_option maxRecDepth 20000 in
theorem wdX5_init_4 : Cond.fieldLink RX5 15 "AgedLog$Recovery" "log" "LAgedLog$Log;" ∈ wsX5_init := by decide +kernel
set_option maxRecDepth 20000 in
theorem wdX5_init_5 : Cond.fieldLink RX5 19 "AgedLog$Recovery" "index" "LAgedLog$Index;" ∈ wsX5_init := by decide +kernel
set_option maxRecDepth 20000 in
theorem wdX5_init_6 : Cond.fieldLink RX5 23 "AgedLog$Recovery" "regions" "LAgedLog$Regions;" ∈ wsX5_init := by decide +kernel
set_option maxRecDepth 20000 in
theorem wdX5_rightLength_0 : Cond.initialized RX7 ∈ wsX5_rightLength := by decide +kernel
set_option maxRecDepth 20000 in
theorem wdX5_rightLength_1 : Cond.static yX7_isOfLog ∈ wsX5_rightLength := by decide +kernel
set_option maxRecDepth 20000 in
theorem wdX5_takeCheckpoint_0 : Cond.fieldLink RX5 15 "AgedLog$Recovery" "log" "LAgedLog$Log;" ∈ wsX5_takeCheckpoint := by decide +kernel
set_option maxRecDepth 20000 in
theorem wdX5_takeCheckpoint_1 : Cond.fieldLink RX5 23 "AgedLog$Recovery" "regions" "LAgedLog$Regions;" ∈ wsX5_takeCheckpoint := by decide +kernel
set_option maxRecDepth 20000 in
theorem wdX5_takeCheckpoint_2 : Cond.fieldLink RX5 19 "AgedLog$Recovery" "index" "LAgedLog$Index;" ∈ wsX5_takeCheckpoint := by decide +kernel
set_option maxRecDepth 20000 in
theorem wdX6_fillRow_0 : Cond.fieldLink RX6 9 "AgedLog$Regions" "row" "[B" ∈ wsX6_fillRow := by decide +kernel
set_option maxRecDepth 20000 in
theorem wdX6_fillRow_1 : Cond.fieldLink RX6 15 "AgedLog$Regions" "number" "I" ∈ wsX6_fillRow := by decide +kernel
set_option maxRecDepth 20000 in
theorem wdX6_fillRow_2 : Cond.fieldLink RX6 26 "AgedLog$Regions" "log" "LAgedLog$Log;" ∈ wsX6_fillRow := by decide +kernel
set_option maxRecDepth 20000 in
theorem wdX6_fillRow_3 : Cond.fieldLink RX6 30 "AgedLog$Regions" "index" "LAgedLog$Index;" ∈ wsX6_fillRow := by decide +kernel
set_option maxRecDepth 20000 in
theorem wdX6_init_0 : Cond.methodLink RX6 3 objectInit ∈ wsX6_init := by decide +kernel
set_option maxRecDepth 20000 in
theorem wdX6_init_1 : Cond.instanceMethod objectInit ∈ wsX6_init := by decide +kernel
set_option maxRecDepth 20000 in
theorem wdX6_init_2 : Cond.code objectInit ⟨#[0xb1]⟩ 1 none ∈ wsX6_init := by decide +kernel
set_option maxRecDepth 20000 in
theorem wdX6_init_3 : Cond.arrayClass .byte ∈ wsX6_init := by decide +kernel
set_option maxRecDepth 20000 in
theorem wdX6_init_4 : Cond.fieldLink RX6 9 "AgedLog$Regions" "row" "[B" ∈ wsX6_init := by decide +kernel
set_option maxRecDepth 20000 in
theorem wdX6_init_5 : Cond.fieldLink RX6 15 "AgedLog$Regions" "number" "I" ∈ wsX6_init := by decide +kernel
set_option maxRecDepth 20000 in
theorem wdX6_init_6 : Cond.fieldLink RX6 19 "AgedLog$Regions" "turn" "I" ∈ wsX6_init := by decide +kernel
set_option maxRecDepth 20000 in
theorem wdX6_init_7 : Cond.fieldLink RX6 22 "AgedLog$Regions" "drive" "LAgedLog$Disk;" ∈ wsX6_init := by decide +kernel
set_option maxRecDepth 20000 in
theorem wdX6_init_8 : Cond.fieldLink RX6 26 "AgedLog$Regions" "log" "LAgedLog$Log;" ∈ wsX6_init := by decide +kernel
set_option maxRecDepth 20000 in
theorem wdX6_init_9 : Cond.fieldLink RX6 30 "AgedLog$Regions" "index" "LAgedLog$Index;" ∈ wsX6_init := by decide +kernel
set_option maxRecDepth 20000 in
theorem wdX6_numberAt_0 : Cond.fieldLink RX6 22 "AgedLog$Regions" "drive" "LAgedLog$Disk;" ∈ wsX6_numberAt := by decide +kernel
set_option maxRecDepth 20000 in
theorem wdX6_setAsAtFirst_0 : Cond.fieldLink RX6 15 "AgedLog$Regions" "number" "I" ∈ wsX6_setAsAtFirst := by decide +kernel
set_option maxRecDepth 20000 in
theorem wdX6_setAsAtFirst_1 : Cond.fieldLink RX6 19 "AgedLog$Regions" "turn" "I" ∈ wsX6_setAsAtFirst := by decide +kernel
set_option maxRecDepth 20000 in
theorem wdX6_write_0 : Cond.fieldLink RX6 22 "AgedLog$Regions" "drive" "LAgedLog$Disk;" ∈ wsX6_write := by decide +kernel
set_option maxRecDepth 20000 in
theorem wdX6_write_1 : Cond.fieldLink RX6 19 "AgedLog$Regions" "turn" "I" ∈ wsX6_write := by decide +kernel
set_option maxRecDepth 20000 in
theorem wdX6_write_2 : Cond.fieldLink RX6 9 "AgedLog$Regions" "row" "[B" ∈ wsX6_write := by decide +kernel
set_option maxRecDepth 20000 in
theorem wdX6_write_3 : Cond.fieldLink RX6 15 "AgedLog$Regions" "number" "I" ∈ wsX6_write := by decide +kernel
set_option maxRecDepth 20000 in
theorem wdX7_checkpoint_0 : Cond.fieldLink RX7 67 "AgedLog" "down" "Z" ∈ wsX7_checkpoint := by decide +kernel
set_option maxRecDepth 20000 in
theorem wdX7_checkpoint_1 : Cond.fieldLink RX7 28 "AgedLog" "log" "LAgedLog$Log;" ∈ wsX7_checkpoint := by decide +kernel
set_option maxRecDepth 20000 in
theorem wdX7_checkpoint_2 : Cond.fieldLink RX7 10 "AgedLog" "drive" "LAgedLog$Disk;" ∈ wsX7_checkpoint := by decide +kernel
set_option maxRecDepth 20000 in
theorem wdX7_checkpoint_3 : Cond.fieldLink RX7 46 "AgedLog" "regions" "LAgedLog$Regions;" ∈ wsX7_checkpoint := by decide +kernel
set_option maxRecDepth 20000 in
theorem wdX7_clean_0 : Cond.fieldLink RX7 67 "AgedLog" "down" "Z" ∈ wsX7_clean := by decide +kernel
set_option maxRecDepth 20000 in
theorem wdX7_clean_1 : Cond.fieldLink RX7 37 "AgedLog" "cleaner" "LAgedLog$Cleaner;" ∈ wsX7_clean := by decide +kernel
set_option maxRecDepth 20000 in
theorem wdX7_cut_0 : Cond.fieldLink RX7 67 "AgedLog" "down" "Z" ∈ wsX7_cut := by decide +kernel
set_option maxRecDepth 20000 in
theorem wdX7_cut_1 : Cond.fieldLink RX7 10 "AgedLog" "drive" "LAgedLog$Disk;" ∈ wsX7_cut := by decide +kernel
set_option maxRecDepth 20000 in
theorem wdX7_disk_0 : Cond.fieldLink RX7 10 "AgedLog" "drive" "LAgedLog$Disk;" ∈ wsX7_disk := by decide +kernel
set_option maxRecDepth 20000 in
theorem wdX7_feed_0 : Cond.fieldLink RX7 63 "AgedLog" "handLength" "I" ∈ wsX7_feed := by decide +kernel
set_option maxRecDepth 20000 in
theorem wdX7_feed_1 : Cond.fieldLink RX7 59 "AgedLog" "hand" "[B" ∈ wsX7_feed := by decide +kernel
set_option maxRecDepth 20000 in
theorem wdX7_init_0 : Cond.methodLink RX7 1 objectInit ∈ wsX7_init := by decide +kernel
set_option maxRecDepth 20000 in
theorem wdX7_init_1 : Cond.instanceMethod objectInit ∈ wsX7_init := by decide +kernel
set_option maxRecDepth 20000 in
theorem wdX7_init_2 : Cond.code objectInit ⟨#[0xb1]⟩ 1 none ∈ wsX7_init := by decide +kernel
set_option maxRecDepth 20000 in
theorem wdX7_init_3 : Cond.classLink RX7 7 RX1 ∈ wsX7_init := by decide +kernel
set_option maxRecDepth 20000 in
theorem wdX7_init_4 : Cond.instantiable RX1 5 ∈ wsX7_init := by decide +kernel
set_option maxRecDepth 20000 in
theorem wdX7_init_5 : Cond.initialized RX1 ∈ wsX7_init := by decide +kernel
set_option maxRecDepth 20000 in
theorem wdX7_init_6 : Cond.instanceMethod yX1_init ∈ wsX7_init := by decide +kernel
set_option maxRecDepth 20000 in
theorem wdX7_init_7 : Cond.fieldLink RX7 10 "AgedLog" "drive" "LAgedLog$Disk;" ∈ wsX7_init := by decide +kernel
set_option maxRecDepth 20000 in
theorem wdX7_init_8 : Cond.classLink RX7 16 RX2 ∈ wsX7_init := by decide +kernel
set_option maxRecDepth 20000 in
theorem wdX7_init_9 : Cond.instantiable RX2 3 ∈ wsX7_init := by decide +kernel
set_option maxRecDepth 20000 in
theorem wdX7_init_10 : Cond.initialized RX2 ∈ wsX7_init := by decide +kernel
set_option maxRecDepth 20000 in
theorem wdX7_init_11 : Cond.instanceMethod yX2_init ∈ wsX7_init := by decide +kernel
set_option maxRecDepth 20000 in
theorem wdX7_init_12 : Cond.fieldLink RX7 19 "AgedLog" "index" "LAgedLog$Index;" ∈ wsX7_init := by decide +kernel
set_option maxRecDepth 20000 in
theorem wdX7_init_13 : Cond.classLink RX7 23 RX3 ∈ wsX7_init := by decide +kernel
set_option maxRecDepth 20000 in
theorem wdX7_init_14 : Cond.instantiable RX3 14 ∈ wsX7_init := by decide +kernel
set_option maxRecDepth 20000 in
theorem wdX7_init_15 : Cond.initialized RX3 ∈ wsX7_init := by decide +kernel
set_option maxRecDepth 20000 in
theorem wdX7_init_16 : Cond.methodLink RX7 25 yX3_init ∈ wsX7_init := by decide +kernel
set_option maxRecDepth 20000 in
theorem wdX7_init_17 : Cond.instanceMethod yX3_init ∈ wsX7_init := by decide +kernel
set_option maxRecDepth 20000 in
theorem wdX7_init_18 : Cond.fieldLink RX7 28 "AgedLog" "log" "LAgedLog$Log;" ∈ wsX7_init := by decide +kernel
set_option maxRecDepth 20000 in
theorem wdX7_init_19 : Cond.classLink RX7 32 RX0 ∈ wsX7_init := by decide +kernel
set_option maxRecDepth 20000 in
theorem wdX7_init_20 : Cond.instantiable RX0 6 ∈ wsX7_init := by decide +kernel
set_option maxRecDepth 20000 in
theorem wdX7_init_21 : Cond.initialized RX0 ∈ wsX7_init := by decide +kernel
set_option maxRecDepth 20000 in
theorem wdX7_init_22 : Cond.methodLink RX7 34 yX0_init ∈ wsX7_init := by decide +kernel
set_option maxRecDepth 20000 in
theorem wdX7_init_23 : Cond.instanceMethod yX0_init ∈ wsX7_init := by decide +kernel
set_option maxRecDepth 20000 in
theorem wdX7_init_24 : Cond.fieldLink RX7 37 "AgedLog" "cleaner" "LAgedLog$Cleaner;" ∈ wsX7_init := by decide +kernel
set_option maxRecDepth 20000 in
theorem wdX7_init_25 : Cond.classLink RX7 41 RX6 ∈ wsX7_init := by decide +kernel
set_option maxRecDepth 20000 in
theorem wdX7_init_26 : Cond.instantiable RX6 6 ∈ wsX7_init := by decide +kernel
set_option maxRecDepth 20000 in
theorem wdX7_init_27 : Cond.initialized RX6 ∈ wsX7_init := by decide +kernel
set_option maxRecDepth 20000 in
theorem wdX7_init_28 : Cond.methodLink RX7 43 yX6_init ∈ wsX7_init := by decide +kernel
set_option maxRecDepth 20000 in
theorem wdX7_init_29 : Cond.instanceMethod yX6_init ∈ wsX7_init := by decide +kernel
set_option maxRecDepth 20000 in
theorem wdX7_init_30 : Cond.fieldLink RX7 46 "AgedLog" "regions" "LAgedLog$Regions;" ∈ wsX7_init := by decide +kernel
set_option maxRecDepth 20000 in
theorem wdX7_init_31 : Cond.classLink RX7 50 RX5 ∈ wsX7_init := by decide +kernel
set_option maxRecDepth 20000 in
theorem wdX7_init_32 : Cond.instantiable RX5 4 ∈ wsX7_init := by decide +kernel
set_option maxRecDepth 20000 in
theorem wdX7_init_33 : Cond.initialized RX5 ∈ wsX7_init := by decide +kernel
set_option maxRecDepth 20000 in
theorem wdX7_init_34 : Cond.methodLink RX7 52 yX5_init ∈ wsX7_init := by decide +kernel
set_option maxRecDepth 20000 in
theorem wdX7_init_35 : Cond.instanceMethod yX5_init ∈ wsX7_init := by decide +kernel
set_option maxRecDepth 20000 in
theorem wdX7_init_36 : Cond.fieldLink RX7 55 "AgedLog" "recovery" "LAgedLog$Recovery;" ∈ wsX7_init := by decide +kernel
set_option maxRecDepth 20000 in
theorem wdX7_init_37 : Cond.arrayClass .byte ∈ wsX7_init := by decide +kernel
set_option maxRecDepth 20000 in
theorem wdX7_init_38 : Cond.fieldLink RX7 59 "AgedLog" "hand" "[B" ∈ wsX7_init := by decide +kernel
set_option maxRecDepth 20000 in
theorem wdX7_init_39 : Cond.fieldLink RX7 63 "AgedLog" "handLength" "I" ∈ wsX7_init := by decide +kernel
set_option maxRecDepth 20000 in
theorem wdX7_init_40 : Cond.fieldLink RX7 67 "AgedLog" "down" "Z" ∈ wsX7_init := by decide +kernel
set_option maxRecDepth 20000 in
theorem wdX7_poke_0 : Cond.fieldLink RX7 10 "AgedLog" "drive" "LAgedLog$Disk;" ∈ wsX7_poke := by decide +kernel
set_option maxRecDepth 20000 in
theorem wdX7_put_0 : Cond.fieldLink RX7 67 "AgedLog" "down" "Z" ∈ wsX7_put := by decide +kernel
set_option maxRecDepth 20000 in
theorem wdX7_put_1 : Cond.fieldLink RX7 28 "AgedLog" "log" "LAgedLog$Log;" ∈ wsX7_put := by decide +kernel
set_option maxRecDepth 20000 in
theorem wdX7_put_2 : Cond.fieldLink RX7 63 "AgedLog" "handLength" "I" ∈ wsX7_put := by decide +kernel
set_option maxRecDepth 20000 in
theorem wdX7_put_3 : Cond.fieldLink RX7 59 "AgedLog" "hand" "[B" ∈ wsX7_put := by decide +kernel
set_option maxRecDepth 20000 in
theorem wdX7_remove_0 : Cond.fieldLink RX7 67 "AgedLog" "down" "Z" ∈ wsX7_remove := by decide +kernel
set_option maxRecDepth 20000 in
theorem wdX7_remove_1 : Cond.fieldLink RX7 19 "AgedLog" "index" "LAgedLog$Index;" ∈ wsX7_remove := by decide +kernel
set_option maxRecDepth 20000 in
theorem wdX7_segment_0 : Cond.fieldLink RX7 67 "AgedLog" "down" "Z" ∈ wsX7_segment := by decide +kernel
set_option maxRecDepth 20000 in
theorem wdX7_segment_1 : Cond.fieldLink RX7 28 "AgedLog" "log" "LAgedLog$Log;" ∈ wsX7_segment := by decide +kernel
set_option maxRecDepth 20000 in
theorem wdX7_size_0 : Cond.fieldLink RX7 67 "AgedLog" "down" "Z" ∈ wsX7_size := by decide +kernel
set_option maxRecDepth 20000 in
theorem wdX7_size_1 : Cond.fieldLink RX7 19 "AgedLog" "index" "LAgedLog$Index;" ∈ wsX7_size := by decide +kernel
set_option maxRecDepth 20000 in
theorem wdX7_start_0 : Cond.fieldLink RX7 10 "AgedLog" "drive" "LAgedLog$Disk;" ∈ wsX7_start := by decide +kernel
set_option maxRecDepth 20000 in
theorem wdX7_start_1 : Cond.fieldLink RX7 67 "AgedLog" "down" "Z" ∈ wsX7_start := by decide +kernel
set_option maxRecDepth 20000 in
theorem wdX7_start_2 : Cond.fieldLink RX7 55 "AgedLog" "recovery" "LAgedLog$Recovery;" ∈ wsX7_start := by decide +kernel
set_option maxRecDepth 20000 in
theorem wdX7_sync_0 : Cond.fieldLink RX7 67 "AgedLog" "down" "Z" ∈ wsX7_sync := by decide +kernel
set_option maxRecDepth 20000 in
theorem wdX7_sync_1 : Cond.fieldLink RX7 28 "AgedLog" "log" "LAgedLog$Log;" ∈ wsX7_sync := by decide +kernel
set_option maxRecDepth 20000 in
theorem wdX7_sync_2 : Cond.fieldLink RX7 10 "AgedLog" "drive" "LAgedLog$Disk;" ∈ wsX7_sync := by decide +kernel
set_option maxRecDepth 20000 in
theorem wdX7_tick_0 : Cond.fieldLink RX7 67 "AgedLog" "down" "Z" ∈ wsX7_tick := by decide +kernel
set_option maxRecDepth 20000 in
theorem wdX7_tick_1 : Cond.constant RX7 120 100000 ∈ wsX7_tick := by decide +kernel
set_option maxRecDepth 20000 in
theorem wdX7_tick_2 : Cond.fieldLink RX7 28 "AgedLog" "log" "LAgedLog$Log;" ∈ wsX7_tick := by decide +kernel
set_option maxRecDepth 20000 in
theorem wdX7_told_0 : Cond.fieldLink RX7 67 "AgedLog" "down" "Z" ∈ wsX7_told := by decide +kernel
set_option maxRecDepth 20000 in
theorem wdX7_told_1 : Cond.fieldLink RX7 10 "AgedLog" "drive" "LAgedLog$Disk;" ∈ wsX7_told := by decide +kernel
set_option maxRecDepth 20000 in
theorem wdX7_toldWhileUp_0 : Cond.fieldLink RX7 28 "AgedLog" "log" "LAgedLog$Log;" ∈ wsX7_toldWhileUp := by decide +kernel
set_option maxRecDepth 20000 in
theorem wdX7_toldWhileUp_1 : Cond.fieldLink RX7 19 "AgedLog" "index" "LAgedLog$Index;" ∈ wsX7_toldWhileUp := by decide +kernel
set_option maxRecDepth 20000 in
theorem wdX7_toldWhileUp_2 : Cond.fieldLink RX7 46 "AgedLog" "regions" "LAgedLog$Regions;" ∈ wsX7_toldWhileUp := by decide +kernel
set_option maxRecDepth 20000 in
theorem wdX7_value_0 : Cond.fieldLink RX7 67 "AgedLog" "down" "Z" ∈ wsX7_value := by decide +kernel
set_option maxRecDepth 20000 in
theorem wdX7_value_1 : Cond.fieldLink RX7 19 "AgedLog" "index" "LAgedLog$Index;" ∈ wsX7_value := by decide +kernel
set_option maxRecDepth 20000 in
theorem wdX7_where_0 : Cond.fieldLink RX7 67 "AgedLog" "down" "Z" ∈ wsX7_where := by decide +kernel
set_option maxRecDepth 20000 in
theorem wdX7_where_1 : Cond.fieldLink RX7 19 "AgedLog" "index" "LAgedLog$Index;" ∈ wsX7_where := by decide +kernel
set_option maxRecDepth 20000 in
theorem wdX8_best_0 : Cond.fieldLink RX8 21 "AgedLogModel" "state" "[I" ∈ wsX8_best := by decide +kernel
set_option maxRecDepth 20000 in
theorem wdX8_came_0 : Cond.fieldLink RX8 104 "AgedLogModel" "dirty" "I" ∈ wsX8_came := by decide +kernel
set_option maxRecDepth 20000 in
theorem wdX8_came_1 : Cond.fieldLink RX8 35 "AgedLogModel" "dSegment" "[I" ∈ wsX8_came := by decide +kernel
set_option maxRecDepth 20000 in
theorem wdX8_came_2 : Cond.fieldLink RX8 38 "AgedLogModel" "dFrom" "[I" ∈ wsX8_came := by decide +kernel
set_option maxRecDepth 20000 in
theorem wdX8_came_3 : Cond.fieldLink RX8 41 "AgedLogModel" "dTo" "[I" ∈ wsX8_came := by decide +kernel
set_option maxRecDepth 20000 in
theorem wdX8_checkpoint_0 : Cond.fieldLink RX8 65 "AgedLogModel" "code" "I" ∈ wsX8_checkpoint := by decide +kernel
set_option maxRecDepth 20000 in
theorem wdX8_checkpoint_1 : Cond.fieldLink RX8 132 "AgedLogModel" "down" "Z" ∈ wsX8_checkpoint := by decide +kernel
set_option maxRecDepth 20000 in
theorem wdX8_checkpoint_2 : Cond.fieldLink RX8 69 "AgedLogModel" "size" "I" ∈ wsX8_checkpoint := by decide +kernel
set_option maxRecDepth 20000 in
theorem wdX8_checkpoint_3 : Cond.fieldLink RX8 166 "AgedLogModel" "number" "I" ∈ wsX8_checkpoint := by decide +kernel
set_option maxRecDepth 20000 in
theorem wdX8_checkpoint_4 : Cond.fieldLink RX8 25 "AgedLogModel" "sequence" "I" ∈ wsX8_checkpoint := by decide +kernel
set_option maxRecDepth 20000 in
theorem wdX8_checkpoint_5 : Cond.fieldLink RX8 140 "AgedLogModel" "clock" "I" ∈ wsX8_checkpoint := by decide +kernel
set_option maxRecDepth 20000 in
theorem wdX8_checkpoint_6 : Cond.fieldLink RX8 87 "AgedLogModel" "open" "I" ∈ wsX8_checkpoint := by decide +kernel
set_option maxRecDepth 20000 in
theorem wdX8_checkpoint_7 : Cond.fieldLink RX8 107 "AgedLogModel" "order" "I" ∈ wsX8_checkpoint := by decide +kernel
set_option maxRecDepth 20000 in
theorem wdX8_checkpoint_8 : Cond.fieldLink RX8 47 "AgedLogModel" "made" "[B" ∈ wsX8_checkpoint := by decide +kernel
set_option maxRecDepth 20000 in
theorem wdX8_checkpoint_9 : Cond.fieldLink RX8 62 "AgedLogModel" "turn" "I" ∈ wsX8_checkpoint := by decide +kernel
set_option maxRecDepth 20000 in
theorem wdX8_checkpoint_10 : Cond.fieldLink RX8 21 "AgedLogModel" "state" "[I" ∈ wsX8_checkpoint := by decide +kernel
set_option maxRecDepth 20000 in
theorem wdX8_checkpoint_11 : Cond.fieldLink RX8 29 "AgedLogModel" "kSegment" "[I" ∈ wsX8_checkpoint := by decide +kernel
set_option maxRecDepth 20000 in
theorem wdX8_clean_0 : Cond.fieldLink RX8 65 "AgedLogModel" "code" "I" ∈ wsX8_clean := by decide +kernel
set_option maxRecDepth 20000 in
theorem wdX8_clean_1 : Cond.fieldLink RX8 132 "AgedLogModel" "down" "Z" ∈ wsX8_clean := by decide +kernel
set_option maxRecDepth 20000 in
theorem wdX8_clean_2 : Cond.fieldLink RX8 87 "AgedLogModel" "open" "I" ∈ wsX8_clean := by decide +kernel
set_option maxRecDepth 20000 in
theorem wdX8_clean_3 : Cond.fieldLink RX8 21 "AgedLogModel" "state" "[I" ∈ wsX8_clean := by decide +kernel
set_option maxRecDepth 20000 in
theorem wdX8_clean_4 : Cond.fieldLink RX8 56 "AgedLogModel" "taken" "[Z" ∈ wsX8_clean := by decide +kernel
set_option maxRecDepth 20000 in
theorem wdX8_clean_5 : Cond.fieldLink RX8 29 "AgedLogModel" "kSegment" "[I" ∈ wsX8_clean := by decide +kernel
set_option maxRecDepth 20000 in
theorem wdX8_cut_0 : Cond.fieldLink RX8 65 "AgedLogModel" "code" "I" ∈ wsX8_cut := by decide +kernel
set_option maxRecDepth 20000 in
theorem wdX8_cut_1 : Cond.fieldLink RX8 132 "AgedLogModel" "down" "Z" ∈ wsX8_cut := by decide +kernel
set_option maxRecDepth 20000 in
theorem wdX8_cut_2 : Cond.fieldLink RX8 150 "AgedLogModel" "cutAt" "I" ∈ wsX8_cut := by decide +kernel
set_option maxRecDepth 20000 in
theorem wdX8_cut_3 : Cond.fieldLink RX8 156 "AgedLogModel" "cutFirst" "I" ∈ wsX8_cut := by decide +kernel
set_option maxRecDepth 20000 in
theorem wdX8_disk_0 : Cond.fieldLink RX8 65 "AgedLogModel" "code" "I" ∈ wsX8_disk := by decide +kernel
set_option maxRecDepth 20000 in
theorem wdX8_disk_1 : Cond.fieldLink RX8 8 "AgedLogModel" "disk" "[B" ∈ wsX8_disk := by decide +kernel
set_option maxRecDepth 20000 in
theorem wdX8_feed_0 : Cond.fieldLink RX8 65 "AgedLogModel" "code" "I" ∈ wsX8_feed := by decide +kernel
set_option maxRecDepth 20000 in
theorem wdX8_feed_1 : Cond.fieldLink RX8 129 "AgedLogModel" "handSize" "I" ∈ wsX8_feed := by decide +kernel
set_option maxRecDepth 20000 in
theorem wdX8_feed_2 : Cond.fieldLink RX8 44 "AgedLogModel" "hand" "[B" ∈ wsX8_feed := by decide +kernel
set_option maxRecDepth 20000 in
theorem wdX8_frees_0 : Cond.fieldLink RX8 21 "AgedLogModel" "state" "[I" ∈ wsX8_frees := by decide +kernel
set_option maxRecDepth 20000 in
theorem wdX8_goesOn_0 : Cond.fieldLink RX8 21 "AgedLogModel" "state" "[I" ∈ wsX8_goesOn := by decide +kernel
set_option maxRecDepth 20000 in
theorem wdX8_goesOn_1 : Cond.fieldLink RX8 14 "AgedLogModel" "memory" "[B" ∈ wsX8_goesOn := by decide +kernel
set_option maxRecDepth 20000 in
theorem wdX8_init_0 : Cond.methodLink RX8 1 objectInit ∈ wsX8_init := by decide +kernel
set_option maxRecDepth 20000 in
theorem wdX8_init_1 : Cond.instanceMethod objectInit ∈ wsX8_init := by decide +kernel
set_option maxRecDepth 20000 in
theorem wdX8_init_2 : Cond.code objectInit ⟨#[0xb1]⟩ 1 none ∈ wsX8_init := by decide +kernel
set_option maxRecDepth 20000 in
theorem wdX8_init_3 : Cond.constant RX8 7 65536 ∈ wsX8_init := by decide +kernel
set_option maxRecDepth 20000 in
theorem wdX8_init_4 : Cond.arrayClass .byte ∈ wsX8_init := by decide +kernel
set_option maxRecDepth 20000 in
theorem wdX8_init_5 : Cond.fieldLink RX8 8 "AgedLogModel" "disk" "[B" ∈ wsX8_init := by decide +kernel
set_option maxRecDepth 20000 in
theorem wdX8_init_6 : Cond.fieldLink RX8 14 "AgedLogModel" "memory" "[B" ∈ wsX8_init := by decide +kernel
set_option maxRecDepth 20000 in
theorem wdX8_init_7 : Cond.arrayClass .boolean ∈ wsX8_init := by decide +kernel
set_option maxRecDepth 20000 in
theorem wdX8_init_8 : Cond.fieldLink RX8 17 "AgedLogModel" "torn" "[Z" ∈ wsX8_init := by decide +kernel
set_option maxRecDepth 20000 in
theorem wdX8_init_9 : Cond.arrayClass .int ∈ wsX8_init := by decide +kernel
set_option maxRecDepth 20000 in
theorem wdX8_init_10 : Cond.fieldLink RX8 21 "AgedLogModel" "state" "[I" ∈ wsX8_init := by decide +kernel
set_option maxRecDepth 20000 in
theorem wdX8_init_11 : Cond.fieldLink RX8 25 "AgedLogModel" "sequence" "I" ∈ wsX8_init := by decide +kernel
set_option maxRecDepth 20000 in
theorem wdX8_init_12 : Cond.fieldLink RX8 29 "AgedLogModel" "kSegment" "[I" ∈ wsX8_init := by decide +kernel
set_option maxRecDepth 20000 in
theorem wdX8_init_13 : Cond.fieldLink RX8 32 "AgedLogModel" "kAt" "[I" ∈ wsX8_init := by decide +kernel
set_option maxRecDepth 20000 in
theorem wdX8_init_14 : Cond.fieldLink RX8 35 "AgedLogModel" "dSegment" "[I" ∈ wsX8_init := by decide +kernel
set_option maxRecDepth 20000 in
theorem wdX8_init_15 : Cond.fieldLink RX8 38 "AgedLogModel" "dFrom" "[I" ∈ wsX8_init := by decide +kernel
set_option maxRecDepth 20000 in
theorem wdX8_init_16 : Cond.fieldLink RX8 41 "AgedLogModel" "dTo" "[I" ∈ wsX8_init := by decide +kernel
set_option maxRecDepth 20000 in
theorem wdX8_init_17 : Cond.fieldLink RX8 44 "AgedLogModel" "hand" "[B" ∈ wsX8_init := by decide +kernel
set_option maxRecDepth 20000 in
theorem wdX8_init_18 : Cond.fieldLink RX8 47 "AgedLogModel" "made" "[B" ∈ wsX8_init := by decide +kernel
set_option maxRecDepth 20000 in
theorem wdX8_init_19 : Cond.fieldLink RX8 50 "AgedLogModel" "young" "[I" ∈ wsX8_init := by decide +kernel
set_option maxRecDepth 20000 in
theorem wdX8_init_20 : Cond.fieldLink RX8 53 "AgedLogModel" "value" "[B" ∈ wsX8_init := by decide +kernel
set_option maxRecDepth 20000 in
theorem wdX8_init_21 : Cond.fieldLink RX8 56 "AgedLogModel" "taken" "[Z" ∈ wsX8_init := by decide +kernel
set_option maxRecDepth 20000 in
theorem wdX8_init_22 : Cond.fieldLink RX8 59 "AgedLogModel" "sorted" "[I" ∈ wsX8_init := by decide +kernel
set_option maxRecDepth 20000 in
theorem wdX8_init_23 : Cond.fieldLink RX8 62 "AgedLogModel" "turn" "I" ∈ wsX8_init := by decide +kernel
set_option maxRecDepth 20000 in
theorem wdX8_isRight_0 : Cond.fieldLink RX8 8 "AgedLogModel" "disk" "[B" ∈ wsX8_isRight := by decide +kernel
set_option maxRecDepth 20000 in
theorem wdX8_keys_0 : Cond.fieldLink RX8 29 "AgedLogModel" "kSegment" "[I" ∈ wsX8_keys := by decide +kernel
set_option maxRecDepth 20000 in
theorem wdX8_none_0 : Cond.fieldLink RX8 29 "AgedLogModel" "kSegment" "[I" ∈ wsX8_none := by decide +kernel
set_option maxRecDepth 20000 in
theorem wdX8_octets_0 : Cond.fieldLink RX8 47 "AgedLogModel" "made" "[B" ∈ wsX8_octets := by decide +kernel
set_option maxRecDepth 20000 in
theorem wdX8_octets_1 : Cond.fieldLink RX8 69 "AgedLogModel" "size" "I" ∈ wsX8_octets := by decide +kernel
set_option maxRecDepth 20000 in
theorem wdX8_openNext_0 : Cond.fieldLink RX8 21 "AgedLogModel" "state" "[I" ∈ wsX8_openNext := by decide +kernel
set_option maxRecDepth 20000 in
theorem wdX8_openNext_1 : Cond.fieldLink RX8 87 "AgedLogModel" "open" "I" ∈ wsX8_openNext := by decide +kernel
set_option maxRecDepth 20000 in
theorem wdX8_openNext_2 : Cond.fieldLink RX8 107 "AgedLogModel" "order" "I" ∈ wsX8_openNext := by decide +kernel
set_option maxRecDepth 20000 in
theorem wdX8_openNext_3 : Cond.fieldLink RX8 69 "AgedLogModel" "size" "I" ∈ wsX8_openNext := by decide +kernel
set_option maxRecDepth 20000 in
theorem wdX8_openNext_4 : Cond.fieldLink RX8 47 "AgedLogModel" "made" "[B" ∈ wsX8_openNext := by decide +kernel
set_option maxRecDepth 20000 in
theorem wdX8_openNext_5 : Cond.fieldLink RX8 90 "AgedLogModel" "place" "I" ∈ wsX8_openNext := by decide +kernel
set_option maxRecDepth 20000 in
theorem wdX8_openNext_6 : Cond.fieldLink RX8 50 "AgedLogModel" "young" "[I" ∈ wsX8_openNext := by decide +kernel
set_option maxRecDepth 20000 in
theorem wdX8_openNext_7 : Cond.fieldLink RX8 14 "AgedLogModel" "memory" "[B" ∈ wsX8_openNext := by decide +kernel
set_option maxRecDepth 20000 in
theorem wdX8_opens_0 : Cond.fieldLink RX8 87 "AgedLogModel" "open" "I" ∈ wsX8_opens := by decide +kernel
set_option maxRecDepth 20000 in
theorem wdX8_poke_0 : Cond.fieldLink RX8 65 "AgedLogModel" "code" "I" ∈ wsX8_poke := by decide +kernel
set_option maxRecDepth 20000 in
theorem wdX8_poke_1 : Cond.fieldLink RX8 8 "AgedLogModel" "disk" "[B" ∈ wsX8_poke := by decide +kernel
set_option maxRecDepth 20000 in
theorem wdX8_put_0 : Cond.fieldLink RX8 65 "AgedLogModel" "code" "I" ∈ wsX8_put := by decide +kernel
set_option maxRecDepth 20000 in
theorem wdX8_put_1 : Cond.fieldLink RX8 132 "AgedLogModel" "down" "Z" ∈ wsX8_put := by decide +kernel
set_option maxRecDepth 20000 in
theorem wdX8_put_2 : Cond.fieldLink RX8 129 "AgedLogModel" "handSize" "I" ∈ wsX8_put := by decide +kernel
set_option maxRecDepth 20000 in
theorem wdX8_put_3 : Cond.fieldLink RX8 140 "AgedLogModel" "clock" "I" ∈ wsX8_put := by decide +kernel
set_option maxRecDepth 20000 in
theorem wdX8_put_4 : Cond.fieldLink RX8 25 "AgedLogModel" "sequence" "I" ∈ wsX8_put := by decide +kernel
set_option maxRecDepth 20000 in
theorem wdX8_record_0 : Cond.fieldLink RX8 69 "AgedLogModel" "size" "I" ∈ wsX8_record := by decide +kernel
set_option maxRecDepth 20000 in
theorem wdX8_record_1 : Cond.fieldLink RX8 25 "AgedLogModel" "sequence" "I" ∈ wsX8_record := by decide +kernel
set_option maxRecDepth 20000 in
theorem wdX8_record_2 : Cond.fieldLink RX8 47 "AgedLogModel" "made" "[B" ∈ wsX8_record := by decide +kernel
set_option maxRecDepth 20000 in
theorem wdX8_record_3 : Cond.fieldLink RX8 29 "AgedLogModel" "kSegment" "[I" ∈ wsX8_record := by decide +kernel
set_option maxRecDepth 20000 in
theorem wdX8_record_4 : Cond.fieldLink RX8 87 "AgedLogModel" "open" "I" ∈ wsX8_record := by decide +kernel
set_option maxRecDepth 20000 in
theorem wdX8_record_5 : Cond.fieldLink RX8 32 "AgedLogModel" "kAt" "[I" ∈ wsX8_record := by decide +kernel
set_option maxRecDepth 20000 in
theorem wdX8_record_6 : Cond.fieldLink RX8 90 "AgedLogModel" "place" "I" ∈ wsX8_record := by decide +kernel
set_option maxRecDepth 20000 in
theorem wdX8_record_7 : Cond.fieldLink RX8 50 "AgedLogModel" "young" "[I" ∈ wsX8_record := by decide +kernel
set_option maxRecDepth 20000 in
theorem wdX8_record_8 : Cond.fieldLink RX8 14 "AgedLogModel" "memory" "[B" ∈ wsX8_record := by decide +kernel
set_option maxRecDepth 20000 in
theorem wdX8_remove_0 : Cond.fieldLink RX8 65 "AgedLogModel" "code" "I" ∈ wsX8_remove := by decide +kernel
set_option maxRecDepth 20000 in
theorem wdX8_remove_1 : Cond.fieldLink RX8 132 "AgedLogModel" "down" "Z" ∈ wsX8_remove := by decide +kernel
set_option maxRecDepth 20000 in
theorem wdX8_segment_0 : Cond.fieldLink RX8 65 "AgedLogModel" "code" "I" ∈ wsX8_segment := by decide +kernel
set_option maxRecDepth 20000 in
theorem wdX8_segment_1 : Cond.fieldLink RX8 132 "AgedLogModel" "down" "Z" ∈ wsX8_segment := by decide +kernel
set_option maxRecDepth 20000 in
theorem wdX8_segment_2 : Cond.fieldLink RX8 21 "AgedLogModel" "state" "[I" ∈ wsX8_segment := by decide +kernel
set_option maxRecDepth 20000 in
theorem wdX8_size_0 : Cond.fieldLink RX8 65 "AgedLogModel" "code" "I" ∈ wsX8_size := by decide +kernel
set_option maxRecDepth 20000 in
theorem wdX8_size_1 : Cond.fieldLink RX8 132 "AgedLogModel" "down" "Z" ∈ wsX8_size := by decide +kernel
set_option maxRecDepth 20000 in
theorem wdX8_start_0 : Cond.fieldLink RX8 65 "AgedLogModel" "code" "I" ∈ wsX8_start := by decide +kernel
set_option maxRecDepth 20000 in
theorem wdX8_start_1 : Cond.fieldLink RX8 132 "AgedLogModel" "down" "Z" ∈ wsX8_start := by decide +kernel
set_option maxRecDepth 20000 in
theorem wdX8_start_2 : Cond.fieldLink RX8 150 "AgedLogModel" "cutAt" "I" ∈ wsX8_start := by decide +kernel
set_option maxRecDepth 20000 in
theorem wdX8_start_3 : Cond.fieldLink RX8 104 "AgedLogModel" "dirty" "I" ∈ wsX8_start := by decide +kernel
set_option maxRecDepth 20000 in
theorem wdX8_start_4 : Cond.constant RX8 7 65536 ∈ wsX8_start := by decide +kernel
set_option maxRecDepth 20000 in
theorem wdX8_start_5 : Cond.fieldLink RX8 87 "AgedLogModel" "open" "I" ∈ wsX8_start := by decide +kernel
set_option maxRecDepth 20000 in
theorem wdX8_start_6 : Cond.fieldLink RX8 90 "AgedLogModel" "place" "I" ∈ wsX8_start := by decide +kernel
set_option maxRecDepth 20000 in
theorem wdX8_start_7 : Cond.fieldLink RX8 107 "AgedLogModel" "order" "I" ∈ wsX8_start := by decide +kernel
set_option maxRecDepth 20000 in
theorem wdX8_start_8 : Cond.fieldLink RX8 25 "AgedLogModel" "sequence" "I" ∈ wsX8_start := by decide +kernel
set_option maxRecDepth 20000 in
theorem wdX8_start_9 : Cond.fieldLink RX8 140 "AgedLogModel" "clock" "I" ∈ wsX8_start := by decide +kernel
set_option maxRecDepth 20000 in
theorem wdX8_start_10 : Cond.fieldLink RX8 166 "AgedLogModel" "number" "I" ∈ wsX8_start := by decide +kernel
set_option maxRecDepth 20000 in
theorem wdX8_start_11 : Cond.fieldLink RX8 62 "AgedLogModel" "turn" "I" ∈ wsX8_start := by decide +kernel
set_option maxRecDepth 20000 in
theorem wdX8_start_12 : Cond.fieldLink RX8 50 "AgedLogModel" "young" "[I" ∈ wsX8_start := by decide +kernel
set_option maxRecDepth 20000 in
theorem wdX8_start_13 : Cond.fieldLink RX8 21 "AgedLogModel" "state" "[I" ∈ wsX8_start := by decide +kernel
set_option maxRecDepth 20000 in
theorem wdX8_start_14 : Cond.fieldLink RX8 29 "AgedLogModel" "kSegment" "[I" ∈ wsX8_start := by decide +kernel
set_option maxRecDepth 20000 in
theorem wdX8_start_15 : Cond.fieldLink RX8 14 "AgedLogModel" "memory" "[B" ∈ wsX8_start := by decide +kernel
set_option maxRecDepth 20000 in
theorem wdX8_start_16 : Cond.fieldLink RX8 8 "AgedLogModel" "disk" "[B" ∈ wsX8_start := by decide +kernel
set_option maxRecDepth 20000 in
theorem wdX8_sum_0 : Cond.constant RX8 68 (-1640531535) ∈ wsX8_sum := by decide +kernel
set_option maxRecDepth 20000 in
theorem wdX8_sync_0 : Cond.fieldLink RX8 65 "AgedLogModel" "code" "I" ∈ wsX8_sync := by decide +kernel
set_option maxRecDepth 20000 in
theorem wdX8_sync_1 : Cond.fieldLink RX8 132 "AgedLogModel" "down" "Z" ∈ wsX8_sync := by decide +kernel
set_option maxRecDepth 20000 in
theorem wdX8_syncAll_0 : Cond.fieldLink RX8 104 "AgedLogModel" "dirty" "I" ∈ wsX8_syncAll := by decide +kernel
set_option maxRecDepth 20000 in
theorem wdX8_tick_0 : Cond.fieldLink RX8 65 "AgedLogModel" "code" "I" ∈ wsX8_tick := by decide +kernel
set_option maxRecDepth 20000 in
theorem wdX8_tick_1 : Cond.fieldLink RX8 132 "AgedLogModel" "down" "Z" ∈ wsX8_tick := by decide +kernel
set_option maxRecDepth 20000 in
theorem wdX8_tick_2 : Cond.constant RX8 185 100000 ∈ wsX8_tick := by decide +kernel
set_option maxRecDepth 20000 in
theorem wdX8_tick_3 : Cond.fieldLink RX8 140 "AgedLogModel" "clock" "I" ∈ wsX8_tick := by decide +kernel
set_option maxRecDepth 20000 in
theorem wdX8_told_0 : Cond.fieldLink RX8 65 "AgedLogModel" "code" "I" ∈ wsX8_told := by decide +kernel
set_option maxRecDepth 20000 in
theorem wdX8_told_1 : Cond.fieldLink RX8 132 "AgedLogModel" "down" "Z" ∈ wsX8_told := by decide +kernel
set_option maxRecDepth 20000 in
theorem wdX8_told_2 : Cond.fieldLink RX8 25 "AgedLogModel" "sequence" "I" ∈ wsX8_told := by decide +kernel
set_option maxRecDepth 20000 in
theorem wdX8_told_3 : Cond.fieldLink RX8 140 "AgedLogModel" "clock" "I" ∈ wsX8_told := by decide +kernel
set_option maxRecDepth 20000 in
theorem wdX8_told_4 : Cond.fieldLink RX8 87 "AgedLogModel" "open" "I" ∈ wsX8_told := by decide +kernel
set_option maxRecDepth 20000 in
theorem wdX8_told_5 : Cond.fieldLink RX8 104 "AgedLogModel" "dirty" "I" ∈ wsX8_told := by decide +kernel
set_option maxRecDepth 20000 in
theorem wdX8_told_6 : Cond.fieldLink RX8 166 "AgedLogModel" "number" "I" ∈ wsX8_told := by decide +kernel
set_option maxRecDepth 20000 in
theorem wdX8_told_7 : Cond.fieldLink RX8 153 "AgedLogModel" "sectors" "I" ∈ wsX8_told := by decide +kernel
set_option maxRecDepth 20000 in
theorem wdX8_value_0 : Cond.fieldLink RX8 65 "AgedLogModel" "code" "I" ∈ wsX8_value := by decide +kernel
set_option maxRecDepth 20000 in
theorem wdX8_value_1 : Cond.fieldLink RX8 132 "AgedLogModel" "down" "Z" ∈ wsX8_value := by decide +kernel
set_option maxRecDepth 20000 in
theorem wdX8_where_0 : Cond.fieldLink RX8 65 "AgedLogModel" "code" "I" ∈ wsX8_where := by decide +kernel
set_option maxRecDepth 20000 in
theorem wdX8_where_1 : Cond.fieldLink RX8 132 "AgedLogModel" "down" "Z" ∈ wsX8_where := by decide +kernel
set_option maxRecDepth 20000 in
theorem wdX8_write_0 : Cond.fieldLink RX8 150 "AgedLogModel" "cutAt" "I" ∈ wsX8_write := by decide +kernel
set_option maxRecDepth 20000 in
theorem wdX8_write_1 : Cond.fieldLink RX8 153 "AgedLogModel" "sectors" "I" ∈ wsX8_write := by decide +kernel
set_option maxRecDepth 20000 in
theorem wdX8_write_2 : Cond.fieldLink RX8 132 "AgedLogModel" "down" "Z" ∈ wsX8_write := by decide +kernel
set_option maxRecDepth 20000 in
theorem wdX8_write_3 : Cond.fieldLink RX8 17 "AgedLogModel" "torn" "[Z" ∈ wsX8_write := by decide +kernel
set_option maxRecDepth 20000 in
theorem wdX8_write_4 : Cond.fieldLink RX8 8 "AgedLogModel" "disk" "[B" ∈ wsX8_write := by decide +kernel
theorem dvX0 : ∀ j, j < 6 → defaultValue (tyX0 j) = vp_V [.null, .null, .null, .null, .null, .int 0] j := by
  intro j hj
  rcases (show j = 0 ∨ j = 1 ∨ j = 2 ∨ j = 3 ∨ j = 4 ∨ j = 5 by omega) with rfl | rfl | rfl | rfl | rfl | rfl <;> rfl
theorem dvX1 : ∀ j, j < 5 → defaultValue (tyX1 j) = vp_V [.null, .null, .int 0, .int 0, .int 0] j := by
  intro j hj
  rcases (show j = 0 ∨ j = 1 ∨ j = 2 ∨ j = 3 ∨ j = 4 by omega) with rfl | rfl | rfl | rfl | rfl <;> rfl
theorem dvX2 : ∀ j, j < 3 → defaultValue (tyX2 j) = vp_V [.null, .null, .int 0] j := by
  intro j hj
  rcases (show j = 0 ∨ j = 1 ∨ j = 2 by omega) with rfl | rfl | rfl <;> rfl
theorem dvX3 : ∀ j, j < 14 → defaultValue (tyX3 j) = vp_V [.null, .null, .null, .null, .null, .null, .null, .null, .int 0, .int 0, .int 0, .int 0, .int 0, .int 0] j := by
  intro j hj
  rcases (show j = 0 ∨ j = 1 ∨ j = 2 ∨ j = 3 ∨ j = 4 ∨ j = 5 ∨ j = 6 ∨ j = 7 ∨ j = 8 ∨ j = 9 ∨ j = 10 ∨ j = 11 ∨ j = 12 ∨ j = 13 by omega) with rfl | rfl | rfl | rfl | rfl | rfl | rfl | rfl | rfl | rfl | rfl | rfl | rfl | rfl <;> rfl
theorem dvX5 : ∀ j, j < 4 → defaultValue (tyX5 j) = vp_V [.null, .null, .null, .null] j := by
  intro j hj
  rcases (show j = 0 ∨ j = 1 ∨ j = 2 ∨ j = 3 by omega) with rfl | rfl | rfl | rfl <;> rfl
theorem dvX6 : ∀ j, j < 6 → defaultValue (tyX6 j) = vp_V [.null, .null, .null, .null, .int 0, .int 0] j := by
  intro j hj
  rcases (show j = 0 ∨ j = 1 ∨ j = 2 ∨ j = 3 ∨ j = 4 ∨ j = 5 by omega) with rfl | rfl | rfl | rfl | rfl | rfl <;> rfl
theorem dvX7 : ∀ j, j < 9 → defaultValue (tyX7 j) = vp_V [.null, .null, .null, .null, .null, .null, .null, .int 0, .int 0] j := by
  intro j hj
  rcases (show j = 0 ∨ j = 1 ∨ j = 2 ∨ j = 3 ∨ j = 4 ∨ j = 5 ∨ j = 6 ∨ j = 7 ∨ j = 8 by omega) with rfl | rfl | rfl | rfl | rfl | rfl | rfl | rfl | rfl <;> rfl
theorem dvX8 : ∀ j, j < 30 → defaultValue (tyX8 j) = vp_V [.int 0, .int 0, .null, .null, .null, .null, .int 0, .int 0, .int 0, .int 0, .int 0, .int 0, .int 0, .int 0, .int 0, .int 0, .null, .null, .int 0, .null, .null, .null, .null, .int 0, .null, .int 0, .null, .null, .null, .null] j := by
  intro j hj
  rcases (show j = 0 ∨ j = 1 ∨ j = 2 ∨ j = 3 ∨ j = 4 ∨ j = 5 ∨ j = 6 ∨ j = 7 ∨ j = 8 ∨ j = 9 ∨ j = 10 ∨ j = 11 ∨ j = 12 ∨ j = 13 ∨ j = 14 ∨ j = 15 ∨ j = 16 ∨ j = 17 ∨ j = 18 ∨ j = 19 ∨ j = 20 ∨ j = 21 ∨ j = 22 ∨ j = 23 ∨ j = 24 ∨ j = 25 ∨ j = 26 ∨ j = 27 ∨ j = 28 ∨ j = 29 by omega) with rfl | rfl | rfl | rfl | rfl | rfl | rfl | rfl | rfl | rfl | rfl | rfl | rfl | rfl | rfl | rfl | rfl | rfl | rfl | rfl | rfl | rfl | rfl | rfl | rfl | rfl | rfl | rfl | rfl | rfl <;> rfl
