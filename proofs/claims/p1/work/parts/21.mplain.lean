theorem dX18_put_0 : decode cX18_put 0 = .ok (.aload_n 0, 1) := by decide +kernel
theorem dX18_put_1 : decode cX18_put 1 = .ok (.iload_n 1, 1) := by decide +kernel
theorem dX18_put_2 : decode cX18_put 2 = .ok (.iload_n 2, 1) := by decide +kernel
theorem dX18_put_3 : decode cX18_put 3 = .ok (.iload_n 3, 1) := by decide +kernel
theorem dX18_put_4 : decode cX18_put 4 = .ok (.invokevirtual 117, 3) := by decide +kernel
theorem dX18_put_7 : decode cX18_put 7 = .ok (.ifCond .eq 6, 3) := by decide +kernel
theorem dX18_put_10 : decode cX18_put 10 = .ok (.bipush 32, 2) := by decide +kernel
theorem dX18_put_12 : decode cX18_put 12 = .ok (.ireturn, 1) := by decide +kernel
theorem dX18_fill_0 : decode cX18_fill 0 = .ok (.aload_n 0, 1) := by decide +kernel
theorem dX18_fill_1 : decode cX18_fill 1 = .ok (.iload_n 1, 1) := by decide +kernel
theorem dX18_fill_2 : decode cX18_fill 2 = .ok (.iload_n 2, 1) := by decide +kernel
theorem dX18_fill_3 : decode cX18_fill 3 = .ok (.iload_n 3, 1) := by decide +kernel
theorem dX18_fill_4 : decode cX18_fill 4 = .ok (.invokevirtual 117, 3) := by decide +kernel
theorem dX18_fill_7 : decode cX18_fill 7 = .ok (.ifCond .eq 5, 3) := by decide +kernel
theorem dX18_fill_10 : decode cX18_fill 10 = .ok (.iconst 0, 1) := by decide +kernel
theorem dX18_fill_11 : decode cX18_fill 11 = .ok (.ireturn, 1) := by decide +kernel
theorem dX18_tile_0 : decode cX18_tile 0 = .ok (.aload_n 0, 1) := by decide +kernel
theorem dX18_tile_1 : decode cX18_tile 1 = .ok (.iload_n 1, 1) := by decide +kernel
theorem dX18_tile_2 : decode cX18_tile 2 = .ok (.iload_n 2, 1) := by decide +kernel
theorem dX18_tile_3 : decode cX18_tile 3 = .ok (.iload_n 3, 1) := by decide +kernel
theorem dX18_tile_4 : decode cX18_tile 4 = .ok (.invokevirtual 117, 3) := by decide +kernel
theorem dX18_tile_7 : decode cX18_tile 7 = .ok (.ifCond .eq 8, 3) := by decide +kernel
theorem dX18_tile_10 : decode cX18_tile 10 = .ok (.bipush 32, 2) := by decide +kernel
theorem dX18_tile_12 : decode cX18_tile 12 = .ok (.goto 19, 3) := by decide +kernel
theorem dX18_tile_31 : decode cX18_tile 31 = .ok (.ireturn, 1) := by decide +kernel
theorem dX18_start_0 : decode cX18_start 0 = .ok (.aload_n 0, 1) := by decide +kernel
theorem dX18_start_1 : decode cX18_start 1 = .ok (.iload_n 1, 1) := by decide +kernel
theorem dX18_start_2 : decode cX18_start 2 = .ok (.iload_n 2, 1) := by decide +kernel
theorem dX18_start_3 : decode cX18_start 3 = .ok (.iload_n 3, 1) := by decide +kernel
theorem dX18_start_4 : decode cX18_start 4 = .ok (.invokevirtual 117, 3) := by decide +kernel
theorem dX18_start_7 : decode cX18_start 7 = .ok (.ifCond .eq 5, 3) := by decide +kernel
theorem dX18_start_10 : decode cX18_start 10 = .ok (.iconst 0, 1) := by decide +kernel
theorem dX18_start_11 : decode cX18_start 11 = .ok (.ireturn, 1) := by decide +kernel
theorem dX18_guard_0 : decode cX18_guard 0 = .ok (.aload_n 0, 1) := by decide +kernel
theorem dX18_guard_1 : decode cX18_guard 1 = .ok (.iload_n 1, 1) := by decide +kernel
theorem dX18_guard_2 : decode cX18_guard 2 = .ok (.iload_n 2, 1) := by decide +kernel
theorem dX18_guard_3 : decode cX18_guard 3 = .ok (.iload 4, 2) := by decide +kernel
theorem dX18_guard_5 : decode cX18_guard 5 = .ok (.invokevirtual 117, 3) := by decide +kernel
theorem dX18_guard_8 : decode cX18_guard 8 = .ok (.ifCond .eq 5, 3) := by decide +kernel
theorem dX18_guard_11 : decode cX18_guard 11 = .ok (.iconst 0, 1) := by decide +kernel
theorem dX18_guard_12 : decode cX18_guard 12 = .ok (.ireturn, 1) := by decide +kernel
theorem dX18_guardAt_0 : decode cX18_guardAt 0 = .ok (.aload_n 0, 1) := by decide +kernel
theorem dX18_guardAt_1 : decode cX18_guardAt 1 = .ok (.iload_n 1, 1) := by decide +kernel
theorem dX18_guardAt_2 : decode cX18_guardAt 2 = .ok (.invokevirtual 151, 3) := by decide +kernel
theorem dX18_guardAt_5 : decode cX18_guardAt 5 = .ok (.ifCond .eq 5, 3) := by decide +kernel
theorem dX18_guardAt_8 : decode cX18_guardAt 8 = .ok (.iconst 0, 1) := by decide +kernel
theorem dX18_guardAt_9 : decode cX18_guardAt 9 = .ok (.ireturn, 1) := by decide +kernel
theorem dX18_copy_0 : decode cX18_copy 0 = .ok (.aload_n 0, 1) := by decide +kernel
theorem dX18_copy_1 : decode cX18_copy 1 = .ok (.iload_n 1, 1) := by decide +kernel
theorem dX18_copy_2 : decode cX18_copy 2 = .ok (.invokevirtual 151, 3) := by decide +kernel
theorem dX18_copy_5 : decode cX18_copy 5 = .ok (.ifCond .eq 5, 3) := by decide +kernel
theorem dX18_copy_8 : decode cX18_copy 8 = .ok (.iconst 0, 1) := by decide +kernel
theorem dX18_copy_9 : decode cX18_copy 9 = .ok (.ireturn, 1) := by decide +kernel
theorem dX18_grow_0 : decode cX18_grow 0 = .ok (.aload_n 0, 1) := by decide +kernel
theorem dX18_grow_1 : decode cX18_grow 1 = .ok (.iload_n 1, 1) := by decide +kernel
theorem dX18_grow_2 : decode cX18_grow 2 = .ok (.invokevirtual 151, 3) := by decide +kernel
theorem dX18_grow_5 : decode cX18_grow 5 = .ok (.ifCond .eq 5, 3) := by decide +kernel
theorem dX18_grow_8 : decode cX18_grow 8 = .ok (.iconst 0, 1) := by decide +kernel
theorem dX18_grow_9 : decode cX18_grow 9 = .ok (.ireturn, 1) := by decide +kernel
theorem dX18_isWinnable_0 : decode cX18_isWinnable 0 = .ok (.aload_n 0, 1) := by decide +kernel
theorem dX18_isWinnable_1 : decode cX18_isWinnable 1 = .ok (.iload_n 1, 1) := by decide +kernel
theorem dX18_isWinnable_2 : decode cX18_isWinnable 2 = .ok (.invokevirtual 151, 3) := by decide +kernel
theorem dX18_isWinnable_5 : decode cX18_isWinnable 5 = .ok (.ifCond .ne 18, 3) := by decide +kernel
theorem dX18_isWinnable_23 : decode cX18_isWinnable 23 = .ok (.iconst 0, 1) := by decide +kernel
theorem dX18_isWinnable_24 : decode cX18_isWinnable 24 = .ok (.ireturn, 1) := by decide +kernel
theorem dX18_frames_0 : decode cX18_frames 0 = .ok (.aload_n 0, 1) := by decide +kernel
theorem dX18_frames_1 : decode cX18_frames 1 = .ok (.iload_n 1, 1) := by decide +kernel
theorem dX18_frames_2 : decode cX18_frames 2 = .ok (.invokevirtual 188, 3) := by decide +kernel
theorem dX18_frames_5 : decode cX18_frames 5 = .ok (.astore_n 2, 1) := by decide +kernel
theorem dX18_frames_6 : decode cX18_frames 6 = .ok (.aload_n 2, 1) := by decide +kernel
theorem dX18_frames_7 : decode cX18_frames 7 = .ok (.ifnonnull 7, 3) := by decide +kernel
theorem dX18_frames_10 : decode cX18_frames 10 = .ok (.iconst 0, 1) := by decide +kernel
theorem dX18_frames_11 : decode cX18_frames 11 = .ok (.goto 7, 3) := by decide +kernel
theorem dX18_frames_18 : decode cX18_frames 18 = .ok (.ireturn, 1) := by decide +kernel
theorem dX18_routeAt_0 : decode cX18_routeAt 0 = .ok (.aload_n 0, 1) := by decide +kernel
theorem dX18_routeAt_1 : decode cX18_routeAt 1 = .ok (.iload_n 1, 1) := by decide +kernel
theorem dX18_routeAt_2 : decode cX18_routeAt 2 = .ok (.invokevirtual 188, 3) := by decide +kernel
theorem dX18_routeAt_5 : decode cX18_routeAt 5 = .ok (.astore_n 3, 1) := by decide +kernel
theorem dX18_routeAt_6 : decode cX18_routeAt 6 = .ok (.aload_n 3, 1) := by decide +kernel
theorem dX18_routeAt_7 : decode cX18_routeAt 7 = .ok (.ifnonnull 5, 3) := by decide +kernel
theorem dX18_routeAt_10 : decode cX18_routeAt 10 = .ok (.iconst 0, 1) := by decide +kernel
theorem dX18_routeAt_11 : decode cX18_routeAt 11 = .ok (.ireturn, 1) := by decide +kernel
theorem dX18_states_0 : decode cX18_states 0 = .ok (.aload_n 0, 1) := by decide +kernel
theorem dX18_states_1 : decode cX18_states 1 = .ok (.iload_n 1, 1) := by decide +kernel
theorem dX18_states_2 : decode cX18_states 2 = .ok (.invokevirtual 151, 3) := by decide +kernel
theorem dX18_states_5 : decode cX18_states 5 = .ok (.ifCond .eq 7, 3) := by decide +kernel
theorem dX18_states_8 : decode cX18_states 8 = .ok (.iconst 0, 1) := by decide +kernel
theorem dX18_states_9 : decode cX18_states 9 = .ok (.goto 11, 3) := by decide +kernel
theorem dX18_states_20 : decode cX18_states 20 = .ok (.ireturn, 1) := by decide +kernel
theorem dX18_framesTo_0 : decode cX18_framesTo 0 = .ok (.aload_n 0, 1) := by decide +kernel
theorem dX18_framesTo_1 : decode cX18_framesTo 1 = .ok (.iload_n 1, 1) := by decide +kernel
theorem dX18_framesTo_2 : decode cX18_framesTo 2 = .ok (.iload_n 2, 1) := by decide +kernel
theorem dX18_framesTo_3 : decode cX18_framesTo 3 = .ok (.iload_n 3, 1) := by decide +kernel
theorem dX18_framesTo_4 : decode cX18_framesTo 4 = .ok (.invokevirtual 117, 3) := by decide +kernel
theorem dX18_framesTo_7 : decode cX18_framesTo 7 = .ok (.ifCond .eq 5, 3) := by decide +kernel
theorem dX18_framesTo_10 : decode cX18_framesTo 10 = .ok (.iconst 0, 1) := by decide +kernel
theorem dX18_framesTo_11 : decode cX18_framesTo 11 = .ok (.ireturn, 1) := by decide +kernel
theorem dX18_softLocks_0 : decode cX18_softLocks 0 = .ok (.aload_n 0, 1) := by decide +kernel
theorem dX18_softLocks_1 : decode cX18_softLocks 1 = .ok (.iload_n 1, 1) := by decide +kernel
theorem dX18_softLocks_2 : decode cX18_softLocks 2 = .ok (.invokevirtual 151, 3) := by decide +kernel
theorem dX18_softLocks_5 : decode cX18_softLocks 5 = .ok (.ifCond .eq 7, 3) := by decide +kernel
theorem dX18_softLocks_8 : decode cX18_softLocks 8 = .ok (.iconst 0, 1) := by decide +kernel
theorem dX18_softLocks_9 : decode cX18_softLocks 9 = .ok (.goto 11, 3) := by decide +kernel
theorem dX18_softLocks_20 : decode cX18_softLocks 20 = .ok (.ireturn, 1) := by decide +kernel
theorem dX18_softLockAt_0 : decode cX18_softLockAt 0 = .ok (.aload_n 0, 1) := by decide +kernel
theorem dX18_softLockAt_1 : decode cX18_softLockAt 1 = .ok (.iload_n 1, 1) := by decide +kernel
theorem dX18_softLockAt_2 : decode cX18_softLockAt 2 = .ok (.invokevirtual 151, 3) := by decide +kernel
theorem dX18_softLockAt_5 : decode cX18_softLockAt 5 = .ok (.ifCond .eq 5, 3) := by decide +kernel
theorem dX18_softLockAt_8 : decode cX18_softLockAt 8 = .ok (.iconst 0, 1) := by decide +kernel
theorem dX18_softLockAt_9 : decode cX18_softLockAt 9 = .ok (.ireturn, 1) := by decide +kernel
theorem dX18_ways_0 : decode cX18_ways 0 = .ok (.aload_n 0, 1) := by decide +kernel
theorem dX18_ways_1 : decode cX18_ways 1 = .ok (.iload_n 1, 1) := by decide +kernel
theorem dX18_ways_2 : decode cX18_ways 2 = .ok (.invokevirtual 151, 3) := by decide +kernel
theorem dX18_ways_5 : decode cX18_ways 5 = .ok (.ifCond .eq 7, 3) := by decide +kernel
theorem dX18_ways_8 : decode cX18_ways 8 = .ok (.iconst 0, 1) := by decide +kernel
theorem dX18_ways_9 : decode cX18_ways 9 = .ok (.goto 14, 3) := by decide +kernel
theorem dX18_ways_23 : decode cX18_ways 23 = .ok (.ireturn, 1) := by decide +kernel
theorem dX18_isNeeded_0 : decode cX18_isNeeded 0 = .ok (.aload_n 0, 1) := by decide +kernel
theorem dX18_isNeeded_1 : decode cX18_isNeeded 1 = .ok (.iload_n 1, 1) := by decide +kernel
theorem dX18_isNeeded_2 : decode cX18_isNeeded 2 = .ok (.invokevirtual 151, 3) := by decide +kernel
theorem dX18_isNeeded_5 : decode cX18_isNeeded 5 = .ok (.ifCond .eq 5, 3) := by decide +kernel
theorem dX18_isNeeded_8 : decode cX18_isNeeded 8 = .ok (.iconst 0, 1) := by decide +kernel
theorem dX18_isNeeded_9 : decode cX18_isNeeded 9 = .ok (.ireturn, 1) := by decide +kernel
theorem dX18_isWinnableWith_0 : decode cX18_isWinnableWith 0 = .ok (.aload_n 0, 1) := by decide +kernel
theorem dX18_isWinnableWith_1 : decode cX18_isWinnableWith 1 = .ok (.iload_n 1, 1) := by decide +kernel
theorem dX18_isWinnableWith_2 : decode cX18_isWinnableWith 2 = .ok (.invokevirtual 151, 3) := by decide +kernel
theorem dX18_isWinnableWith_5 : decode cX18_isWinnableWith 5 = .ok (.ifCond .eq 5, 3) := by decide +kernel
theorem dX18_isWinnableWith_8 : decode cX18_isWinnableWith 8 = .ok (.iconst 0, 1) := by decide +kernel
theorem dX18_isWinnableWith_9 : decode cX18_isWinnableWith 9 = .ok (.ireturn, 1) := by decide +kernel
theorem dX18_mend_0 : decode cX18_mend 0 = .ok (.aload_n 0, 1) := by decide +kernel
theorem dX18_mend_1 : decode cX18_mend 1 = .ok (.iload_n 1, 1) := by decide +kernel
theorem dX18_mend_2 : decode cX18_mend 2 = .ok (.invokevirtual 151, 3) := by decide +kernel
theorem dX18_mend_5 : decode cX18_mend 5 = .ok (.ifCond .eq 5, 3) := by decide +kernel
theorem dX18_mend_8 : decode cX18_mend 8 = .ok (.iconst 0, 1) := by decide +kernel
theorem dX18_mend_9 : decode cX18_mend 9 = .ok (.ireturn, 1) := by decide +kernel
theorem dX18_mendAt_0 : decode cX18_mendAt 0 = .ok (.aload_n 0, 1) := by decide +kernel
theorem dX18_mendAt_1 : decode cX18_mendAt 1 = .ok (.iload_n 1, 1) := by decide +kernel
theorem dX18_mendAt_2 : decode cX18_mendAt 2 = .ok (.invokevirtual 151, 3) := by decide +kernel
theorem dX18_mendAt_5 : decode cX18_mendAt 5 = .ok (.ifCond .eq 5, 3) := by decide +kernel
theorem dX18_mendAt_8 : decode cX18_mendAt 8 = .ok (.iconst 0, 1) := by decide +kernel
theorem dX18_mendAt_9 : decode cX18_mendAt 9 = .ok (.ireturn, 1) := by decide +kernel
theorem dX18_rests_0 : decode cX18_rests 0 = .ok (.aload_n 0, 1) := by decide +kernel
theorem dX18_rests_1 : decode cX18_rests 1 = .ok (.iload_n 1, 1) := by decide +kernel
theorem dX18_rests_2 : decode cX18_rests 2 = .ok (.invokevirtual 188, 3) := by decide +kernel
theorem dX18_rests_5 : decode cX18_rests 5 = .ok (.ifnonnull 5, 3) := by decide +kernel
theorem dX18_rests_8 : decode cX18_rests 8 = .ok (.iconst 0, 1) := by decide +kernel
theorem dX18_rests_9 : decode cX18_rests 9 = .ok (.ireturn, 1) := by decide +kernel
theorem dX18_longestAir_0 : decode cX18_longestAir 0 = .ok (.aload_n 0, 1) := by decide +kernel
theorem dX18_longestAir_1 : decode cX18_longestAir 1 = .ok (.iload_n 1, 1) := by decide +kernel
theorem dX18_longestAir_2 : decode cX18_longestAir 2 = .ok (.invokevirtual 188, 3) := by decide +kernel
theorem dX18_longestAir_5 : decode cX18_longestAir 5 = .ok (.ifnonnull 5, 3) := by decide +kernel
theorem dX18_longestAir_8 : decode cX18_longestAir 8 = .ok (.iconst 0, 1) := by decide +kernel
theorem dX18_longestAir_9 : decode cX18_longestAir 9 = .ok (.ireturn, 1) := by decide +kernel
theorem dX18_play_0 : decode cX18_play 0 = .ok (.aload_n 0, 1) := by decide +kernel
theorem dX18_play_1 : decode cX18_play 1 = .ok (.iload_n 1, 1) := by decide +kernel
theorem dX18_play_2 : decode cX18_play 2 = .ok (.invokevirtual 151, 3) := by decide +kernel
theorem dX18_play_5 : decode cX18_play 5 = .ok (.ifCond .eq 5, 3) := by decide +kernel
theorem dX18_play_8 : decode cX18_play 8 = .ok (.iconst 0, 1) := by decide +kernel
theorem dX18_play_9 : decode cX18_play 9 = .ok (.ireturn, 1) := by decide +kernel
theorem dX18_length_0 : decode cX18_length 0 = .ok (.aload_n 0, 1) := by decide +kernel
theorem dX18_length_1 : decode cX18_length 1 = .ok (.iload_n 1, 1) := by decide +kernel
theorem dX18_length_2 : decode cX18_length 2 = .ok (.invokevirtual 308, 3) := by decide +kernel
theorem dX18_length_5 : decode cX18_length 5 = .ok (.ifCond .eq 7, 3) := by decide +kernel
theorem dX18_length_8 : decode cX18_length 8 = .ok (.iconst 0, 1) := by decide +kernel
theorem dX18_length_9 : decode cX18_length 9 = .ok (.goto 18, 3) := by decide +kernel
theorem dX18_length_27 : decode cX18_length 27 = .ok (.ireturn, 1) := by decide +kernel
theorem dX18_replay_0 : decode cX18_replay 0 = .ok (.aload_n 0, 1) := by decide +kernel
theorem dX18_replay_1 : decode cX18_replay 1 = .ok (.iload_n 1, 1) := by decide +kernel
theorem dX18_replay_2 : decode cX18_replay 2 = .ok (.invokevirtual 308, 3) := by decide +kernel
theorem dX18_replay_5 : decode cX18_replay 5 = .ok (.ifCond .eq 6, 3) := by decide +kernel
theorem dX18_replay_8 : decode cX18_replay 8 = .ok (.bipush 32, 2) := by decide +kernel
theorem dX18_replay_10 : decode cX18_replay 10 = .ok (.ireturn, 1) := by decide +kernel
theorem dX18_isTrue_0 : decode cX18_isTrue 0 = .ok (.aload_n 0, 1) := by decide +kernel
theorem dX18_isTrue_1 : decode cX18_isTrue 1 = .ok (.iload_n 1, 1) := by decide +kernel
theorem dX18_isTrue_2 : decode cX18_isTrue 2 = .ok (.invokevirtual 308, 3) := by decide +kernel
theorem dX18_isTrue_5 : decode cX18_isTrue 5 = .ok (.ifCond .eq 5, 3) := by decide +kernel
theorem dX18_isTrue_8 : decode cX18_isTrue 8 = .ok (.iconst 0, 1) := by decide +kernel
theorem dX18_isTrue_9 : decode cX18_isTrue 9 = .ok (.ireturn, 1) := by decide +kernel
theorem dX18_isPatched_0 : decode cX18_isPatched 0 = .ok (.aload_n 0, 1) := by decide +kernel
theorem dX18_isPatched_1 : decode cX18_isPatched 1 = .ok (.iload_n 1, 1) := by decide +kernel
theorem dX18_isPatched_2 : decode cX18_isPatched 2 = .ok (.invokevirtual 308, 3) := by decide +kernel
theorem dX18_isPatched_5 : decode cX18_isPatched 5 = .ok (.ifCond .ne 51, 3) := by decide +kernel
theorem dX18_isPatched_56 : decode cX18_isPatched 56 = .ok (.iconst 0, 1) := by decide +kernel
theorem dX18_isPatched_57 : decode cX18_isPatched 57 = .ok (.ireturn, 1) := by decide +kernel
theorem dX18_ghost_0 : decode cX18_ghost 0 = .ok (.aload_n 0, 1) := by decide +kernel
theorem dX18_ghost_1 : decode cX18_ghost 1 = .ok (.iload_n 1, 1) := by decide +kernel
theorem dX18_ghost_2 : decode cX18_ghost 2 = .ok (.invokevirtual 308, 3) := by decide +kernel
theorem dX18_ghost_5 : decode cX18_ghost 5 = .ok (.ifCond .eq 5, 3) := by decide +kernel
theorem dX18_ghost_8 : decode cX18_ghost 8 = .ok (.iconst 0, 1) := by decide +kernel
theorem dX18_ghost_9 : decode cX18_ghost 9 = .ok (.ireturn, 1) := by decide +kernel
theorem dX18_bot_0 : decode cX18_bot 0 = .ok (.aload_n 0, 1) := by decide +kernel
theorem dX18_bot_1 : decode cX18_bot 1 = .ok (.iload_n 1, 1) := by decide +kernel
theorem dX18_bot_2 : decode cX18_bot 2 = .ok (.invokevirtual 151, 3) := by decide +kernel
theorem dX18_bot_5 : decode cX18_bot 5 = .ok (.ifCond .eq 5, 3) := by decide +kernel
theorem dX18_bot_8 : decode cX18_bot 8 = .ok (.iconst 0, 1) := by decide +kernel
theorem dX18_bot_9 : decode cX18_bot 9 = .ok (.ireturn, 1) := by decide +kernel
theorem dX18_isStolen_0 : decode cX18_isStolen 0 = .ok (.aload_n 0, 1) := by decide +kernel
theorem dX18_isStolen_1 : decode cX18_isStolen 1 = .ok (.iload_n 1, 1) := by decide +kernel
theorem dX18_isStolen_2 : decode cX18_isStolen 2 = .ok (.invokevirtual 151, 3) := by decide +kernel
theorem dX18_isStolen_5 : decode cX18_isStolen 5 = .ok (.ifCond .eq 5, 3) := by decide +kernel
theorem dX18_isStolen_8 : decode cX18_isStolen 8 = .ok (.iconst 0, 1) := by decide +kernel
theorem dX18_isStolen_9 : decode cX18_isStolen 9 = .ok (.ireturn, 1) := by decide +kernel
theorem dX18_checksum_0 : decode cX18_checksum 0 = .ok (.aload_n 0, 1) := by decide +kernel
theorem dX18_checksum_1 : decode cX18_checksum 1 = .ok (.iload_n 1, 1) := by decide +kernel
theorem dX18_checksum_2 : decode cX18_checksum 2 = .ok (.invokevirtual 151, 3) := by decide +kernel
theorem dX18_checksum_5 : decode cX18_checksum 5 = .ok (.ifCond .eq 5, 3) := by decide +kernel
theorem dX18_checksum_8 : decode cX18_checksum 8 = .ok (.lconst 0, 1) := by decide +kernel
theorem dX18_checksum_9 : decode cX18_checksum 9 = .ok (.lreturn, 1) := by decide +kernel
theorem dX18_stuckShare_0 : decode cX18_stuckShare 0 = .ok (.aload_n 0, 1) := by decide +kernel
theorem dX18_stuckShare_1 : decode cX18_stuckShare 1 = .ok (.iload_n 1, 1) := by decide +kernel
theorem dX18_stuckShare_2 : decode cX18_stuckShare 2 = .ok (.invokevirtual 151, 3) := by decide +kernel
theorem dX18_stuckShare_5 : decode cX18_stuckShare 5 = .ok (.ifCond .eq 7, 3) := by decide +kernel
theorem dX18_stuckShare_8 : decode cX18_stuckShare 8 = .ok (.fconst 0, 1) := by decide +kernel
theorem dX18_stuckShare_9 : decode cX18_stuckShare 9 = .ok (.goto 22, 3) := by decide +kernel
theorem dX18_stuckShare_31 : decode cX18_stuckShare 31 = .ok (.freturn, 1) := by decide +kernel
theorem dX18_meanLeft_0 : decode cX18_meanLeft 0 = .ok (.aload_n 0, 1) := by decide +kernel
theorem dX18_meanLeft_1 : decode cX18_meanLeft 1 = .ok (.iload_n 1, 1) := by decide +kernel
theorem dX18_meanLeft_2 : decode cX18_meanLeft 2 = .ok (.invokevirtual 188, 3) := by decide +kernel
theorem dX18_meanLeft_5 : decode cX18_meanLeft 5 = .ok (.astore_n 2, 1) := by decide +kernel
theorem dX18_meanLeft_6 : decode cX18_meanLeft 6 = .ok (.aload_n 2, 1) := by decide +kernel
theorem dX18_meanLeft_7 : decode cX18_meanLeft 7 = .ok (.ifnonnull 5, 3) := by decide +kernel
theorem dX18_meanLeft_10 : decode cX18_meanLeft 10 = .ok (.dconst 0, 1) := by decide +kernel
theorem dX18_meanLeft_11 : decode cX18_meanLeft 11 = .ok (.dreturn, 1) := by decide +kernel
set_option maxHeartbeats 4000000 in
set_option maxRecDepth 100000 in
theorem c_X18_put (l : Launch) (dC : Nat → ClassId) (dI : Nat → Nat → Nat) (de : Nat) (om : Nat) (mt : Nat) (qu : Nat) (lv : Nat) (mi : Nat) (ml : Nat) (mss : Nat) (rn : Nat) (sw : Nat) (mf : Nat) (msp : Nat) (cS : ClassId) (cF : ClassId) (th : Int32) (a1 : Int32) (a2 : Int32) (a3 : Int32) (a4 : Int32) (sz : Nat) : Met l yX18_put (.code yX18_put cX18_put 7 (some .char) :: wsL_law) { frames := 2, cells := 0, slots := 0, locals := 45 } (va_Pc [.ref om, .int a1, .int a2, .int a3, .int a4] (PW dC dI de [(cS, .int), (cF, .int)] (WM om mt qu lv mi ml mss rn sw mf msp cS cF th de) sz)) (va_Qi (fun (r : Int32) (u : Unit) => True) (fun (_ : Unit) (t : State) => QW dC dI [(cS, .int), (cF, .int)] (WM om mt qu lv mi ml mss rn sw mf msp cS cF 1 de) (va_A (WM om mt qu lv mi ml mss rn sw mf msp cS cF th de) sz) t) (va_A (WM om mt qu lv mi ml mss rn sw mf msp cS cF th de) sz)) 0 0 (va_A (WM om mt qu lv mi ml mss rn sw mf msp cS cF th de) sz) := by
  refine Met.ofW (cc := cX18_put) (maxL := 7) (ret := (some .char)) (by decide) rfl ?_
  intro p e s m args below meth c s₁ B hml hv
  obtain ⟨rfl, hsz, hP, hK, hD0, hG⟩ := hv
  have hx := B.exec
  have hb := B.bytes
  have hr := B.returns
  have hts := atoms_spec (ws := .code yX18_put cX18_put 7 (some .char) :: wsL_law) B.pre
  have ht : ∀ w ∈ wsL_law, w.before _ s = true := fun w h => hts w (List.mem_cons_of_mem _ h)
  have hown : s.vm.findClass RX18 = some m.cls := findClass_of_methodNamed B.named
  have hlocks := B.notSynchronized
  subst hsz
  have hD := hD0.self (sz := s.heap.size)
  generalize hAe : va_A (WM om mt qu lv mi ml mss rn sw mf msp cS cF th de) s.heap.size = A at hD hG ⊢
  have hA : ∀ q : Nat, s.heap.size ≤ q → A q := fun q h => by rw [← hAe]; exact Or.inr h
  have hS : va_S A s.heap s.heap [] := va_S.rf
  have hP : va_P (dC, dI) vwCl [(om, .inr (20, [.ref mt, .ref qu, .int 0, .int th, .ref lv, .int (-1), .int 0, .int 0, .ref mi, .int 0, .int 0, .int 0, .int 0, .ref ml, .ref mss, .ref rn, .ref sw, .ref mf, .null, .int 0, .ref msp, .int 0, .int 0, .int 0])), (lv, .inr (1, [.int 0, .ref de, .int 0])), (rn, .inr (1, [.int 0, .ref de, .int 0])), (sw, .inr (1, [.int 0, .ref de, .int 0])), (ml, .inl (cS, 6, .inl (slotF))), (mf, .inl (cF, 96, .inl (fun _ => 0)))] s.heap := hP
  have hD : va_D A [(om, .inr (20, [.ref mt, .ref qu, .int 0, .int th, .ref lv, .int (-1), .int 0, .int 0, .ref mi, .int 0, .int 0, .int 0, .int 0, .ref ml, .ref mss, .ref rn, .ref sw, .ref mf, .null, .int 0, .ref msp, .int 0, .int 0, .int 0])), (lv, .inr (1, [.int 0, .ref de, .int 0])), (rn, .inr (1, [.int 0, .ref de, .int 0])), (sw, .inr (1, [.int 0, .ref de, .int 0])), (ml, .inl (cS, 6, .inl (slotF))), (mf, .inl (cF, 96, .inl (fun _ => 0)))] := hD
  have hl := lv_entry ([.ref om, .int a1, .int a2, .int a3, .int a4]) (n := 7) (Nat.le_of_ble_eq_true rfl)
  rw [lg_entry_eq]
  generalize (lg_sl ([.ref om, .int a1, .int a2, .int a3, .int a4]) ++ List.replicate (7 - (lg_sl ([.ref om, .int a1, .int a2, .int a3, .int a4])).length) Slot.unset).toArray = ls at hl ⊢
  have hl : lv_has ls 7 [(0, .ref om), (1, .int a1), (2, .int a2), (3, .int a3), (4, .int a4)] := hl
  refine lv_aload_n hx hb dX18_put_0 rfl (lv_at hl 0 rfl) ?_
  refine lv_iload_n hx hb dX18_put_1 rfl (lv_at hl 1 rfl) ?_
  refine lv_iload_n hx hb dX18_put_2 rfl (lv_at hl 2 rfl) ?_
  refine lv_iload_n hx hb dX18_put_3 rfl (lv_at hl 3 rfl) ?_
  have hPc := hP.sub (ws' := [(om, .inr (20, [.ref mt, .ref qu, .int 0, .int th, .ref lv, .int (-1), .int 0, .int 0, .ref mi, .int 0, .int 0, .int 0, .int 0, .ref ml, .ref mss, .ref rn, .ref sw, .ref mf, .null, .int 0, .ref msp, .int 0, .int 0, .int 0])), (lv, .inr (1, [.int 0, .ref de, .int 0])), (rn, .inr (1, [.int 0, .ref de, .int 0])), (sw, .inr (1, [.int 0, .ref de, .int 0])), (ml, .inl (cS, 6, .inl (slotF))), (mf, .inl (cF, 96, .inl (fun _ => 0)))]) [0, 1, 2, 3, 4, 5] rfl
  have hDc := hD.sub (ws' := [(om, .inr (20, [.ref mt, .ref qu, .int 0, .int th, .ref lv, .int (-1), .int 0, .int 0, .ref mi, .int 0, .int 0, .int 0, .int 0, .ref ml, .ref mss, .ref rn, .ref sw, .ref mf, .null, .int 0, .ref msp, .int 0, .int 0, .int 0])), (lv, .inr (1, [.int 0, .ref de, .int 0])), (rn, .inr (1, [.int 0, .ref de, .int 0])), (sw, .inr (1, [.int 0, .ref de, .int 0])), (ml, .inl (cS, 6, .inl (slotF))), (mf, .inl (cF, 96, .inl (fun _ => 0)))]) [0, 1, 2, 3, 4, 5] (by decide) rfl
  have hKc := hK.sub (tys' := [(cS, .int), (cF, .int)]) [0, 1] rfl
  have hFc := va_free (wc := [(om, .inr (20, [.ref mt, .ref qu, .int 0, .int th, .ref lv, .int (-1), .int 0, .int 0, .ref mi, .int 0, .int 0, .int 0, .int 0, .ref ml, .ref mss, .ref rn, .ref sw, .ref mf, .null, .int 0, .ref msp, .int 0, .int 0, .int 0])), (lv, .inr (1, [.int 0, .ref de, .int 0])), (rn, .inr (1, [.int 0, .ref de, .int 0])), (sw, .inr (1, [.int 0, .ref de, .int 0])), (ml, .inl (cS, 6, .inl (slotF))), (mf, .inl (cF, 96, .inl (fun _ => 0)))]) hD hS hA [0, 1, 2, 3, 4, 5] rfl
  refine va_calli (va_runV (As := [.int a1, .int a2, .int a3]) (rest := []) ⟨hx, hb, hml, hown, ht⟩ (c_X18_noCell l dC dI de (om) (mt) (qu) (lv) (mi) (ml) (mss) (rn) (sw) (mf) (msp) (cS) (cF) (th) (a1) (a2) (a3) s.heap.size) (cwV 3 ht (gWV (wr_20 _ (List.mem_of_getElem? (i := 4) rfl)) (wr_20 _ (List.mem_of_getElem? (i := 5) rfl)) (wr_20 _ (List.mem_of_getElem? (i := 6) rfl)) (wr_1 _ (List.mem_of_getElem? (i := 5) rfl)) (wr_20 _ (List.mem_of_getElem? (i := 7) rfl))) rfl rfl rfl (by decide +kernel) ⟨Nat.le_of_ble_eq_true rfl, Nat.le_of_ble_eq_true rfl⟩) ⟨PW_blind, va_recv hKc hPc (ci := 20) (q0 := 0) rfl rfl, PW_call hPc hDc hKc hS hG hFc⟩ rfl rfl hl.1 rfl (lv_room (Nat.le_of_ble_eq_true rfl)) dX18_put_4 ⟨Nat.le_of_ble_eq_true rfl, Nat.le_of_ble_eq_true rfl⟩) hS (fun q _ h => hFc q h) hFc (fun r_4 u t H1 locs ht9 hvm hw hB hz1 hk1 hS => ?_)
  obtain ⟨hP1, hK1, hD1⟩ := hB
  rw [ht9] at hP1
  have hK1 := va_K.moved hvm.symm hK1
  obtain ⟨hP, hD⟩ := va_join (wr := []) (w1 := [(om, .inr (20, [.ref mt, .ref qu, .int 0, .int 1, .ref lv, .int (-1), .int 0, .int 0, .ref mi, .int 0, .int 0, .int 0, .int 0, .ref ml, .ref mss, .ref rn, .ref sw, .ref mf, .null, .int 0, .ref msp, .int 0, .int 0, .int 0])), (lv, .inr (1, [.int 0, .ref de, .int 0])), (rn, .inr (1, [.int 0, .ref de, .int 0])), (sw, .inr (1, [.int 0, .ref de, .int 0])), (ml, .inl (cS, 6, .inl (slotF))), (mf, .inl (cF, 96, .inl (fun _ => 0)))]) hP hD [0, 1, 2, 3, 4, 5] [] rfl rfl (by decide) (by decide) hk1 hFc hP1 hD1
  have hK := (hK.sub (tys' := []) [] rfl).app hK1
  generalize H1 = H at hP hS ⊢
  replace hP : va_P (dC, dI) vwCl [(om, .inr (20, [.ref mt, .ref qu, .int 0, .int 1, .ref lv, .int (-1), .int 0, .int 0, .ref mi, .int 0, .int 0, .int 0, .int 0, .ref ml, .ref mss, .ref rn, .ref sw, .ref mf, .null, .int 0, .ref msp, .int 0, .int 0, .int 0])), (lv, .inr (1, [.int 0, .ref de, .int 0])), (rn, .inr (1, [.int 0, .ref de, .int 0])), (sw, .inr (1, [.int 0, .ref de, .int 0])), (ml, .inl (cS, 6, .inl (slotF))), (mf, .inl (cF, 96, .inl (fun _ => 0)))] H := hP
  replace hD : va_D A [(om, .inr (20, [.ref mt, .ref qu, .int 0, .int 1, .ref lv, .int (-1), .int 0, .int 0, .ref mi, .int 0, .int 0, .int 0, .int 0, .ref ml, .ref mss, .ref rn, .ref sw, .ref mf, .null, .int 0, .ref msp, .int 0, .int 0, .int 0])), (lv, .inr (1, [.int 0, .ref de, .int 0])), (rn, .inr (1, [.int 0, .ref de, .int 0])), (sw, .inr (1, [.int 0, .ref de, .int 0])), (ml, .inl (cS, 6, .inl (slotF))), (mf, .inl (cF, 96, .inl (fun _ => 0)))] := hD
  have hK : va_K (dC, dI) vwCl [(cS, .int), (cF, .int)] s := hK
  have e_4 : r_4 = 1 := hw
  subst e_4
  refine lv_if_eq (tgt := 13) hx hb dX18_put_7 (by decide) (fun c_7 => absurd c_7 (by decide)) (fun c_7 => ?_)
  refine lv_bipush (v := 32) hx hb dX18_put_10 (by decide) ?_
  have hP9 := hP.sub (ws' := [(om, .inr (20, [.ref mt, .ref qu, .int 0, .int 1, .ref lv, .int (-1), .int 0, .int 0, .ref mi, .int 0, .int 0, .int 0, .int 0, .ref ml, .ref mss, .ref rn, .ref sw, .ref mf, .null, .int 0, .ref msp, .int 0, .int 0, .int 0])), (lv, .inr (1, [.int 0, .ref de, .int 0])), (rn, .inr (1, [.int 0, .ref de, .int 0])), (sw, .inr (1, [.int 0, .ref de, .int 0])), (ml, .inl (cS, 6, .inl (slotF))), (mf, .inl (cF, 96, .inl (fun _ => 0)))]) [0, 1, 2, 3, 4, 5] rfl
  have hD9 := hD.sub (ws' := [(om, .inr (20, [.ref mt, .ref qu, .int 0, .int 1, .ref lv, .int (-1), .int 0, .int 0, .ref mi, .int 0, .int 0, .int 0, .int 0, .ref ml, .ref mss, .ref rn, .ref sw, .ref mf, .null, .int 0, .ref msp, .int 0, .int 0, .int 0])), (lv, .inr (1, [.int 0, .ref de, .int 0])), (rn, .inr (1, [.int 0, .ref de, .int 0])), (sw, .inr (1, [.int 0, .ref de, .int 0])), (ml, .inl (cS, 6, .inl (slotF))), (mf, .inl (cF, 96, .inl (fun _ => 0)))]) [0, 1, 2, 3, 4, 5] (by decide) rfl
  have hK9 := hK.sub (tys' := [(cS, .int), (cF, .int)]) [0, 1] rfl
  exact W.zret (v := 32) hx hb hr (by decide) (fun t htt hW => have ht := htt; ⟨⟨32, (), rfl, trivial, QW_of ht hW hP9 hK9 hD9⟩, hS.F ht⟩) hS.2.2 dX18_put_12
set_option maxHeartbeats 4000000 in
set_option maxRecDepth 100000 in
theorem c_X18_fill (l : Launch) (dC : Nat → ClassId) (dI : Nat → Nat → Nat) (de : Nat) (om : Nat) (mt : Nat) (qu : Nat) (lv : Nat) (mi : Nat) (ml : Nat) (mss : Nat) (rn : Nat) (sw : Nat) (mf : Nat) (msp : Nat) (cS : ClassId) (cF : ClassId) (th : Int32) (a1 : Int32) (a2 : Int32) (a3 : Int32) (a4 : Int32) (a5 : Int32) (a6 : Int32) (sz : Nat) : Met l yX18_fill (.code yX18_fill cX18_fill 11 (some .int) :: wsL_law) { frames := 2, cells := 0, slots := 0, locals := 45 } (va_Pc [.ref om, .int a1, .int a2, .int a3, .int a4, .int a5, .int a6] (PW dC dI de [(cS, .int), (cF, .int)] (WM om mt qu lv mi ml mss rn sw mf msp cS cF th de) sz)) (va_Qi (fun (r : Int32) (u : Unit) => True) (fun (_ : Unit) (t : State) => QW dC dI [(cS, .int), (cF, .int)] (WM om mt qu lv mi ml mss rn sw mf msp cS cF 1 de) (va_A (WM om mt qu lv mi ml mss rn sw mf msp cS cF th de) sz) t) (va_A (WM om mt qu lv mi ml mss rn sw mf msp cS cF th de) sz)) 0 0 (va_A (WM om mt qu lv mi ml mss rn sw mf msp cS cF th de) sz) := by
  refine Met.ofW (cc := cX18_fill) (maxL := 11) (ret := (some .int)) (by decide) rfl ?_
  intro p e s m args below meth c s₁ B hml hv
  obtain ⟨rfl, hsz, hP, hK, hD0, hG⟩ := hv
  have hx := B.exec
  have hb := B.bytes
  have hr := B.returns
  have hts := atoms_spec (ws := .code yX18_fill cX18_fill 11 (some .int) :: wsL_law) B.pre
  have ht : ∀ w ∈ wsL_law, w.before _ s = true := fun w h => hts w (List.mem_cons_of_mem _ h)
  have hown : s.vm.findClass RX18 = some m.cls := findClass_of_methodNamed B.named
  have hlocks := B.notSynchronized
  subst hsz
  have hD := hD0.self (sz := s.heap.size)
  generalize hAe : va_A (WM om mt qu lv mi ml mss rn sw mf msp cS cF th de) s.heap.size = A at hD hG ⊢
  have hA : ∀ q : Nat, s.heap.size ≤ q → A q := fun q h => by rw [← hAe]; exact Or.inr h
  have hS : va_S A s.heap s.heap [] := va_S.rf
  have hP : va_P (dC, dI) vwCl [(om, .inr (20, [.ref mt, .ref qu, .int 0, .int th, .ref lv, .int (-1), .int 0, .int 0, .ref mi, .int 0, .int 0, .int 0, .int 0, .ref ml, .ref mss, .ref rn, .ref sw, .ref mf, .null, .int 0, .ref msp, .int 0, .int 0, .int 0])), (lv, .inr (1, [.int 0, .ref de, .int 0])), (rn, .inr (1, [.int 0, .ref de, .int 0])), (sw, .inr (1, [.int 0, .ref de, .int 0])), (ml, .inl (cS, 6, .inl (slotF))), (mf, .inl (cF, 96, .inl (fun _ => 0)))] s.heap := hP
  have hD : va_D A [(om, .inr (20, [.ref mt, .ref qu, .int 0, .int th, .ref lv, .int (-1), .int 0, .int 0, .ref mi, .int 0, .int 0, .int 0, .int 0, .ref ml, .ref mss, .ref rn, .ref sw, .ref mf, .null, .int 0, .ref msp, .int 0, .int 0, .int 0])), (lv, .inr (1, [.int 0, .ref de, .int 0])), (rn, .inr (1, [.int 0, .ref de, .int 0])), (sw, .inr (1, [.int 0, .ref de, .int 0])), (ml, .inl (cS, 6, .inl (slotF))), (mf, .inl (cF, 96, .inl (fun _ => 0)))] := hD
  have hl := lv_entry ([.ref om, .int a1, .int a2, .int a3, .int a4, .int a5, .int a6]) (n := 11) (Nat.le_of_ble_eq_true rfl)
  rw [lg_entry_eq]
  generalize (lg_sl ([.ref om, .int a1, .int a2, .int a3, .int a4, .int a5, .int a6]) ++ List.replicate (11 - (lg_sl ([.ref om, .int a1, .int a2, .int a3, .int a4, .int a5, .int a6])).length) Slot.unset).toArray = ls at hl ⊢
  have hl : lv_has ls 11 [(0, .ref om), (1, .int a1), (2, .int a2), (3, .int a3), (4, .int a4), (5, .int a5), (6, .int a6)] := hl
  refine lv_aload_n hx hb dX18_fill_0 rfl (lv_at hl 0 rfl) ?_
  refine lv_iload_n hx hb dX18_fill_1 rfl (lv_at hl 1 rfl) ?_
  refine lv_iload_n hx hb dX18_fill_2 rfl (lv_at hl 2 rfl) ?_
  refine lv_iload_n hx hb dX18_fill_3 rfl (lv_at hl 3 rfl) ?_
  have hPc := hP.sub (ws' := [(om, .inr (20, [.ref mt, .ref qu, .int 0, .int th, .ref lv, .int (-1), .int 0, .int 0, .ref mi, .int 0, .int 0, .int 0, .int 0, .ref ml, .ref mss, .ref rn, .ref sw, .ref mf, .null, .int 0, .ref msp, .int 0, .int 0, .int 0])), (lv, .inr (1, [.int 0, .ref de, .int 0])), (rn, .inr (1, [.int 0, .ref de, .int 0])), (sw, .inr (1, [.int 0, .ref de, .int 0])), (ml, .inl (cS, 6, .inl (slotF))), (mf, .inl (cF, 96, .inl (fun _ => 0)))]) [0, 1, 2, 3, 4, 5] rfl
  have hDc := hD.sub (ws' := [(om, .inr (20, [.ref mt, .ref qu, .int 0, .int th, .ref lv, .int (-1), .int 0, .int 0, .ref mi, .int 0, .int 0, .int 0, .int 0, .ref ml, .ref mss, .ref rn, .ref sw, .ref mf, .null, .int 0, .ref msp, .int 0, .int 0, .int 0])), (lv, .inr (1, [.int 0, .ref de, .int 0])), (rn, .inr (1, [.int 0, .ref de, .int 0])), (sw, .inr (1, [.int 0, .ref de, .int 0])), (ml, .inl (cS, 6, .inl (slotF))), (mf, .inl (cF, 96, .inl (fun _ => 0)))]) [0, 1, 2, 3, 4, 5] (by decide) rfl
  have hKc := hK.sub (tys' := [(cS, .int), (cF, .int)]) [0, 1] rfl
  have hFc := va_free (wc := [(om, .inr (20, [.ref mt, .ref qu, .int 0, .int th, .ref lv, .int (-1), .int 0, .int 0, .ref mi, .int 0, .int 0, .int 0, .int 0, .ref ml, .ref mss, .ref rn, .ref sw, .ref mf, .null, .int 0, .ref msp, .int 0, .int 0, .int 0])), (lv, .inr (1, [.int 0, .ref de, .int 0])), (rn, .inr (1, [.int 0, .ref de, .int 0])), (sw, .inr (1, [.int 0, .ref de, .int 0])), (ml, .inl (cS, 6, .inl (slotF))), (mf, .inl (cF, 96, .inl (fun _ => 0)))]) hD hS hA [0, 1, 2, 3, 4, 5] rfl
  refine va_calli (va_runV (As := [.int a1, .int a2, .int a3]) (rest := []) ⟨hx, hb, hml, hown, ht⟩ (c_X18_noCell l dC dI de (om) (mt) (qu) (lv) (mi) (ml) (mss) (rn) (sw) (mf) (msp) (cS) (cF) (th) (a1) (a2) (a3) s.heap.size) (cwV 3 ht (gWV (wr_20 _ (List.mem_of_getElem? (i := 4) rfl)) (wr_20 _ (List.mem_of_getElem? (i := 5) rfl)) (wr_20 _ (List.mem_of_getElem? (i := 6) rfl)) (wr_1 _ (List.mem_of_getElem? (i := 5) rfl)) (wr_20 _ (List.mem_of_getElem? (i := 7) rfl))) rfl rfl rfl (by decide +kernel) ⟨Nat.le_of_ble_eq_true rfl, Nat.le_of_ble_eq_true rfl⟩) ⟨PW_blind, va_recv hKc hPc (ci := 20) (q0 := 0) rfl rfl, PW_call hPc hDc hKc hS hG hFc⟩ rfl rfl hl.1 rfl (lv_room (Nat.le_of_ble_eq_true rfl)) dX18_fill_4 ⟨Nat.le_of_ble_eq_true rfl, Nat.le_of_ble_eq_true rfl⟩) hS (fun q _ h => hFc q h) hFc (fun r_4 u t H1 locs ht9 hvm hw hB hz1 hk1 hS => ?_)
  obtain ⟨hP1, hK1, hD1⟩ := hB
  rw [ht9] at hP1
  have hK1 := va_K.moved hvm.symm hK1
  obtain ⟨hP, hD⟩ := va_join (wr := []) (w1 := [(om, .inr (20, [.ref mt, .ref qu, .int 0, .int 1, .ref lv, .int (-1), .int 0, .int 0, .ref mi, .int 0, .int 0, .int 0, .int 0, .ref ml, .ref mss, .ref rn, .ref sw, .ref mf, .null, .int 0, .ref msp, .int 0, .int 0, .int 0])), (lv, .inr (1, [.int 0, .ref de, .int 0])), (rn, .inr (1, [.int 0, .ref de, .int 0])), (sw, .inr (1, [.int 0, .ref de, .int 0])), (ml, .inl (cS, 6, .inl (slotF))), (mf, .inl (cF, 96, .inl (fun _ => 0)))]) hP hD [0, 1, 2, 3, 4, 5] [] rfl rfl (by decide) (by decide) hk1 hFc hP1 hD1
  have hK := (hK.sub (tys' := []) [] rfl).app hK1
  generalize H1 = H at hP hS ⊢
  replace hP : va_P (dC, dI) vwCl [(om, .inr (20, [.ref mt, .ref qu, .int 0, .int 1, .ref lv, .int (-1), .int 0, .int 0, .ref mi, .int 0, .int 0, .int 0, .int 0, .ref ml, .ref mss, .ref rn, .ref sw, .ref mf, .null, .int 0, .ref msp, .int 0, .int 0, .int 0])), (lv, .inr (1, [.int 0, .ref de, .int 0])), (rn, .inr (1, [.int 0, .ref de, .int 0])), (sw, .inr (1, [.int 0, .ref de, .int 0])), (ml, .inl (cS, 6, .inl (slotF))), (mf, .inl (cF, 96, .inl (fun _ => 0)))] H := hP
  replace hD : va_D A [(om, .inr (20, [.ref mt, .ref qu, .int 0, .int 1, .ref lv, .int (-1), .int 0, .int 0, .ref mi, .int 0, .int 0, .int 0, .int 0, .ref ml, .ref mss, .ref rn, .ref sw, .ref mf, .null, .int 0, .ref msp, .int 0, .int 0, .int 0])), (lv, .inr (1, [.int 0, .ref de, .int 0])), (rn, .inr (1, [.int 0, .ref de, .int 0])), (sw, .inr (1, [.int 0, .ref de, .int 0])), (ml, .inl (cS, 6, .inl (slotF))), (mf, .inl (cF, 96, .inl (fun _ => 0)))] := hD
  have hK : va_K (dC, dI) vwCl [(cS, .int), (cF, .int)] s := hK
  have e_4 : r_4 = 1 := hw
  subst e_4
  refine lv_if_eq (tgt := 12) hx hb dX18_fill_7 (by decide) (fun c_7 => absurd c_7 (by decide)) (fun c_7 => ?_)
  refine lv_iconst (v := 0) hx hb dX18_fill_10 (by decide) ?_
  have hP9 := hP.sub (ws' := [(om, .inr (20, [.ref mt, .ref qu, .int 0, .int 1, .ref lv, .int (-1), .int 0, .int 0, .ref mi, .int 0, .int 0, .int 0, .int 0, .ref ml, .ref mss, .ref rn, .ref sw, .ref mf, .null, .int 0, .ref msp, .int 0, .int 0, .int 0])), (lv, .inr (1, [.int 0, .ref de, .int 0])), (rn, .inr (1, [.int 0, .ref de, .int 0])), (sw, .inr (1, [.int 0, .ref de, .int 0])), (ml, .inl (cS, 6, .inl (slotF))), (mf, .inl (cF, 96, .inl (fun _ => 0)))]) [0, 1, 2, 3, 4, 5] rfl
  have hD9 := hD.sub (ws' := [(om, .inr (20, [.ref mt, .ref qu, .int 0, .int 1, .ref lv, .int (-1), .int 0, .int 0, .ref mi, .int 0, .int 0, .int 0, .int 0, .ref ml, .ref mss, .ref rn, .ref sw, .ref mf, .null, .int 0, .ref msp, .int 0, .int 0, .int 0])), (lv, .inr (1, [.int 0, .ref de, .int 0])), (rn, .inr (1, [.int 0, .ref de, .int 0])), (sw, .inr (1, [.int 0, .ref de, .int 0])), (ml, .inl (cS, 6, .inl (slotF))), (mf, .inl (cF, 96, .inl (fun _ => 0)))]) [0, 1, 2, 3, 4, 5] (by decide) rfl
  have hK9 := hK.sub (tys' := [(cS, .int), (cF, .int)]) [0, 1] rfl
  exact W.iret (v := 0) hx hb hr (fun t htt hW => have ht := htt; ⟨⟨0, (), rfl, trivial, QW_of ht hW hP9 hK9 hD9⟩, hS.F ht⟩) hS.2.2 dX18_fill_11
set_option maxHeartbeats 4000000 in
set_option maxRecDepth 100000 in
theorem c_X18_tile (l : Launch) (dC : Nat → ClassId) (dI : Nat → Nat → Nat) (de : Nat) (om : Nat) (mt : Nat) (qu : Nat) (lv : Nat) (mi : Nat) (ml : Nat) (mss : Nat) (rn : Nat) (sw : Nat) (mf : Nat) (msp : Nat) (cS : ClassId) (cF : ClassId) (th : Int32) (a1 : Int32) (a2 : Int32) (a3 : Int32) (sz : Nat) : Met l yX18_tile (.code yX18_tile cX18_tile 4 (some .char) :: wsL_law) { frames := 2, cells := 0, slots := 0, locals := 45 } (va_Pc [.ref om, .int a1, .int a2, .int a3] (PW dC dI de [(cS, .int), (cF, .int)] (WM om mt qu lv mi ml mss rn sw mf msp cS cF th de) sz)) (va_Qi (fun (r : Int32) (u : Unit) => True) (fun (_ : Unit) (t : State) => QW dC dI [(cS, .int), (cF, .int)] (WM om mt qu lv mi ml mss rn sw mf msp cS cF 1 de) (va_A (WM om mt qu lv mi ml mss rn sw mf msp cS cF th de) sz) t) (va_A (WM om mt qu lv mi ml mss rn sw mf msp cS cF th de) sz)) 0 0 (va_A (WM om mt qu lv mi ml mss rn sw mf msp cS cF th de) sz) := by
  refine Met.ofW (cc := cX18_tile) (maxL := 4) (ret := (some .char)) (by decide) rfl ?_
  intro p e s m args below meth c s₁ B hml hv
  obtain ⟨rfl, hsz, hP, hK, hD0, hG⟩ := hv
  have hx := B.exec
  have hb := B.bytes
  have hr := B.returns
  have hts := atoms_spec (ws := .code yX18_tile cX18_tile 4 (some .char) :: wsL_law) B.pre
  have ht : ∀ w ∈ wsL_law, w.before _ s = true := fun w h => hts w (List.mem_cons_of_mem _ h)
  have hown : s.vm.findClass RX18 = some m.cls := findClass_of_methodNamed B.named
  have hlocks := B.notSynchronized
  subst hsz
  have hD := hD0.self (sz := s.heap.size)
  generalize hAe : va_A (WM om mt qu lv mi ml mss rn sw mf msp cS cF th de) s.heap.size = A at hD hG ⊢
  have hA : ∀ q : Nat, s.heap.size ≤ q → A q := fun q h => by rw [← hAe]; exact Or.inr h
  have hS : va_S A s.heap s.heap [] := va_S.rf
  have hP : va_P (dC, dI) vwCl [(om, .inr (20, [.ref mt, .ref qu, .int 0, .int th, .ref lv, .int (-1), .int 0, .int 0, .ref mi, .int 0, .int 0, .int 0, .int 0, .ref ml, .ref mss, .ref rn, .ref sw, .ref mf, .null, .int 0, .ref msp, .int 0, .int 0, .int 0])), (lv, .inr (1, [.int 0, .ref de, .int 0])), (rn, .inr (1, [.int 0, .ref de, .int 0])), (sw, .inr (1, [.int 0, .ref de, .int 0])), (ml, .inl (cS, 6, .inl (slotF))), (mf, .inl (cF, 96, .inl (fun _ => 0)))] s.heap := hP
  have hD : va_D A [(om, .inr (20, [.ref mt, .ref qu, .int 0, .int th, .ref lv, .int (-1), .int 0, .int 0, .ref mi, .int 0, .int 0, .int 0, .int 0, .ref ml, .ref mss, .ref rn, .ref sw, .ref mf, .null, .int 0, .ref msp, .int 0, .int 0, .int 0])), (lv, .inr (1, [.int 0, .ref de, .int 0])), (rn, .inr (1, [.int 0, .ref de, .int 0])), (sw, .inr (1, [.int 0, .ref de, .int 0])), (ml, .inl (cS, 6, .inl (slotF))), (mf, .inl (cF, 96, .inl (fun _ => 0)))] := hD
  have hl := lv_entry ([.ref om, .int a1, .int a2, .int a3]) (n := 4) (Nat.le_of_ble_eq_true rfl)
  rw [lg_entry_eq]
  generalize (lg_sl ([.ref om, .int a1, .int a2, .int a3]) ++ List.replicate (4 - (lg_sl ([.ref om, .int a1, .int a2, .int a3])).length) Slot.unset).toArray = ls at hl ⊢
  have hl : lv_has ls 4 [(0, .ref om), (1, .int a1), (2, .int a2), (3, .int a3)] := hl
  refine lv_aload_n hx hb dX18_tile_0 rfl (lv_at hl 0 rfl) ?_
  refine lv_iload_n hx hb dX18_tile_1 rfl (lv_at hl 1 rfl) ?_
  refine lv_iload_n hx hb dX18_tile_2 rfl (lv_at hl 2 rfl) ?_
  refine lv_iload_n hx hb dX18_tile_3 rfl (lv_at hl 3 rfl) ?_
  have hPc := hP.sub (ws' := [(om, .inr (20, [.ref mt, .ref qu, .int 0, .int th, .ref lv, .int (-1), .int 0, .int 0, .ref mi, .int 0, .int 0, .int 0, .int 0, .ref ml, .ref mss, .ref rn, .ref sw, .ref mf, .null, .int 0, .ref msp, .int 0, .int 0, .int 0])), (lv, .inr (1, [.int 0, .ref de, .int 0])), (rn, .inr (1, [.int 0, .ref de, .int 0])), (sw, .inr (1, [.int 0, .ref de, .int 0])), (ml, .inl (cS, 6, .inl (slotF))), (mf, .inl (cF, 96, .inl (fun _ => 0)))]) [0, 1, 2, 3, 4, 5] rfl
  have hDc := hD.sub (ws' := [(om, .inr (20, [.ref mt, .ref qu, .int 0, .int th, .ref lv, .int (-1), .int 0, .int 0, .ref mi, .int 0, .int 0, .int 0, .int 0, .ref ml, .ref mss, .ref rn, .ref sw, .ref mf, .null, .int 0, .ref msp, .int 0, .int 0, .int 0])), (lv, .inr (1, [.int 0, .ref de, .int 0])), (rn, .inr (1, [.int 0, .ref de, .int 0])), (sw, .inr (1, [.int 0, .ref de, .int 0])), (ml, .inl (cS, 6, .inl (slotF))), (mf, .inl (cF, 96, .inl (fun _ => 0)))]) [0, 1, 2, 3, 4, 5] (by decide) rfl
  have hKc := hK.sub (tys' := [(cS, .int), (cF, .int)]) [0, 1] rfl
  have hFc := va_free (wc := [(om, .inr (20, [.ref mt, .ref qu, .int 0, .int th, .ref lv, .int (-1), .int 0, .int 0, .ref mi, .int 0, .int 0, .int 0, .int 0, .ref ml, .ref mss, .ref rn, .ref sw, .ref mf, .null, .int 0, .ref msp, .int 0, .int 0, .int 0])), (lv, .inr (1, [.int 0, .ref de, .int 0])), (rn, .inr (1, [.int 0, .ref de, .int 0])), (sw, .inr (1, [.int 0, .ref de, .int 0])), (ml, .inl (cS, 6, .inl (slotF))), (mf, .inl (cF, 96, .inl (fun _ => 0)))]) hD hS hA [0, 1, 2, 3, 4, 5] rfl
  refine va_calli (va_runV (As := [.int a1, .int a2, .int a3]) (rest := []) ⟨hx, hb, hml, hown, ht⟩ (c_X18_noCell l dC dI de (om) (mt) (qu) (lv) (mi) (ml) (mss) (rn) (sw) (mf) (msp) (cS) (cF) (th) (a1) (a2) (a3) s.heap.size) (cwV 3 ht (gWV (wr_20 _ (List.mem_of_getElem? (i := 4) rfl)) (wr_20 _ (List.mem_of_getElem? (i := 5) rfl)) (wr_20 _ (List.mem_of_getElem? (i := 6) rfl)) (wr_1 _ (List.mem_of_getElem? (i := 5) rfl)) (wr_20 _ (List.mem_of_getElem? (i := 7) rfl))) rfl rfl rfl (by decide +kernel) ⟨Nat.le_of_ble_eq_true rfl, Nat.le_of_ble_eq_true rfl⟩) ⟨PW_blind, va_recv hKc hPc (ci := 20) (q0 := 0) rfl rfl, PW_call hPc hDc hKc hS hG hFc⟩ rfl rfl hl.1 rfl (lv_room (Nat.le_of_ble_eq_true rfl)) dX18_tile_4 ⟨Nat.le_of_ble_eq_true rfl, Nat.le_of_ble_eq_true rfl⟩) hS (fun q _ h => hFc q h) hFc (fun r_4 u t H1 locs ht9 hvm hw hB hz1 hk1 hS => ?_)
  obtain ⟨hP1, hK1, hD1⟩ := hB
  rw [ht9] at hP1
  have hK1 := va_K.moved hvm.symm hK1
  obtain ⟨hP, hD⟩ := va_join (wr := []) (w1 := [(om, .inr (20, [.ref mt, .ref qu, .int 0, .int 1, .ref lv, .int (-1), .int 0, .int 0, .ref mi, .int 0, .int 0, .int 0, .int 0, .ref ml, .ref mss, .ref rn, .ref sw, .ref mf, .null, .int 0, .ref msp, .int 0, .int 0, .int 0])), (lv, .inr (1, [.int 0, .ref de, .int 0])), (rn, .inr (1, [.int 0, .ref de, .int 0])), (sw, .inr (1, [.int 0, .ref de, .int 0])), (ml, .inl (cS, 6, .inl (slotF))), (mf, .inl (cF, 96, .inl (fun _ => 0)))]) hP hD [0, 1, 2, 3, 4, 5] [] rfl rfl (by decide) (by decide) hk1 hFc hP1 hD1
  have hK := (hK.sub (tys' := []) [] rfl).app hK1
  generalize H1 = H at hP hS ⊢
  replace hP : va_P (dC, dI) vwCl [(om, .inr (20, [.ref mt, .ref qu, .int 0, .int 1, .ref lv, .int (-1), .int 0, .int 0, .ref mi, .int 0, .int 0, .int 0, .int 0, .ref ml, .ref mss, .ref rn, .ref sw, .ref mf, .null, .int 0, .ref msp, .int 0, .int 0, .int 0])), (lv, .inr (1, [.int 0, .ref de, .int 0])), (rn, .inr (1, [.int 0, .ref de, .int 0])), (sw, .inr (1, [.int 0, .ref de, .int 0])), (ml, .inl (cS, 6, .inl (slotF))), (mf, .inl (cF, 96, .inl (fun _ => 0)))] H := hP
  replace hD : va_D A [(om, .inr (20, [.ref mt, .ref qu, .int 0, .int 1, .ref lv, .int (-1), .int 0, .int 0, .ref mi, .int 0, .int 0, .int 0, .int 0, .ref ml, .ref mss, .ref rn, .ref sw, .ref mf, .null, .int 0, .ref msp, .int 0, .int 0, .int 0])), (lv, .inr (1, [.int 0, .ref de, .int 0])), (rn, .inr (1, [.int 0, .ref de, .int 0])), (sw, .inr (1, [.int 0, .ref de, .int 0])), (ml, .inl (cS, 6, .inl (slotF))), (mf, .inl (cF, 96, .inl (fun _ => 0)))] := hD
  have hK : va_K (dC, dI) vwCl [(cS, .int), (cF, .int)] s := hK
  have e_4 : r_4 = 1 := hw
  subst e_4
  refine lv_if_eq (tgt := 15) hx hb dX18_tile_7 (by decide) (fun c_7 => absurd c_7 (by decide)) (fun c_7 => ?_)
  refine lv_bipush (v := 32) hx hb dX18_tile_10 (by decide) ?_
  refine lv_goto (tgt := 31) hx hb dX18_tile_12 (by decide) ?_
  have hP9 := hP.sub (ws' := [(om, .inr (20, [.ref mt, .ref qu, .int 0, .int 1, .ref lv, .int (-1), .int 0, .int 0, .ref mi, .int 0, .int 0, .int 0, .int 0, .ref ml, .ref mss, .ref rn, .ref sw, .ref mf, .null, .int 0, .ref msp, .int 0, .int 0, .int 0])), (lv, .inr (1, [.int 0, .ref de, .int 0])), (rn, .inr (1, [.int 0, .ref de, .int 0])), (sw, .inr (1, [.int 0, .ref de, .int 0])), (ml, .inl (cS, 6, .inl (slotF))), (mf, .inl (cF, 96, .inl (fun _ => 0)))]) [0, 1, 2, 3, 4, 5] rfl
  have hD9 := hD.sub (ws' := [(om, .inr (20, [.ref mt, .ref qu, .int 0, .int 1, .ref lv, .int (-1), .int 0, .int 0, .ref mi, .int 0, .int 0, .int 0, .int 0, .ref ml, .ref mss, .ref rn, .ref sw, .ref mf, .null, .int 0, .ref msp, .int 0, .int 0, .int 0])), (lv, .inr (1, [.int 0, .ref de, .int 0])), (rn, .inr (1, [.int 0, .ref de, .int 0])), (sw, .inr (1, [.int 0, .ref de, .int 0])), (ml, .inl (cS, 6, .inl (slotF))), (mf, .inl (cF, 96, .inl (fun _ => 0)))]) [0, 1, 2, 3, 4, 5] (by decide) rfl
  have hK9 := hK.sub (tys' := [(cS, .int), (cF, .int)]) [0, 1] rfl
  exact W.zret (v := 32) hx hb hr (by decide) (fun t htt hW => have ht := htt; ⟨⟨32, (), rfl, trivial, QW_of ht hW hP9 hK9 hD9⟩, hS.F ht⟩) hS.2.2 dX18_tile_31
set_option maxHeartbeats 4000000 in
set_option maxRecDepth 100000 in
theorem c_X18_start (l : Launch) (dC : Nat → ClassId) (dI : Nat → Nat → Nat) (de : Nat) (om : Nat) (mt : Nat) (qu : Nat) (lv : Nat) (mi : Nat) (ml : Nat) (mss : Nat) (rn : Nat) (sw : Nat) (mf : Nat) (msp : Nat) (cS : ClassId) (cF : ClassId) (th : Int32) (a1 : Int32) (a2 : Int32) (a3 : Int32) (sz : Nat) : Met l yX18_start (.code yX18_start cX18_start 6 (some .int) :: wsL_law) { frames := 2, cells := 0, slots := 0, locals := 45 } (va_Pc [.ref om, .int a1, .int a2, .int a3] (PW dC dI de [(cS, .int), (cF, .int)] (WM om mt qu lv mi ml mss rn sw mf msp cS cF th de) sz)) (va_Qi (fun (r : Int32) (u : Unit) => True) (fun (_ : Unit) (t : State) => QW dC dI [(cS, .int), (cF, .int)] (WM om mt qu lv mi ml mss rn sw mf msp cS cF 1 de) (va_A (WM om mt qu lv mi ml mss rn sw mf msp cS cF th de) sz) t) (va_A (WM om mt qu lv mi ml mss rn sw mf msp cS cF th de) sz)) 0 0 (va_A (WM om mt qu lv mi ml mss rn sw mf msp cS cF th de) sz) := by
  refine Met.ofW (cc := cX18_start) (maxL := 6) (ret := (some .int)) (by decide) rfl ?_
  intro p e s m args below meth c s₁ B hml hv
  obtain ⟨rfl, hsz, hP, hK, hD0, hG⟩ := hv
  have hx := B.exec
  have hb := B.bytes
  have hr := B.returns
  have hts := atoms_spec (ws := .code yX18_start cX18_start 6 (some .int) :: wsL_law) B.pre
  have ht : ∀ w ∈ wsL_law, w.before _ s = true := fun w h => hts w (List.mem_cons_of_mem _ h)
  have hown : s.vm.findClass RX18 = some m.cls := findClass_of_methodNamed B.named
  have hlocks := B.notSynchronized
  subst hsz
  have hD := hD0.self (sz := s.heap.size)
  generalize hAe : va_A (WM om mt qu lv mi ml mss rn sw mf msp cS cF th de) s.heap.size = A at hD hG ⊢
  have hA : ∀ q : Nat, s.heap.size ≤ q → A q := fun q h => by rw [← hAe]; exact Or.inr h
  have hS : va_S A s.heap s.heap [] := va_S.rf
  have hP : va_P (dC, dI) vwCl [(om, .inr (20, [.ref mt, .ref qu, .int 0, .int th, .ref lv, .int (-1), .int 0, .int 0, .ref mi, .int 0, .int 0, .int 0, .int 0, .ref ml, .ref mss, .ref rn, .ref sw, .ref mf, .null, .int 0, .ref msp, .int 0, .int 0, .int 0])), (lv, .inr (1, [.int 0, .ref de, .int 0])), (rn, .inr (1, [.int 0, .ref de, .int 0])), (sw, .inr (1, [.int 0, .ref de, .int 0])), (ml, .inl (cS, 6, .inl (slotF))), (mf, .inl (cF, 96, .inl (fun _ => 0)))] s.heap := hP
  have hD : va_D A [(om, .inr (20, [.ref mt, .ref qu, .int 0, .int th, .ref lv, .int (-1), .int 0, .int 0, .ref mi, .int 0, .int 0, .int 0, .int 0, .ref ml, .ref mss, .ref rn, .ref sw, .ref mf, .null, .int 0, .ref msp, .int 0, .int 0, .int 0])), (lv, .inr (1, [.int 0, .ref de, .int 0])), (rn, .inr (1, [.int 0, .ref de, .int 0])), (sw, .inr (1, [.int 0, .ref de, .int 0])), (ml, .inl (cS, 6, .inl (slotF))), (mf, .inl (cF, 96, .inl (fun _ => 0)))] := hD
  have hl := lv_entry ([.ref om, .int a1, .int a2, .int a3]) (n := 6) (Nat.le_of_ble_eq_true rfl)
  rw [lg_entry_eq]
  generalize (lg_sl ([.ref om, .int a1, .int a2, .int a3]) ++ List.replicate (6 - (lg_sl ([.ref om, .int a1, .int a2, .int a3])).length) Slot.unset).toArray = ls at hl ⊢
  have hl : lv_has ls 6 [(0, .ref om), (1, .int a1), (2, .int a2), (3, .int a3)] := hl
  refine lv_aload_n hx hb dX18_start_0 rfl (lv_at hl 0 rfl) ?_
  refine lv_iload_n hx hb dX18_start_1 rfl (lv_at hl 1 rfl) ?_
  refine lv_iload_n hx hb dX18_start_2 rfl (lv_at hl 2 rfl) ?_
  refine lv_iload_n hx hb dX18_start_3 rfl (lv_at hl 3 rfl) ?_
  have hPc := hP.sub (ws' := [(om, .inr (20, [.ref mt, .ref qu, .int 0, .int th, .ref lv, .int (-1), .int 0, .int 0, .ref mi, .int 0, .int 0, .int 0, .int 0, .ref ml, .ref mss, .ref rn, .ref sw, .ref mf, .null, .int 0, .ref msp, .int 0, .int 0, .int 0])), (lv, .inr (1, [.int 0, .ref de, .int 0])), (rn, .inr (1, [.int 0, .ref de, .int 0])), (sw, .inr (1, [.int 0, .ref de, .int 0])), (ml, .inl (cS, 6, .inl (slotF))), (mf, .inl (cF, 96, .inl (fun _ => 0)))]) [0, 1, 2, 3, 4, 5] rfl
  have hDc := hD.sub (ws' := [(om, .inr (20, [.ref mt, .ref qu, .int 0, .int th, .ref lv, .int (-1), .int 0, .int 0, .ref mi, .int 0, .int 0, .int 0, .int 0, .ref ml, .ref mss, .ref rn, .ref sw, .ref mf, .null, .int 0, .ref msp, .int 0, .int 0, .int 0])), (lv, .inr (1, [.int 0, .ref de, .int 0])), (rn, .inr (1, [.int 0, .ref de, .int 0])), (sw, .inr (1, [.int 0, .ref de, .int 0])), (ml, .inl (cS, 6, .inl (slotF))), (mf, .inl (cF, 96, .inl (fun _ => 0)))]) [0, 1, 2, 3, 4, 5] (by decide) rfl
  have hKc := hK.sub (tys' := [(cS, .int), (cF, .int)]) [0, 1] rfl
  have hFc := va_free (wc := [(om, .inr (20, [.ref mt, .ref qu, .int 0, .int th, .ref lv, .int (-1), .int 0, .int 0, .ref mi, .int 0, .int 0, .int 0, .int 0, .ref ml, .ref mss, .ref rn, .ref sw, .ref mf, .null, .int 0, .ref msp, .int 0, .int 0, .int 0])), (lv, .inr (1, [.int 0, .ref de, .int 0])), (rn, .inr (1, [.int 0, .ref de, .int 0])), (sw, .inr (1, [.int 0, .ref de, .int 0])), (ml, .inl (cS, 6, .inl (slotF))), (mf, .inl (cF, 96, .inl (fun _ => 0)))]) hD hS hA [0, 1, 2, 3, 4, 5] rfl
  refine va_calli (va_runV (As := [.int a1, .int a2, .int a3]) (rest := []) ⟨hx, hb, hml, hown, ht⟩ (c_X18_noCell l dC dI de (om) (mt) (qu) (lv) (mi) (ml) (mss) (rn) (sw) (mf) (msp) (cS) (cF) (th) (a1) (a2) (a3) s.heap.size) (cwV 3 ht (gWV (wr_20 _ (List.mem_of_getElem? (i := 4) rfl)) (wr_20 _ (List.mem_of_getElem? (i := 5) rfl)) (wr_20 _ (List.mem_of_getElem? (i := 6) rfl)) (wr_1 _ (List.mem_of_getElem? (i := 5) rfl)) (wr_20 _ (List.mem_of_getElem? (i := 7) rfl))) rfl rfl rfl (by decide +kernel) ⟨Nat.le_of_ble_eq_true rfl, Nat.le_of_ble_eq_true rfl⟩) ⟨PW_blind, va_recv hKc hPc (ci := 20) (q0 := 0) rfl rfl, PW_call hPc hDc hKc hS hG hFc⟩ rfl rfl hl.1 rfl (lv_room (Nat.le_of_ble_eq_true rfl)) dX18_start_4 ⟨Nat.le_of_ble_eq_true rfl, Nat.le_of_ble_eq_true rfl⟩) hS (fun q _ h => hFc q h) hFc (fun r_4 u t H1 locs ht9 hvm hw hB hz1 hk1 hS => ?_)
  obtain ⟨hP1, hK1, hD1⟩ := hB
  rw [ht9] at hP1
  have hK1 := va_K.moved hvm.symm hK1
  obtain ⟨hP, hD⟩ := va_join (wr := []) (w1 := [(om, .inr (20, [.ref mt, .ref qu, .int 0, .int 1, .ref lv, .int (-1), .int 0, .int 0, .ref mi, .int 0, .int 0, .int 0, .int 0, .ref ml, .ref mss, .ref rn, .ref sw, .ref mf, .null, .int 0, .ref msp, .int 0, .int 0, .int 0])), (lv, .inr (1, [.int 0, .ref de, .int 0])), (rn, .inr (1, [.int 0, .ref de, .int 0])), (sw, .inr (1, [.int 0, .ref de, .int 0])), (ml, .inl (cS, 6, .inl (slotF))), (mf, .inl (cF, 96, .inl (fun _ => 0)))]) hP hD [0, 1, 2, 3, 4, 5] [] rfl rfl (by decide) (by decide) hk1 hFc hP1 hD1
  have hK := (hK.sub (tys' := []) [] rfl).app hK1
  generalize H1 = H at hP hS ⊢
  replace hP : va_P (dC, dI) vwCl [(om, .inr (20, [.ref mt, .ref qu, .int 0, .int 1, .ref lv, .int (-1), .int 0, .int 0, .ref mi, .int 0, .int 0, .int 0, .int 0, .ref ml, .ref mss, .ref rn, .ref sw, .ref mf, .null, .int 0, .ref msp, .int 0, .int 0, .int 0])), (lv, .inr (1, [.int 0, .ref de, .int 0])), (rn, .inr (1, [.int 0, .ref de, .int 0])), (sw, .inr (1, [.int 0, .ref de, .int 0])), (ml, .inl (cS, 6, .inl (slotF))), (mf, .inl (cF, 96, .inl (fun _ => 0)))] H := hP
  replace hD : va_D A [(om, .inr (20, [.ref mt, .ref qu, .int 0, .int 1, .ref lv, .int (-1), .int 0, .int 0, .ref mi, .int 0, .int 0, .int 0, .int 0, .ref ml, .ref mss, .ref rn, .ref sw, .ref mf, .null, .int 0, .ref msp, .int 0, .int 0, .int 0])), (lv, .inr (1, [.int 0, .ref de, .int 0])), (rn, .inr (1, [.int 0, .ref de, .int 0])), (sw, .inr (1, [.int 0, .ref de, .int 0])), (ml, .inl (cS, 6, .inl (slotF))), (mf, .inl (cF, 96, .inl (fun _ => 0)))] := hD
  have hK : va_K (dC, dI) vwCl [(cS, .int), (cF, .int)] s := hK
  have e_4 : r_4 = 1 := hw
  subst e_4
  refine lv_if_eq (tgt := 12) hx hb dX18_start_7 (by decide) (fun c_7 => absurd c_7 (by decide)) (fun c_7 => ?_)
  refine lv_iconst (v := 0) hx hb dX18_start_10 (by decide) ?_
  have hP9 := hP.sub (ws' := [(om, .inr (20, [.ref mt, .ref qu, .int 0, .int 1, .ref lv, .int (-1), .int 0, .int 0, .ref mi, .int 0, .int 0, .int 0, .int 0, .ref ml, .ref mss, .ref rn, .ref sw, .ref mf, .null, .int 0, .ref msp, .int 0, .int 0, .int 0])), (lv, .inr (1, [.int 0, .ref de, .int 0])), (rn, .inr (1, [.int 0, .ref de, .int 0])), (sw, .inr (1, [.int 0, .ref de, .int 0])), (ml, .inl (cS, 6, .inl (slotF))), (mf, .inl (cF, 96, .inl (fun _ => 0)))]) [0, 1, 2, 3, 4, 5] rfl
  have hD9 := hD.sub (ws' := [(om, .inr (20, [.ref mt, .ref qu, .int 0, .int 1, .ref lv, .int (-1), .int 0, .int 0, .ref mi, .int 0, .int 0, .int 0, .int 0, .ref ml, .ref mss, .ref rn, .ref sw, .ref mf, .null, .int 0, .ref msp, .int 0, .int 0, .int 0])), (lv, .inr (1, [.int 0, .ref de, .int 0])), (rn, .inr (1, [.int 0, .ref de, .int 0])), (sw, .inr (1, [.int 0, .ref de, .int 0])), (ml, .inl (cS, 6, .inl (slotF))), (mf, .inl (cF, 96, .inl (fun _ => 0)))]) [0, 1, 2, 3, 4, 5] (by decide) rfl
  have hK9 := hK.sub (tys' := [(cS, .int), (cF, .int)]) [0, 1] rfl
  exact W.iret (v := 0) hx hb hr (fun t htt hW => have ht := htt; ⟨⟨0, (), rfl, trivial, QW_of ht hW hP9 hK9 hD9⟩, hS.F ht⟩) hS.2.2 dX18_start_11
set_option maxHeartbeats 4000000 in
set_option maxRecDepth 100000 in
theorem c_X18_guard (l : Launch) (dC : Nat → ClassId) (dI : Nat → Nat → Nat) (de : Nat) (om : Nat) (mt : Nat) (qu : Nat) (lv : Nat) (mi : Nat) (ml : Nat) (mss : Nat) (rn : Nat) (sw : Nat) (mf : Nat) (msp : Nat) (cS : ClassId) (cF : ClassId) (th : Int32) (a1 : Int32) (a2 : Int32) (a3 : Int32) (a4 : Int32) (sz : Nat) : Met l yX18_guard (.code yX18_guard cX18_guard 7 (some .int) :: wsL_law) { frames := 2, cells := 0, slots := 0, locals := 45 } (va_Pc [.ref om, .int a1, .int a2, .int a3, .int a4] (PW dC dI de [(cS, .int), (cF, .int)] (WM om mt qu lv mi ml mss rn sw mf msp cS cF th de) sz)) (va_Qi (fun (r : Int32) (u : Unit) => True) (fun (_ : Unit) (t : State) => QW dC dI [(cS, .int), (cF, .int)] (WM om mt qu lv mi ml mss rn sw mf msp cS cF 1 de) (va_A (WM om mt qu lv mi ml mss rn sw mf msp cS cF th de) sz) t) (va_A (WM om mt qu lv mi ml mss rn sw mf msp cS cF th de) sz)) 0 0 (va_A (WM om mt qu lv mi ml mss rn sw mf msp cS cF th de) sz) := by
  refine Met.ofW (cc := cX18_guard) (maxL := 7) (ret := (some .int)) (by decide) rfl ?_
  intro p e s m args below meth c s₁ B hml hv
  obtain ⟨rfl, hsz, hP, hK, hD0, hG⟩ := hv
  have hx := B.exec
  have hb := B.bytes
  have hr := B.returns
  have hts := atoms_spec (ws := .code yX18_guard cX18_guard 7 (some .int) :: wsL_law) B.pre
  have ht : ∀ w ∈ wsL_law, w.before _ s = true := fun w h => hts w (List.mem_cons_of_mem _ h)
  have hown : s.vm.findClass RX18 = some m.cls := findClass_of_methodNamed B.named
  have hlocks := B.notSynchronized
  subst hsz
  have hD := hD0.self (sz := s.heap.size)
  generalize hAe : va_A (WM om mt qu lv mi ml mss rn sw mf msp cS cF th de) s.heap.size = A at hD hG ⊢
  have hA : ∀ q : Nat, s.heap.size ≤ q → A q := fun q h => by rw [← hAe]; exact Or.inr h
  have hS : va_S A s.heap s.heap [] := va_S.rf
  have hP : va_P (dC, dI) vwCl [(om, .inr (20, [.ref mt, .ref qu, .int 0, .int th, .ref lv, .int (-1), .int 0, .int 0, .ref mi, .int 0, .int 0, .int 0, .int 0, .ref ml, .ref mss, .ref rn, .ref sw, .ref mf, .null, .int 0, .ref msp, .int 0, .int 0, .int 0])), (lv, .inr (1, [.int 0, .ref de, .int 0])), (rn, .inr (1, [.int 0, .ref de, .int 0])), (sw, .inr (1, [.int 0, .ref de, .int 0])), (ml, .inl (cS, 6, .inl (slotF))), (mf, .inl (cF, 96, .inl (fun _ => 0)))] s.heap := hP
  have hD : va_D A [(om, .inr (20, [.ref mt, .ref qu, .int 0, .int th, .ref lv, .int (-1), .int 0, .int 0, .ref mi, .int 0, .int 0, .int 0, .int 0, .ref ml, .ref mss, .ref rn, .ref sw, .ref mf, .null, .int 0, .ref msp, .int 0, .int 0, .int 0])), (lv, .inr (1, [.int 0, .ref de, .int 0])), (rn, .inr (1, [.int 0, .ref de, .int 0])), (sw, .inr (1, [.int 0, .ref de, .int 0])), (ml, .inl (cS, 6, .inl (slotF))), (mf, .inl (cF, 96, .inl (fun _ => 0)))] := hD
  have hl := lv_entry ([.ref om, .int a1, .int a2, .int a3, .int a4]) (n := 7) (Nat.le_of_ble_eq_true rfl)
  rw [lg_entry_eq]
  generalize (lg_sl ([.ref om, .int a1, .int a2, .int a3, .int a4]) ++ List.replicate (7 - (lg_sl ([.ref om, .int a1, .int a2, .int a3, .int a4])).length) Slot.unset).toArray = ls at hl ⊢
  have hl : lv_has ls 7 [(0, .ref om), (1, .int a1), (2, .int a2), (3, .int a3), (4, .int a4)] := hl
  refine lv_aload_n hx hb dX18_guard_0 rfl (lv_at hl 0 rfl) ?_
  refine lv_iload_n hx hb dX18_guard_1 rfl (lv_at hl 1 rfl) ?_
  refine lv_iload_n hx hb dX18_guard_2 rfl (lv_at hl 2 rfl) ?_
  refine lv_iload hx hb dX18_guard_3 (lv_at hl 4 rfl) ?_
  have hPc := hP.sub (ws' := [(om, .inr (20, [.ref mt, .ref qu, .int 0, .int th, .ref lv, .int (-1), .int 0, .int 0, .ref mi, .int 0, .int 0, .int 0, .int 0, .ref ml, .ref mss, .ref rn, .ref sw, .ref mf, .null, .int 0, .ref msp, .int 0, .int 0, .int 0])), (lv, .inr (1, [.int 0, .ref de, .int 0])), (rn, .inr (1, [.int 0, .ref de, .int 0])), (sw, .inr (1, [.int 0, .ref de, .int 0])), (ml, .inl (cS, 6, .inl (slotF))), (mf, .inl (cF, 96, .inl (fun _ => 0)))]) [0, 1, 2, 3, 4, 5] rfl
  have hDc := hD.sub (ws' := [(om, .inr (20, [.ref mt, .ref qu, .int 0, .int th, .ref lv, .int (-1), .int 0, .int 0, .ref mi, .int 0, .int 0, .int 0, .int 0, .ref ml, .ref mss, .ref rn, .ref sw, .ref mf, .null, .int 0, .ref msp, .int 0, .int 0, .int 0])), (lv, .inr (1, [.int 0, .ref de, .int 0])), (rn, .inr (1, [.int 0, .ref de, .int 0])), (sw, .inr (1, [.int 0, .ref de, .int 0])), (ml, .inl (cS, 6, .inl (slotF))), (mf, .inl (cF, 96, .inl (fun _ => 0)))]) [0, 1, 2, 3, 4, 5] (by decide) rfl
  have hKc := hK.sub (tys' := [(cS, .int), (cF, .int)]) [0, 1] rfl
  have hFc := va_free (wc := [(om, .inr (20, [.ref mt, .ref qu, .int 0, .int th, .ref lv, .int (-1), .int 0, .int 0, .ref mi, .int 0, .int 0, .int 0, .int 0, .ref ml, .ref mss, .ref rn, .ref sw, .ref mf, .null, .int 0, .ref msp, .int 0, .int 0, .int 0])), (lv, .inr (1, [.int 0, .ref de, .int 0])), (rn, .inr (1, [.int 0, .ref de, .int 0])), (sw, .inr (1, [.int 0, .ref de, .int 0])), (ml, .inl (cS, 6, .inl (slotF))), (mf, .inl (cF, 96, .inl (fun _ => 0)))]) hD hS hA [0, 1, 2, 3, 4, 5] rfl
  refine va_calli (va_runV (As := [.int a1, .int a2, .int a4]) (rest := []) ⟨hx, hb, hml, hown, ht⟩ (c_X18_noCell l dC dI de (om) (mt) (qu) (lv) (mi) (ml) (mss) (rn) (sw) (mf) (msp) (cS) (cF) (th) (a1) (a2) (a4) s.heap.size) (cwV 3 ht (gWV (wr_20 _ (List.mem_of_getElem? (i := 4) rfl)) (wr_20 _ (List.mem_of_getElem? (i := 5) rfl)) (wr_20 _ (List.mem_of_getElem? (i := 6) rfl)) (wr_1 _ (List.mem_of_getElem? (i := 5) rfl)) (wr_20 _ (List.mem_of_getElem? (i := 7) rfl))) rfl rfl rfl (by decide +kernel) ⟨Nat.le_of_ble_eq_true rfl, Nat.le_of_ble_eq_true rfl⟩) ⟨PW_blind, va_recv hKc hPc (ci := 20) (q0 := 0) rfl rfl, PW_call hPc hDc hKc hS hG hFc⟩ rfl rfl hl.1 rfl (lv_room (Nat.le_of_ble_eq_true rfl)) dX18_guard_5 ⟨Nat.le_of_ble_eq_true rfl, Nat.le_of_ble_eq_true rfl⟩) hS (fun q _ h => hFc q h) hFc (fun r_5 u t H1 locs ht9 hvm hw hB hz1 hk1 hS => ?_)
  obtain ⟨hP1, hK1, hD1⟩ := hB
  rw [ht9] at hP1
  have hK1 := va_K.moved hvm.symm hK1
  obtain ⟨hP, hD⟩ := va_join (wr := []) (w1 := [(om, .inr (20, [.ref mt, .ref qu, .int 0, .int 1, .ref lv, .int (-1), .int 0, .int 0, .ref mi, .int 0, .int 0, .int 0, .int 0, .ref ml, .ref mss, .ref rn, .ref sw, .ref mf, .null, .int 0, .ref msp, .int 0, .int 0, .int 0])), (lv, .inr (1, [.int 0, .ref de, .int 0])), (rn, .inr (1, [.int 0, .ref de, .int 0])), (sw, .inr (1, [.int 0, .ref de, .int 0])), (ml, .inl (cS, 6, .inl (slotF))), (mf, .inl (cF, 96, .inl (fun _ => 0)))]) hP hD [0, 1, 2, 3, 4, 5] [] rfl rfl (by decide) (by decide) hk1 hFc hP1 hD1
  have hK := (hK.sub (tys' := []) [] rfl).app hK1
  generalize H1 = H at hP hS ⊢
  replace hP : va_P (dC, dI) vwCl [(om, .inr (20, [.ref mt, .ref qu, .int 0, .int 1, .ref lv, .int (-1), .int 0, .int 0, .ref mi, .int 0, .int 0, .int 0, .int 0, .ref ml, .ref mss, .ref rn, .ref sw, .ref mf, .null, .int 0, .ref msp, .int 0, .int 0, .int 0])), (lv, .inr (1, [.int 0, .ref de, .int 0])), (rn, .inr (1, [.int 0, .ref de, .int 0])), (sw, .inr (1, [.int 0, .ref de, .int 0])), (ml, .inl (cS, 6, .inl (slotF))), (mf, .inl (cF, 96, .inl (fun _ => 0)))] H := hP
  replace hD : va_D A [(om, .inr (20, [.ref mt, .ref qu, .int 0, .int 1, .ref lv, .int (-1), .int 0, .int 0, .ref mi, .int 0, .int 0, .int 0, .int 0, .ref ml, .ref mss, .ref rn, .ref sw, .ref mf, .null, .int 0, .ref msp, .int 0, .int 0, .int 0])), (lv, .inr (1, [.int 0, .ref de, .int 0])), (rn, .inr (1, [.int 0, .ref de, .int 0])), (sw, .inr (1, [.int 0, .ref de, .int 0])), (ml, .inl (cS, 6, .inl (slotF))), (mf, .inl (cF, 96, .inl (fun _ => 0)))] := hD
  have hK : va_K (dC, dI) vwCl [(cS, .int), (cF, .int)] s := hK
  have e_5 : r_5 = 1 := hw
  subst e_5
  refine lv_if_eq (tgt := 13) hx hb dX18_guard_8 (by decide) (fun c_8 => absurd c_8 (by decide)) (fun c_8 => ?_)
  refine lv_iconst (v := 0) hx hb dX18_guard_11 (by decide) ?_
  have hP9 := hP.sub (ws' := [(om, .inr (20, [.ref mt, .ref qu, .int 0, .int 1, .ref lv, .int (-1), .int 0, .int 0, .ref mi, .int 0, .int 0, .int 0, .int 0, .ref ml, .ref mss, .ref rn, .ref sw, .ref mf, .null, .int 0, .ref msp, .int 0, .int 0, .int 0])), (lv, .inr (1, [.int 0, .ref de, .int 0])), (rn, .inr (1, [.int 0, .ref de, .int 0])), (sw, .inr (1, [.int 0, .ref de, .int 0])), (ml, .inl (cS, 6, .inl (slotF))), (mf, .inl (cF, 96, .inl (fun _ => 0)))]) [0, 1, 2, 3, 4, 5] rfl
  have hD9 := hD.sub (ws' := [(om, .inr (20, [.ref mt, .ref qu, .int 0, .int 1, .ref lv, .int (-1), .int 0, .int 0, .ref mi, .int 0, .int 0, .int 0, .int 0, .ref ml, .ref mss, .ref rn, .ref sw, .ref mf, .null, .int 0, .ref msp, .int 0, .int 0, .int 0])), (lv, .inr (1, [.int 0, .ref de, .int 0])), (rn, .inr (1, [.int 0, .ref de, .int 0])), (sw, .inr (1, [.int 0, .ref de, .int 0])), (ml, .inl (cS, 6, .inl (slotF))), (mf, .inl (cF, 96, .inl (fun _ => 0)))]) [0, 1, 2, 3, 4, 5] (by decide) rfl
  have hK9 := hK.sub (tys' := [(cS, .int), (cF, .int)]) [0, 1] rfl
  exact W.iret (v := 0) hx hb hr (fun t htt hW => have ht := htt; ⟨⟨0, (), rfl, trivial, QW_of ht hW hP9 hK9 hD9⟩, hS.F ht⟩) hS.2.2 dX18_guard_12
set_option maxHeartbeats 4000000 in
set_option maxRecDepth 100000 in
theorem c_X18_guardAt (l : Launch) (dC : Nat → ClassId) (dI : Nat → Nat → Nat) (de : Nat) (om : Nat) (mt : Nat) (qu : Nat) (lv : Nat) (mi : Nat) (ml : Nat) (mss : Nat) (rn : Nat) (sw : Nat) (mf : Nat) (msp : Nat) (cS : ClassId) (cF : ClassId) (th : Int32) (a1 : Int32) (a2 : Int32) (a3 : Int32) (sz : Nat) : Met l yX18_guardAt (.code yX18_guardAt cX18_guardAt 5 (some .int) :: wsL_law) { frames := 2, cells := 0, slots := 0, locals := 43 } (va_Pc [.ref om, .int a1, .int a2, .int a3] (PW dC dI de [(cS, .int), (cF, .int)] (WM om mt qu lv mi ml mss rn sw mf msp cS cF th de) sz)) (va_Qi (fun (r : Int32) (u : Unit) => True) (fun (_ : Unit) (t : State) => QW dC dI [(cS, .int), (cF, .int)] (WM om mt qu lv mi ml mss rn sw mf msp cS cF 1 de) (va_A (WM om mt qu lv mi ml mss rn sw mf msp cS cF th de) sz) t) (va_A (WM om mt qu lv mi ml mss rn sw mf msp cS cF th de) sz)) 0 0 (va_A (WM om mt qu lv mi ml mss rn sw mf msp cS cF th de) sz) := by
  refine Met.ofW (cc := cX18_guardAt) (maxL := 5) (ret := (some .int)) (by decide) rfl ?_
  intro p e s m args below meth c s₁ B hml hv
  obtain ⟨rfl, hsz, hP, hK, hD0, hG⟩ := hv
  have hx := B.exec
  have hb := B.bytes
  have hr := B.returns
  have hts := atoms_spec (ws := .code yX18_guardAt cX18_guardAt 5 (some .int) :: wsL_law) B.pre
  have ht : ∀ w ∈ wsL_law, w.before _ s = true := fun w h => hts w (List.mem_cons_of_mem _ h)
  have hown : s.vm.findClass RX18 = some m.cls := findClass_of_methodNamed B.named
  have hlocks := B.notSynchronized
  subst hsz
  have hD := hD0.self (sz := s.heap.size)
  generalize hAe : va_A (WM om mt qu lv mi ml mss rn sw mf msp cS cF th de) s.heap.size = A at hD hG ⊢
  have hA : ∀ q : Nat, s.heap.size ≤ q → A q := fun q h => by rw [← hAe]; exact Or.inr h
  have hS : va_S A s.heap s.heap [] := va_S.rf
  have hP : va_P (dC, dI) vwCl [(om, .inr (20, [.ref mt, .ref qu, .int 0, .int th, .ref lv, .int (-1), .int 0, .int 0, .ref mi, .int 0, .int 0, .int 0, .int 0, .ref ml, .ref mss, .ref rn, .ref sw, .ref mf, .null, .int 0, .ref msp, .int 0, .int 0, .int 0])), (lv, .inr (1, [.int 0, .ref de, .int 0])), (rn, .inr (1, [.int 0, .ref de, .int 0])), (sw, .inr (1, [.int 0, .ref de, .int 0])), (ml, .inl (cS, 6, .inl (slotF))), (mf, .inl (cF, 96, .inl (fun _ => 0)))] s.heap := hP
  have hD : va_D A [(om, .inr (20, [.ref mt, .ref qu, .int 0, .int th, .ref lv, .int (-1), .int 0, .int 0, .ref mi, .int 0, .int 0, .int 0, .int 0, .ref ml, .ref mss, .ref rn, .ref sw, .ref mf, .null, .int 0, .ref msp, .int 0, .int 0, .int 0])), (lv, .inr (1, [.int 0, .ref de, .int 0])), (rn, .inr (1, [.int 0, .ref de, .int 0])), (sw, .inr (1, [.int 0, .ref de, .int 0])), (ml, .inl (cS, 6, .inl (slotF))), (mf, .inl (cF, 96, .inl (fun _ => 0)))] := hD
  have hl := lv_entry ([.ref om, .int a1, .int a2, .int a3]) (n := 5) (Nat.le_of_ble_eq_true rfl)
  rw [lg_entry_eq]
  generalize (lg_sl ([.ref om, .int a1, .int a2, .int a3]) ++ List.replicate (5 - (lg_sl ([.ref om, .int a1, .int a2, .int a3])).length) Slot.unset).toArray = ls at hl ⊢
  have hl : lv_has ls 5 [(0, .ref om), (1, .int a1), (2, .int a2), (3, .int a3)] := hl
  refine lv_aload_n hx hb dX18_guardAt_0 rfl (lv_at hl 0 rfl) ?_
  refine lv_iload_n hx hb dX18_guardAt_1 rfl (lv_at hl 1 rfl) ?_
  have hPc := hP.sub (ws' := [(om, .inr (20, [.ref mt, .ref qu, .int 0, .int th, .ref lv, .int (-1), .int 0, .int 0, .ref mi, .int 0, .int 0, .int 0, .int 0, .ref ml, .ref mss, .ref rn, .ref sw, .ref mf, .null, .int 0, .ref msp, .int 0, .int 0, .int 0])), (lv, .inr (1, [.int 0, .ref de, .int 0])), (rn, .inr (1, [.int 0, .ref de, .int 0])), (sw, .inr (1, [.int 0, .ref de, .int 0])), (ml, .inl (cS, 6, .inl (slotF))), (mf, .inl (cF, 96, .inl (fun _ => 0)))]) [0, 1, 2, 3, 4, 5] rfl
  have hDc := hD.sub (ws' := [(om, .inr (20, [.ref mt, .ref qu, .int 0, .int th, .ref lv, .int (-1), .int 0, .int 0, .ref mi, .int 0, .int 0, .int 0, .int 0, .ref ml, .ref mss, .ref rn, .ref sw, .ref mf, .null, .int 0, .ref msp, .int 0, .int 0, .int 0])), (lv, .inr (1, [.int 0, .ref de, .int 0])), (rn, .inr (1, [.int 0, .ref de, .int 0])), (sw, .inr (1, [.int 0, .ref de, .int 0])), (ml, .inl (cS, 6, .inl (slotF))), (mf, .inl (cF, 96, .inl (fun _ => 0)))]) [0, 1, 2, 3, 4, 5] (by decide) rfl
  have hKc := hK.sub (tys' := [(cS, .int), (cF, .int)]) [0, 1] rfl
  have hFc := va_free (wc := [(om, .inr (20, [.ref mt, .ref qu, .int 0, .int th, .ref lv, .int (-1), .int 0, .int 0, .ref mi, .int 0, .int 0, .int 0, .int 0, .ref ml, .ref mss, .ref rn, .ref sw, .ref mf, .null, .int 0, .ref msp, .int 0, .int 0, .int 0])), (lv, .inr (1, [.int 0, .ref de, .int 0])), (rn, .inr (1, [.int 0, .ref de, .int 0])), (sw, .inr (1, [.int 0, .ref de, .int 0])), (ml, .inl (cS, 6, .inl (slotF))), (mf, .inl (cF, 96, .inl (fun _ => 0)))]) hD hS hA [0, 1, 2, 3, 4, 5] rfl
  refine va_calli (va_runV (As := [.int a1]) (rest := []) ⟨hx, hb, hml, hown, ht⟩ (c_X18_noLevel l dC dI de (om) (mt) (qu) (lv) (mi) (ml) (mss) (rn) (sw) (mf) (msp) (cS) (cF) (th) (a1) s.heap.size) (cwV 1 ht (gWV (wr_24 _ (List.mem_of_getElem? (i := 8) rfl)) (wr_24 _ (List.mem_of_getElem? (i := 9) rfl)) (wr_24 _ (List.mem_of_getElem? (i := 10) rfl)) (wr_1 _ (List.mem_of_getElem? (i := 5) rfl)) (wr_24 _ (List.mem_of_getElem? (i := 11) rfl))) rfl rfl rfl (by decide +kernel) ⟨Nat.le_of_ble_eq_true rfl, Nat.le_of_ble_eq_true rfl⟩) ⟨PW_blind, va_recv hKc hPc (ci := 20) (q0 := 0) rfl rfl, PW_call hPc hDc hKc hS hG hFc⟩ rfl rfl hl.1 rfl (lv_room (Nat.le_of_ble_eq_true rfl)) dX18_guardAt_2 ⟨Nat.le_of_ble_eq_true rfl, Nat.le_of_ble_eq_true rfl⟩) hS (fun q _ h => hFc q h) hFc (fun r_2 u t H1 locs ht9 hvm hw hB hz1 hk1 hS => ?_)
  obtain ⟨hP1, hK1, hD1⟩ := hB
  rw [ht9] at hP1
  have hK1 := va_K.moved hvm.symm hK1
  obtain ⟨hP, hD⟩ := va_join (wr := []) (w1 := [(om, .inr (20, [.ref mt, .ref qu, .int 0, .int 1, .ref lv, .int (-1), .int 0, .int 0, .ref mi, .int 0, .int 0, .int 0, .int 0, .ref ml, .ref mss, .ref rn, .ref sw, .ref mf, .null, .int 0, .ref msp, .int 0, .int 0, .int 0])), (lv, .inr (1, [.int 0, .ref de, .int 0])), (rn, .inr (1, [.int 0, .ref de, .int 0])), (sw, .inr (1, [.int 0, .ref de, .int 0])), (ml, .inl (cS, 6, .inl (slotF))), (mf, .inl (cF, 96, .inl (fun _ => 0)))]) hP hD [0, 1, 2, 3, 4, 5] [] rfl rfl (by decide) (by decide) hk1 hFc hP1 hD1
  have hK := (hK.sub (tys' := []) [] rfl).app hK1
  generalize H1 = H at hP hS ⊢
  replace hP : va_P (dC, dI) vwCl [(om, .inr (20, [.ref mt, .ref qu, .int 0, .int 1, .ref lv, .int (-1), .int 0, .int 0, .ref mi, .int 0, .int 0, .int 0, .int 0, .ref ml, .ref mss, .ref rn, .ref sw, .ref mf, .null, .int 0, .ref msp, .int 0, .int 0, .int 0])), (lv, .inr (1, [.int 0, .ref de, .int 0])), (rn, .inr (1, [.int 0, .ref de, .int 0])), (sw, .inr (1, [.int 0, .ref de, .int 0])), (ml, .inl (cS, 6, .inl (slotF))), (mf, .inl (cF, 96, .inl (fun _ => 0)))] H := hP
  replace hD : va_D A [(om, .inr (20, [.ref mt, .ref qu, .int 0, .int 1, .ref lv, .int (-1), .int 0, .int 0, .ref mi, .int 0, .int 0, .int 0, .int 0, .ref ml, .ref mss, .ref rn, .ref sw, .ref mf, .null, .int 0, .ref msp, .int 0, .int 0, .int 0])), (lv, .inr (1, [.int 0, .ref de, .int 0])), (rn, .inr (1, [.int 0, .ref de, .int 0])), (sw, .inr (1, [.int 0, .ref de, .int 0])), (ml, .inl (cS, 6, .inl (slotF))), (mf, .inl (cF, 96, .inl (fun _ => 0)))] := hD
  have hK : va_K (dC, dI) vwCl [(cS, .int), (cF, .int)] s := hK
  have e_2 : r_2 = 1 := hw
  subst e_2
  refine lv_if_eq (tgt := 10) hx hb dX18_guardAt_5 (by decide) (fun c_5 => absurd c_5 (by decide)) (fun c_5 => ?_)
  refine lv_iconst (v := 0) hx hb dX18_guardAt_8 (by decide) ?_
  have hP9 := hP.sub (ws' := [(om, .inr (20, [.ref mt, .ref qu, .int 0, .int 1, .ref lv, .int (-1), .int 0, .int 0, .ref mi, .int 0, .int 0, .int 0, .int 0, .ref ml, .ref mss, .ref rn, .ref sw, .ref mf, .null, .int 0, .ref msp, .int 0, .int 0, .int 0])), (lv, .inr (1, [.int 0, .ref de, .int 0])), (rn, .inr (1, [.int 0, .ref de, .int 0])), (sw, .inr (1, [.int 0, .ref de, .int 0])), (ml, .inl (cS, 6, .inl (slotF))), (mf, .inl (cF, 96, .inl (fun _ => 0)))]) [0, 1, 2, 3, 4, 5] rfl
  have hD9 := hD.sub (ws' := [(om, .inr (20, [.ref mt, .ref qu, .int 0, .int 1, .ref lv, .int (-1), .int 0, .int 0, .ref mi, .int 0, .int 0, .int 0, .int 0, .ref ml, .ref mss, .ref rn, .ref sw, .ref mf, .null, .int 0, .ref msp, .int 0, .int 0, .int 0])), (lv, .inr (1, [.int 0, .ref de, .int 0])), (rn, .inr (1, [.int 0, .ref de, .int 0])), (sw, .inr (1, [.int 0, .ref de, .int 0])), (ml, .inl (cS, 6, .inl (slotF))), (mf, .inl (cF, 96, .inl (fun _ => 0)))]) [0, 1, 2, 3, 4, 5] (by decide) rfl
  have hK9 := hK.sub (tys' := [(cS, .int), (cF, .int)]) [0, 1] rfl
  exact W.iret (v := 0) hx hb hr (fun t htt hW => have ht := htt; ⟨⟨0, (), rfl, trivial, QW_of ht hW hP9 hK9 hD9⟩, hS.F ht⟩) hS.2.2 dX18_guardAt_9
set_option maxHeartbeats 4000000 in
set_option maxRecDepth 100000 in
theorem c_X18_copy (l : Launch) (dC : Nat → ClassId) (dI : Nat → Nat → Nat) (de : Nat) (om : Nat) (mt : Nat) (qu : Nat) (lv : Nat) (mi : Nat) (ml : Nat) (mss : Nat) (rn : Nat) (sw : Nat) (mf : Nat) (msp : Nat) (cS : ClassId) (cF : ClassId) (th : Int32) (a1 : Int32) (sz : Nat) : Met l yX18_copy (.code yX18_copy cX18_copy 2 (some .int) :: wsL_law) { frames := 2, cells := 0, slots := 0, locals := 43 } (va_Pc [.ref om, .int a1] (PW dC dI de [(cS, .int), (cF, .int)] (WM om mt qu lv mi ml mss rn sw mf msp cS cF th de) sz)) (va_Qi (fun (r : Int32) (u : Unit) => True) (fun (_ : Unit) (t : State) => QW dC dI [(cS, .int), (cF, .int)] (WM om mt qu lv mi ml mss rn sw mf msp cS cF 1 de) (va_A (WM om mt qu lv mi ml mss rn sw mf msp cS cF th de) sz) t) (va_A (WM om mt qu lv mi ml mss rn sw mf msp cS cF th de) sz)) 0 0 (va_A (WM om mt qu lv mi ml mss rn sw mf msp cS cF th de) sz) := by
  refine Met.ofW (cc := cX18_copy) (maxL := 2) (ret := (some .int)) (by decide) rfl ?_
  intro p e s m args below meth c s₁ B hml hv
  obtain ⟨rfl, hsz, hP, hK, hD0, hG⟩ := hv
  have hx := B.exec
  have hb := B.bytes
  have hr := B.returns
  have hts := atoms_spec (ws := .code yX18_copy cX18_copy 2 (some .int) :: wsL_law) B.pre
  have ht : ∀ w ∈ wsL_law, w.before _ s = true := fun w h => hts w (List.mem_cons_of_mem _ h)
  have hown : s.vm.findClass RX18 = some m.cls := findClass_of_methodNamed B.named
  have hlocks := B.notSynchronized
  subst hsz
  have hD := hD0.self (sz := s.heap.size)
  generalize hAe : va_A (WM om mt qu lv mi ml mss rn sw mf msp cS cF th de) s.heap.size = A at hD hG ⊢
  have hA : ∀ q : Nat, s.heap.size ≤ q → A q := fun q h => by rw [← hAe]; exact Or.inr h
  have hS : va_S A s.heap s.heap [] := va_S.rf
  have hP : va_P (dC, dI) vwCl [(om, .inr (20, [.ref mt, .ref qu, .int 0, .int th, .ref lv, .int (-1), .int 0, .int 0, .ref mi, .int 0, .int 0, .int 0, .int 0, .ref ml, .ref mss, .ref rn, .ref sw, .ref mf, .null, .int 0, .ref msp, .int 0, .int 0, .int 0])), (lv, .inr (1, [.int 0, .ref de, .int 0])), (rn, .inr (1, [.int 0, .ref de, .int 0])), (sw, .inr (1, [.int 0, .ref de, .int 0])), (ml, .inl (cS, 6, .inl (slotF))), (mf, .inl (cF, 96, .inl (fun _ => 0)))] s.heap := hP
  have hD : va_D A [(om, .inr (20, [.ref mt, .ref qu, .int 0, .int th, .ref lv, .int (-1), .int 0, .int 0, .ref mi, .int 0, .int 0, .int 0, .int 0, .ref ml, .ref mss, .ref rn, .ref sw, .ref mf, .null, .int 0, .ref msp, .int 0, .int 0, .int 0])), (lv, .inr (1, [.int 0, .ref de, .int 0])), (rn, .inr (1, [.int 0, .ref de, .int 0])), (sw, .inr (1, [.int 0, .ref de, .int 0])), (ml, .inl (cS, 6, .inl (slotF))), (mf, .inl (cF, 96, .inl (fun _ => 0)))] := hD
  have hl := lv_entry ([.ref om, .int a1]) (n := 2) (Nat.le_of_ble_eq_true rfl)
  rw [lg_entry_eq]
  generalize (lg_sl ([.ref om, .int a1]) ++ List.replicate (2 - (lg_sl ([.ref om, .int a1])).length) Slot.unset).toArray = ls at hl ⊢
  have hl : lv_has ls 2 [(0, .ref om), (1, .int a1)] := hl
  refine lv_aload_n hx hb dX18_copy_0 rfl (lv_at hl 0 rfl) ?_
  refine lv_iload_n hx hb dX18_copy_1 rfl (lv_at hl 1 rfl) ?_
  have hPc := hP.sub (ws' := [(om, .inr (20, [.ref mt, .ref qu, .int 0, .int th, .ref lv, .int (-1), .int 0, .int 0, .ref mi, .int 0, .int 0, .int 0, .int 0, .ref ml, .ref mss, .ref rn, .ref sw, .ref mf, .null, .int 0, .ref msp, .int 0, .int 0, .int 0])), (lv, .inr (1, [.int 0, .ref de, .int 0])), (rn, .inr (1, [.int 0, .ref de, .int 0])), (sw, .inr (1, [.int 0, .ref de, .int 0])), (ml, .inl (cS, 6, .inl (slotF))), (mf, .inl (cF, 96, .inl (fun _ => 0)))]) [0, 1, 2, 3, 4, 5] rfl
  have hDc := hD.sub (ws' := [(om, .inr (20, [.ref mt, .ref qu, .int 0, .int th, .ref lv, .int (-1), .int 0, .int 0, .ref mi, .int 0, .int 0, .int 0, .int 0, .ref ml, .ref mss, .ref rn, .ref sw, .ref mf, .null, .int 0, .ref msp, .int 0, .int 0, .int 0])), (lv, .inr (1, [.int 0, .ref de, .int 0])), (rn, .inr (1, [.int 0, .ref de, .int 0])), (sw, .inr (1, [.int 0, .ref de, .int 0])), (ml, .inl (cS, 6, .inl (slotF))), (mf, .inl (cF, 96, .inl (fun _ => 0)))]) [0, 1, 2, 3, 4, 5] (by decide) rfl
  have hKc := hK.sub (tys' := [(cS, .int), (cF, .int)]) [0, 1] rfl
  have hFc := va_free (wc := [(om, .inr (20, [.ref mt, .ref qu, .int 0, .int th, .ref lv, .int (-1), .int 0, .int 0, .ref mi, .int 0, .int 0, .int 0, .int 0, .ref ml, .ref mss, .ref rn, .ref sw, .ref mf, .null, .int 0, .ref msp, .int 0, .int 0, .int 0])), (lv, .inr (1, [.int 0, .ref de, .int 0])), (rn, .inr (1, [.int 0, .ref de, .int 0])), (sw, .inr (1, [.int 0, .ref de, .int 0])), (ml, .inl (cS, 6, .inl (slotF))), (mf, .inl (cF, 96, .inl (fun _ => 0)))]) hD hS hA [0, 1, 2, 3, 4, 5] rfl
  refine va_calli (va_runV (As := [.int a1]) (rest := []) ⟨hx, hb, hml, hown, ht⟩ (c_X18_noLevel l dC dI de (om) (mt) (qu) (lv) (mi) (ml) (mss) (rn) (sw) (mf) (msp) (cS) (cF) (th) (a1) s.heap.size) (cwV 1 ht (gWV (wr_24 _ (List.mem_of_getElem? (i := 8) rfl)) (wr_24 _ (List.mem_of_getElem? (i := 9) rfl)) (wr_24 _ (List.mem_of_getElem? (i := 10) rfl)) (wr_1 _ (List.mem_of_getElem? (i := 5) rfl)) (wr_24 _ (List.mem_of_getElem? (i := 11) rfl))) rfl rfl rfl (by decide +kernel) ⟨Nat.le_of_ble_eq_true rfl, Nat.le_of_ble_eq_true rfl⟩) ⟨PW_blind, va_recv hKc hPc (ci := 20) (q0 := 0) rfl rfl, PW_call hPc hDc hKc hS hG hFc⟩ rfl rfl hl.1 rfl (lv_room (Nat.le_of_ble_eq_true rfl)) dX18_copy_2 ⟨Nat.le_of_ble_eq_true rfl, Nat.le_of_ble_eq_true rfl⟩) hS (fun q _ h => hFc q h) hFc (fun r_2 u t H1 locs ht9 hvm hw hB hz1 hk1 hS => ?_)
  obtain ⟨hP1, hK1, hD1⟩ := hB
  rw [ht9] at hP1
  have hK1 := va_K.moved hvm.symm hK1
  obtain ⟨hP, hD⟩ := va_join (wr := []) (w1 := [(om, .inr (20, [.ref mt, .ref qu, .int 0, .int 1, .ref lv, .int (-1), .int 0, .int 0, .ref mi, .int 0, .int 0, .int 0, .int 0, .ref ml, .ref mss, .ref rn, .ref sw, .ref mf, .null, .int 0, .ref msp, .int 0, .int 0, .int 0])), (lv, .inr (1, [.int 0, .ref de, .int 0])), (rn, .inr (1, [.int 0, .ref de, .int 0])), (sw, .inr (1, [.int 0, .ref de, .int 0])), (ml, .inl (cS, 6, .inl (slotF))), (mf, .inl (cF, 96, .inl (fun _ => 0)))]) hP hD [0, 1, 2, 3, 4, 5] [] rfl rfl (by decide) (by decide) hk1 hFc hP1 hD1
  have hK := (hK.sub (tys' := []) [] rfl).app hK1
  generalize H1 = H at hP hS ⊢
  replace hP : va_P (dC, dI) vwCl [(om, .inr (20, [.ref mt, .ref qu, .int 0, .int 1, .ref lv, .int (-1), .int 0, .int 0, .ref mi, .int 0, .int 0, .int 0, .int 0, .ref ml, .ref mss, .ref rn, .ref sw, .ref mf, .null, .int 0, .ref msp, .int 0, .int 0, .int 0])), (lv, .inr (1, [.int 0, .ref de, .int 0])), (rn, .inr (1, [.int 0, .ref de, .int 0])), (sw, .inr (1, [.int 0, .ref de, .int 0])), (ml, .inl (cS, 6, .inl (slotF))), (mf, .inl (cF, 96, .inl (fun _ => 0)))] H := hP
  replace hD : va_D A [(om, .inr (20, [.ref mt, .ref qu, .int 0, .int 1, .ref lv, .int (-1), .int 0, .int 0, .ref mi, .int 0, .int 0, .int 0, .int 0, .ref ml, .ref mss, .ref rn, .ref sw, .ref mf, .null, .int 0, .ref msp, .int 0, .int 0, .int 0])), (lv, .inr (1, [.int 0, .ref de, .int 0])), (rn, .inr (1, [.int 0, .ref de, .int 0])), (sw, .inr (1, [.int 0, .ref de, .int 0])), (ml, .inl (cS, 6, .inl (slotF))), (mf, .inl (cF, 96, .inl (fun _ => 0)))] := hD
  have hK : va_K (dC, dI) vwCl [(cS, .int), (cF, .int)] s := hK
  have e_2 : r_2 = 1 := hw
  subst e_2
  refine lv_if_eq (tgt := 10) hx hb dX18_copy_5 (by decide) (fun c_5 => absurd c_5 (by decide)) (fun c_5 => ?_)
  refine lv_iconst (v := 0) hx hb dX18_copy_8 (by decide) ?_
  have hP9 := hP.sub (ws' := [(om, .inr (20, [.ref mt, .ref qu, .int 0, .int 1, .ref lv, .int (-1), .int 0, .int 0, .ref mi, .int 0, .int 0, .int 0, .int 0, .ref ml, .ref mss, .ref rn, .ref sw, .ref mf, .null, .int 0, .ref msp, .int 0, .int 0, .int 0])), (lv, .inr (1, [.int 0, .ref de, .int 0])), (rn, .inr (1, [.int 0, .ref de, .int 0])), (sw, .inr (1, [.int 0, .ref de, .int 0])), (ml, .inl (cS, 6, .inl (slotF))), (mf, .inl (cF, 96, .inl (fun _ => 0)))]) [0, 1, 2, 3, 4, 5] rfl
  have hD9 := hD.sub (ws' := [(om, .inr (20, [.ref mt, .ref qu, .int 0, .int 1, .ref lv, .int (-1), .int 0, .int 0, .ref mi, .int 0, .int 0, .int 0, .int 0, .ref ml, .ref mss, .ref rn, .ref sw, .ref mf, .null, .int 0, .ref msp, .int 0, .int 0, .int 0])), (lv, .inr (1, [.int 0, .ref de, .int 0])), (rn, .inr (1, [.int 0, .ref de, .int 0])), (sw, .inr (1, [.int 0, .ref de, .int 0])), (ml, .inl (cS, 6, .inl (slotF))), (mf, .inl (cF, 96, .inl (fun _ => 0)))]) [0, 1, 2, 3, 4, 5] (by decide) rfl
  have hK9 := hK.sub (tys' := [(cS, .int), (cF, .int)]) [0, 1] rfl
  exact W.iret (v := 0) hx hb hr (fun t htt hW => have ht := htt; ⟨⟨0, (), rfl, trivial, QW_of ht hW hP9 hK9 hD9⟩, hS.F ht⟩) hS.2.2 dX18_copy_9
set_option maxHeartbeats 4000000 in
set_option maxRecDepth 100000 in
theorem c_X18_grow (l : Launch) (dC : Nat → ClassId) (dI : Nat → Nat → Nat) (de : Nat) (om : Nat) (mt : Nat) (qu : Nat) (lv : Nat) (mi : Nat) (ml : Nat) (mss : Nat) (rn : Nat) (sw : Nat) (mf : Nat) (msp : Nat) (cS : ClassId) (cF : ClassId) (th : Int32) (a1 : Int32) (a2 : Int32) (sz : Nat) : Met l yX18_grow (.code yX18_grow cX18_grow 13 (some .int) :: wsL_law) { frames := 2, cells := 0, slots := 0, locals := 43 } (va_Pc [.ref om, .int a1, .int a2] (PW dC dI de [(cS, .int), (cF, .int)] (WM om mt qu lv mi ml mss rn sw mf msp cS cF th de) sz)) (va_Qi (fun (r : Int32) (u : Unit) => True) (fun (_ : Unit) (t : State) => QW dC dI [(cS, .int), (cF, .int)] (WM om mt qu lv mi ml mss rn sw mf msp cS cF 1 de) (va_A (WM om mt qu lv mi ml mss rn sw mf msp cS cF th de) sz) t) (va_A (WM om mt qu lv mi ml mss rn sw mf msp cS cF th de) sz)) 0 0 (va_A (WM om mt qu lv mi ml mss rn sw mf msp cS cF th de) sz) := by
  refine Met.ofW (cc := cX18_grow) (maxL := 13) (ret := (some .int)) (by decide) rfl ?_
  intro p e s m args below meth c s₁ B hml hv
  obtain ⟨rfl, hsz, hP, hK, hD0, hG⟩ := hv
  have hx := B.exec
  have hb := B.bytes
  have hr := B.returns
  have hts := atoms_spec (ws := .code yX18_grow cX18_grow 13 (some .int) :: wsL_law) B.pre
  have ht : ∀ w ∈ wsL_law, w.before _ s = true := fun w h => hts w (List.mem_cons_of_mem _ h)
  have hown : s.vm.findClass RX18 = some m.cls := findClass_of_methodNamed B.named
  have hlocks := B.notSynchronized
  subst hsz
  have hD := hD0.self (sz := s.heap.size)
  generalize hAe : va_A (WM om mt qu lv mi ml mss rn sw mf msp cS cF th de) s.heap.size = A at hD hG ⊢
  have hA : ∀ q : Nat, s.heap.size ≤ q → A q := fun q h => by rw [← hAe]; exact Or.inr h
  have hS : va_S A s.heap s.heap [] := va_S.rf
  have hP : va_P (dC, dI) vwCl [(om, .inr (20, [.ref mt, .ref qu, .int 0, .int th, .ref lv, .int (-1), .int 0, .int 0, .ref mi, .int 0, .int 0, .int 0, .int 0, .ref ml, .ref mss, .ref rn, .ref sw, .ref mf, .null, .int 0, .ref msp, .int 0, .int 0, .int 0])), (lv, .inr (1, [.int 0, .ref de, .int 0])), (rn, .inr (1, [.int 0, .ref de, .int 0])), (sw, .inr (1, [.int 0, .ref de, .int 0])), (ml, .inl (cS, 6, .inl (slotF))), (mf, .inl (cF, 96, .inl (fun _ => 0)))] s.heap := hP
  have hD : va_D A [(om, .inr (20, [.ref mt, .ref qu, .int 0, .int th, .ref lv, .int (-1), .int 0, .int 0, .ref mi, .int 0, .int 0, .int 0, .int 0, .ref ml, .ref mss, .ref rn, .ref sw, .ref mf, .null, .int 0, .ref msp, .int 0, .int 0, .int 0])), (lv, .inr (1, [.int 0, .ref de, .int 0])), (rn, .inr (1, [.int 0, .ref de, .int 0])), (sw, .inr (1, [.int 0, .ref de, .int 0])), (ml, .inl (cS, 6, .inl (slotF))), (mf, .inl (cF, 96, .inl (fun _ => 0)))] := hD
  have hl := lv_entry ([.ref om, .int a1, .int a2]) (n := 13) (Nat.le_of_ble_eq_true rfl)
  rw [lg_entry_eq]
  generalize (lg_sl ([.ref om, .int a1, .int a2]) ++ List.replicate (13 - (lg_sl ([.ref om, .int a1, .int a2])).length) Slot.unset).toArray = ls at hl ⊢
  have hl : lv_has ls 13 [(0, .ref om), (1, .int a1), (2, .int a2)] := hl
  refine lv_aload_n hx hb dX18_grow_0 rfl (lv_at hl 0 rfl) ?_
  refine lv_iload_n hx hb dX18_grow_1 rfl (lv_at hl 1 rfl) ?_
  have hPc := hP.sub (ws' := [(om, .inr (20, [.ref mt, .ref qu, .int 0, .int th, .ref lv, .int (-1), .int 0, .int 0, .ref mi, .int 0, .int 0, .int 0, .int 0, .ref ml, .ref mss, .ref rn, .ref sw, .ref mf, .null, .int 0, .ref msp, .int 0, .int 0, .int 0])), (lv, .inr (1, [.int 0, .ref de, .int 0])), (rn, .inr (1, [.int 0, .ref de, .int 0])), (sw, .inr (1, [.int 0, .ref de, .int 0])), (ml, .inl (cS, 6, .inl (slotF))), (mf, .inl (cF, 96, .inl (fun _ => 0)))]) [0, 1, 2, 3, 4, 5] rfl
  have hDc := hD.sub (ws' := [(om, .inr (20, [.ref mt, .ref qu, .int 0, .int th, .ref lv, .int (-1), .int 0, .int 0, .ref mi, .int 0, .int 0, .int 0, .int 0, .ref ml, .ref mss, .ref rn, .ref sw, .ref mf, .null, .int 0, .ref msp, .int 0, .int 0, .int 0])), (lv, .inr (1, [.int 0, .ref de, .int 0])), (rn, .inr (1, [.int 0, .ref de, .int 0])), (sw, .inr (1, [.int 0, .ref de, .int 0])), (ml, .inl (cS, 6, .inl (slotF))), (mf, .inl (cF, 96, .inl (fun _ => 0)))]) [0, 1, 2, 3, 4, 5] (by decide) rfl
  have hKc := hK.sub (tys' := [(cS, .int), (cF, .int)]) [0, 1] rfl
  have hFc := va_free (wc := [(om, .inr (20, [.ref mt, .ref qu, .int 0, .int th, .ref lv, .int (-1), .int 0, .int 0, .ref mi, .int 0, .int 0, .int 0, .int 0, .ref ml, .ref mss, .ref rn, .ref sw, .ref mf, .null, .int 0, .ref msp, .int 0, .int 0, .int 0])), (lv, .inr (1, [.int 0, .ref de, .int 0])), (rn, .inr (1, [.int 0, .ref de, .int 0])), (sw, .inr (1, [.int 0, .ref de, .int 0])), (ml, .inl (cS, 6, .inl (slotF))), (mf, .inl (cF, 96, .inl (fun _ => 0)))]) hD hS hA [0, 1, 2, 3, 4, 5] rfl
  refine va_calli (va_runV (As := [.int a1]) (rest := []) ⟨hx, hb, hml, hown, ht⟩ (c_X18_noLevel l dC dI de (om) (mt) (qu) (lv) (mi) (ml) (mss) (rn) (sw) (mf) (msp) (cS) (cF) (th) (a1) s.heap.size) (cwV 1 ht (gWV (wr_24 _ (List.mem_of_getElem? (i := 8) rfl)) (wr_24 _ (List.mem_of_getElem? (i := 9) rfl)) (wr_24 _ (List.mem_of_getElem? (i := 10) rfl)) (wr_1 _ (List.mem_of_getElem? (i := 5) rfl)) (wr_24 _ (List.mem_of_getElem? (i := 11) rfl))) rfl rfl rfl (by decide +kernel) ⟨Nat.le_of_ble_eq_true rfl, Nat.le_of_ble_eq_true rfl⟩) ⟨PW_blind, va_recv hKc hPc (ci := 20) (q0 := 0) rfl rfl, PW_call hPc hDc hKc hS hG hFc⟩ rfl rfl hl.1 rfl (lv_room (Nat.le_of_ble_eq_true rfl)) dX18_grow_2 ⟨Nat.le_of_ble_eq_true rfl, Nat.le_of_ble_eq_true rfl⟩) hS (fun q _ h => hFc q h) hFc (fun r_2 u t H1 locs ht9 hvm hw hB hz1 hk1 hS => ?_)
  obtain ⟨hP1, hK1, hD1⟩ := hB
  rw [ht9] at hP1
  have hK1 := va_K.moved hvm.symm hK1
  obtain ⟨hP, hD⟩ := va_join (wr := []) (w1 := [(om, .inr (20, [.ref mt, .ref qu, .int 0, .int 1, .ref lv, .int (-1), .int 0, .int 0, .ref mi, .int 0, .int 0, .int 0, .int 0, .ref ml, .ref mss, .ref rn, .ref sw, .ref mf, .null, .int 0, .ref msp, .int 0, .int 0, .int 0])), (lv, .inr (1, [.int 0, .ref de, .int 0])), (rn, .inr (1, [.int 0, .ref de, .int 0])), (sw, .inr (1, [.int 0, .ref de, .int 0])), (ml, .inl (cS, 6, .inl (slotF))), (mf, .inl (cF, 96, .inl (fun _ => 0)))]) hP hD [0, 1, 2, 3, 4, 5] [] rfl rfl (by decide) (by decide) hk1 hFc hP1 hD1
  have hK := (hK.sub (tys' := []) [] rfl).app hK1
  generalize H1 = H at hP hS ⊢
  replace hP : va_P (dC, dI) vwCl [(om, .inr (20, [.ref mt, .ref qu, .int 0, .int 1, .ref lv, .int (-1), .int 0, .int 0, .ref mi, .int 0, .int 0, .int 0, .int 0, .ref ml, .ref mss, .ref rn, .ref sw, .ref mf, .null, .int 0, .ref msp, .int 0, .int 0, .int 0])), (lv, .inr (1, [.int 0, .ref de, .int 0])), (rn, .inr (1, [.int 0, .ref de, .int 0])), (sw, .inr (1, [.int 0, .ref de, .int 0])), (ml, .inl (cS, 6, .inl (slotF))), (mf, .inl (cF, 96, .inl (fun _ => 0)))] H := hP
  replace hD : va_D A [(om, .inr (20, [.ref mt, .ref qu, .int 0, .int 1, .ref lv, .int (-1), .int 0, .int 0, .ref mi, .int 0, .int 0, .int 0, .int 0, .ref ml, .ref mss, .ref rn, .ref sw, .ref mf, .null, .int 0, .ref msp, .int 0, .int 0, .int 0])), (lv, .inr (1, [.int 0, .ref de, .int 0])), (rn, .inr (1, [.int 0, .ref de, .int 0])), (sw, .inr (1, [.int 0, .ref de, .int 0])), (ml, .inl (cS, 6, .inl (slotF))), (mf, .inl (cF, 96, .inl (fun _ => 0)))] := hD
  have hK : va_K (dC, dI) vwCl [(cS, .int), (cF, .int)] s := hK
  have e_2 : r_2 = 1 := hw
  subst e_2
  refine lv_if_eq (tgt := 10) hx hb dX18_grow_5 (by decide) (fun c_5 => absurd c_5 (by decide)) (fun c_5 => ?_)
  refine lv_iconst (v := 0) hx hb dX18_grow_8 (by decide) ?_
  have hP9 := hP.sub (ws' := [(om, .inr (20, [.ref mt, .ref qu, .int 0, .int 1, .ref lv, .int (-1), .int 0, .int 0, .ref mi, .int 0, .int 0, .int 0, .int 0, .ref ml, .ref mss, .ref rn, .ref sw, .ref mf, .null, .int 0, .ref msp, .int 0, .int 0, .int 0])), (lv, .inr (1, [.int 0, .ref de, .int 0])), (rn, .inr (1, [.int 0, .ref de, .int 0])), (sw, .inr (1, [.int 0, .ref de, .int 0])), (ml, .inl (cS, 6, .inl (slotF))), (mf, .inl (cF, 96, .inl (fun _ => 0)))]) [0, 1, 2, 3, 4, 5] rfl
  have hD9 := hD.sub (ws' := [(om, .inr (20, [.ref mt, .ref qu, .int 0, .int 1, .ref lv, .int (-1), .int 0, .int 0, .ref mi, .int 0, .int 0, .int 0, .int 0, .ref ml, .ref mss, .ref rn, .ref sw, .ref mf, .null, .int 0, .ref msp, .int 0, .int 0, .int 0])), (lv, .inr (1, [.int 0, .ref de, .int 0])), (rn, .inr (1, [.int 0, .ref de, .int 0])), (sw, .inr (1, [.int 0, .ref de, .int 0])), (ml, .inl (cS, 6, .inl (slotF))), (mf, .inl (cF, 96, .inl (fun _ => 0)))]) [0, 1, 2, 3, 4, 5] (by decide) rfl
  have hK9 := hK.sub (tys' := [(cS, .int), (cF, .int)]) [0, 1] rfl
  exact W.iret (v := 0) hx hb hr (fun t htt hW => have ht := htt; ⟨⟨0, (), rfl, trivial, QW_of ht hW hP9 hK9 hD9⟩, hS.F ht⟩) hS.2.2 dX18_grow_9
set_option maxHeartbeats 4000000 in
set_option maxRecDepth 100000 in
theorem c_X18_isWinnable (l : Launch) (dC : Nat → ClassId) (dI : Nat → Nat → Nat) (de : Nat) (om : Nat) (mt : Nat) (qu : Nat) (lv : Nat) (mi : Nat) (ml : Nat) (mss : Nat) (rn : Nat) (sw : Nat) (mf : Nat) (msp : Nat) (cS : ClassId) (cF : ClassId) (th : Int32) (a1 : Int32) (sz : Nat) : Met l yX18_isWinnable (.code yX18_isWinnable cX18_isWinnable 2 (some .boolean) :: wsL_law) { frames := 2, cells := 0, slots := 0, locals := 43 } (va_Pc [.ref om, .int a1] (PW dC dI de [(cS, .int), (cF, .int)] (WM om mt qu lv mi ml mss rn sw mf msp cS cF th de) sz)) (va_Qi (fun (r : Int32) (u : Unit) => True) (fun (_ : Unit) (t : State) => QW dC dI [(cS, .int), (cF, .int)] (WM om mt qu lv mi ml mss rn sw mf msp cS cF 1 de) (va_A (WM om mt qu lv mi ml mss rn sw mf msp cS cF th de) sz) t) (va_A (WM om mt qu lv mi ml mss rn sw mf msp cS cF th de) sz)) 0 0 (va_A (WM om mt qu lv mi ml mss rn sw mf msp cS cF th de) sz) := by
  refine Met.ofW (cc := cX18_isWinnable) (maxL := 2) (ret := (some .boolean)) (by decide) rfl ?_
  intro p e s m args below meth c s₁ B hml hv
  obtain ⟨rfl, hsz, hP, hK, hD0, hG⟩ := hv
  have hx := B.exec
  have hb := B.bytes
  have hr := B.returns
  have hts := atoms_spec (ws := .code yX18_isWinnable cX18_isWinnable 2 (some .boolean) :: wsL_law) B.pre
  have ht : ∀ w ∈ wsL_law, w.before _ s = true := fun w h => hts w (List.mem_cons_of_mem _ h)
  have hown : s.vm.findClass RX18 = some m.cls := findClass_of_methodNamed B.named
  have hlocks := B.notSynchronized
  subst hsz
  have hD := hD0.self (sz := s.heap.size)
  generalize hAe : va_A (WM om mt qu lv mi ml mss rn sw mf msp cS cF th de) s.heap.size = A at hD hG ⊢
  have hA : ∀ q : Nat, s.heap.size ≤ q → A q := fun q h => by rw [← hAe]; exact Or.inr h
  have hS : va_S A s.heap s.heap [] := va_S.rf
  have hP : va_P (dC, dI) vwCl [(om, .inr (20, [.ref mt, .ref qu, .int 0, .int th, .ref lv, .int (-1), .int 0, .int 0, .ref mi, .int 0, .int 0, .int 0, .int 0, .ref ml, .ref mss, .ref rn, .ref sw, .ref mf, .null, .int 0, .ref msp, .int 0, .int 0, .int 0])), (lv, .inr (1, [.int 0, .ref de, .int 0])), (rn, .inr (1, [.int 0, .ref de, .int 0])), (sw, .inr (1, [.int 0, .ref de, .int 0])), (ml, .inl (cS, 6, .inl (slotF))), (mf, .inl (cF, 96, .inl (fun _ => 0)))] s.heap := hP
  have hD : va_D A [(om, .inr (20, [.ref mt, .ref qu, .int 0, .int th, .ref lv, .int (-1), .int 0, .int 0, .ref mi, .int 0, .int 0, .int 0, .int 0, .ref ml, .ref mss, .ref rn, .ref sw, .ref mf, .null, .int 0, .ref msp, .int 0, .int 0, .int 0])), (lv, .inr (1, [.int 0, .ref de, .int 0])), (rn, .inr (1, [.int 0, .ref de, .int 0])), (sw, .inr (1, [.int 0, .ref de, .int 0])), (ml, .inl (cS, 6, .inl (slotF))), (mf, .inl (cF, 96, .inl (fun _ => 0)))] := hD
  have hl := lv_entry ([.ref om, .int a1]) (n := 2) (Nat.le_of_ble_eq_true rfl)
  rw [lg_entry_eq]
  generalize (lg_sl ([.ref om, .int a1]) ++ List.replicate (2 - (lg_sl ([.ref om, .int a1])).length) Slot.unset).toArray = ls at hl ⊢
  have hl : lv_has ls 2 [(0, .ref om), (1, .int a1)] := hl
  refine lv_aload_n hx hb dX18_isWinnable_0 rfl (lv_at hl 0 rfl) ?_
  refine lv_iload_n hx hb dX18_isWinnable_1 rfl (lv_at hl 1 rfl) ?_
  have hPc := hP.sub (ws' := [(om, .inr (20, [.ref mt, .ref qu, .int 0, .int th, .ref lv, .int (-1), .int 0, .int 0, .ref mi, .int 0, .int 0, .int 0, .int 0, .ref ml, .ref mss, .ref rn, .ref sw, .ref mf, .null, .int 0, .ref msp, .int 0, .int 0, .int 0])), (lv, .inr (1, [.int 0, .ref de, .int 0])), (rn, .inr (1, [.int 0, .ref de, .int 0])), (sw, .inr (1, [.int 0, .ref de, .int 0])), (ml, .inl (cS, 6, .inl (slotF))), (mf, .inl (cF, 96, .inl (fun _ => 0)))]) [0, 1, 2, 3, 4, 5] rfl
  have hDc := hD.sub (ws' := [(om, .inr (20, [.ref mt, .ref qu, .int 0, .int th, .ref lv, .int (-1), .int 0, .int 0, .ref mi, .int 0, .int 0, .int 0, .int 0, .ref ml, .ref mss, .ref rn, .ref sw, .ref mf, .null, .int 0, .ref msp, .int 0, .int 0, .int 0])), (lv, .inr (1, [.int 0, .ref de, .int 0])), (rn, .inr (1, [.int 0, .ref de, .int 0])), (sw, .inr (1, [.int 0, .ref de, .int 0])), (ml, .inl (cS, 6, .inl (slotF))), (mf, .inl (cF, 96, .inl (fun _ => 0)))]) [0, 1, 2, 3, 4, 5] (by decide) rfl
  have hKc := hK.sub (tys' := [(cS, .int), (cF, .int)]) [0, 1] rfl
  have hFc := va_free (wc := [(om, .inr (20, [.ref mt, .ref qu, .int 0, .int th, .ref lv, .int (-1), .int 0, .int 0, .ref mi, .int 0, .int 0, .int 0, .int 0, .ref ml, .ref mss, .ref rn, .ref sw, .ref mf, .null, .int 0, .ref msp, .int 0, .int 0, .int 0])), (lv, .inr (1, [.int 0, .ref de, .int 0])), (rn, .inr (1, [.int 0, .ref de, .int 0])), (sw, .inr (1, [.int 0, .ref de, .int 0])), (ml, .inl (cS, 6, .inl (slotF))), (mf, .inl (cF, 96, .inl (fun _ => 0)))]) hD hS hA [0, 1, 2, 3, 4, 5] rfl
  refine va_calli (va_runV (As := [.int a1]) (rest := []) ⟨hx, hb, hml, hown, ht⟩ (c_X18_noLevel l dC dI de (om) (mt) (qu) (lv) (mi) (ml) (mss) (rn) (sw) (mf) (msp) (cS) (cF) (th) (a1) s.heap.size) (cwV 1 ht (gWV (wr_24 _ (List.mem_of_getElem? (i := 8) rfl)) (wr_24 _ (List.mem_of_getElem? (i := 9) rfl)) (wr_24 _ (List.mem_of_getElem? (i := 10) rfl)) (wr_1 _ (List.mem_of_getElem? (i := 5) rfl)) (wr_24 _ (List.mem_of_getElem? (i := 11) rfl))) rfl rfl rfl (by decide +kernel) ⟨Nat.le_of_ble_eq_true rfl, Nat.le_of_ble_eq_true rfl⟩) ⟨PW_blind, va_recv hKc hPc (ci := 20) (q0 := 0) rfl rfl, PW_call hPc hDc hKc hS hG hFc⟩ rfl rfl hl.1 rfl (lv_room (Nat.le_of_ble_eq_true rfl)) dX18_isWinnable_2 ⟨Nat.le_of_ble_eq_true rfl, Nat.le_of_ble_eq_true rfl⟩) hS (fun q _ h => hFc q h) hFc (fun r_2 u t H1 locs ht9 hvm hw hB hz1 hk1 hS => ?_)
  obtain ⟨hP1, hK1, hD1⟩ := hB
  rw [ht9] at hP1
  have hK1 := va_K.moved hvm.symm hK1
  obtain ⟨hP, hD⟩ := va_join (wr := []) (w1 := [(om, .inr (20, [.ref mt, .ref qu, .int 0, .int 1, .ref lv, .int (-1), .int 0, .int 0, .ref mi, .int 0, .int 0, .int 0, .int 0, .ref ml, .ref mss, .ref rn, .ref sw, .ref mf, .null, .int 0, .ref msp, .int 0, .int 0, .int 0])), (lv, .inr (1, [.int 0, .ref de, .int 0])), (rn, .inr (1, [.int 0, .ref de, .int 0])), (sw, .inr (1, [.int 0, .ref de, .int 0])), (ml, .inl (cS, 6, .inl (slotF))), (mf, .inl (cF, 96, .inl (fun _ => 0)))]) hP hD [0, 1, 2, 3, 4, 5] [] rfl rfl (by decide) (by decide) hk1 hFc hP1 hD1
  have hK := (hK.sub (tys' := []) [] rfl).app hK1
  generalize H1 = H at hP hS ⊢
  replace hP : va_P (dC, dI) vwCl [(om, .inr (20, [.ref mt, .ref qu, .int 0, .int 1, .ref lv, .int (-1), .int 0, .int 0, .ref mi, .int 0, .int 0, .int 0, .int 0, .ref ml, .ref mss, .ref rn, .ref sw, .ref mf, .null, .int 0, .ref msp, .int 0, .int 0, .int 0])), (lv, .inr (1, [.int 0, .ref de, .int 0])), (rn, .inr (1, [.int 0, .ref de, .int 0])), (sw, .inr (1, [.int 0, .ref de, .int 0])), (ml, .inl (cS, 6, .inl (slotF))), (mf, .inl (cF, 96, .inl (fun _ => 0)))] H := hP
  replace hD : va_D A [(om, .inr (20, [.ref mt, .ref qu, .int 0, .int 1, .ref lv, .int (-1), .int 0, .int 0, .ref mi, .int 0, .int 0, .int 0, .int 0, .ref ml, .ref mss, .ref rn, .ref sw, .ref mf, .null, .int 0, .ref msp, .int 0, .int 0, .int 0])), (lv, .inr (1, [.int 0, .ref de, .int 0])), (rn, .inr (1, [.int 0, .ref de, .int 0])), (sw, .inr (1, [.int 0, .ref de, .int 0])), (ml, .inl (cS, 6, .inl (slotF))), (mf, .inl (cF, 96, .inl (fun _ => 0)))] := hD
  have hK : va_K (dC, dI) vwCl [(cS, .int), (cF, .int)] s := hK
  have e_2 : r_2 = 1 := hw
  subst e_2
  refine lv_if_ne (tgt := 23) hx hb dX18_isWinnable_5 (by decide) (fun c_5 => ?_) (fun c_5 => absurd c_5 (by decide))
  refine lv_iconst (v := 0) hx hb dX18_isWinnable_23 (by decide) ?_
  have hP9 := hP.sub (ws' := [(om, .inr (20, [.ref mt, .ref qu, .int 0, .int 1, .ref lv, .int (-1), .int 0, .int 0, .ref mi, .int 0, .int 0, .int 0, .int 0, .ref ml, .ref mss, .ref rn, .ref sw, .ref mf, .null, .int 0, .ref msp, .int 0, .int 0, .int 0])), (lv, .inr (1, [.int 0, .ref de, .int 0])), (rn, .inr (1, [.int 0, .ref de, .int 0])), (sw, .inr (1, [.int 0, .ref de, .int 0])), (ml, .inl (cS, 6, .inl (slotF))), (mf, .inl (cF, 96, .inl (fun _ => 0)))]) [0, 1, 2, 3, 4, 5] rfl
  have hD9 := hD.sub (ws' := [(om, .inr (20, [.ref mt, .ref qu, .int 0, .int 1, .ref lv, .int (-1), .int 0, .int 0, .ref mi, .int 0, .int 0, .int 0, .int 0, .ref ml, .ref mss, .ref rn, .ref sw, .ref mf, .null, .int 0, .ref msp, .int 0, .int 0, .int 0])), (lv, .inr (1, [.int 0, .ref de, .int 0])), (rn, .inr (1, [.int 0, .ref de, .int 0])), (sw, .inr (1, [.int 0, .ref de, .int 0])), (ml, .inl (cS, 6, .inl (slotF))), (mf, .inl (cF, 96, .inl (fun _ => 0)))]) [0, 1, 2, 3, 4, 5] (by decide) rfl
  have hK9 := hK.sub (tys' := [(cS, .int), (cF, .int)]) [0, 1] rfl
  exact W.zret (v := 0) hx hb hr (by decide) (fun t htt hW => have ht := htt; ⟨⟨0, (), rfl, trivial, QW_of ht hW hP9 hK9 hD9⟩, hS.F ht⟩) hS.2.2 dX18_isWinnable_24
set_option maxHeartbeats 4000000 in
set_option maxRecDepth 100000 in
theorem c_X18_frames (l : Launch) (dC : Nat → ClassId) (dI : Nat → Nat → Nat) (de : Nat) (om : Nat) (mt : Nat) (qu : Nat) (lv : Nat) (mi : Nat) (ml : Nat) (mss : Nat) (rn : Nat) (sw : Nat) (mf : Nat) (msp : Nat) (cS : ClassId) (cF : ClassId) (th : Int32) (a1 : Int32) (sz : Nat) : Met l yX18_frames (.code yX18_frames cX18_frames 3 (some .int) :: wsL_law) { frames := 3, cells := 0, slots := 0, locals := 64 } (va_Pc [.ref om, .int a1] (PW dC dI de [(cS, .int), (cF, .int)] (WM om mt qu lv mi ml mss rn sw mf msp cS cF th de) sz)) (va_Qi (fun (r : Int32) (u : Unit) => True) (fun (_ : Unit) (t : State) => QW dC dI [(cS, .int), (cF, .int)] (WM om mt qu lv mi ml mss rn sw mf msp cS cF 1 de) (va_A (WM om mt qu lv mi ml mss rn sw mf msp cS cF th de) sz) t) (va_A (WM om mt qu lv mi ml mss rn sw mf msp cS cF th de) sz)) 0 0 (va_A (WM om mt qu lv mi ml mss rn sw mf msp cS cF th de) sz) := by
  refine Met.ofW (cc := cX18_frames) (maxL := 3) (ret := (some .int)) (by decide) rfl ?_
  intro p e s m args below meth c s₁ B hml hv
  obtain ⟨rfl, hsz, hP, hK, hD0, hG⟩ := hv
  have hx := B.exec
  have hb := B.bytes
  have hr := B.returns
  have hts := atoms_spec (ws := .code yX18_frames cX18_frames 3 (some .int) :: wsL_law) B.pre
  have ht : ∀ w ∈ wsL_law, w.before _ s = true := fun w h => hts w (List.mem_cons_of_mem _ h)
  have hown : s.vm.findClass RX18 = some m.cls := findClass_of_methodNamed B.named
  have hlocks := B.notSynchronized
  subst hsz
  have hD := hD0.self (sz := s.heap.size)
  generalize hAe : va_A (WM om mt qu lv mi ml mss rn sw mf msp cS cF th de) s.heap.size = A at hD hG ⊢
  have hA : ∀ q : Nat, s.heap.size ≤ q → A q := fun q h => by rw [← hAe]; exact Or.inr h
  have hS : va_S A s.heap s.heap [] := va_S.rf
  have hP : va_P (dC, dI) vwCl [(om, .inr (20, [.ref mt, .ref qu, .int 0, .int th, .ref lv, .int (-1), .int 0, .int 0, .ref mi, .int 0, .int 0, .int 0, .int 0, .ref ml, .ref mss, .ref rn, .ref sw, .ref mf, .null, .int 0, .ref msp, .int 0, .int 0, .int 0])), (lv, .inr (1, [.int 0, .ref de, .int 0])), (rn, .inr (1, [.int 0, .ref de, .int 0])), (sw, .inr (1, [.int 0, .ref de, .int 0])), (ml, .inl (cS, 6, .inl (slotF))), (mf, .inl (cF, 96, .inl (fun _ => 0)))] s.heap := hP
  have hD : va_D A [(om, .inr (20, [.ref mt, .ref qu, .int 0, .int th, .ref lv, .int (-1), .int 0, .int 0, .ref mi, .int 0, .int 0, .int 0, .int 0, .ref ml, .ref mss, .ref rn, .ref sw, .ref mf, .null, .int 0, .ref msp, .int 0, .int 0, .int 0])), (lv, .inr (1, [.int 0, .ref de, .int 0])), (rn, .inr (1, [.int 0, .ref de, .int 0])), (sw, .inr (1, [.int 0, .ref de, .int 0])), (ml, .inl (cS, 6, .inl (slotF))), (mf, .inl (cF, 96, .inl (fun _ => 0)))] := hD
  have hl := lv_entry ([.ref om, .int a1]) (n := 3) (Nat.le_of_ble_eq_true rfl)
  rw [lg_entry_eq]
  generalize (lg_sl ([.ref om, .int a1]) ++ List.replicate (3 - (lg_sl ([.ref om, .int a1])).length) Slot.unset).toArray = ls at hl ⊢
  have hl : lv_has ls 3 [(0, .ref om), (1, .int a1)] := hl
  refine lv_aload_n hx hb dX18_frames_0 rfl (lv_at hl 0 rfl) ?_
  refine lv_iload_n hx hb dX18_frames_1 rfl (lv_at hl 1 rfl) ?_
  have hPc := hP.sub (ws' := [(om, .inr (20, [.ref mt, .ref qu, .int 0, .int th, .ref lv, .int (-1), .int 0, .int 0, .ref mi, .int 0, .int 0, .int 0, .int 0, .ref ml, .ref mss, .ref rn, .ref sw, .ref mf, .null, .int 0, .ref msp, .int 0, .int 0, .int 0])), (lv, .inr (1, [.int 0, .ref de, .int 0])), (rn, .inr (1, [.int 0, .ref de, .int 0])), (sw, .inr (1, [.int 0, .ref de, .int 0])), (ml, .inl (cS, 6, .inl (slotF))), (mf, .inl (cF, 96, .inl (fun _ => 0)))]) [0, 1, 2, 3, 4, 5] rfl
  have hDc := hD.sub (ws' := [(om, .inr (20, [.ref mt, .ref qu, .int 0, .int th, .ref lv, .int (-1), .int 0, .int 0, .ref mi, .int 0, .int 0, .int 0, .int 0, .ref ml, .ref mss, .ref rn, .ref sw, .ref mf, .null, .int 0, .ref msp, .int 0, .int 0, .int 0])), (lv, .inr (1, [.int 0, .ref de, .int 0])), (rn, .inr (1, [.int 0, .ref de, .int 0])), (sw, .inr (1, [.int 0, .ref de, .int 0])), (ml, .inl (cS, 6, .inl (slotF))), (mf, .inl (cF, 96, .inl (fun _ => 0)))]) [0, 1, 2, 3, 4, 5] (by decide) rfl
  have hKc := hK.sub (tys' := [(cS, .int), (cF, .int)]) [0, 1] rfl
  have hFc := va_free (wc := [(om, .inr (20, [.ref mt, .ref qu, .int 0, .int th, .ref lv, .int (-1), .int 0, .int 0, .ref mi, .int 0, .int 0, .int 0, .int 0, .ref ml, .ref mss, .ref rn, .ref sw, .ref mf, .null, .int 0, .ref msp, .int 0, .int 0, .int 0])), (lv, .inr (1, [.int 0, .ref de, .int 0])), (rn, .inr (1, [.int 0, .ref de, .int 0])), (sw, .inr (1, [.int 0, .ref de, .int 0])), (ml, .inl (cS, 6, .inl (slotF))), (mf, .inl (cF, 96, .inl (fun _ => 0)))]) hD hS hA [0, 1, 2, 3, 4, 5] rfl
  refine va_callq (va_runV (As := [.int a1]) (rest := []) ⟨hx, hb, hml, hown, ht⟩ (c_X18_won l dC dI de (om) (mt) (qu) (lv) (mi) (ml) (mss) (rn) (sw) (mf) (msp) (cS) (cF) (th) (a1) s.heap.size) (cwV 1 ht (gWV (wr_38 _ (List.mem_of_getElem? (i := 9) rfl)) (wr_38 _ (List.mem_of_getElem? (i := 10) rfl)) (wr_38 _ (List.mem_of_getElem? (i := 11) rfl)) (wr_1 _ (List.mem_of_getElem? (i := 5) rfl)) (wr_38 _ (List.mem_of_getElem? (i := 12) rfl))) rfl rfl rfl (by decide +kernel) ⟨Nat.le_of_ble_eq_true rfl, Nat.le_of_ble_eq_true rfl⟩) ⟨PW_blind, va_recv hKc hPc (ci := 20) (q0 := 0) rfl rfl, PW_call hPc hDc hKc hS hG hFc⟩ rfl rfl hl.1 rfl (lv_room (Nat.le_of_ble_eq_true rfl)) dX18_frames_2 ⟨Nat.le_of_ble_eq_true rfl, Nat.le_of_ble_eq_true rfl⟩) hS (fun q _ h => hFc q h) hFc (fun r_2 u t H1 locs ht9 hvm hw hB hz1 hk1 hS => ?_)
  obtain ⟨hP1, hK1, hD1⟩ := hB
  rw [ht9] at hP1
  have hK1 := va_K.moved hvm.symm hK1
  obtain ⟨hP, hD⟩ := va_join (wr := []) (w1 := [(om, .inr (20, [.ref mt, .ref qu, .int 0, .int 1, .ref lv, .int (-1), .int 0, .int 0, .ref mi, .int 0, .int 0, .int 0, .int 0, .ref ml, .ref mss, .ref rn, .ref sw, .ref mf, .null, .int 0, .ref msp, .int 0, .int 0, .int 0])), (lv, .inr (1, [.int 0, .ref de, .int 0])), (rn, .inr (1, [.int 0, .ref de, .int 0])), (sw, .inr (1, [.int 0, .ref de, .int 0])), (ml, .inl (cS, 6, .inl (slotF))), (mf, .inl (cF, 96, .inl (fun _ => 0)))]) hP hD [0, 1, 2, 3, 4, 5] [] rfl rfl (by decide) (by decide) hk1 hFc hP1 hD1
  have hK := (hK.sub (tys' := []) [] rfl).app hK1
  generalize H1 = H at hP hS ⊢
  replace hP : va_P (dC, dI) vwCl [(om, .inr (20, [.ref mt, .ref qu, .int 0, .int 1, .ref lv, .int (-1), .int 0, .int 0, .ref mi, .int 0, .int 0, .int 0, .int 0, .ref ml, .ref mss, .ref rn, .ref sw, .ref mf, .null, .int 0, .ref msp, .int 0, .int 0, .int 0])), (lv, .inr (1, [.int 0, .ref de, .int 0])), (rn, .inr (1, [.int 0, .ref de, .int 0])), (sw, .inr (1, [.int 0, .ref de, .int 0])), (ml, .inl (cS, 6, .inl (slotF))), (mf, .inl (cF, 96, .inl (fun _ => 0)))] H := hP
  replace hD : va_D A [(om, .inr (20, [.ref mt, .ref qu, .int 0, .int 1, .ref lv, .int (-1), .int 0, .int 0, .ref mi, .int 0, .int 0, .int 0, .int 0, .ref ml, .ref mss, .ref rn, .ref sw, .ref mf, .null, .int 0, .ref msp, .int 0, .int 0, .int 0])), (lv, .inr (1, [.int 0, .ref de, .int 0])), (rn, .inr (1, [.int 0, .ref de, .int 0])), (sw, .inr (1, [.int 0, .ref de, .int 0])), (ml, .inl (cS, 6, .inl (slotF))), (mf, .inl (cF, 96, .inl (fun _ => 0)))] := hD
  have hK : va_K (dC, dI) vwCl [(cS, .int), (cF, .int)] s := hK
  have e_2 : r_2 = none := hw
  subst e_2
  refine W.eq (g2 := F0 m 5 ls [.null]) rfl ?_
  refine lv_astore_nN (lv' := [(2, .null), (0, .ref om), (1, .int a1)]) hx hb dX18_frames_5 rfl hl (by decide) rfl (fun ls hl => ?_)
  refine lv_aload_nN hx hb dX18_frames_6 rfl (lv_at hl 0 rfl) ?_
  refine lv_ifnonnullN hx hb dX18_frames_7 ?_
  refine lv_iconst (v := 0) hx hb dX18_frames_10 (by decide) ?_
  refine lv_goto (tgt := 18) hx hb dX18_frames_11 (by decide) ?_
  have hP9 := hP.sub (ws' := [(om, .inr (20, [.ref mt, .ref qu, .int 0, .int 1, .ref lv, .int (-1), .int 0, .int 0, .ref mi, .int 0, .int 0, .int 0, .int 0, .ref ml, .ref mss, .ref rn, .ref sw, .ref mf, .null, .int 0, .ref msp, .int 0, .int 0, .int 0])), (lv, .inr (1, [.int 0, .ref de, .int 0])), (rn, .inr (1, [.int 0, .ref de, .int 0])), (sw, .inr (1, [.int 0, .ref de, .int 0])), (ml, .inl (cS, 6, .inl (slotF))), (mf, .inl (cF, 96, .inl (fun _ => 0)))]) [0, 1, 2, 3, 4, 5] rfl
  have hD9 := hD.sub (ws' := [(om, .inr (20, [.ref mt, .ref qu, .int 0, .int 1, .ref lv, .int (-1), .int 0, .int 0, .ref mi, .int 0, .int 0, .int 0, .int 0, .ref ml, .ref mss, .ref rn, .ref sw, .ref mf, .null, .int 0, .ref msp, .int 0, .int 0, .int 0])), (lv, .inr (1, [.int 0, .ref de, .int 0])), (rn, .inr (1, [.int 0, .ref de, .int 0])), (sw, .inr (1, [.int 0, .ref de, .int 0])), (ml, .inl (cS, 6, .inl (slotF))), (mf, .inl (cF, 96, .inl (fun _ => 0)))]) [0, 1, 2, 3, 4, 5] (by decide) rfl
  have hK9 := hK.sub (tys' := [(cS, .int), (cF, .int)]) [0, 1] rfl
  exact W.iret (v := 0) hx hb hr (fun t htt hW => have ht := htt; ⟨⟨0, (), rfl, trivial, QW_of ht hW hP9 hK9 hD9⟩, hS.F ht⟩) hS.2.2 dX18_frames_18
set_option maxHeartbeats 4000000 in
set_option maxRecDepth 100000 in
theorem c_X18_routeAt (l : Launch) (dC : Nat → ClassId) (dI : Nat → Nat → Nat) (de : Nat) (om : Nat) (mt : Nat) (qu : Nat) (lv : Nat) (mi : Nat) (ml : Nat) (mss : Nat) (rn : Nat) (sw : Nat) (mf : Nat) (msp : Nat) (cS : ClassId) (cF : ClassId) (th : Int32) (a1 : Int32) (a2 : Int32) (sz : Nat) : Met l yX18_routeAt (.code yX18_routeAt cX18_routeAt 4 (some .int) :: wsL_law) { frames := 3, cells := 0, slots := 0, locals := 64 } (va_Pc [.ref om, .int a1, .int a2] (PW dC dI de [(cS, .int), (cF, .int)] (WM om mt qu lv mi ml mss rn sw mf msp cS cF th de) sz)) (va_Qi (fun (r : Int32) (u : Unit) => True) (fun (_ : Unit) (t : State) => QW dC dI [(cS, .int), (cF, .int)] (WM om mt qu lv mi ml mss rn sw mf msp cS cF 1 de) (va_A (WM om mt qu lv mi ml mss rn sw mf msp cS cF th de) sz) t) (va_A (WM om mt qu lv mi ml mss rn sw mf msp cS cF th de) sz)) 0 0 (va_A (WM om mt qu lv mi ml mss rn sw mf msp cS cF th de) sz) := by
  refine Met.ofW (cc := cX18_routeAt) (maxL := 4) (ret := (some .int)) (by decide) rfl ?_
  intro p e s m args below meth c s₁ B hml hv
  obtain ⟨rfl, hsz, hP, hK, hD0, hG⟩ := hv
  have hx := B.exec
  have hb := B.bytes
  have hr := B.returns
  have hts := atoms_spec (ws := .code yX18_routeAt cX18_routeAt 4 (some .int) :: wsL_law) B.pre
  have ht : ∀ w ∈ wsL_law, w.before _ s = true := fun w h => hts w (List.mem_cons_of_mem _ h)
  have hown : s.vm.findClass RX18 = some m.cls := findClass_of_methodNamed B.named
  have hlocks := B.notSynchronized
  subst hsz
  have hD := hD0.self (sz := s.heap.size)
  generalize hAe : va_A (WM om mt qu lv mi ml mss rn sw mf msp cS cF th de) s.heap.size = A at hD hG ⊢
  have hA : ∀ q : Nat, s.heap.size ≤ q → A q := fun q h => by rw [← hAe]; exact Or.inr h
  have hS : va_S A s.heap s.heap [] := va_S.rf
  have hP : va_P (dC, dI) vwCl [(om, .inr (20, [.ref mt, .ref qu, .int 0, .int th, .ref lv, .int (-1), .int 0, .int 0, .ref mi, .int 0, .int 0, .int 0, .int 0, .ref ml, .ref mss, .ref rn, .ref sw, .ref mf, .null, .int 0, .ref msp, .int 0, .int 0, .int 0])), (lv, .inr (1, [.int 0, .ref de, .int 0])), (rn, .inr (1, [.int 0, .ref de, .int 0])), (sw, .inr (1, [.int 0, .ref de, .int 0])), (ml, .inl (cS, 6, .inl (slotF))), (mf, .inl (cF, 96, .inl (fun _ => 0)))] s.heap := hP
  have hD : va_D A [(om, .inr (20, [.ref mt, .ref qu, .int 0, .int th, .ref lv, .int (-1), .int 0, .int 0, .ref mi, .int 0, .int 0, .int 0, .int 0, .ref ml, .ref mss, .ref rn, .ref sw, .ref mf, .null, .int 0, .ref msp, .int 0, .int 0, .int 0])), (lv, .inr (1, [.int 0, .ref de, .int 0])), (rn, .inr (1, [.int 0, .ref de, .int 0])), (sw, .inr (1, [.int 0, .ref de, .int 0])), (ml, .inl (cS, 6, .inl (slotF))), (mf, .inl (cF, 96, .inl (fun _ => 0)))] := hD
  have hl := lv_entry ([.ref om, .int a1, .int a2]) (n := 4) (Nat.le_of_ble_eq_true rfl)
  rw [lg_entry_eq]
  generalize (lg_sl ([.ref om, .int a1, .int a2]) ++ List.replicate (4 - (lg_sl ([.ref om, .int a1, .int a2])).length) Slot.unset).toArray = ls at hl ⊢
  have hl : lv_has ls 4 [(0, .ref om), (1, .int a1), (2, .int a2)] := hl
  refine lv_aload_n hx hb dX18_routeAt_0 rfl (lv_at hl 0 rfl) ?_
  refine lv_iload_n hx hb dX18_routeAt_1 rfl (lv_at hl 1 rfl) ?_
  have hPc := hP.sub (ws' := [(om, .inr (20, [.ref mt, .ref qu, .int 0, .int th, .ref lv, .int (-1), .int 0, .int 0, .ref mi, .int 0, .int 0, .int 0, .int 0, .ref ml, .ref mss, .ref rn, .ref sw, .ref mf, .null, .int 0, .ref msp, .int 0, .int 0, .int 0])), (lv, .inr (1, [.int 0, .ref de, .int 0])), (rn, .inr (1, [.int 0, .ref de, .int 0])), (sw, .inr (1, [.int 0, .ref de, .int 0])), (ml, .inl (cS, 6, .inl (slotF))), (mf, .inl (cF, 96, .inl (fun _ => 0)))]) [0, 1, 2, 3, 4, 5] rfl
  have hDc := hD.sub (ws' := [(om, .inr (20, [.ref mt, .ref qu, .int 0, .int th, .ref lv, .int (-1), .int 0, .int 0, .ref mi, .int 0, .int 0, .int 0, .int 0, .ref ml, .ref mss, .ref rn, .ref sw, .ref mf, .null, .int 0, .ref msp, .int 0, .int 0, .int 0])), (lv, .inr (1, [.int 0, .ref de, .int 0])), (rn, .inr (1, [.int 0, .ref de, .int 0])), (sw, .inr (1, [.int 0, .ref de, .int 0])), (ml, .inl (cS, 6, .inl (slotF))), (mf, .inl (cF, 96, .inl (fun _ => 0)))]) [0, 1, 2, 3, 4, 5] (by decide) rfl
  have hKc := hK.sub (tys' := [(cS, .int), (cF, .int)]) [0, 1] rfl
  have hFc := va_free (wc := [(om, .inr (20, [.ref mt, .ref qu, .int 0, .int th, .ref lv, .int (-1), .int 0, .int 0, .ref mi, .int 0, .int 0, .int 0, .int 0, .ref ml, .ref mss, .ref rn, .ref sw, .ref mf, .null, .int 0, .ref msp, .int 0, .int 0, .int 0])), (lv, .inr (1, [.int 0, .ref de, .int 0])), (rn, .inr (1, [.int 0, .ref de, .int 0])), (sw, .inr (1, [.int 0, .ref de, .int 0])), (ml, .inl (cS, 6, .inl (slotF))), (mf, .inl (cF, 96, .inl (fun _ => 0)))]) hD hS hA [0, 1, 2, 3, 4, 5] rfl
  refine va_callq (va_runV (As := [.int a1]) (rest := []) ⟨hx, hb, hml, hown, ht⟩ (c_X18_won l dC dI de (om) (mt) (qu) (lv) (mi) (ml) (mss) (rn) (sw) (mf) (msp) (cS) (cF) (th) (a1) s.heap.size) (cwV 1 ht (gWV (wr_38 _ (List.mem_of_getElem? (i := 9) rfl)) (wr_38 _ (List.mem_of_getElem? (i := 10) rfl)) (wr_38 _ (List.mem_of_getElem? (i := 11) rfl)) (wr_1 _ (List.mem_of_getElem? (i := 5) rfl)) (wr_38 _ (List.mem_of_getElem? (i := 12) rfl))) rfl rfl rfl (by decide +kernel) ⟨Nat.le_of_ble_eq_true rfl, Nat.le_of_ble_eq_true rfl⟩) ⟨PW_blind, va_recv hKc hPc (ci := 20) (q0 := 0) rfl rfl, PW_call hPc hDc hKc hS hG hFc⟩ rfl rfl hl.1 rfl (lv_room (Nat.le_of_ble_eq_true rfl)) dX18_routeAt_2 ⟨Nat.le_of_ble_eq_true rfl, Nat.le_of_ble_eq_true rfl⟩) hS (fun q _ h => hFc q h) hFc (fun r_2 u t H1 locs ht9 hvm hw hB hz1 hk1 hS => ?_)
  obtain ⟨hP1, hK1, hD1⟩ := hB
  rw [ht9] at hP1
  have hK1 := va_K.moved hvm.symm hK1
  obtain ⟨hP, hD⟩ := va_join (wr := []) (w1 := [(om, .inr (20, [.ref mt, .ref qu, .int 0, .int 1, .ref lv, .int (-1), .int 0, .int 0, .ref mi, .int 0, .int 0, .int 0, .int 0, .ref ml, .ref mss, .ref rn, .ref sw, .ref mf, .null, .int 0, .ref msp, .int 0, .int 0, .int 0])), (lv, .inr (1, [.int 0, .ref de, .int 0])), (rn, .inr (1, [.int 0, .ref de, .int 0])), (sw, .inr (1, [.int 0, .ref de, .int 0])), (ml, .inl (cS, 6, .inl (slotF))), (mf, .inl (cF, 96, .inl (fun _ => 0)))]) hP hD [0, 1, 2, 3, 4, 5] [] rfl rfl (by decide) (by decide) hk1 hFc hP1 hD1
  have hK := (hK.sub (tys' := []) [] rfl).app hK1
  generalize H1 = H at hP hS ⊢
  replace hP : va_P (dC, dI) vwCl [(om, .inr (20, [.ref mt, .ref qu, .int 0, .int 1, .ref lv, .int (-1), .int 0, .int 0, .ref mi, .int 0, .int 0, .int 0, .int 0, .ref ml, .ref mss, .ref rn, .ref sw, .ref mf, .null, .int 0, .ref msp, .int 0, .int 0, .int 0])), (lv, .inr (1, [.int 0, .ref de, .int 0])), (rn, .inr (1, [.int 0, .ref de, .int 0])), (sw, .inr (1, [.int 0, .ref de, .int 0])), (ml, .inl (cS, 6, .inl (slotF))), (mf, .inl (cF, 96, .inl (fun _ => 0)))] H := hP
  replace hD : va_D A [(om, .inr (20, [.ref mt, .ref qu, .int 0, .int 1, .ref lv, .int (-1), .int 0, .int 0, .ref mi, .int 0, .int 0, .int 0, .int 0, .ref ml, .ref mss, .ref rn, .ref sw, .ref mf, .null, .int 0, .ref msp, .int 0, .int 0, .int 0])), (lv, .inr (1, [.int 0, .ref de, .int 0])), (rn, .inr (1, [.int 0, .ref de, .int 0])), (sw, .inr (1, [.int 0, .ref de, .int 0])), (ml, .inl (cS, 6, .inl (slotF))), (mf, .inl (cF, 96, .inl (fun _ => 0)))] := hD
  have hK : va_K (dC, dI) vwCl [(cS, .int), (cF, .int)] s := hK
  have e_2 : r_2 = none := hw
  subst e_2
  refine W.eq (g2 := F0 m 5 ls [.null]) rfl ?_
  refine lv_astore_nN (lv' := [(3, .null), (0, .ref om), (1, .int a1), (2, .int a2)]) hx hb dX18_routeAt_5 rfl hl (by decide) rfl (fun ls hl => ?_)
  refine lv_aload_nN hx hb dX18_routeAt_6 rfl (lv_at hl 0 rfl) ?_
  refine lv_ifnonnullN hx hb dX18_routeAt_7 ?_
  refine lv_iconst (v := 0) hx hb dX18_routeAt_10 (by decide) ?_
  have hP9 := hP.sub (ws' := [(om, .inr (20, [.ref mt, .ref qu, .int 0, .int 1, .ref lv, .int (-1), .int 0, .int 0, .ref mi, .int 0, .int 0, .int 0, .int 0, .ref ml, .ref mss, .ref rn, .ref sw, .ref mf, .null, .int 0, .ref msp, .int 0, .int 0, .int 0])), (lv, .inr (1, [.int 0, .ref de, .int 0])), (rn, .inr (1, [.int 0, .ref de, .int 0])), (sw, .inr (1, [.int 0, .ref de, .int 0])), (ml, .inl (cS, 6, .inl (slotF))), (mf, .inl (cF, 96, .inl (fun _ => 0)))]) [0, 1, 2, 3, 4, 5] rfl
  have hD9 := hD.sub (ws' := [(om, .inr (20, [.ref mt, .ref qu, .int 0, .int 1, .ref lv, .int (-1), .int 0, .int 0, .ref mi, .int 0, .int 0, .int 0, .int 0, .ref ml, .ref mss, .ref rn, .ref sw, .ref mf, .null, .int 0, .ref msp, .int 0, .int 0, .int 0])), (lv, .inr (1, [.int 0, .ref de, .int 0])), (rn, .inr (1, [.int 0, .ref de, .int 0])), (sw, .inr (1, [.int 0, .ref de, .int 0])), (ml, .inl (cS, 6, .inl (slotF))), (mf, .inl (cF, 96, .inl (fun _ => 0)))]) [0, 1, 2, 3, 4, 5] (by decide) rfl
  have hK9 := hK.sub (tys' := [(cS, .int), (cF, .int)]) [0, 1] rfl
  exact W.iret (v := 0) hx hb hr (fun t htt hW => have ht := htt; ⟨⟨0, (), rfl, trivial, QW_of ht hW hP9 hK9 hD9⟩, hS.F ht⟩) hS.2.2 dX18_routeAt_11
set_option maxHeartbeats 4000000 in
set_option maxRecDepth 100000 in
theorem c_X18_states (l : Launch) (dC : Nat → ClassId) (dI : Nat → Nat → Nat) (de : Nat) (om : Nat) (mt : Nat) (qu : Nat) (lv : Nat) (mi : Nat) (ml : Nat) (mss : Nat) (rn : Nat) (sw : Nat) (mf : Nat) (msp : Nat) (cS : ClassId) (cF : ClassId) (th : Int32) (a1 : Int32) (sz : Nat) : Met l yX18_states (.code yX18_states cX18_states 2 (some .int) :: wsL_law) { frames := 2, cells := 0, slots := 0, locals := 43 } (va_Pc [.ref om, .int a1] (PW dC dI de [(cS, .int), (cF, .int)] (WM om mt qu lv mi ml mss rn sw mf msp cS cF th de) sz)) (va_Qi (fun (r : Int32) (u : Unit) => True) (fun (_ : Unit) (t : State) => QW dC dI [(cS, .int), (cF, .int)] (WM om mt qu lv mi ml mss rn sw mf msp cS cF 1 de) (va_A (WM om mt qu lv mi ml mss rn sw mf msp cS cF th de) sz) t) (va_A (WM om mt qu lv mi ml mss rn sw mf msp cS cF th de) sz)) 0 0 (va_A (WM om mt qu lv mi ml mss rn sw mf msp cS cF th de) sz) := by
  refine Met.ofW (cc := cX18_states) (maxL := 2) (ret := (some .int)) (by decide) rfl ?_
  intro p e s m args below meth c s₁ B hml hv
  obtain ⟨rfl, hsz, hP, hK, hD0, hG⟩ := hv
  have hx := B.exec
  have hb := B.bytes
  have hr := B.returns
  have hts := atoms_spec (ws := .code yX18_states cX18_states 2 (some .int) :: wsL_law) B.pre
  have ht : ∀ w ∈ wsL_law, w.before _ s = true := fun w h => hts w (List.mem_cons_of_mem _ h)
  have hown : s.vm.findClass RX18 = some m.cls := findClass_of_methodNamed B.named
  have hlocks := B.notSynchronized
  subst hsz
  have hD := hD0.self (sz := s.heap.size)
  generalize hAe : va_A (WM om mt qu lv mi ml mss rn sw mf msp cS cF th de) s.heap.size = A at hD hG ⊢
  have hA : ∀ q : Nat, s.heap.size ≤ q → A q := fun q h => by rw [← hAe]; exact Or.inr h
  have hS : va_S A s.heap s.heap [] := va_S.rf
  have hP : va_P (dC, dI) vwCl [(om, .inr (20, [.ref mt, .ref qu, .int 0, .int th, .ref lv, .int (-1), .int 0, .int 0, .ref mi, .int 0, .int 0, .int 0, .int 0, .ref ml, .ref mss, .ref rn, .ref sw, .ref mf, .null, .int 0, .ref msp, .int 0, .int 0, .int 0])), (lv, .inr (1, [.int 0, .ref de, .int 0])), (rn, .inr (1, [.int 0, .ref de, .int 0])), (sw, .inr (1, [.int 0, .ref de, .int 0])), (ml, .inl (cS, 6, .inl (slotF))), (mf, .inl (cF, 96, .inl (fun _ => 0)))] s.heap := hP
  have hD : va_D A [(om, .inr (20, [.ref mt, .ref qu, .int 0, .int th, .ref lv, .int (-1), .int 0, .int 0, .ref mi, .int 0, .int 0, .int 0, .int 0, .ref ml, .ref mss, .ref rn, .ref sw, .ref mf, .null, .int 0, .ref msp, .int 0, .int 0, .int 0])), (lv, .inr (1, [.int 0, .ref de, .int 0])), (rn, .inr (1, [.int 0, .ref de, .int 0])), (sw, .inr (1, [.int 0, .ref de, .int 0])), (ml, .inl (cS, 6, .inl (slotF))), (mf, .inl (cF, 96, .inl (fun _ => 0)))] := hD
  have hl := lv_entry ([.ref om, .int a1]) (n := 2) (Nat.le_of_ble_eq_true rfl)
  rw [lg_entry_eq]
  generalize (lg_sl ([.ref om, .int a1]) ++ List.replicate (2 - (lg_sl ([.ref om, .int a1])).length) Slot.unset).toArray = ls at hl ⊢
  have hl : lv_has ls 2 [(0, .ref om), (1, .int a1)] := hl
  refine lv_aload_n hx hb dX18_states_0 rfl (lv_at hl 0 rfl) ?_
  refine lv_iload_n hx hb dX18_states_1 rfl (lv_at hl 1 rfl) ?_
  have hPc := hP.sub (ws' := [(om, .inr (20, [.ref mt, .ref qu, .int 0, .int th, .ref lv, .int (-1), .int 0, .int 0, .ref mi, .int 0, .int 0, .int 0, .int 0, .ref ml, .ref mss, .ref rn, .ref sw, .ref mf, .null, .int 0, .ref msp, .int 0, .int 0, .int 0])), (lv, .inr (1, [.int 0, .ref de, .int 0])), (rn, .inr (1, [.int 0, .ref de, .int 0])), (sw, .inr (1, [.int 0, .ref de, .int 0])), (ml, .inl (cS, 6, .inl (slotF))), (mf, .inl (cF, 96, .inl (fun _ => 0)))]) [0, 1, 2, 3, 4, 5] rfl
  have hDc := hD.sub (ws' := [(om, .inr (20, [.ref mt, .ref qu, .int 0, .int th, .ref lv, .int (-1), .int 0, .int 0, .ref mi, .int 0, .int 0, .int 0, .int 0, .ref ml, .ref mss, .ref rn, .ref sw, .ref mf, .null, .int 0, .ref msp, .int 0, .int 0, .int 0])), (lv, .inr (1, [.int 0, .ref de, .int 0])), (rn, .inr (1, [.int 0, .ref de, .int 0])), (sw, .inr (1, [.int 0, .ref de, .int 0])), (ml, .inl (cS, 6, .inl (slotF))), (mf, .inl (cF, 96, .inl (fun _ => 0)))]) [0, 1, 2, 3, 4, 5] (by decide) rfl
  have hKc := hK.sub (tys' := [(cS, .int), (cF, .int)]) [0, 1] rfl
  have hFc := va_free (wc := [(om, .inr (20, [.ref mt, .ref qu, .int 0, .int th, .ref lv, .int (-1), .int 0, .int 0, .ref mi, .int 0, .int 0, .int 0, .int 0, .ref ml, .ref mss, .ref rn, .ref sw, .ref mf, .null, .int 0, .ref msp, .int 0, .int 0, .int 0])), (lv, .inr (1, [.int 0, .ref de, .int 0])), (rn, .inr (1, [.int 0, .ref de, .int 0])), (sw, .inr (1, [.int 0, .ref de, .int 0])), (ml, .inl (cS, 6, .inl (slotF))), (mf, .inl (cF, 96, .inl (fun _ => 0)))]) hD hS hA [0, 1, 2, 3, 4, 5] rfl
  refine va_calli (va_runV (As := [.int a1]) (rest := []) ⟨hx, hb, hml, hown, ht⟩ (c_X18_noLevel l dC dI de (om) (mt) (qu) (lv) (mi) (ml) (mss) (rn) (sw) (mf) (msp) (cS) (cF) (th) (a1) s.heap.size) (cwV 1 ht (gWV (wr_24 _ (List.mem_of_getElem? (i := 8) rfl)) (wr_24 _ (List.mem_of_getElem? (i := 9) rfl)) (wr_24 _ (List.mem_of_getElem? (i := 10) rfl)) (wr_1 _ (List.mem_of_getElem? (i := 5) rfl)) (wr_24 _ (List.mem_of_getElem? (i := 11) rfl))) rfl rfl rfl (by decide +kernel) ⟨Nat.le_of_ble_eq_true rfl, Nat.le_of_ble_eq_true rfl⟩) ⟨PW_blind, va_recv hKc hPc (ci := 20) (q0 := 0) rfl rfl, PW_call hPc hDc hKc hS hG hFc⟩ rfl rfl hl.1 rfl (lv_room (Nat.le_of_ble_eq_true rfl)) dX18_states_2 ⟨Nat.le_of_ble_eq_true rfl, Nat.le_of_ble_eq_true rfl⟩) hS (fun q _ h => hFc q h) hFc (fun r_2 u t H1 locs ht9 hvm hw hB hz1 hk1 hS => ?_)
  obtain ⟨hP1, hK1, hD1⟩ := hB
  rw [ht9] at hP1
  have hK1 := va_K.moved hvm.symm hK1
  obtain ⟨hP, hD⟩ := va_join (wr := []) (w1 := [(om, .inr (20, [.ref mt, .ref qu, .int 0, .int 1, .ref lv, .int (-1), .int 0, .int 0, .ref mi, .int 0, .int 0, .int 0, .int 0, .ref ml, .ref mss, .ref rn, .ref sw, .ref mf, .null, .int 0, .ref msp, .int 0, .int 0, .int 0])), (lv, .inr (1, [.int 0, .ref de, .int 0])), (rn, .inr (1, [.int 0, .ref de, .int 0])), (sw, .inr (1, [.int 0, .ref de, .int 0])), (ml, .inl (cS, 6, .inl (slotF))), (mf, .inl (cF, 96, .inl (fun _ => 0)))]) hP hD [0, 1, 2, 3, 4, 5] [] rfl rfl (by decide) (by decide) hk1 hFc hP1 hD1
  have hK := (hK.sub (tys' := []) [] rfl).app hK1
  generalize H1 = H at hP hS ⊢
  replace hP : va_P (dC, dI) vwCl [(om, .inr (20, [.ref mt, .ref qu, .int 0, .int 1, .ref lv, .int (-1), .int 0, .int 0, .ref mi, .int 0, .int 0, .int 0, .int 0, .ref ml, .ref mss, .ref rn, .ref sw, .ref mf, .null, .int 0, .ref msp, .int 0, .int 0, .int 0])), (lv, .inr (1, [.int 0, .ref de, .int 0])), (rn, .inr (1, [.int 0, .ref de, .int 0])), (sw, .inr (1, [.int 0, .ref de, .int 0])), (ml, .inl (cS, 6, .inl (slotF))), (mf, .inl (cF, 96, .inl (fun _ => 0)))] H := hP
  replace hD : va_D A [(om, .inr (20, [.ref mt, .ref qu, .int 0, .int 1, .ref lv, .int (-1), .int 0, .int 0, .ref mi, .int 0, .int 0, .int 0, .int 0, .ref ml, .ref mss, .ref rn, .ref sw, .ref mf, .null, .int 0, .ref msp, .int 0, .int 0, .int 0])), (lv, .inr (1, [.int 0, .ref de, .int 0])), (rn, .inr (1, [.int 0, .ref de, .int 0])), (sw, .inr (1, [.int 0, .ref de, .int 0])), (ml, .inl (cS, 6, .inl (slotF))), (mf, .inl (cF, 96, .inl (fun _ => 0)))] := hD
  have hK : va_K (dC, dI) vwCl [(cS, .int), (cF, .int)] s := hK
  have e_2 : r_2 = 1 := hw
  subst e_2
  refine lv_if_eq (tgt := 12) hx hb dX18_states_5 (by decide) (fun c_5 => absurd c_5 (by decide)) (fun c_5 => ?_)
  refine lv_iconst (v := 0) hx hb dX18_states_8 (by decide) ?_
  refine lv_goto (tgt := 20) hx hb dX18_states_9 (by decide) ?_
  have hP9 := hP.sub (ws' := [(om, .inr (20, [.ref mt, .ref qu, .int 0, .int 1, .ref lv, .int (-1), .int 0, .int 0, .ref mi, .int 0, .int 0, .int 0, .int 0, .ref ml, .ref mss, .ref rn, .ref sw, .ref mf, .null, .int 0, .ref msp, .int 0, .int 0, .int 0])), (lv, .inr (1, [.int 0, .ref de, .int 0])), (rn, .inr (1, [.int 0, .ref de, .int 0])), (sw, .inr (1, [.int 0, .ref de, .int 0])), (ml, .inl (cS, 6, .inl (slotF))), (mf, .inl (cF, 96, .inl (fun _ => 0)))]) [0, 1, 2, 3, 4, 5] rfl
  have hD9 := hD.sub (ws' := [(om, .inr (20, [.ref mt, .ref qu, .int 0, .int 1, .ref lv, .int (-1), .int 0, .int 0, .ref mi, .int 0, .int 0, .int 0, .int 0, .ref ml, .ref mss, .ref rn, .ref sw, .ref mf, .null, .int 0, .ref msp, .int 0, .int 0, .int 0])), (lv, .inr (1, [.int 0, .ref de, .int 0])), (rn, .inr (1, [.int 0, .ref de, .int 0])), (sw, .inr (1, [.int 0, .ref de, .int 0])), (ml, .inl (cS, 6, .inl (slotF))), (mf, .inl (cF, 96, .inl (fun _ => 0)))]) [0, 1, 2, 3, 4, 5] (by decide) rfl
  have hK9 := hK.sub (tys' := [(cS, .int), (cF, .int)]) [0, 1] rfl
  exact W.iret (v := 0) hx hb hr (fun t htt hW => have ht := htt; ⟨⟨0, (), rfl, trivial, QW_of ht hW hP9 hK9 hD9⟩, hS.F ht⟩) hS.2.2 dX18_states_20
set_option maxHeartbeats 4000000 in
set_option maxRecDepth 100000 in
theorem c_X18_framesTo (l : Launch) (dC : Nat → ClassId) (dI : Nat → Nat → Nat) (de : Nat) (om : Nat) (mt : Nat) (qu : Nat) (lv : Nat) (mi : Nat) (ml : Nat) (mss : Nat) (rn : Nat) (sw : Nat) (mf : Nat) (msp : Nat) (cS : ClassId) (cF : ClassId) (th : Int32) (a1 : Int32) (a2 : Int32) (a3 : Int32) (sz : Nat) : Met l yX18_framesTo (.code yX18_framesTo cX18_framesTo 5 (some .int) :: wsL_law) { frames := 2, cells := 0, slots := 0, locals := 45 } (va_Pc [.ref om, .int a1, .int a2, .int a3] (PW dC dI de [(cS, .int), (cF, .int)] (WM om mt qu lv mi ml mss rn sw mf msp cS cF th de) sz)) (va_Qi (fun (r : Int32) (u : Unit) => True) (fun (_ : Unit) (t : State) => QW dC dI [(cS, .int), (cF, .int)] (WM om mt qu lv mi ml mss rn sw mf msp cS cF 1 de) (va_A (WM om mt qu lv mi ml mss rn sw mf msp cS cF th de) sz) t) (va_A (WM om mt qu lv mi ml mss rn sw mf msp cS cF th de) sz)) 0 0 (va_A (WM om mt qu lv mi ml mss rn sw mf msp cS cF th de) sz) := by
  refine Met.ofW (cc := cX18_framesTo) (maxL := 5) (ret := (some .int)) (by decide) rfl ?_
  intro p e s m args below meth c s₁ B hml hv
  obtain ⟨rfl, hsz, hP, hK, hD0, hG⟩ := hv
  have hx := B.exec
  have hb := B.bytes
  have hr := B.returns
  have hts := atoms_spec (ws := .code yX18_framesTo cX18_framesTo 5 (some .int) :: wsL_law) B.pre
  have ht : ∀ w ∈ wsL_law, w.before _ s = true := fun w h => hts w (List.mem_cons_of_mem _ h)
  have hown : s.vm.findClass RX18 = some m.cls := findClass_of_methodNamed B.named
  have hlocks := B.notSynchronized
  subst hsz
  have hD := hD0.self (sz := s.heap.size)
  generalize hAe : va_A (WM om mt qu lv mi ml mss rn sw mf msp cS cF th de) s.heap.size = A at hD hG ⊢
  have hA : ∀ q : Nat, s.heap.size ≤ q → A q := fun q h => by rw [← hAe]; exact Or.inr h
  have hS : va_S A s.heap s.heap [] := va_S.rf
  have hP : va_P (dC, dI) vwCl [(om, .inr (20, [.ref mt, .ref qu, .int 0, .int th, .ref lv, .int (-1), .int 0, .int 0, .ref mi, .int 0, .int 0, .int 0, .int 0, .ref ml, .ref mss, .ref rn, .ref sw, .ref mf, .null, .int 0, .ref msp, .int 0, .int 0, .int 0])), (lv, .inr (1, [.int 0, .ref de, .int 0])), (rn, .inr (1, [.int 0, .ref de, .int 0])), (sw, .inr (1, [.int 0, .ref de, .int 0])), (ml, .inl (cS, 6, .inl (slotF))), (mf, .inl (cF, 96, .inl (fun _ => 0)))] s.heap := hP
  have hD : va_D A [(om, .inr (20, [.ref mt, .ref qu, .int 0, .int th, .ref lv, .int (-1), .int 0, .int 0, .ref mi, .int 0, .int 0, .int 0, .int 0, .ref ml, .ref mss, .ref rn, .ref sw, .ref mf, .null, .int 0, .ref msp, .int 0, .int 0, .int 0])), (lv, .inr (1, [.int 0, .ref de, .int 0])), (rn, .inr (1, [.int 0, .ref de, .int 0])), (sw, .inr (1, [.int 0, .ref de, .int 0])), (ml, .inl (cS, 6, .inl (slotF))), (mf, .inl (cF, 96, .inl (fun _ => 0)))] := hD
  have hl := lv_entry ([.ref om, .int a1, .int a2, .int a3]) (n := 5) (Nat.le_of_ble_eq_true rfl)
  rw [lg_entry_eq]
  generalize (lg_sl ([.ref om, .int a1, .int a2, .int a3]) ++ List.replicate (5 - (lg_sl ([.ref om, .int a1, .int a2, .int a3])).length) Slot.unset).toArray = ls at hl ⊢
  have hl : lv_has ls 5 [(0, .ref om), (1, .int a1), (2, .int a2), (3, .int a3)] := hl
  refine lv_aload_n hx hb dX18_framesTo_0 rfl (lv_at hl 0 rfl) ?_
  refine lv_iload_n hx hb dX18_framesTo_1 rfl (lv_at hl 1 rfl) ?_
  refine lv_iload_n hx hb dX18_framesTo_2 rfl (lv_at hl 2 rfl) ?_
  refine lv_iload_n hx hb dX18_framesTo_3 rfl (lv_at hl 3 rfl) ?_
  have hPc := hP.sub (ws' := [(om, .inr (20, [.ref mt, .ref qu, .int 0, .int th, .ref lv, .int (-1), .int 0, .int 0, .ref mi, .int 0, .int 0, .int 0, .int 0, .ref ml, .ref mss, .ref rn, .ref sw, .ref mf, .null, .int 0, .ref msp, .int 0, .int 0, .int 0])), (lv, .inr (1, [.int 0, .ref de, .int 0])), (rn, .inr (1, [.int 0, .ref de, .int 0])), (sw, .inr (1, [.int 0, .ref de, .int 0])), (ml, .inl (cS, 6, .inl (slotF))), (mf, .inl (cF, 96, .inl (fun _ => 0)))]) [0, 1, 2, 3, 4, 5] rfl
  have hDc := hD.sub (ws' := [(om, .inr (20, [.ref mt, .ref qu, .int 0, .int th, .ref lv, .int (-1), .int 0, .int 0, .ref mi, .int 0, .int 0, .int 0, .int 0, .ref ml, .ref mss, .ref rn, .ref sw, .ref mf, .null, .int 0, .ref msp, .int 0, .int 0, .int 0])), (lv, .inr (1, [.int 0, .ref de, .int 0])), (rn, .inr (1, [.int 0, .ref de, .int 0])), (sw, .inr (1, [.int 0, .ref de, .int 0])), (ml, .inl (cS, 6, .inl (slotF))), (mf, .inl (cF, 96, .inl (fun _ => 0)))]) [0, 1, 2, 3, 4, 5] (by decide) rfl
  have hKc := hK.sub (tys' := [(cS, .int), (cF, .int)]) [0, 1] rfl
  have hFc := va_free (wc := [(om, .inr (20, [.ref mt, .ref qu, .int 0, .int th, .ref lv, .int (-1), .int 0, .int 0, .ref mi, .int 0, .int 0, .int 0, .int 0, .ref ml, .ref mss, .ref rn, .ref sw, .ref mf, .null, .int 0, .ref msp, .int 0, .int 0, .int 0])), (lv, .inr (1, [.int 0, .ref de, .int 0])), (rn, .inr (1, [.int 0, .ref de, .int 0])), (sw, .inr (1, [.int 0, .ref de, .int 0])), (ml, .inl (cS, 6, .inl (slotF))), (mf, .inl (cF, 96, .inl (fun _ => 0)))]) hD hS hA [0, 1, 2, 3, 4, 5] rfl
  refine va_calli (va_runV (As := [.int a1, .int a2, .int a3]) (rest := []) ⟨hx, hb, hml, hown, ht⟩ (c_X18_noCell l dC dI de (om) (mt) (qu) (lv) (mi) (ml) (mss) (rn) (sw) (mf) (msp) (cS) (cF) (th) (a1) (a2) (a3) s.heap.size) (cwV 3 ht (gWV (wr_20 _ (List.mem_of_getElem? (i := 4) rfl)) (wr_20 _ (List.mem_of_getElem? (i := 5) rfl)) (wr_20 _ (List.mem_of_getElem? (i := 6) rfl)) (wr_1 _ (List.mem_of_getElem? (i := 5) rfl)) (wr_20 _ (List.mem_of_getElem? (i := 7) rfl))) rfl rfl rfl (by decide +kernel) ⟨Nat.le_of_ble_eq_true rfl, Nat.le_of_ble_eq_true rfl⟩) ⟨PW_blind, va_recv hKc hPc (ci := 20) (q0 := 0) rfl rfl, PW_call hPc hDc hKc hS hG hFc⟩ rfl rfl hl.1 rfl (lv_room (Nat.le_of_ble_eq_true rfl)) dX18_framesTo_4 ⟨Nat.le_of_ble_eq_true rfl, Nat.le_of_ble_eq_true rfl⟩) hS (fun q _ h => hFc q h) hFc (fun r_4 u t H1 locs ht9 hvm hw hB hz1 hk1 hS => ?_)
  obtain ⟨hP1, hK1, hD1⟩ := hB
  rw [ht9] at hP1
  have hK1 := va_K.moved hvm.symm hK1
  obtain ⟨hP, hD⟩ := va_join (wr := []) (w1 := [(om, .inr (20, [.ref mt, .ref qu, .int 0, .int 1, .ref lv, .int (-1), .int 0, .int 0, .ref mi, .int 0, .int 0, .int 0, .int 0, .ref ml, .ref mss, .ref rn, .ref sw, .ref mf, .null, .int 0, .ref msp, .int 0, .int 0, .int 0])), (lv, .inr (1, [.int 0, .ref de, .int 0])), (rn, .inr (1, [.int 0, .ref de, .int 0])), (sw, .inr (1, [.int 0, .ref de, .int 0])), (ml, .inl (cS, 6, .inl (slotF))), (mf, .inl (cF, 96, .inl (fun _ => 0)))]) hP hD [0, 1, 2, 3, 4, 5] [] rfl rfl (by decide) (by decide) hk1 hFc hP1 hD1
  have hK := (hK.sub (tys' := []) [] rfl).app hK1
  generalize H1 = H at hP hS ⊢
  replace hP : va_P (dC, dI) vwCl [(om, .inr (20, [.ref mt, .ref qu, .int 0, .int 1, .ref lv, .int (-1), .int 0, .int 0, .ref mi, .int 0, .int 0, .int 0, .int 0, .ref ml, .ref mss, .ref rn, .ref sw, .ref mf, .null, .int 0, .ref msp, .int 0, .int 0, .int 0])), (lv, .inr (1, [.int 0, .ref de, .int 0])), (rn, .inr (1, [.int 0, .ref de, .int 0])), (sw, .inr (1, [.int 0, .ref de, .int 0])), (ml, .inl (cS, 6, .inl (slotF))), (mf, .inl (cF, 96, .inl (fun _ => 0)))] H := hP
  replace hD : va_D A [(om, .inr (20, [.ref mt, .ref qu, .int 0, .int 1, .ref lv, .int (-1), .int 0, .int 0, .ref mi, .int 0, .int 0, .int 0, .int 0, .ref ml, .ref mss, .ref rn, .ref sw, .ref mf, .null, .int 0, .ref msp, .int 0, .int 0, .int 0])), (lv, .inr (1, [.int 0, .ref de, .int 0])), (rn, .inr (1, [.int 0, .ref de, .int 0])), (sw, .inr (1, [.int 0, .ref de, .int 0])), (ml, .inl (cS, 6, .inl (slotF))), (mf, .inl (cF, 96, .inl (fun _ => 0)))] := hD
  have hK : va_K (dC, dI) vwCl [(cS, .int), (cF, .int)] s := hK
  have e_4 : r_4 = 1 := hw
  subst e_4
  refine lv_if_eq (tgt := 12) hx hb dX18_framesTo_7 (by decide) (fun c_7 => absurd c_7 (by decide)) (fun c_7 => ?_)
  refine lv_iconst (v := 0) hx hb dX18_framesTo_10 (by decide) ?_
  have hP9 := hP.sub (ws' := [(om, .inr (20, [.ref mt, .ref qu, .int 0, .int 1, .ref lv, .int (-1), .int 0, .int 0, .ref mi, .int 0, .int 0, .int 0, .int 0, .ref ml, .ref mss, .ref rn, .ref sw, .ref mf, .null, .int 0, .ref msp, .int 0, .int 0, .int 0])), (lv, .inr (1, [.int 0, .ref de, .int 0])), (rn, .inr (1, [.int 0, .ref de, .int 0])), (sw, .inr (1, [.int 0, .ref de, .int 0])), (ml, .inl (cS, 6, .inl (slotF))), (mf, .inl (cF, 96, .inl (fun _ => 0)))]) [0, 1, 2, 3, 4, 5] rfl
  have hD9 := hD.sub (ws' := [(om, .inr (20, [.ref mt, .ref qu, .int 0, .int 1, .ref lv, .int (-1), .int 0, .int 0, .ref mi, .int 0, .int 0, .int 0, .int 0, .ref ml, .ref mss, .ref rn, .ref sw, .ref mf, .null, .int 0, .ref msp, .int 0, .int 0, .int 0])), (lv, .inr (1, [.int 0, .ref de, .int 0])), (rn, .inr (1, [.int 0, .ref de, .int 0])), (sw, .inr (1, [.int 0, .ref de, .int 0])), (ml, .inl (cS, 6, .inl (slotF))), (mf, .inl (cF, 96, .inl (fun _ => 0)))]) [0, 1, 2, 3, 4, 5] (by decide) rfl
  have hK9 := hK.sub (tys' := [(cS, .int), (cF, .int)]) [0, 1] rfl
  exact W.iret (v := 0) hx hb hr (fun t htt hW => have ht := htt; ⟨⟨0, (), rfl, trivial, QW_of ht hW hP9 hK9 hD9⟩, hS.F ht⟩) hS.2.2 dX18_framesTo_11
set_option maxHeartbeats 4000000 in
set_option maxRecDepth 100000 in
theorem c_X18_softLocks (l : Launch) (dC : Nat → ClassId) (dI : Nat → Nat → Nat) (de : Nat) (om : Nat) (mt : Nat) (qu : Nat) (lv : Nat) (mi : Nat) (ml : Nat) (mss : Nat) (rn : Nat) (sw : Nat) (mf : Nat) (msp : Nat) (cS : ClassId) (cF : ClassId) (th : Int32) (a1 : Int32) (sz : Nat) : Met l yX18_softLocks (.code yX18_softLocks cX18_softLocks 2 (some .int) :: wsL_law) { frames := 2, cells := 0, slots := 0, locals := 43 } (va_Pc [.ref om, .int a1] (PW dC dI de [(cS, .int), (cF, .int)] (WM om mt qu lv mi ml mss rn sw mf msp cS cF th de) sz)) (va_Qi (fun (r : Int32) (u : Unit) => True) (fun (_ : Unit) (t : State) => QW dC dI [(cS, .int), (cF, .int)] (WM om mt qu lv mi ml mss rn sw mf msp cS cF 1 de) (va_A (WM om mt qu lv mi ml mss rn sw mf msp cS cF th de) sz) t) (va_A (WM om mt qu lv mi ml mss rn sw mf msp cS cF th de) sz)) 0 0 (va_A (WM om mt qu lv mi ml mss rn sw mf msp cS cF th de) sz) := by
  refine Met.ofW (cc := cX18_softLocks) (maxL := 2) (ret := (some .int)) (by decide) rfl ?_
  intro p e s m args below meth c s₁ B hml hv
  obtain ⟨rfl, hsz, hP, hK, hD0, hG⟩ := hv
  have hx := B.exec
  have hb := B.bytes
  have hr := B.returns
  have hts := atoms_spec (ws := .code yX18_softLocks cX18_softLocks 2 (some .int) :: wsL_law) B.pre
  have ht : ∀ w ∈ wsL_law, w.before _ s = true := fun w h => hts w (List.mem_cons_of_mem _ h)
  have hown : s.vm.findClass RX18 = some m.cls := findClass_of_methodNamed B.named
  have hlocks := B.notSynchronized
  subst hsz
  have hD := hD0.self (sz := s.heap.size)
  generalize hAe : va_A (WM om mt qu lv mi ml mss rn sw mf msp cS cF th de) s.heap.size = A at hD hG ⊢
  have hA : ∀ q : Nat, s.heap.size ≤ q → A q := fun q h => by rw [← hAe]; exact Or.inr h
  have hS : va_S A s.heap s.heap [] := va_S.rf
  have hP : va_P (dC, dI) vwCl [(om, .inr (20, [.ref mt, .ref qu, .int 0, .int th, .ref lv, .int (-1), .int 0, .int 0, .ref mi, .int 0, .int 0, .int 0, .int 0, .ref ml, .ref mss, .ref rn, .ref sw, .ref mf, .null, .int 0, .ref msp, .int 0, .int 0, .int 0])), (lv, .inr (1, [.int 0, .ref de, .int 0])), (rn, .inr (1, [.int 0, .ref de, .int 0])), (sw, .inr (1, [.int 0, .ref de, .int 0])), (ml, .inl (cS, 6, .inl (slotF))), (mf, .inl (cF, 96, .inl (fun _ => 0)))] s.heap := hP
  have hD : va_D A [(om, .inr (20, [.ref mt, .ref qu, .int 0, .int th, .ref lv, .int (-1), .int 0, .int 0, .ref mi, .int 0, .int 0, .int 0, .int 0, .ref ml, .ref mss, .ref rn, .ref sw, .ref mf, .null, .int 0, .ref msp, .int 0, .int 0, .int 0])), (lv, .inr (1, [.int 0, .ref de, .int 0])), (rn, .inr (1, [.int 0, .ref de, .int 0])), (sw, .inr (1, [.int 0, .ref de, .int 0])), (ml, .inl (cS, 6, .inl (slotF))), (mf, .inl (cF, 96, .inl (fun _ => 0)))] := hD
  have hl := lv_entry ([.ref om, .int a1]) (n := 2) (Nat.le_of_ble_eq_true rfl)
  rw [lg_entry_eq]
  generalize (lg_sl ([.ref om, .int a1]) ++ List.replicate (2 - (lg_sl ([.ref om, .int a1])).length) Slot.unset).toArray = ls at hl ⊢
  have hl : lv_has ls 2 [(0, .ref om), (1, .int a1)] := hl
  refine lv_aload_n hx hb dX18_softLocks_0 rfl (lv_at hl 0 rfl) ?_
  refine lv_iload_n hx hb dX18_softLocks_1 rfl (lv_at hl 1 rfl) ?_
  have hPc := hP.sub (ws' := [(om, .inr (20, [.ref mt, .ref qu, .int 0, .int th, .ref lv, .int (-1), .int 0, .int 0, .ref mi, .int 0, .int 0, .int 0, .int 0, .ref ml, .ref mss, .ref rn, .ref sw, .ref mf, .null, .int 0, .ref msp, .int 0, .int 0, .int 0])), (lv, .inr (1, [.int 0, .ref de, .int 0])), (rn, .inr (1, [.int 0, .ref de, .int 0])), (sw, .inr (1, [.int 0, .ref de, .int 0])), (ml, .inl (cS, 6, .inl (slotF))), (mf, .inl (cF, 96, .inl (fun _ => 0)))]) [0, 1, 2, 3, 4, 5] rfl
  have hDc := hD.sub (ws' := [(om, .inr (20, [.ref mt, .ref qu, .int 0, .int th, .ref lv, .int (-1), .int 0, .int 0, .ref mi, .int 0, .int 0, .int 0, .int 0, .ref ml, .ref mss, .ref rn, .ref sw, .ref mf, .null, .int 0, .ref msp, .int 0, .int 0, .int 0])), (lv, .inr (1, [.int 0, .ref de, .int 0])), (rn, .inr (1, [.int 0, .ref de, .int 0])), (sw, .inr (1, [.int 0, .ref de, .int 0])), (ml, .inl (cS, 6, .inl (slotF))), (mf, .inl (cF, 96, .inl (fun _ => 0)))]) [0, 1, 2, 3, 4, 5] (by decide) rfl
  have hKc := hK.sub (tys' := [(cS, .int), (cF, .int)]) [0, 1] rfl
  have hFc := va_free (wc := [(om, .inr (20, [.ref mt, .ref qu, .int 0, .int th, .ref lv, .int (-1), .int 0, .int 0, .ref mi, .int 0, .int 0, .int 0, .int 0, .ref ml, .ref mss, .ref rn, .ref sw, .ref mf, .null, .int 0, .ref msp, .int 0, .int 0, .int 0])), (lv, .inr (1, [.int 0, .ref de, .int 0])), (rn, .inr (1, [.int 0, .ref de, .int 0])), (sw, .inr (1, [.int 0, .ref de, .int 0])), (ml, .inl (cS, 6, .inl (slotF))), (mf, .inl (cF, 96, .inl (fun _ => 0)))]) hD hS hA [0, 1, 2, 3, 4, 5] rfl
  refine va_calli (va_runV (As := [.int a1]) (rest := []) ⟨hx, hb, hml, hown, ht⟩ (c_X18_noLevel l dC dI de (om) (mt) (qu) (lv) (mi) (ml) (mss) (rn) (sw) (mf) (msp) (cS) (cF) (th) (a1) s.heap.size) (cwV 1 ht (gWV (wr_24 _ (List.mem_of_getElem? (i := 8) rfl)) (wr_24 _ (List.mem_of_getElem? (i := 9) rfl)) (wr_24 _ (List.mem_of_getElem? (i := 10) rfl)) (wr_1 _ (List.mem_of_getElem? (i := 5) rfl)) (wr_24 _ (List.mem_of_getElem? (i := 11) rfl))) rfl rfl rfl (by decide +kernel) ⟨Nat.le_of_ble_eq_true rfl, Nat.le_of_ble_eq_true rfl⟩) ⟨PW_blind, va_recv hKc hPc (ci := 20) (q0 := 0) rfl rfl, PW_call hPc hDc hKc hS hG hFc⟩ rfl rfl hl.1 rfl (lv_room (Nat.le_of_ble_eq_true rfl)) dX18_softLocks_2 ⟨Nat.le_of_ble_eq_true rfl, Nat.le_of_ble_eq_true rfl⟩) hS (fun q _ h => hFc q h) hFc (fun r_2 u t H1 locs ht9 hvm hw hB hz1 hk1 hS => ?_)
  obtain ⟨hP1, hK1, hD1⟩ := hB
  rw [ht9] at hP1
  have hK1 := va_K.moved hvm.symm hK1
  obtain ⟨hP, hD⟩ := va_join (wr := []) (w1 := [(om, .inr (20, [.ref mt, .ref qu, .int 0, .int 1, .ref lv, .int (-1), .int 0, .int 0, .ref mi, .int 0, .int 0, .int 0, .int 0, .ref ml, .ref mss, .ref rn, .ref sw, .ref mf, .null, .int 0, .ref msp, .int 0, .int 0, .int 0])), (lv, .inr (1, [.int 0, .ref de, .int 0])), (rn, .inr (1, [.int 0, .ref de, .int 0])), (sw, .inr (1, [.int 0, .ref de, .int 0])), (ml, .inl (cS, 6, .inl (slotF))), (mf, .inl (cF, 96, .inl (fun _ => 0)))]) hP hD [0, 1, 2, 3, 4, 5] [] rfl rfl (by decide) (by decide) hk1 hFc hP1 hD1
  have hK := (hK.sub (tys' := []) [] rfl).app hK1
  generalize H1 = H at hP hS ⊢
  replace hP : va_P (dC, dI) vwCl [(om, .inr (20, [.ref mt, .ref qu, .int 0, .int 1, .ref lv, .int (-1), .int 0, .int 0, .ref mi, .int 0, .int 0, .int 0, .int 0, .ref ml, .ref mss, .ref rn, .ref sw, .ref mf, .null, .int 0, .ref msp, .int 0, .int 0, .int 0])), (lv, .inr (1, [.int 0, .ref de, .int 0])), (rn, .inr (1, [.int 0, .ref de, .int 0])), (sw, .inr (1, [.int 0, .ref de, .int 0])), (ml, .inl (cS, 6, .inl (slotF))), (mf, .inl (cF, 96, .inl (fun _ => 0)))] H := hP
  replace hD : va_D A [(om, .inr (20, [.ref mt, .ref qu, .int 0, .int 1, .ref lv, .int (-1), .int 0, .int 0, .ref mi, .int 0, .int 0, .int 0, .int 0, .ref ml, .ref mss, .ref rn, .ref sw, .ref mf, .null, .int 0, .ref msp, .int 0, .int 0, .int 0])), (lv, .inr (1, [.int 0, .ref de, .int 0])), (rn, .inr (1, [.int 0, .ref de, .int 0])), (sw, .inr (1, [.int 0, .ref de, .int 0])), (ml, .inl (cS, 6, .inl (slotF))), (mf, .inl (cF, 96, .inl (fun _ => 0)))] := hD
  have hK : va_K (dC, dI) vwCl [(cS, .int), (cF, .int)] s := hK
  have e_2 : r_2 = 1 := hw
  subst e_2
  refine lv_if_eq (tgt := 12) hx hb dX18_softLocks_5 (by decide) (fun c_5 => absurd c_5 (by decide)) (fun c_5 => ?_)
  refine lv_iconst (v := 0) hx hb dX18_softLocks_8 (by decide) ?_
  refine lv_goto (tgt := 20) hx hb dX18_softLocks_9 (by decide) ?_
  have hP9 := hP.sub (ws' := [(om, .inr (20, [.ref mt, .ref qu, .int 0, .int 1, .ref lv, .int (-1), .int 0, .int 0, .ref mi, .int 0, .int 0, .int 0, .int 0, .ref ml, .ref mss, .ref rn, .ref sw, .ref mf, .null, .int 0, .ref msp, .int 0, .int 0, .int 0])), (lv, .inr (1, [.int 0, .ref de, .int 0])), (rn, .inr (1, [.int 0, .ref de, .int 0])), (sw, .inr (1, [.int 0, .ref de, .int 0])), (ml, .inl (cS, 6, .inl (slotF))), (mf, .inl (cF, 96, .inl (fun _ => 0)))]) [0, 1, 2, 3, 4, 5] rfl
  have hD9 := hD.sub (ws' := [(om, .inr (20, [.ref mt, .ref qu, .int 0, .int 1, .ref lv, .int (-1), .int 0, .int 0, .ref mi, .int 0, .int 0, .int 0, .int 0, .ref ml, .ref mss, .ref rn, .ref sw, .ref mf, .null, .int 0, .ref msp, .int 0, .int 0, .int 0])), (lv, .inr (1, [.int 0, .ref de, .int 0])), (rn, .inr (1, [.int 0, .ref de, .int 0])), (sw, .inr (1, [.int 0, .ref de, .int 0])), (ml, .inl (cS, 6, .inl (slotF))), (mf, .inl (cF, 96, .inl (fun _ => 0)))]) [0, 1, 2, 3, 4, 5] (by decide) rfl
  have hK9 := hK.sub (tys' := [(cS, .int), (cF, .int)]) [0, 1] rfl
  exact W.iret (v := 0) hx hb hr (fun t htt hW => have ht := htt; ⟨⟨0, (), rfl, trivial, QW_of ht hW hP9 hK9 hD9⟩, hS.F ht⟩) hS.2.2 dX18_softLocks_20
set_option maxHeartbeats 4000000 in
set_option maxRecDepth 100000 in
theorem c_X18_softLockAt (l : Launch) (dC : Nat → ClassId) (dI : Nat → Nat → Nat) (de : Nat) (om : Nat) (mt : Nat) (qu : Nat) (lv : Nat) (mi : Nat) (ml : Nat) (mss : Nat) (rn : Nat) (sw : Nat) (mf : Nat) (msp : Nat) (cS : ClassId) (cF : ClassId) (th : Int32) (a1 : Int32) (a2 : Int32) (sz : Nat) : Met l yX18_softLockAt (.code yX18_softLockAt cX18_softLockAt 6 (some .int) :: wsL_law) { frames := 2, cells := 0, slots := 0, locals := 43 } (va_Pc [.ref om, .int a1, .int a2] (PW dC dI de [(cS, .int), (cF, .int)] (WM om mt qu lv mi ml mss rn sw mf msp cS cF th de) sz)) (va_Qi (fun (r : Int32) (u : Unit) => True) (fun (_ : Unit) (t : State) => QW dC dI [(cS, .int), (cF, .int)] (WM om mt qu lv mi ml mss rn sw mf msp cS cF 1 de) (va_A (WM om mt qu lv mi ml mss rn sw mf msp cS cF th de) sz) t) (va_A (WM om mt qu lv mi ml mss rn sw mf msp cS cF th de) sz)) 0 0 (va_A (WM om mt qu lv mi ml mss rn sw mf msp cS cF th de) sz) := by
  refine Met.ofW (cc := cX18_softLockAt) (maxL := 6) (ret := (some .int)) (by decide) rfl ?_
  intro p e s m args below meth c s₁ B hml hv
  obtain ⟨rfl, hsz, hP, hK, hD0, hG⟩ := hv
  have hx := B.exec
  have hb := B.bytes
  have hr := B.returns
  have hts := atoms_spec (ws := .code yX18_softLockAt cX18_softLockAt 6 (some .int) :: wsL_law) B.pre
  have ht : ∀ w ∈ wsL_law, w.before _ s = true := fun w h => hts w (List.mem_cons_of_mem _ h)
  have hown : s.vm.findClass RX18 = some m.cls := findClass_of_methodNamed B.named
  have hlocks := B.notSynchronized
  subst hsz
  have hD := hD0.self (sz := s.heap.size)
  generalize hAe : va_A (WM om mt qu lv mi ml mss rn sw mf msp cS cF th de) s.heap.size = A at hD hG ⊢
  have hA : ∀ q : Nat, s.heap.size ≤ q → A q := fun q h => by rw [← hAe]; exact Or.inr h
  have hS : va_S A s.heap s.heap [] := va_S.rf
  have hP : va_P (dC, dI) vwCl [(om, .inr (20, [.ref mt, .ref qu, .int 0, .int th, .ref lv, .int (-1), .int 0, .int 0, .ref mi, .int 0, .int 0, .int 0, .int 0, .ref ml, .ref mss, .ref rn, .ref sw, .ref mf, .null, .int 0, .ref msp, .int 0, .int 0, .int 0])), (lv, .inr (1, [.int 0, .ref de, .int 0])), (rn, .inr (1, [.int 0, .ref de, .int 0])), (sw, .inr (1, [.int 0, .ref de, .int 0])), (ml, .inl (cS, 6, .inl (slotF))), (mf, .inl (cF, 96, .inl (fun _ => 0)))] s.heap := hP
  have hD : va_D A [(om, .inr (20, [.ref mt, .ref qu, .int 0, .int th, .ref lv, .int (-1), .int 0, .int 0, .ref mi, .int 0, .int 0, .int 0, .int 0, .ref ml, .ref mss, .ref rn, .ref sw, .ref mf, .null, .int 0, .ref msp, .int 0, .int 0, .int 0])), (lv, .inr (1, [.int 0, .ref de, .int 0])), (rn, .inr (1, [.int 0, .ref de, .int 0])), (sw, .inr (1, [.int 0, .ref de, .int 0])), (ml, .inl (cS, 6, .inl (slotF))), (mf, .inl (cF, 96, .inl (fun _ => 0)))] := hD
  have hl := lv_entry ([.ref om, .int a1, .int a2]) (n := 6) (Nat.le_of_ble_eq_true rfl)
  rw [lg_entry_eq]
  generalize (lg_sl ([.ref om, .int a1, .int a2]) ++ List.replicate (6 - (lg_sl ([.ref om, .int a1, .int a2])).length) Slot.unset).toArray = ls at hl ⊢
  have hl : lv_has ls 6 [(0, .ref om), (1, .int a1), (2, .int a2)] := hl
  refine lv_aload_n hx hb dX18_softLockAt_0 rfl (lv_at hl 0 rfl) ?_
  refine lv_iload_n hx hb dX18_softLockAt_1 rfl (lv_at hl 1 rfl) ?_
  have hPc := hP.sub (ws' := [(om, .inr (20, [.ref mt, .ref qu, .int 0, .int th, .ref lv, .int (-1), .int 0, .int 0, .ref mi, .int 0, .int 0, .int 0, .int 0, .ref ml, .ref mss, .ref rn, .ref sw, .ref mf, .null, .int 0, .ref msp, .int 0, .int 0, .int 0])), (lv, .inr (1, [.int 0, .ref de, .int 0])), (rn, .inr (1, [.int 0, .ref de, .int 0])), (sw, .inr (1, [.int 0, .ref de, .int 0])), (ml, .inl (cS, 6, .inl (slotF))), (mf, .inl (cF, 96, .inl (fun _ => 0)))]) [0, 1, 2, 3, 4, 5] rfl
  have hDc := hD.sub (ws' := [(om, .inr (20, [.ref mt, .ref qu, .int 0, .int th, .ref lv, .int (-1), .int 0, .int 0, .ref mi, .int 0, .int 0, .int 0, .int 0, .ref ml, .ref mss, .ref rn, .ref sw, .ref mf, .null, .int 0, .ref msp, .int 0, .int 0, .int 0])), (lv, .inr (1, [.int 0, .ref de, .int 0])), (rn, .inr (1, [.int 0, .ref de, .int 0])), (sw, .inr (1, [.int 0, .ref de, .int 0])), (ml, .inl (cS, 6, .inl (slotF))), (mf, .inl (cF, 96, .inl (fun _ => 0)))]) [0, 1, 2, 3, 4, 5] (by decide) rfl
  have hKc := hK.sub (tys' := [(cS, .int), (cF, .int)]) [0, 1] rfl
  have hFc := va_free (wc := [(om, .inr (20, [.ref mt, .ref qu, .int 0, .int th, .ref lv, .int (-1), .int 0, .int 0, .ref mi, .int 0, .int 0, .int 0, .int 0, .ref ml, .ref mss, .ref rn, .ref sw, .ref mf, .null, .int 0, .ref msp, .int 0, .int 0, .int 0])), (lv, .inr (1, [.int 0, .ref de, .int 0])), (rn, .inr (1, [.int 0, .ref de, .int 0])), (sw, .inr (1, [.int 0, .ref de, .int 0])), (ml, .inl (cS, 6, .inl (slotF))), (mf, .inl (cF, 96, .inl (fun _ => 0)))]) hD hS hA [0, 1, 2, 3, 4, 5] rfl
  refine va_calli (va_runV (As := [.int a1]) (rest := []) ⟨hx, hb, hml, hown, ht⟩ (c_X18_noLevel l dC dI de (om) (mt) (qu) (lv) (mi) (ml) (mss) (rn) (sw) (mf) (msp) (cS) (cF) (th) (a1) s.heap.size) (cwV 1 ht (gWV (wr_24 _ (List.mem_of_getElem? (i := 8) rfl)) (wr_24 _ (List.mem_of_getElem? (i := 9) rfl)) (wr_24 _ (List.mem_of_getElem? (i := 10) rfl)) (wr_1 _ (List.mem_of_getElem? (i := 5) rfl)) (wr_24 _ (List.mem_of_getElem? (i := 11) rfl))) rfl rfl rfl (by decide +kernel) ⟨Nat.le_of_ble_eq_true rfl, Nat.le_of_ble_eq_true rfl⟩) ⟨PW_blind, va_recv hKc hPc (ci := 20) (q0 := 0) rfl rfl, PW_call hPc hDc hKc hS hG hFc⟩ rfl rfl hl.1 rfl (lv_room (Nat.le_of_ble_eq_true rfl)) dX18_softLockAt_2 ⟨Nat.le_of_ble_eq_true rfl, Nat.le_of_ble_eq_true rfl⟩) hS (fun q _ h => hFc q h) hFc (fun r_2 u t H1 locs ht9 hvm hw hB hz1 hk1 hS => ?_)
  obtain ⟨hP1, hK1, hD1⟩ := hB
  rw [ht9] at hP1
  have hK1 := va_K.moved hvm.symm hK1
  obtain ⟨hP, hD⟩ := va_join (wr := []) (w1 := [(om, .inr (20, [.ref mt, .ref qu, .int 0, .int 1, .ref lv, .int (-1), .int 0, .int 0, .ref mi, .int 0, .int 0, .int 0, .int 0, .ref ml, .ref mss, .ref rn, .ref sw, .ref mf, .null, .int 0, .ref msp, .int 0, .int 0, .int 0])), (lv, .inr (1, [.int 0, .ref de, .int 0])), (rn, .inr (1, [.int 0, .ref de, .int 0])), (sw, .inr (1, [.int 0, .ref de, .int 0])), (ml, .inl (cS, 6, .inl (slotF))), (mf, .inl (cF, 96, .inl (fun _ => 0)))]) hP hD [0, 1, 2, 3, 4, 5] [] rfl rfl (by decide) (by decide) hk1 hFc hP1 hD1
  have hK := (hK.sub (tys' := []) [] rfl).app hK1
  generalize H1 = H at hP hS ⊢
  replace hP : va_P (dC, dI) vwCl [(om, .inr (20, [.ref mt, .ref qu, .int 0, .int 1, .ref lv, .int (-1), .int 0, .int 0, .ref mi, .int 0, .int 0, .int 0, .int 0, .ref ml, .ref mss, .ref rn, .ref sw, .ref mf, .null, .int 0, .ref msp, .int 0, .int 0, .int 0])), (lv, .inr (1, [.int 0, .ref de, .int 0])), (rn, .inr (1, [.int 0, .ref de, .int 0])), (sw, .inr (1, [.int 0, .ref de, .int 0])), (ml, .inl (cS, 6, .inl (slotF))), (mf, .inl (cF, 96, .inl (fun _ => 0)))] H := hP
  replace hD : va_D A [(om, .inr (20, [.ref mt, .ref qu, .int 0, .int 1, .ref lv, .int (-1), .int 0, .int 0, .ref mi, .int 0, .int 0, .int 0, .int 0, .ref ml, .ref mss, .ref rn, .ref sw, .ref mf, .null, .int 0, .ref msp, .int 0, .int 0, .int 0])), (lv, .inr (1, [.int 0, .ref de, .int 0])), (rn, .inr (1, [.int 0, .ref de, .int 0])), (sw, .inr (1, [.int 0, .ref de, .int 0])), (ml, .inl (cS, 6, .inl (slotF))), (mf, .inl (cF, 96, .inl (fun _ => 0)))] := hD
  have hK : va_K (dC, dI) vwCl [(cS, .int), (cF, .int)] s := hK
  have e_2 : r_2 = 1 := hw
  subst e_2
  refine lv_if_eq (tgt := 10) hx hb dX18_softLockAt_5 (by decide) (fun c_5 => absurd c_5 (by decide)) (fun c_5 => ?_)
  refine lv_iconst (v := 0) hx hb dX18_softLockAt_8 (by decide) ?_
  have hP9 := hP.sub (ws' := [(om, .inr (20, [.ref mt, .ref qu, .int 0, .int 1, .ref lv, .int (-1), .int 0, .int 0, .ref mi, .int 0, .int 0, .int 0, .int 0, .ref ml, .ref mss, .ref rn, .ref sw, .ref mf, .null, .int 0, .ref msp, .int 0, .int 0, .int 0])), (lv, .inr (1, [.int 0, .ref de, .int 0])), (rn, .inr (1, [.int 0, .ref de, .int 0])), (sw, .inr (1, [.int 0, .ref de, .int 0])), (ml, .inl (cS, 6, .inl (slotF))), (mf, .inl (cF, 96, .inl (fun _ => 0)))]) [0, 1, 2, 3, 4, 5] rfl
  have hD9 := hD.sub (ws' := [(om, .inr (20, [.ref mt, .ref qu, .int 0, .int 1, .ref lv, .int (-1), .int 0, .int 0, .ref mi, .int 0, .int 0, .int 0, .int 0, .ref ml, .ref mss, .ref rn, .ref sw, .ref mf, .null, .int 0, .ref msp, .int 0, .int 0, .int 0])), (lv, .inr (1, [.int 0, .ref de, .int 0])), (rn, .inr (1, [.int 0, .ref de, .int 0])), (sw, .inr (1, [.int 0, .ref de, .int 0])), (ml, .inl (cS, 6, .inl (slotF))), (mf, .inl (cF, 96, .inl (fun _ => 0)))]) [0, 1, 2, 3, 4, 5] (by decide) rfl
  have hK9 := hK.sub (tys' := [(cS, .int), (cF, .int)]) [0, 1] rfl
  exact W.iret (v := 0) hx hb hr (fun t htt hW => have ht := htt; ⟨⟨0, (), rfl, trivial, QW_of ht hW hP9 hK9 hD9⟩, hS.F ht⟩) hS.2.2 dX18_softLockAt_9
set_option maxHeartbeats 4000000 in
set_option maxRecDepth 100000 in
theorem c_X18_ways (l : Launch) (dC : Nat → ClassId) (dI : Nat → Nat → Nat) (de : Nat) (om : Nat) (mt : Nat) (qu : Nat) (lv : Nat) (mi : Nat) (ml : Nat) (mss : Nat) (rn : Nat) (sw : Nat) (mf : Nat) (msp : Nat) (cS : ClassId) (cF : ClassId) (th : Int32) (a1 : Int32) (sz : Nat) : Met l yX18_ways (.code yX18_ways cX18_ways 2 (some .int) :: wsL_law) { frames := 2, cells := 0, slots := 0, locals := 43 } (va_Pc [.ref om, .int a1] (PW dC dI de [(cS, .int), (cF, .int)] (WM om mt qu lv mi ml mss rn sw mf msp cS cF th de) sz)) (va_Qi (fun (r : Int32) (u : Unit) => True) (fun (_ : Unit) (t : State) => QW dC dI [(cS, .int), (cF, .int)] (WM om mt qu lv mi ml mss rn sw mf msp cS cF 1 de) (va_A (WM om mt qu lv mi ml mss rn sw mf msp cS cF th de) sz) t) (va_A (WM om mt qu lv mi ml mss rn sw mf msp cS cF th de) sz)) 0 0 (va_A (WM om mt qu lv mi ml mss rn sw mf msp cS cF th de) sz) := by
  refine Met.ofW (cc := cX18_ways) (maxL := 2) (ret := (some .int)) (by decide) rfl ?_
  intro p e s m args below meth c s₁ B hml hv
  obtain ⟨rfl, hsz, hP, hK, hD0, hG⟩ := hv
  have hx := B.exec
  have hb := B.bytes
  have hr := B.returns
  have hts := atoms_spec (ws := .code yX18_ways cX18_ways 2 (some .int) :: wsL_law) B.pre
  have ht : ∀ w ∈ wsL_law, w.before _ s = true := fun w h => hts w (List.mem_cons_of_mem _ h)
  have hown : s.vm.findClass RX18 = some m.cls := findClass_of_methodNamed B.named
  have hlocks := B.notSynchronized
  subst hsz
  have hD := hD0.self (sz := s.heap.size)
  generalize hAe : va_A (WM om mt qu lv mi ml mss rn sw mf msp cS cF th de) s.heap.size = A at hD hG ⊢
  have hA : ∀ q : Nat, s.heap.size ≤ q → A q := fun q h => by rw [← hAe]; exact Or.inr h
  have hS : va_S A s.heap s.heap [] := va_S.rf
  have hP : va_P (dC, dI) vwCl [(om, .inr (20, [.ref mt, .ref qu, .int 0, .int th, .ref lv, .int (-1), .int 0, .int 0, .ref mi, .int 0, .int 0, .int 0, .int 0, .ref ml, .ref mss, .ref rn, .ref sw, .ref mf, .null, .int 0, .ref msp, .int 0, .int 0, .int 0])), (lv, .inr (1, [.int 0, .ref de, .int 0])), (rn, .inr (1, [.int 0, .ref de, .int 0])), (sw, .inr (1, [.int 0, .ref de, .int 0])), (ml, .inl (cS, 6, .inl (slotF))), (mf, .inl (cF, 96, .inl (fun _ => 0)))] s.heap := hP
  have hD : va_D A [(om, .inr (20, [.ref mt, .ref qu, .int 0, .int th, .ref lv, .int (-1), .int 0, .int 0, .ref mi, .int 0, .int 0, .int 0, .int 0, .ref ml, .ref mss, .ref rn, .ref sw, .ref mf, .null, .int 0, .ref msp, .int 0, .int 0, .int 0])), (lv, .inr (1, [.int 0, .ref de, .int 0])), (rn, .inr (1, [.int 0, .ref de, .int 0])), (sw, .inr (1, [.int 0, .ref de, .int 0])), (ml, .inl (cS, 6, .inl (slotF))), (mf, .inl (cF, 96, .inl (fun _ => 0)))] := hD
  have hl := lv_entry ([.ref om, .int a1]) (n := 2) (Nat.le_of_ble_eq_true rfl)
  rw [lg_entry_eq]
  generalize (lg_sl ([.ref om, .int a1]) ++ List.replicate (2 - (lg_sl ([.ref om, .int a1])).length) Slot.unset).toArray = ls at hl ⊢
  have hl : lv_has ls 2 [(0, .ref om), (1, .int a1)] := hl
  refine lv_aload_n hx hb dX18_ways_0 rfl (lv_at hl 0 rfl) ?_
  refine lv_iload_n hx hb dX18_ways_1 rfl (lv_at hl 1 rfl) ?_
  have hPc := hP.sub (ws' := [(om, .inr (20, [.ref mt, .ref qu, .int 0, .int th, .ref lv, .int (-1), .int 0, .int 0, .ref mi, .int 0, .int 0, .int 0, .int 0, .ref ml, .ref mss, .ref rn, .ref sw, .ref mf, .null, .int 0, .ref msp, .int 0, .int 0, .int 0])), (lv, .inr (1, [.int 0, .ref de, .int 0])), (rn, .inr (1, [.int 0, .ref de, .int 0])), (sw, .inr (1, [.int 0, .ref de, .int 0])), (ml, .inl (cS, 6, .inl (slotF))), (mf, .inl (cF, 96, .inl (fun _ => 0)))]) [0, 1, 2, 3, 4, 5] rfl
  have hDc := hD.sub (ws' := [(om, .inr (20, [.ref mt, .ref qu, .int 0, .int th, .ref lv, .int (-1), .int 0, .int 0, .ref mi, .int 0, .int 0, .int 0, .int 0, .ref ml, .ref mss, .ref rn, .ref sw, .ref mf, .null, .int 0, .ref msp, .int 0, .int 0, .int 0])), (lv, .inr (1, [.int 0, .ref de, .int 0])), (rn, .inr (1, [.int 0, .ref de, .int 0])), (sw, .inr (1, [.int 0, .ref de, .int 0])), (ml, .inl (cS, 6, .inl (slotF))), (mf, .inl (cF, 96, .inl (fun _ => 0)))]) [0, 1, 2, 3, 4, 5] (by decide) rfl
  have hKc := hK.sub (tys' := [(cS, .int), (cF, .int)]) [0, 1] rfl
  have hFc := va_free (wc := [(om, .inr (20, [.ref mt, .ref qu, .int 0, .int th, .ref lv, .int (-1), .int 0, .int 0, .ref mi, .int 0, .int 0, .int 0, .int 0, .ref ml, .ref mss, .ref rn, .ref sw, .ref mf, .null, .int 0, .ref msp, .int 0, .int 0, .int 0])), (lv, .inr (1, [.int 0, .ref de, .int 0])), (rn, .inr (1, [.int 0, .ref de, .int 0])), (sw, .inr (1, [.int 0, .ref de, .int 0])), (ml, .inl (cS, 6, .inl (slotF))), (mf, .inl (cF, 96, .inl (fun _ => 0)))]) hD hS hA [0, 1, 2, 3, 4, 5] rfl
  refine va_calli (va_runV (As := [.int a1]) (rest := []) ⟨hx, hb, hml, hown, ht⟩ (c_X18_noLevel l dC dI de (om) (mt) (qu) (lv) (mi) (ml) (mss) (rn) (sw) (mf) (msp) (cS) (cF) (th) (a1) s.heap.size) (cwV 1 ht (gWV (wr_24 _ (List.mem_of_getElem? (i := 8) rfl)) (wr_24 _ (List.mem_of_getElem? (i := 9) rfl)) (wr_24 _ (List.mem_of_getElem? (i := 10) rfl)) (wr_1 _ (List.mem_of_getElem? (i := 5) rfl)) (wr_24 _ (List.mem_of_getElem? (i := 11) rfl))) rfl rfl rfl (by decide +kernel) ⟨Nat.le_of_ble_eq_true rfl, Nat.le_of_ble_eq_true rfl⟩) ⟨PW_blind, va_recv hKc hPc (ci := 20) (q0 := 0) rfl rfl, PW_call hPc hDc hKc hS hG hFc⟩ rfl rfl hl.1 rfl (lv_room (Nat.le_of_ble_eq_true rfl)) dX18_ways_2 ⟨Nat.le_of_ble_eq_true rfl, Nat.le_of_ble_eq_true rfl⟩) hS (fun q _ h => hFc q h) hFc (fun r_2 u t H1 locs ht9 hvm hw hB hz1 hk1 hS => ?_)
  obtain ⟨hP1, hK1, hD1⟩ := hB
  rw [ht9] at hP1
  have hK1 := va_K.moved hvm.symm hK1
  obtain ⟨hP, hD⟩ := va_join (wr := []) (w1 := [(om, .inr (20, [.ref mt, .ref qu, .int 0, .int 1, .ref lv, .int (-1), .int 0, .int 0, .ref mi, .int 0, .int 0, .int 0, .int 0, .ref ml, .ref mss, .ref rn, .ref sw, .ref mf, .null, .int 0, .ref msp, .int 0, .int 0, .int 0])), (lv, .inr (1, [.int 0, .ref de, .int 0])), (rn, .inr (1, [.int 0, .ref de, .int 0])), (sw, .inr (1, [.int 0, .ref de, .int 0])), (ml, .inl (cS, 6, .inl (slotF))), (mf, .inl (cF, 96, .inl (fun _ => 0)))]) hP hD [0, 1, 2, 3, 4, 5] [] rfl rfl (by decide) (by decide) hk1 hFc hP1 hD1
  have hK := (hK.sub (tys' := []) [] rfl).app hK1
  generalize H1 = H at hP hS ⊢
  replace hP : va_P (dC, dI) vwCl [(om, .inr (20, [.ref mt, .ref qu, .int 0, .int 1, .ref lv, .int (-1), .int 0, .int 0, .ref mi, .int 0, .int 0, .int 0, .int 0, .ref ml, .ref mss, .ref rn, .ref sw, .ref mf, .null, .int 0, .ref msp, .int 0, .int 0, .int 0])), (lv, .inr (1, [.int 0, .ref de, .int 0])), (rn, .inr (1, [.int 0, .ref de, .int 0])), (sw, .inr (1, [.int 0, .ref de, .int 0])), (ml, .inl (cS, 6, .inl (slotF))), (mf, .inl (cF, 96, .inl (fun _ => 0)))] H := hP
  replace hD : va_D A [(om, .inr (20, [.ref mt, .ref qu, .int 0, .int 1, .ref lv, .int (-1), .int 0, .int 0, .ref mi, .int 0, .int 0, .int 0, .int 0, .ref ml, .ref mss, .ref rn, .ref sw, .ref mf, .null, .int 0, .ref msp, .int 0, .int 0, .int 0])), (lv, .inr (1, [.int 0, .ref de, .int 0])), (rn, .inr (1, [.int 0, .ref de, .int 0])), (sw, .inr (1, [.int 0, .ref de, .int 0])), (ml, .inl (cS, 6, .inl (slotF))), (mf, .inl (cF, 96, .inl (fun _ => 0)))] := hD
  have hK : va_K (dC, dI) vwCl [(cS, .int), (cF, .int)] s := hK
  have e_2 : r_2 = 1 := hw
  subst e_2
  refine lv_if_eq (tgt := 12) hx hb dX18_ways_5 (by decide) (fun c_5 => absurd c_5 (by decide)) (fun c_5 => ?_)
  refine lv_iconst (v := 0) hx hb dX18_ways_8 (by decide) ?_
  refine lv_goto (tgt := 23) hx hb dX18_ways_9 (by decide) ?_
  have hP9 := hP.sub (ws' := [(om, .inr (20, [.ref mt, .ref qu, .int 0, .int 1, .ref lv, .int (-1), .int 0, .int 0, .ref mi, .int 0, .int 0, .int 0, .int 0, .ref ml, .ref mss, .ref rn, .ref sw, .ref mf, .null, .int 0, .ref msp, .int 0, .int 0, .int 0])), (lv, .inr (1, [.int 0, .ref de, .int 0])), (rn, .inr (1, [.int 0, .ref de, .int 0])), (sw, .inr (1, [.int 0, .ref de, .int 0])), (ml, .inl (cS, 6, .inl (slotF))), (mf, .inl (cF, 96, .inl (fun _ => 0)))]) [0, 1, 2, 3, 4, 5] rfl
  have hD9 := hD.sub (ws' := [(om, .inr (20, [.ref mt, .ref qu, .int 0, .int 1, .ref lv, .int (-1), .int 0, .int 0, .ref mi, .int 0, .int 0, .int 0, .int 0, .ref ml, .ref mss, .ref rn, .ref sw, .ref mf, .null, .int 0, .ref msp, .int 0, .int 0, .int 0])), (lv, .inr (1, [.int 0, .ref de, .int 0])), (rn, .inr (1, [.int 0, .ref de, .int 0])), (sw, .inr (1, [.int 0, .ref de, .int 0])), (ml, .inl (cS, 6, .inl (slotF))), (mf, .inl (cF, 96, .inl (fun _ => 0)))]) [0, 1, 2, 3, 4, 5] (by decide) rfl
  have hK9 := hK.sub (tys' := [(cS, .int), (cF, .int)]) [0, 1] rfl
  exact W.iret (v := 0) hx hb hr (fun t htt hW => have ht := htt; ⟨⟨0, (), rfl, trivial, QW_of ht hW hP9 hK9 hD9⟩, hS.F ht⟩) hS.2.2 dX18_ways_23
set_option maxHeartbeats 4000000 in
set_option maxRecDepth 100000 in
theorem c_X18_isNeeded (l : Launch) (dC : Nat → ClassId) (dI : Nat → Nat → Nat) (de : Nat) (om : Nat) (mt : Nat) (qu : Nat) (lv : Nat) (mi : Nat) (ml : Nat) (mss : Nat) (rn : Nat) (sw : Nat) (mf : Nat) (msp : Nat) (cS : ClassId) (cF : ClassId) (th : Int32) (a1 : Int32) (a2 : Int32) (sz : Nat) : Met l yX18_isNeeded (.code yX18_isNeeded cX18_isNeeded 3 (some .boolean) :: wsL_law) { frames := 2, cells := 0, slots := 0, locals := 43 } (va_Pc [.ref om, .int a1, .int a2] (PW dC dI de [(cS, .int), (cF, .int)] (WM om mt qu lv mi ml mss rn sw mf msp cS cF th de) sz)) (va_Qi (fun (r : Int32) (u : Unit) => True) (fun (_ : Unit) (t : State) => QW dC dI [(cS, .int), (cF, .int)] (WM om mt qu lv mi ml mss rn sw mf msp cS cF 1 de) (va_A (WM om mt qu lv mi ml mss rn sw mf msp cS cF th de) sz) t) (va_A (WM om mt qu lv mi ml mss rn sw mf msp cS cF th de) sz)) 0 0 (va_A (WM om mt qu lv mi ml mss rn sw mf msp cS cF th de) sz) := by
  refine Met.ofW (cc := cX18_isNeeded) (maxL := 3) (ret := (some .boolean)) (by decide) rfl ?_
  intro p e s m args below meth c s₁ B hml hv
  obtain ⟨rfl, hsz, hP, hK, hD0, hG⟩ := hv
  have hx := B.exec
  have hb := B.bytes
  have hr := B.returns
  have hts := atoms_spec (ws := .code yX18_isNeeded cX18_isNeeded 3 (some .boolean) :: wsL_law) B.pre
  have ht : ∀ w ∈ wsL_law, w.before _ s = true := fun w h => hts w (List.mem_cons_of_mem _ h)
  have hown : s.vm.findClass RX18 = some m.cls := findClass_of_methodNamed B.named
  have hlocks := B.notSynchronized
  subst hsz
  have hD := hD0.self (sz := s.heap.size)
  generalize hAe : va_A (WM om mt qu lv mi ml mss rn sw mf msp cS cF th de) s.heap.size = A at hD hG ⊢
  have hA : ∀ q : Nat, s.heap.size ≤ q → A q := fun q h => by rw [← hAe]; exact Or.inr h
  have hS : va_S A s.heap s.heap [] := va_S.rf
  have hP : va_P (dC, dI) vwCl [(om, .inr (20, [.ref mt, .ref qu, .int 0, .int th, .ref lv, .int (-1), .int 0, .int 0, .ref mi, .int 0, .int 0, .int 0, .int 0, .ref ml, .ref mss, .ref rn, .ref sw, .ref mf, .null, .int 0, .ref msp, .int 0, .int 0, .int 0])), (lv, .inr (1, [.int 0, .ref de, .int 0])), (rn, .inr (1, [.int 0, .ref de, .int 0])), (sw, .inr (1, [.int 0, .ref de, .int 0])), (ml, .inl (cS, 6, .inl (slotF))), (mf, .inl (cF, 96, .inl (fun _ => 0)))] s.heap := hP
  have hD : va_D A [(om, .inr (20, [.ref mt, .ref qu, .int 0, .int th, .ref lv, .int (-1), .int 0, .int 0, .ref mi, .int 0, .int 0, .int 0, .int 0, .ref ml, .ref mss, .ref rn, .ref sw, .ref mf, .null, .int 0, .ref msp, .int 0, .int 0, .int 0])), (lv, .inr (1, [.int 0, .ref de, .int 0])), (rn, .inr (1, [.int 0, .ref de, .int 0])), (sw, .inr (1, [.int 0, .ref de, .int 0])), (ml, .inl (cS, 6, .inl (slotF))), (mf, .inl (cF, 96, .inl (fun _ => 0)))] := hD
  have hl := lv_entry ([.ref om, .int a1, .int a2]) (n := 3) (Nat.le_of_ble_eq_true rfl)
  rw [lg_entry_eq]
  generalize (lg_sl ([.ref om, .int a1, .int a2]) ++ List.replicate (3 - (lg_sl ([.ref om, .int a1, .int a2])).length) Slot.unset).toArray = ls at hl ⊢
  have hl : lv_has ls 3 [(0, .ref om), (1, .int a1), (2, .int a2)] := hl
  refine lv_aload_n hx hb dX18_isNeeded_0 rfl (lv_at hl 0 rfl) ?_
  refine lv_iload_n hx hb dX18_isNeeded_1 rfl (lv_at hl 1 rfl) ?_
  have hPc := hP.sub (ws' := [(om, .inr (20, [.ref mt, .ref qu, .int 0, .int th, .ref lv, .int (-1), .int 0, .int 0, .ref mi, .int 0, .int 0, .int 0, .int 0, .ref ml, .ref mss, .ref rn, .ref sw, .ref mf, .null, .int 0, .ref msp, .int 0, .int 0, .int 0])), (lv, .inr (1, [.int 0, .ref de, .int 0])), (rn, .inr (1, [.int 0, .ref de, .int 0])), (sw, .inr (1, [.int 0, .ref de, .int 0])), (ml, .inl (cS, 6, .inl (slotF))), (mf, .inl (cF, 96, .inl (fun _ => 0)))]) [0, 1, 2, 3, 4, 5] rfl
  have hDc := hD.sub (ws' := [(om, .inr (20, [.ref mt, .ref qu, .int 0, .int th, .ref lv, .int (-1), .int 0, .int 0, .ref mi, .int 0, .int 0, .int 0, .int 0, .ref ml, .ref mss, .ref rn, .ref sw, .ref mf, .null, .int 0, .ref msp, .int 0, .int 0, .int 0])), (lv, .inr (1, [.int 0, .ref de, .int 0])), (rn, .inr (1, [.int 0, .ref de, .int 0])), (sw, .inr (1, [.int 0, .ref de, .int 0])), (ml, .inl (cS, 6, .inl (slotF))), (mf, .inl (cF, 96, .inl (fun _ => 0)))]) [0, 1, 2, 3, 4, 5] (by decide) rfl
  have hKc := hK.sub (tys' := [(cS, .int), (cF, .int)]) [0, 1] rfl
  have hFc := va_free (wc := [(om, .inr (20, [.ref mt, .ref qu, .int 0, .int th, .ref lv, .int (-1), .int 0, .int 0, .ref mi, .int 0, .int 0, .int 0, .int 0, .ref ml, .ref mss, .ref rn, .ref sw, .ref mf, .null, .int 0, .ref msp, .int 0, .int 0, .int 0])), (lv, .inr (1, [.int 0, .ref de, .int 0])), (rn, .inr (1, [.int 0, .ref de, .int 0])), (sw, .inr (1, [.int 0, .ref de, .int 0])), (ml, .inl (cS, 6, .inl (slotF))), (mf, .inl (cF, 96, .inl (fun _ => 0)))]) hD hS hA [0, 1, 2, 3, 4, 5] rfl
  refine va_calli (va_runV (As := [.int a1]) (rest := []) ⟨hx, hb, hml, hown, ht⟩ (c_X18_noLevel l dC dI de (om) (mt) (qu) (lv) (mi) (ml) (mss) (rn) (sw) (mf) (msp) (cS) (cF) (th) (a1) s.heap.size) (cwV 1 ht (gWV (wr_24 _ (List.mem_of_getElem? (i := 8) rfl)) (wr_24 _ (List.mem_of_getElem? (i := 9) rfl)) (wr_24 _ (List.mem_of_getElem? (i := 10) rfl)) (wr_1 _ (List.mem_of_getElem? (i := 5) rfl)) (wr_24 _ (List.mem_of_getElem? (i := 11) rfl))) rfl rfl rfl (by decide +kernel) ⟨Nat.le_of_ble_eq_true rfl, Nat.le_of_ble_eq_true rfl⟩) ⟨PW_blind, va_recv hKc hPc (ci := 20) (q0 := 0) rfl rfl, PW_call hPc hDc hKc hS hG hFc⟩ rfl rfl hl.1 rfl (lv_room (Nat.le_of_ble_eq_true rfl)) dX18_isNeeded_2 ⟨Nat.le_of_ble_eq_true rfl, Nat.le_of_ble_eq_true rfl⟩) hS (fun q _ h => hFc q h) hFc (fun r_2 u t H1 locs ht9 hvm hw hB hz1 hk1 hS => ?_)
  obtain ⟨hP1, hK1, hD1⟩ := hB
  rw [ht9] at hP1
  have hK1 := va_K.moved hvm.symm hK1
  obtain ⟨hP, hD⟩ := va_join (wr := []) (w1 := [(om, .inr (20, [.ref mt, .ref qu, .int 0, .int 1, .ref lv, .int (-1), .int 0, .int 0, .ref mi, .int 0, .int 0, .int 0, .int 0, .ref ml, .ref mss, .ref rn, .ref sw, .ref mf, .null, .int 0, .ref msp, .int 0, .int 0, .int 0])), (lv, .inr (1, [.int 0, .ref de, .int 0])), (rn, .inr (1, [.int 0, .ref de, .int 0])), (sw, .inr (1, [.int 0, .ref de, .int 0])), (ml, .inl (cS, 6, .inl (slotF))), (mf, .inl (cF, 96, .inl (fun _ => 0)))]) hP hD [0, 1, 2, 3, 4, 5] [] rfl rfl (by decide) (by decide) hk1 hFc hP1 hD1
  have hK := (hK.sub (tys' := []) [] rfl).app hK1
  generalize H1 = H at hP hS ⊢
  replace hP : va_P (dC, dI) vwCl [(om, .inr (20, [.ref mt, .ref qu, .int 0, .int 1, .ref lv, .int (-1), .int 0, .int 0, .ref mi, .int 0, .int 0, .int 0, .int 0, .ref ml, .ref mss, .ref rn, .ref sw, .ref mf, .null, .int 0, .ref msp, .int 0, .int 0, .int 0])), (lv, .inr (1, [.int 0, .ref de, .int 0])), (rn, .inr (1, [.int 0, .ref de, .int 0])), (sw, .inr (1, [.int 0, .ref de, .int 0])), (ml, .inl (cS, 6, .inl (slotF))), (mf, .inl (cF, 96, .inl (fun _ => 0)))] H := hP
  replace hD : va_D A [(om, .inr (20, [.ref mt, .ref qu, .int 0, .int 1, .ref lv, .int (-1), .int 0, .int 0, .ref mi, .int 0, .int 0, .int 0, .int 0, .ref ml, .ref mss, .ref rn, .ref sw, .ref mf, .null, .int 0, .ref msp, .int 0, .int 0, .int 0])), (lv, .inr (1, [.int 0, .ref de, .int 0])), (rn, .inr (1, [.int 0, .ref de, .int 0])), (sw, .inr (1, [.int 0, .ref de, .int 0])), (ml, .inl (cS, 6, .inl (slotF))), (mf, .inl (cF, 96, .inl (fun _ => 0)))] := hD
  have hK : va_K (dC, dI) vwCl [(cS, .int), (cF, .int)] s := hK
  have e_2 : r_2 = 1 := hw
  subst e_2
  refine lv_if_eq (tgt := 10) hx hb dX18_isNeeded_5 (by decide) (fun c_5 => absurd c_5 (by decide)) (fun c_5 => ?_)
  refine lv_iconst (v := 0) hx hb dX18_isNeeded_8 (by decide) ?_
  have hP9 := hP.sub (ws' := [(om, .inr (20, [.ref mt, .ref qu, .int 0, .int 1, .ref lv, .int (-1), .int 0, .int 0, .ref mi, .int 0, .int 0, .int 0, .int 0, .ref ml, .ref mss, .ref rn, .ref sw, .ref mf, .null, .int 0, .ref msp, .int 0, .int 0, .int 0])), (lv, .inr (1, [.int 0, .ref de, .int 0])), (rn, .inr (1, [.int 0, .ref de, .int 0])), (sw, .inr (1, [.int 0, .ref de, .int 0])), (ml, .inl (cS, 6, .inl (slotF))), (mf, .inl (cF, 96, .inl (fun _ => 0)))]) [0, 1, 2, 3, 4, 5] rfl
  have hD9 := hD.sub (ws' := [(om, .inr (20, [.ref mt, .ref qu, .int 0, .int 1, .ref lv, .int (-1), .int 0, .int 0, .ref mi, .int 0, .int 0, .int 0, .int 0, .ref ml, .ref mss, .ref rn, .ref sw, .ref mf, .null, .int 0, .ref msp, .int 0, .int 0, .int 0])), (lv, .inr (1, [.int 0, .ref de, .int 0])), (rn, .inr (1, [.int 0, .ref de, .int 0])), (sw, .inr (1, [.int 0, .ref de, .int 0])), (ml, .inl (cS, 6, .inl (slotF))), (mf, .inl (cF, 96, .inl (fun _ => 0)))]) [0, 1, 2, 3, 4, 5] (by decide) rfl
  have hK9 := hK.sub (tys' := [(cS, .int), (cF, .int)]) [0, 1] rfl
  exact W.zret (v := 0) hx hb hr (by decide) (fun t htt hW => have ht := htt; ⟨⟨0, (), rfl, trivial, QW_of ht hW hP9 hK9 hD9⟩, hS.F ht⟩) hS.2.2 dX18_isNeeded_9
set_option maxHeartbeats 4000000 in
set_option maxRecDepth 100000 in
theorem c_X18_isWinnableWith (l : Launch) (dC : Nat → ClassId) (dI : Nat → Nat → Nat) (de : Nat) (om : Nat) (mt : Nat) (qu : Nat) (lv : Nat) (mi : Nat) (ml : Nat) (mss : Nat) (rn : Nat) (sw : Nat) (mf : Nat) (msp : Nat) (cS : ClassId) (cF : ClassId) (th : Int32) (a1 : Int32) (a2 : Int32) (sz : Nat) : Met l yX18_isWinnableWith (.code yX18_isWinnableWith cX18_isWinnableWith 4 (some .boolean) :: wsL_law) { frames := 2, cells := 0, slots := 0, locals := 43 } (va_Pc [.ref om, .int a1, .int a2] (PW dC dI de [(cS, .int), (cF, .int)] (WM om mt qu lv mi ml mss rn sw mf msp cS cF th de) sz)) (va_Qi (fun (r : Int32) (u : Unit) => True) (fun (_ : Unit) (t : State) => QW dC dI [(cS, .int), (cF, .int)] (WM om mt qu lv mi ml mss rn sw mf msp cS cF 1 de) (va_A (WM om mt qu lv mi ml mss rn sw mf msp cS cF th de) sz) t) (va_A (WM om mt qu lv mi ml mss rn sw mf msp cS cF th de) sz)) 0 0 (va_A (WM om mt qu lv mi ml mss rn sw mf msp cS cF th de) sz) := by
  refine Met.ofW (cc := cX18_isWinnableWith) (maxL := 4) (ret := (some .boolean)) (by decide) rfl ?_
  intro p e s m args below meth c s₁ B hml hv
  obtain ⟨rfl, hsz, hP, hK, hD0, hG⟩ := hv
  have hx := B.exec
  have hb := B.bytes
  have hr := B.returns
  have hts := atoms_spec (ws := .code yX18_isWinnableWith cX18_isWinnableWith 4 (some .boolean) :: wsL_law) B.pre
  have ht : ∀ w ∈ wsL_law, w.before _ s = true := fun w h => hts w (List.mem_cons_of_mem _ h)
  have hown : s.vm.findClass RX18 = some m.cls := findClass_of_methodNamed B.named
  have hlocks := B.notSynchronized
  subst hsz
  have hD := hD0.self (sz := s.heap.size)
  generalize hAe : va_A (WM om mt qu lv mi ml mss rn sw mf msp cS cF th de) s.heap.size = A at hD hG ⊢
  have hA : ∀ q : Nat, s.heap.size ≤ q → A q := fun q h => by rw [← hAe]; exact Or.inr h
  have hS : va_S A s.heap s.heap [] := va_S.rf
  have hP : va_P (dC, dI) vwCl [(om, .inr (20, [.ref mt, .ref qu, .int 0, .int th, .ref lv, .int (-1), .int 0, .int 0, .ref mi, .int 0, .int 0, .int 0, .int 0, .ref ml, .ref mss, .ref rn, .ref sw, .ref mf, .null, .int 0, .ref msp, .int 0, .int 0, .int 0])), (lv, .inr (1, [.int 0, .ref de, .int 0])), (rn, .inr (1, [.int 0, .ref de, .int 0])), (sw, .inr (1, [.int 0, .ref de, .int 0])), (ml, .inl (cS, 6, .inl (slotF))), (mf, .inl (cF, 96, .inl (fun _ => 0)))] s.heap := hP
  have hD : va_D A [(om, .inr (20, [.ref mt, .ref qu, .int 0, .int th, .ref lv, .int (-1), .int 0, .int 0, .ref mi, .int 0, .int 0, .int 0, .int 0, .ref ml, .ref mss, .ref rn, .ref sw, .ref mf, .null, .int 0, .ref msp, .int 0, .int 0, .int 0])), (lv, .inr (1, [.int 0, .ref de, .int 0])), (rn, .inr (1, [.int 0, .ref de, .int 0])), (sw, .inr (1, [.int 0, .ref de, .int 0])), (ml, .inl (cS, 6, .inl (slotF))), (mf, .inl (cF, 96, .inl (fun _ => 0)))] := hD
  have hl := lv_entry ([.ref om, .int a1, .int a2]) (n := 4) (Nat.le_of_ble_eq_true rfl)
  rw [lg_entry_eq]
  generalize (lg_sl ([.ref om, .int a1, .int a2]) ++ List.replicate (4 - (lg_sl ([.ref om, .int a1, .int a2])).length) Slot.unset).toArray = ls at hl ⊢
  have hl : lv_has ls 4 [(0, .ref om), (1, .int a1), (2, .int a2)] := hl
  refine lv_aload_n hx hb dX18_isWinnableWith_0 rfl (lv_at hl 0 rfl) ?_
  refine lv_iload_n hx hb dX18_isWinnableWith_1 rfl (lv_at hl 1 rfl) ?_
  have hPc := hP.sub (ws' := [(om, .inr (20, [.ref mt, .ref qu, .int 0, .int th, .ref lv, .int (-1), .int 0, .int 0, .ref mi, .int 0, .int 0, .int 0, .int 0, .ref ml, .ref mss, .ref rn, .ref sw, .ref mf, .null, .int 0, .ref msp, .int 0, .int 0, .int 0])), (lv, .inr (1, [.int 0, .ref de, .int 0])), (rn, .inr (1, [.int 0, .ref de, .int 0])), (sw, .inr (1, [.int 0, .ref de, .int 0])), (ml, .inl (cS, 6, .inl (slotF))), (mf, .inl (cF, 96, .inl (fun _ => 0)))]) [0, 1, 2, 3, 4, 5] rfl
  have hDc := hD.sub (ws' := [(om, .inr (20, [.ref mt, .ref qu, .int 0, .int th, .ref lv, .int (-1), .int 0, .int 0, .ref mi, .int 0, .int 0, .int 0, .int 0, .ref ml, .ref mss, .ref rn, .ref sw, .ref mf, .null, .int 0, .ref msp, .int 0, .int 0, .int 0])), (lv, .inr (1, [.int 0, .ref de, .int 0])), (rn, .inr (1, [.int 0, .ref de, .int 0])), (sw, .inr (1, [.int 0, .ref de, .int 0])), (ml, .inl (cS, 6, .inl (slotF))), (mf, .inl (cF, 96, .inl (fun _ => 0)))]) [0, 1, 2, 3, 4, 5] (by decide) rfl
  have hKc := hK.sub (tys' := [(cS, .int), (cF, .int)]) [0, 1] rfl
  have hFc := va_free (wc := [(om, .inr (20, [.ref mt, .ref qu, .int 0, .int th, .ref lv, .int (-1), .int 0, .int 0, .ref mi, .int 0, .int 0, .int 0, .int 0, .ref ml, .ref mss, .ref rn, .ref sw, .ref mf, .null, .int 0, .ref msp, .int 0, .int 0, .int 0])), (lv, .inr (1, [.int 0, .ref de, .int 0])), (rn, .inr (1, [.int 0, .ref de, .int 0])), (sw, .inr (1, [.int 0, .ref de, .int 0])), (ml, .inl (cS, 6, .inl (slotF))), (mf, .inl (cF, 96, .inl (fun _ => 0)))]) hD hS hA [0, 1, 2, 3, 4, 5] rfl
  refine va_calli (va_runV (As := [.int a1]) (rest := []) ⟨hx, hb, hml, hown, ht⟩ (c_X18_noLevel l dC dI de (om) (mt) (qu) (lv) (mi) (ml) (mss) (rn) (sw) (mf) (msp) (cS) (cF) (th) (a1) s.heap.size) (cwV 1 ht (gWV (wr_24 _ (List.mem_of_getElem? (i := 8) rfl)) (wr_24 _ (List.mem_of_getElem? (i := 9) rfl)) (wr_24 _ (List.mem_of_getElem? (i := 10) rfl)) (wr_1 _ (List.mem_of_getElem? (i := 5) rfl)) (wr_24 _ (List.mem_of_getElem? (i := 11) rfl))) rfl rfl rfl (by decide +kernel) ⟨Nat.le_of_ble_eq_true rfl, Nat.le_of_ble_eq_true rfl⟩) ⟨PW_blind, va_recv hKc hPc (ci := 20) (q0 := 0) rfl rfl, PW_call hPc hDc hKc hS hG hFc⟩ rfl rfl hl.1 rfl (lv_room (Nat.le_of_ble_eq_true rfl)) dX18_isWinnableWith_2 ⟨Nat.le_of_ble_eq_true rfl, Nat.le_of_ble_eq_true rfl⟩) hS (fun q _ h => hFc q h) hFc (fun r_2 u t H1 locs ht9 hvm hw hB hz1 hk1 hS => ?_)
  obtain ⟨hP1, hK1, hD1⟩ := hB
  rw [ht9] at hP1
  have hK1 := va_K.moved hvm.symm hK1
  obtain ⟨hP, hD⟩ := va_join (wr := []) (w1 := [(om, .inr (20, [.ref mt, .ref qu, .int 0, .int 1, .ref lv, .int (-1), .int 0, .int 0, .ref mi, .int 0, .int 0, .int 0, .int 0, .ref ml, .ref mss, .ref rn, .ref sw, .ref mf, .null, .int 0, .ref msp, .int 0, .int 0, .int 0])), (lv, .inr (1, [.int 0, .ref de, .int 0])), (rn, .inr (1, [.int 0, .ref de, .int 0])), (sw, .inr (1, [.int 0, .ref de, .int 0])), (ml, .inl (cS, 6, .inl (slotF))), (mf, .inl (cF, 96, .inl (fun _ => 0)))]) hP hD [0, 1, 2, 3, 4, 5] [] rfl rfl (by decide) (by decide) hk1 hFc hP1 hD1
  have hK := (hK.sub (tys' := []) [] rfl).app hK1
  generalize H1 = H at hP hS ⊢
  replace hP : va_P (dC, dI) vwCl [(om, .inr (20, [.ref mt, .ref qu, .int 0, .int 1, .ref lv, .int (-1), .int 0, .int 0, .ref mi, .int 0, .int 0, .int 0, .int 0, .ref ml, .ref mss, .ref rn, .ref sw, .ref mf, .null, .int 0, .ref msp, .int 0, .int 0, .int 0])), (lv, .inr (1, [.int 0, .ref de, .int 0])), (rn, .inr (1, [.int 0, .ref de, .int 0])), (sw, .inr (1, [.int 0, .ref de, .int 0])), (ml, .inl (cS, 6, .inl (slotF))), (mf, .inl (cF, 96, .inl (fun _ => 0)))] H := hP
  replace hD : va_D A [(om, .inr (20, [.ref mt, .ref qu, .int 0, .int 1, .ref lv, .int (-1), .int 0, .int 0, .ref mi, .int 0, .int 0, .int 0, .int 0, .ref ml, .ref mss, .ref rn, .ref sw, .ref mf, .null, .int 0, .ref msp, .int 0, .int 0, .int 0])), (lv, .inr (1, [.int 0, .ref de, .int 0])), (rn, .inr (1, [.int 0, .ref de, .int 0])), (sw, .inr (1, [.int 0, .ref de, .int 0])), (ml, .inl (cS, 6, .inl (slotF))), (mf, .inl (cF, 96, .inl (fun _ => 0)))] := hD
  have hK : va_K (dC, dI) vwCl [(cS, .int), (cF, .int)] s := hK
  have e_2 : r_2 = 1 := hw
  subst e_2
  refine lv_if_eq (tgt := 10) hx hb dX18_isWinnableWith_5 (by decide) (fun c_5 => absurd c_5 (by decide)) (fun c_5 => ?_)
  refine lv_iconst (v := 0) hx hb dX18_isWinnableWith_8 (by decide) ?_
  have hP9 := hP.sub (ws' := [(om, .inr (20, [.ref mt, .ref qu, .int 0, .int 1, .ref lv, .int (-1), .int 0, .int 0, .ref mi, .int 0, .int 0, .int 0, .int 0, .ref ml, .ref mss, .ref rn, .ref sw, .ref mf, .null, .int 0, .ref msp, .int 0, .int 0, .int 0])), (lv, .inr (1, [.int 0, .ref de, .int 0])), (rn, .inr (1, [.int 0, .ref de, .int 0])), (sw, .inr (1, [.int 0, .ref de, .int 0])), (ml, .inl (cS, 6, .inl (slotF))), (mf, .inl (cF, 96, .inl (fun _ => 0)))]) [0, 1, 2, 3, 4, 5] rfl
  have hD9 := hD.sub (ws' := [(om, .inr (20, [.ref mt, .ref qu, .int 0, .int 1, .ref lv, .int (-1), .int 0, .int 0, .ref mi, .int 0, .int 0, .int 0, .int 0, .ref ml, .ref mss, .ref rn, .ref sw, .ref mf, .null, .int 0, .ref msp, .int 0, .int 0, .int 0])), (lv, .inr (1, [.int 0, .ref de, .int 0])), (rn, .inr (1, [.int 0, .ref de, .int 0])), (sw, .inr (1, [.int 0, .ref de, .int 0])), (ml, .inl (cS, 6, .inl (slotF))), (mf, .inl (cF, 96, .inl (fun _ => 0)))]) [0, 1, 2, 3, 4, 5] (by decide) rfl
  have hK9 := hK.sub (tys' := [(cS, .int), (cF, .int)]) [0, 1] rfl
  exact W.zret (v := 0) hx hb hr (by decide) (fun t htt hW => have ht := htt; ⟨⟨0, (), rfl, trivial, QW_of ht hW hP9 hK9 hD9⟩, hS.F ht⟩) hS.2.2 dX18_isWinnableWith_9
set_option maxHeartbeats 4000000 in
set_option maxRecDepth 100000 in
theorem c_X18_mend (l : Launch) (dC : Nat → ClassId) (dI : Nat → Nat → Nat) (de : Nat) (om : Nat) (mt : Nat) (qu : Nat) (lv : Nat) (mi : Nat) (ml : Nat) (mss : Nat) (rn : Nat) (sw : Nat) (mf : Nat) (msp : Nat) (cS : ClassId) (cF : ClassId) (th : Int32) (a1 : Int32) (sz : Nat) : Met l yX18_mend (.code yX18_mend cX18_mend 3 (some .int) :: wsL_law) { frames := 2, cells := 0, slots := 0, locals := 43 } (va_Pc [.ref om, .int a1] (PW dC dI de [(cS, .int), (cF, .int)] (WM om mt qu lv mi ml mss rn sw mf msp cS cF th de) sz)) (va_Qi (fun (r : Int32) (u : Unit) => True) (fun (_ : Unit) (t : State) => QW dC dI [(cS, .int), (cF, .int)] (WM om mt qu lv mi ml mss rn sw mf msp cS cF 1 de) (va_A (WM om mt qu lv mi ml mss rn sw mf msp cS cF th de) sz) t) (va_A (WM om mt qu lv mi ml mss rn sw mf msp cS cF th de) sz)) 0 0 (va_A (WM om mt qu lv mi ml mss rn sw mf msp cS cF th de) sz) := by
  refine Met.ofW (cc := cX18_mend) (maxL := 3) (ret := (some .int)) (by decide) rfl ?_
  intro p e s m args below meth c s₁ B hml hv
  obtain ⟨rfl, hsz, hP, hK, hD0, hG⟩ := hv
  have hx := B.exec
  have hb := B.bytes
  have hr := B.returns
  have hts := atoms_spec (ws := .code yX18_mend cX18_mend 3 (some .int) :: wsL_law) B.pre
  have ht : ∀ w ∈ wsL_law, w.before _ s = true := fun w h => hts w (List.mem_cons_of_mem _ h)
  have hown : s.vm.findClass RX18 = some m.cls := findClass_of_methodNamed B.named
  have hlocks := B.notSynchronized
  subst hsz
  have hD := hD0.self (sz := s.heap.size)
  generalize hAe : va_A (WM om mt qu lv mi ml mss rn sw mf msp cS cF th de) s.heap.size = A at hD hG ⊢
  have hA : ∀ q : Nat, s.heap.size ≤ q → A q := fun q h => by rw [← hAe]; exact Or.inr h
  have hS : va_S A s.heap s.heap [] := va_S.rf
  have hP : va_P (dC, dI) vwCl [(om, .inr (20, [.ref mt, .ref qu, .int 0, .int th, .ref lv, .int (-1), .int 0, .int 0, .ref mi, .int 0, .int 0, .int 0, .int 0, .ref ml, .ref mss, .ref rn, .ref sw, .ref mf, .null, .int 0, .ref msp, .int 0, .int 0, .int 0])), (lv, .inr (1, [.int 0, .ref de, .int 0])), (rn, .inr (1, [.int 0, .ref de, .int 0])), (sw, .inr (1, [.int 0, .ref de, .int 0])), (ml, .inl (cS, 6, .inl (slotF))), (mf, .inl (cF, 96, .inl (fun _ => 0)))] s.heap := hP
  have hD : va_D A [(om, .inr (20, [.ref mt, .ref qu, .int 0, .int th, .ref lv, .int (-1), .int 0, .int 0, .ref mi, .int 0, .int 0, .int 0, .int 0, .ref ml, .ref mss, .ref rn, .ref sw, .ref mf, .null, .int 0, .ref msp, .int 0, .int 0, .int 0])), (lv, .inr (1, [.int 0, .ref de, .int 0])), (rn, .inr (1, [.int 0, .ref de, .int 0])), (sw, .inr (1, [.int 0, .ref de, .int 0])), (ml, .inl (cS, 6, .inl (slotF))), (mf, .inl (cF, 96, .inl (fun _ => 0)))] := hD
  have hl := lv_entry ([.ref om, .int a1]) (n := 3) (Nat.le_of_ble_eq_true rfl)
  rw [lg_entry_eq]
  generalize (lg_sl ([.ref om, .int a1]) ++ List.replicate (3 - (lg_sl ([.ref om, .int a1])).length) Slot.unset).toArray = ls at hl ⊢
  have hl : lv_has ls 3 [(0, .ref om), (1, .int a1)] := hl
  refine lv_aload_n hx hb dX18_mend_0 rfl (lv_at hl 0 rfl) ?_
  refine lv_iload_n hx hb dX18_mend_1 rfl (lv_at hl 1 rfl) ?_
  have hPc := hP.sub (ws' := [(om, .inr (20, [.ref mt, .ref qu, .int 0, .int th, .ref lv, .int (-1), .int 0, .int 0, .ref mi, .int 0, .int 0, .int 0, .int 0, .ref ml, .ref mss, .ref rn, .ref sw, .ref mf, .null, .int 0, .ref msp, .int 0, .int 0, .int 0])), (lv, .inr (1, [.int 0, .ref de, .int 0])), (rn, .inr (1, [.int 0, .ref de, .int 0])), (sw, .inr (1, [.int 0, .ref de, .int 0])), (ml, .inl (cS, 6, .inl (slotF))), (mf, .inl (cF, 96, .inl (fun _ => 0)))]) [0, 1, 2, 3, 4, 5] rfl
  have hDc := hD.sub (ws' := [(om, .inr (20, [.ref mt, .ref qu, .int 0, .int th, .ref lv, .int (-1), .int 0, .int 0, .ref mi, .int 0, .int 0, .int 0, .int 0, .ref ml, .ref mss, .ref rn, .ref sw, .ref mf, .null, .int 0, .ref msp, .int 0, .int 0, .int 0])), (lv, .inr (1, [.int 0, .ref de, .int 0])), (rn, .inr (1, [.int 0, .ref de, .int 0])), (sw, .inr (1, [.int 0, .ref de, .int 0])), (ml, .inl (cS, 6, .inl (slotF))), (mf, .inl (cF, 96, .inl (fun _ => 0)))]) [0, 1, 2, 3, 4, 5] (by decide) rfl
  have hKc := hK.sub (tys' := [(cS, .int), (cF, .int)]) [0, 1] rfl
  have hFc := va_free (wc := [(om, .inr (20, [.ref mt, .ref qu, .int 0, .int th, .ref lv, .int (-1), .int 0, .int 0, .ref mi, .int 0, .int 0, .int 0, .int 0, .ref ml, .ref mss, .ref rn, .ref sw, .ref mf, .null, .int 0, .ref msp, .int 0, .int 0, .int 0])), (lv, .inr (1, [.int 0, .ref de, .int 0])), (rn, .inr (1, [.int 0, .ref de, .int 0])), (sw, .inr (1, [.int 0, .ref de, .int 0])), (ml, .inl (cS, 6, .inl (slotF))), (mf, .inl (cF, 96, .inl (fun _ => 0)))]) hD hS hA [0, 1, 2, 3, 4, 5] rfl
  refine va_calli (va_runV (As := [.int a1]) (rest := []) ⟨hx, hb, hml, hown, ht⟩ (c_X18_noLevel l dC dI de (om) (mt) (qu) (lv) (mi) (ml) (mss) (rn) (sw) (mf) (msp) (cS) (cF) (th) (a1) s.heap.size) (cwV 1 ht (gWV (wr_24 _ (List.mem_of_getElem? (i := 8) rfl)) (wr_24 _ (List.mem_of_getElem? (i := 9) rfl)) (wr_24 _ (List.mem_of_getElem? (i := 10) rfl)) (wr_1 _ (List.mem_of_getElem? (i := 5) rfl)) (wr_24 _ (List.mem_of_getElem? (i := 11) rfl))) rfl rfl rfl (by decide +kernel) ⟨Nat.le_of_ble_eq_true rfl, Nat.le_of_ble_eq_true rfl⟩) ⟨PW_blind, va_recv hKc hPc (ci := 20) (q0 := 0) rfl rfl, PW_call hPc hDc hKc hS hG hFc⟩ rfl rfl hl.1 rfl (lv_room (Nat.le_of_ble_eq_true rfl)) dX18_mend_2 ⟨Nat.le_of_ble_eq_true rfl, Nat.le_of_ble_eq_true rfl⟩) hS (fun q _ h => hFc q h) hFc (fun r_2 u t H1 locs ht9 hvm hw hB hz1 hk1 hS => ?_)
  obtain ⟨hP1, hK1, hD1⟩ := hB
  rw [ht9] at hP1
  have hK1 := va_K.moved hvm.symm hK1
  obtain ⟨hP, hD⟩ := va_join (wr := []) (w1 := [(om, .inr (20, [.ref mt, .ref qu, .int 0, .int 1, .ref lv, .int (-1), .int 0, .int 0, .ref mi, .int 0, .int 0, .int 0, .int 0, .ref ml, .ref mss, .ref rn, .ref sw, .ref mf, .null, .int 0, .ref msp, .int 0, .int 0, .int 0])), (lv, .inr (1, [.int 0, .ref de, .int 0])), (rn, .inr (1, [.int 0, .ref de, .int 0])), (sw, .inr (1, [.int 0, .ref de, .int 0])), (ml, .inl (cS, 6, .inl (slotF))), (mf, .inl (cF, 96, .inl (fun _ => 0)))]) hP hD [0, 1, 2, 3, 4, 5] [] rfl rfl (by decide) (by decide) hk1 hFc hP1 hD1
  have hK := (hK.sub (tys' := []) [] rfl).app hK1
  generalize H1 = H at hP hS ⊢
  replace hP : va_P (dC, dI) vwCl [(om, .inr (20, [.ref mt, .ref qu, .int 0, .int 1, .ref lv, .int (-1), .int 0, .int 0, .ref mi, .int 0, .int 0, .int 0, .int 0, .ref ml, .ref mss, .ref rn, .ref sw, .ref mf, .null, .int 0, .ref msp, .int 0, .int 0, .int 0])), (lv, .inr (1, [.int 0, .ref de, .int 0])), (rn, .inr (1, [.int 0, .ref de, .int 0])), (sw, .inr (1, [.int 0, .ref de, .int 0])), (ml, .inl (cS, 6, .inl (slotF))), (mf, .inl (cF, 96, .inl (fun _ => 0)))] H := hP
  replace hD : va_D A [(om, .inr (20, [.ref mt, .ref qu, .int 0, .int 1, .ref lv, .int (-1), .int 0, .int 0, .ref mi, .int 0, .int 0, .int 0, .int 0, .ref ml, .ref mss, .ref rn, .ref sw, .ref mf, .null, .int 0, .ref msp, .int 0, .int 0, .int 0])), (lv, .inr (1, [.int 0, .ref de, .int 0])), (rn, .inr (1, [.int 0, .ref de, .int 0])), (sw, .inr (1, [.int 0, .ref de, .int 0])), (ml, .inl (cS, 6, .inl (slotF))), (mf, .inl (cF, 96, .inl (fun _ => 0)))] := hD
  have hK : va_K (dC, dI) vwCl [(cS, .int), (cF, .int)] s := hK
  have e_2 : r_2 = 1 := hw
  subst e_2
  refine lv_if_eq (tgt := 10) hx hb dX18_mend_5 (by decide) (fun c_5 => absurd c_5 (by decide)) (fun c_5 => ?_)
  refine lv_iconst (v := 0) hx hb dX18_mend_8 (by decide) ?_
  have hP9 := hP.sub (ws' := [(om, .inr (20, [.ref mt, .ref qu, .int 0, .int 1, .ref lv, .int (-1), .int 0, .int 0, .ref mi, .int 0, .int 0, .int 0, .int 0, .ref ml, .ref mss, .ref rn, .ref sw, .ref mf, .null, .int 0, .ref msp, .int 0, .int 0, .int 0])), (lv, .inr (1, [.int 0, .ref de, .int 0])), (rn, .inr (1, [.int 0, .ref de, .int 0])), (sw, .inr (1, [.int 0, .ref de, .int 0])), (ml, .inl (cS, 6, .inl (slotF))), (mf, .inl (cF, 96, .inl (fun _ => 0)))]) [0, 1, 2, 3, 4, 5] rfl
  have hD9 := hD.sub (ws' := [(om, .inr (20, [.ref mt, .ref qu, .int 0, .int 1, .ref lv, .int (-1), .int 0, .int 0, .ref mi, .int 0, .int 0, .int 0, .int 0, .ref ml, .ref mss, .ref rn, .ref sw, .ref mf, .null, .int 0, .ref msp, .int 0, .int 0, .int 0])), (lv, .inr (1, [.int 0, .ref de, .int 0])), (rn, .inr (1, [.int 0, .ref de, .int 0])), (sw, .inr (1, [.int 0, .ref de, .int 0])), (ml, .inl (cS, 6, .inl (slotF))), (mf, .inl (cF, 96, .inl (fun _ => 0)))]) [0, 1, 2, 3, 4, 5] (by decide) rfl
  have hK9 := hK.sub (tys' := [(cS, .int), (cF, .int)]) [0, 1] rfl
  exact W.iret (v := 0) hx hb hr (fun t htt hW => have ht := htt; ⟨⟨0, (), rfl, trivial, QW_of ht hW hP9 hK9 hD9⟩, hS.F ht⟩) hS.2.2 dX18_mend_9
set_option maxHeartbeats 4000000 in
set_option maxRecDepth 100000 in
theorem c_X18_mendAt (l : Launch) (dC : Nat → ClassId) (dI : Nat → Nat → Nat) (de : Nat) (om : Nat) (mt : Nat) (qu : Nat) (lv : Nat) (mi : Nat) (ml : Nat) (mss : Nat) (rn : Nat) (sw : Nat) (mf : Nat) (msp : Nat) (cS : ClassId) (cF : ClassId) (th : Int32) (a1 : Int32) (a2 : Int32) (sz : Nat) : Met l yX18_mendAt (.code yX18_mendAt cX18_mendAt 4 (some .int) :: wsL_law) { frames := 2, cells := 0, slots := 0, locals := 43 } (va_Pc [.ref om, .int a1, .int a2] (PW dC dI de [(cS, .int), (cF, .int)] (WM om mt qu lv mi ml mss rn sw mf msp cS cF th de) sz)) (va_Qi (fun (r : Int32) (u : Unit) => True) (fun (_ : Unit) (t : State) => QW dC dI [(cS, .int), (cF, .int)] (WM om mt qu lv mi ml mss rn sw mf msp cS cF 1 de) (va_A (WM om mt qu lv mi ml mss rn sw mf msp cS cF th de) sz) t) (va_A (WM om mt qu lv mi ml mss rn sw mf msp cS cF th de) sz)) 0 0 (va_A (WM om mt qu lv mi ml mss rn sw mf msp cS cF th de) sz) := by
  refine Met.ofW (cc := cX18_mendAt) (maxL := 4) (ret := (some .int)) (by decide) rfl ?_
  intro p e s m args below meth c s₁ B hml hv
  obtain ⟨rfl, hsz, hP, hK, hD0, hG⟩ := hv
  have hx := B.exec
  have hb := B.bytes
  have hr := B.returns
  have hts := atoms_spec (ws := .code yX18_mendAt cX18_mendAt 4 (some .int) :: wsL_law) B.pre
  have ht : ∀ w ∈ wsL_law, w.before _ s = true := fun w h => hts w (List.mem_cons_of_mem _ h)
  have hown : s.vm.findClass RX18 = some m.cls := findClass_of_methodNamed B.named
  have hlocks := B.notSynchronized
  subst hsz
  have hD := hD0.self (sz := s.heap.size)
  generalize hAe : va_A (WM om mt qu lv mi ml mss rn sw mf msp cS cF th de) s.heap.size = A at hD hG ⊢
  have hA : ∀ q : Nat, s.heap.size ≤ q → A q := fun q h => by rw [← hAe]; exact Or.inr h
  have hS : va_S A s.heap s.heap [] := va_S.rf
  have hP : va_P (dC, dI) vwCl [(om, .inr (20, [.ref mt, .ref qu, .int 0, .int th, .ref lv, .int (-1), .int 0, .int 0, .ref mi, .int 0, .int 0, .int 0, .int 0, .ref ml, .ref mss, .ref rn, .ref sw, .ref mf, .null, .int 0, .ref msp, .int 0, .int 0, .int 0])), (lv, .inr (1, [.int 0, .ref de, .int 0])), (rn, .inr (1, [.int 0, .ref de, .int 0])), (sw, .inr (1, [.int 0, .ref de, .int 0])), (ml, .inl (cS, 6, .inl (slotF))), (mf, .inl (cF, 96, .inl (fun _ => 0)))] s.heap := hP
  have hD : va_D A [(om, .inr (20, [.ref mt, .ref qu, .int 0, .int th, .ref lv, .int (-1), .int 0, .int 0, .ref mi, .int 0, .int 0, .int 0, .int 0, .ref ml, .ref mss, .ref rn, .ref sw, .ref mf, .null, .int 0, .ref msp, .int 0, .int 0, .int 0])), (lv, .inr (1, [.int 0, .ref de, .int 0])), (rn, .inr (1, [.int 0, .ref de, .int 0])), (sw, .inr (1, [.int 0, .ref de, .int 0])), (ml, .inl (cS, 6, .inl (slotF))), (mf, .inl (cF, 96, .inl (fun _ => 0)))] := hD
  have hl := lv_entry ([.ref om, .int a1, .int a2]) (n := 4) (Nat.le_of_ble_eq_true rfl)
  rw [lg_entry_eq]
  generalize (lg_sl ([.ref om, .int a1, .int a2]) ++ List.replicate (4 - (lg_sl ([.ref om, .int a1, .int a2])).length) Slot.unset).toArray = ls at hl ⊢
  have hl : lv_has ls 4 [(0, .ref om), (1, .int a1), (2, .int a2)] := hl
  refine lv_aload_n hx hb dX18_mendAt_0 rfl (lv_at hl 0 rfl) ?_
  refine lv_iload_n hx hb dX18_mendAt_1 rfl (lv_at hl 1 rfl) ?_
  have hPc := hP.sub (ws' := [(om, .inr (20, [.ref mt, .ref qu, .int 0, .int th, .ref lv, .int (-1), .int 0, .int 0, .ref mi, .int 0, .int 0, .int 0, .int 0, .ref ml, .ref mss, .ref rn, .ref sw, .ref mf, .null, .int 0, .ref msp, .int 0, .int 0, .int 0])), (lv, .inr (1, [.int 0, .ref de, .int 0])), (rn, .inr (1, [.int 0, .ref de, .int 0])), (sw, .inr (1, [.int 0, .ref de, .int 0])), (ml, .inl (cS, 6, .inl (slotF))), (mf, .inl (cF, 96, .inl (fun _ => 0)))]) [0, 1, 2, 3, 4, 5] rfl
  have hDc := hD.sub (ws' := [(om, .inr (20, [.ref mt, .ref qu, .int 0, .int th, .ref lv, .int (-1), .int 0, .int 0, .ref mi, .int 0, .int 0, .int 0, .int 0, .ref ml, .ref mss, .ref rn, .ref sw, .ref mf, .null, .int 0, .ref msp, .int 0, .int 0, .int 0])), (lv, .inr (1, [.int 0, .ref de, .int 0])), (rn, .inr (1, [.int 0, .ref de, .int 0])), (sw, .inr (1, [.int 0, .ref de, .int 0])), (ml, .inl (cS, 6, .inl (slotF))), (mf, .inl (cF, 96, .inl (fun _ => 0)))]) [0, 1, 2, 3, 4, 5] (by decide) rfl
  have hKc := hK.sub (tys' := [(cS, .int), (cF, .int)]) [0, 1] rfl
  have hFc := va_free (wc := [(om, .inr (20, [.ref mt, .ref qu, .int 0, .int th, .ref lv, .int (-1), .int 0, .int 0, .ref mi, .int 0, .int 0, .int 0, .int 0, .ref ml, .ref mss, .ref rn, .ref sw, .ref mf, .null, .int 0, .ref msp, .int 0, .int 0, .int 0])), (lv, .inr (1, [.int 0, .ref de, .int 0])), (rn, .inr (1, [.int 0, .ref de, .int 0])), (sw, .inr (1, [.int 0, .ref de, .int 0])), (ml, .inl (cS, 6, .inl (slotF))), (mf, .inl (cF, 96, .inl (fun _ => 0)))]) hD hS hA [0, 1, 2, 3, 4, 5] rfl
  refine va_calli (va_runV (As := [.int a1]) (rest := []) ⟨hx, hb, hml, hown, ht⟩ (c_X18_noLevel l dC dI de (om) (mt) (qu) (lv) (mi) (ml) (mss) (rn) (sw) (mf) (msp) (cS) (cF) (th) (a1) s.heap.size) (cwV 1 ht (gWV (wr_24 _ (List.mem_of_getElem? (i := 8) rfl)) (wr_24 _ (List.mem_of_getElem? (i := 9) rfl)) (wr_24 _ (List.mem_of_getElem? (i := 10) rfl)) (wr_1 _ (List.mem_of_getElem? (i := 5) rfl)) (wr_24 _ (List.mem_of_getElem? (i := 11) rfl))) rfl rfl rfl (by decide +kernel) ⟨Nat.le_of_ble_eq_true rfl, Nat.le_of_ble_eq_true rfl⟩) ⟨PW_blind, va_recv hKc hPc (ci := 20) (q0 := 0) rfl rfl, PW_call hPc hDc hKc hS hG hFc⟩ rfl rfl hl.1 rfl (lv_room (Nat.le_of_ble_eq_true rfl)) dX18_mendAt_2 ⟨Nat.le_of_ble_eq_true rfl, Nat.le_of_ble_eq_true rfl⟩) hS (fun q _ h => hFc q h) hFc (fun r_2 u t H1 locs ht9 hvm hw hB hz1 hk1 hS => ?_)
  obtain ⟨hP1, hK1, hD1⟩ := hB
  rw [ht9] at hP1
  have hK1 := va_K.moved hvm.symm hK1
  obtain ⟨hP, hD⟩ := va_join (wr := []) (w1 := [(om, .inr (20, [.ref mt, .ref qu, .int 0, .int 1, .ref lv, .int (-1), .int 0, .int 0, .ref mi, .int 0, .int 0, .int 0, .int 0, .ref ml, .ref mss, .ref rn, .ref sw, .ref mf, .null, .int 0, .ref msp, .int 0, .int 0, .int 0])), (lv, .inr (1, [.int 0, .ref de, .int 0])), (rn, .inr (1, [.int 0, .ref de, .int 0])), (sw, .inr (1, [.int 0, .ref de, .int 0])), (ml, .inl (cS, 6, .inl (slotF))), (mf, .inl (cF, 96, .inl (fun _ => 0)))]) hP hD [0, 1, 2, 3, 4, 5] [] rfl rfl (by decide) (by decide) hk1 hFc hP1 hD1
  have hK := (hK.sub (tys' := []) [] rfl).app hK1
  generalize H1 = H at hP hS ⊢
  replace hP : va_P (dC, dI) vwCl [(om, .inr (20, [.ref mt, .ref qu, .int 0, .int 1, .ref lv, .int (-1), .int 0, .int 0, .ref mi, .int 0, .int 0, .int 0, .int 0, .ref ml, .ref mss, .ref rn, .ref sw, .ref mf, .null, .int 0, .ref msp, .int 0, .int 0, .int 0])), (lv, .inr (1, [.int 0, .ref de, .int 0])), (rn, .inr (1, [.int 0, .ref de, .int 0])), (sw, .inr (1, [.int 0, .ref de, .int 0])), (ml, .inl (cS, 6, .inl (slotF))), (mf, .inl (cF, 96, .inl (fun _ => 0)))] H := hP
  replace hD : va_D A [(om, .inr (20, [.ref mt, .ref qu, .int 0, .int 1, .ref lv, .int (-1), .int 0, .int 0, .ref mi, .int 0, .int 0, .int 0, .int 0, .ref ml, .ref mss, .ref rn, .ref sw, .ref mf, .null, .int 0, .ref msp, .int 0, .int 0, .int 0])), (lv, .inr (1, [.int 0, .ref de, .int 0])), (rn, .inr (1, [.int 0, .ref de, .int 0])), (sw, .inr (1, [.int 0, .ref de, .int 0])), (ml, .inl (cS, 6, .inl (slotF))), (mf, .inl (cF, 96, .inl (fun _ => 0)))] := hD
  have hK : va_K (dC, dI) vwCl [(cS, .int), (cF, .int)] s := hK
  have e_2 : r_2 = 1 := hw
  subst e_2
  refine lv_if_eq (tgt := 10) hx hb dX18_mendAt_5 (by decide) (fun c_5 => absurd c_5 (by decide)) (fun c_5 => ?_)
  refine lv_iconst (v := 0) hx hb dX18_mendAt_8 (by decide) ?_
  have hP9 := hP.sub (ws' := [(om, .inr (20, [.ref mt, .ref qu, .int 0, .int 1, .ref lv, .int (-1), .int 0, .int 0, .ref mi, .int 0, .int 0, .int 0, .int 0, .ref ml, .ref mss, .ref rn, .ref sw, .ref mf, .null, .int 0, .ref msp, .int 0, .int 0, .int 0])), (lv, .inr (1, [.int 0, .ref de, .int 0])), (rn, .inr (1, [.int 0, .ref de, .int 0])), (sw, .inr (1, [.int 0, .ref de, .int 0])), (ml, .inl (cS, 6, .inl (slotF))), (mf, .inl (cF, 96, .inl (fun _ => 0)))]) [0, 1, 2, 3, 4, 5] rfl
  have hD9 := hD.sub (ws' := [(om, .inr (20, [.ref mt, .ref qu, .int 0, .int 1, .ref lv, .int (-1), .int 0, .int 0, .ref mi, .int 0, .int 0, .int 0, .int 0, .ref ml, .ref mss, .ref rn, .ref sw, .ref mf, .null, .int 0, .ref msp, .int 0, .int 0, .int 0])), (lv, .inr (1, [.int 0, .ref de, .int 0])), (rn, .inr (1, [.int 0, .ref de, .int 0])), (sw, .inr (1, [.int 0, .ref de, .int 0])), (ml, .inl (cS, 6, .inl (slotF))), (mf, .inl (cF, 96, .inl (fun _ => 0)))]) [0, 1, 2, 3, 4, 5] (by decide) rfl
  have hK9 := hK.sub (tys' := [(cS, .int), (cF, .int)]) [0, 1] rfl
  exact W.iret (v := 0) hx hb hr (fun t htt hW => have ht := htt; ⟨⟨0, (), rfl, trivial, QW_of ht hW hP9 hK9 hD9⟩, hS.F ht⟩) hS.2.2 dX18_mendAt_9
set_option maxHeartbeats 4000000 in
set_option maxRecDepth 100000 in
theorem c_X18_rests (l : Launch) (dC : Nat → ClassId) (dI : Nat → Nat → Nat) (de : Nat) (om : Nat) (mt : Nat) (qu : Nat) (lv : Nat) (mi : Nat) (ml : Nat) (mss : Nat) (rn : Nat) (sw : Nat) (mf : Nat) (msp : Nat) (cS : ClassId) (cF : ClassId) (th : Int32) (a1 : Int32) (sz : Nat) : Met l yX18_rests (.code yX18_rests cX18_rests 7 (some .int) :: wsL_law) { frames := 3, cells := 0, slots := 0, locals := 64 } (va_Pc [.ref om, .int a1] (PW dC dI de [(cS, .int), (cF, .int)] (WM om mt qu lv mi ml mss rn sw mf msp cS cF th de) sz)) (va_Qi (fun (r : Int32) (u : Unit) => True) (fun (_ : Unit) (t : State) => QW dC dI [(cS, .int), (cF, .int)] (WM om mt qu lv mi ml mss rn sw mf msp cS cF 1 de) (va_A (WM om mt qu lv mi ml mss rn sw mf msp cS cF th de) sz) t) (va_A (WM om mt qu lv mi ml mss rn sw mf msp cS cF th de) sz)) 0 0 (va_A (WM om mt qu lv mi ml mss rn sw mf msp cS cF th de) sz) := by
  refine Met.ofW (cc := cX18_rests) (maxL := 7) (ret := (some .int)) (by decide) rfl ?_
  intro p e s m args below meth c s₁ B hml hv
  obtain ⟨rfl, hsz, hP, hK, hD0, hG⟩ := hv
  have hx := B.exec
  have hb := B.bytes
  have hr := B.returns
  have hts := atoms_spec (ws := .code yX18_rests cX18_rests 7 (some .int) :: wsL_law) B.pre
  have ht : ∀ w ∈ wsL_law, w.before _ s = true := fun w h => hts w (List.mem_cons_of_mem _ h)
  have hown : s.vm.findClass RX18 = some m.cls := findClass_of_methodNamed B.named
  have hlocks := B.notSynchronized
  subst hsz
  have hD := hD0.self (sz := s.heap.size)
  generalize hAe : va_A (WM om mt qu lv mi ml mss rn sw mf msp cS cF th de) s.heap.size = A at hD hG ⊢
  have hA : ∀ q : Nat, s.heap.size ≤ q → A q := fun q h => by rw [← hAe]; exact Or.inr h
  have hS : va_S A s.heap s.heap [] := va_S.rf
  have hP : va_P (dC, dI) vwCl [(om, .inr (20, [.ref mt, .ref qu, .int 0, .int th, .ref lv, .int (-1), .int 0, .int 0, .ref mi, .int 0, .int 0, .int 0, .int 0, .ref ml, .ref mss, .ref rn, .ref sw, .ref mf, .null, .int 0, .ref msp, .int 0, .int 0, .int 0])), (lv, .inr (1, [.int 0, .ref de, .int 0])), (rn, .inr (1, [.int 0, .ref de, .int 0])), (sw, .inr (1, [.int 0, .ref de, .int 0])), (ml, .inl (cS, 6, .inl (slotF))), (mf, .inl (cF, 96, .inl (fun _ => 0)))] s.heap := hP
  have hD : va_D A [(om, .inr (20, [.ref mt, .ref qu, .int 0, .int th, .ref lv, .int (-1), .int 0, .int 0, .ref mi, .int 0, .int 0, .int 0, .int 0, .ref ml, .ref mss, .ref rn, .ref sw, .ref mf, .null, .int 0, .ref msp, .int 0, .int 0, .int 0])), (lv, .inr (1, [.int 0, .ref de, .int 0])), (rn, .inr (1, [.int 0, .ref de, .int 0])), (sw, .inr (1, [.int 0, .ref de, .int 0])), (ml, .inl (cS, 6, .inl (slotF))), (mf, .inl (cF, 96, .inl (fun _ => 0)))] := hD
  have hl := lv_entry ([.ref om, .int a1]) (n := 7) (Nat.le_of_ble_eq_true rfl)
  rw [lg_entry_eq]
  generalize (lg_sl ([.ref om, .int a1]) ++ List.replicate (7 - (lg_sl ([.ref om, .int a1])).length) Slot.unset).toArray = ls at hl ⊢
  have hl : lv_has ls 7 [(0, .ref om), (1, .int a1)] := hl
  refine lv_aload_n hx hb dX18_rests_0 rfl (lv_at hl 0 rfl) ?_
  refine lv_iload_n hx hb dX18_rests_1 rfl (lv_at hl 1 rfl) ?_
  have hPc := hP.sub (ws' := [(om, .inr (20, [.ref mt, .ref qu, .int 0, .int th, .ref lv, .int (-1), .int 0, .int 0, .ref mi, .int 0, .int 0, .int 0, .int 0, .ref ml, .ref mss, .ref rn, .ref sw, .ref mf, .null, .int 0, .ref msp, .int 0, .int 0, .int 0])), (lv, .inr (1, [.int 0, .ref de, .int 0])), (rn, .inr (1, [.int 0, .ref de, .int 0])), (sw, .inr (1, [.int 0, .ref de, .int 0])), (ml, .inl (cS, 6, .inl (slotF))), (mf, .inl (cF, 96, .inl (fun _ => 0)))]) [0, 1, 2, 3, 4, 5] rfl
  have hDc := hD.sub (ws' := [(om, .inr (20, [.ref mt, .ref qu, .int 0, .int th, .ref lv, .int (-1), .int 0, .int 0, .ref mi, .int 0, .int 0, .int 0, .int 0, .ref ml, .ref mss, .ref rn, .ref sw, .ref mf, .null, .int 0, .ref msp, .int 0, .int 0, .int 0])), (lv, .inr (1, [.int 0, .ref de, .int 0])), (rn, .inr (1, [.int 0, .ref de, .int 0])), (sw, .inr (1, [.int 0, .ref de, .int 0])), (ml, .inl (cS, 6, .inl (slotF))), (mf, .inl (cF, 96, .inl (fun _ => 0)))]) [0, 1, 2, 3, 4, 5] (by decide) rfl
  have hKc := hK.sub (tys' := [(cS, .int), (cF, .int)]) [0, 1] rfl
  have hFc := va_free (wc := [(om, .inr (20, [.ref mt, .ref qu, .int 0, .int th, .ref lv, .int (-1), .int 0, .int 0, .ref mi, .int 0, .int 0, .int 0, .int 0, .ref ml, .ref mss, .ref rn, .ref sw, .ref mf, .null, .int 0, .ref msp, .int 0, .int 0, .int 0])), (lv, .inr (1, [.int 0, .ref de, .int 0])), (rn, .inr (1, [.int 0, .ref de, .int 0])), (sw, .inr (1, [.int 0, .ref de, .int 0])), (ml, .inl (cS, 6, .inl (slotF))), (mf, .inl (cF, 96, .inl (fun _ => 0)))]) hD hS hA [0, 1, 2, 3, 4, 5] rfl
  refine va_callq (va_runV (As := [.int a1]) (rest := []) ⟨hx, hb, hml, hown, ht⟩ (c_X18_won l dC dI de (om) (mt) (qu) (lv) (mi) (ml) (mss) (rn) (sw) (mf) (msp) (cS) (cF) (th) (a1) s.heap.size) (cwV 1 ht (gWV (wr_38 _ (List.mem_of_getElem? (i := 9) rfl)) (wr_38 _ (List.mem_of_getElem? (i := 10) rfl)) (wr_38 _ (List.mem_of_getElem? (i := 11) rfl)) (wr_1 _ (List.mem_of_getElem? (i := 5) rfl)) (wr_38 _ (List.mem_of_getElem? (i := 12) rfl))) rfl rfl rfl (by decide +kernel) ⟨Nat.le_of_ble_eq_true rfl, Nat.le_of_ble_eq_true rfl⟩) ⟨PW_blind, va_recv hKc hPc (ci := 20) (q0 := 0) rfl rfl, PW_call hPc hDc hKc hS hG hFc⟩ rfl rfl hl.1 rfl (lv_room (Nat.le_of_ble_eq_true rfl)) dX18_rests_2 ⟨Nat.le_of_ble_eq_true rfl, Nat.le_of_ble_eq_true rfl⟩) hS (fun q _ h => hFc q h) hFc (fun r_2 u t H1 locs ht9 hvm hw hB hz1 hk1 hS => ?_)
  obtain ⟨hP1, hK1, hD1⟩ := hB
  rw [ht9] at hP1
  have hK1 := va_K.moved hvm.symm hK1
  obtain ⟨hP, hD⟩ := va_join (wr := []) (w1 := [(om, .inr (20, [.ref mt, .ref qu, .int 0, .int 1, .ref lv, .int (-1), .int 0, .int 0, .ref mi, .int 0, .int 0, .int 0, .int 0, .ref ml, .ref mss, .ref rn, .ref sw, .ref mf, .null, .int 0, .ref msp, .int 0, .int 0, .int 0])), (lv, .inr (1, [.int 0, .ref de, .int 0])), (rn, .inr (1, [.int 0, .ref de, .int 0])), (sw, .inr (1, [.int 0, .ref de, .int 0])), (ml, .inl (cS, 6, .inl (slotF))), (mf, .inl (cF, 96, .inl (fun _ => 0)))]) hP hD [0, 1, 2, 3, 4, 5] [] rfl rfl (by decide) (by decide) hk1 hFc hP1 hD1
  have hK := (hK.sub (tys' := []) [] rfl).app hK1
  generalize H1 = H at hP hS ⊢
  replace hP : va_P (dC, dI) vwCl [(om, .inr (20, [.ref mt, .ref qu, .int 0, .int 1, .ref lv, .int (-1), .int 0, .int 0, .ref mi, .int 0, .int 0, .int 0, .int 0, .ref ml, .ref mss, .ref rn, .ref sw, .ref mf, .null, .int 0, .ref msp, .int 0, .int 0, .int 0])), (lv, .inr (1, [.int 0, .ref de, .int 0])), (rn, .inr (1, [.int 0, .ref de, .int 0])), (sw, .inr (1, [.int 0, .ref de, .int 0])), (ml, .inl (cS, 6, .inl (slotF))), (mf, .inl (cF, 96, .inl (fun _ => 0)))] H := hP
  replace hD : va_D A [(om, .inr (20, [.ref mt, .ref qu, .int 0, .int 1, .ref lv, .int (-1), .int 0, .int 0, .ref mi, .int 0, .int 0, .int 0, .int 0, .ref ml, .ref mss, .ref rn, .ref sw, .ref mf, .null, .int 0, .ref msp, .int 0, .int 0, .int 0])), (lv, .inr (1, [.int 0, .ref de, .int 0])), (rn, .inr (1, [.int 0, .ref de, .int 0])), (sw, .inr (1, [.int 0, .ref de, .int 0])), (ml, .inl (cS, 6, .inl (slotF))), (mf, .inl (cF, 96, .inl (fun _ => 0)))] := hD
  have hK : va_K (dC, dI) vwCl [(cS, .int), (cF, .int)] s := hK
  have e_2 : r_2 = none := hw
  subst e_2
  refine W.eq (g2 := F0 m 5 ls [.null]) rfl ?_
  refine lv_ifnonnullN hx hb dX18_rests_5 ?_
  refine lv_iconst (v := 0) hx hb dX18_rests_8 (by decide) ?_
  have hP9 := hP.sub (ws' := [(om, .inr (20, [.ref mt, .ref qu, .int 0, .int 1, .ref lv, .int (-1), .int 0, .int 0, .ref mi, .int 0, .int 0, .int 0, .int 0, .ref ml, .ref mss, .ref rn, .ref sw, .ref mf, .null, .int 0, .ref msp, .int 0, .int 0, .int 0])), (lv, .inr (1, [.int 0, .ref de, .int 0])), (rn, .inr (1, [.int 0, .ref de, .int 0])), (sw, .inr (1, [.int 0, .ref de, .int 0])), (ml, .inl (cS, 6, .inl (slotF))), (mf, .inl (cF, 96, .inl (fun _ => 0)))]) [0, 1, 2, 3, 4, 5] rfl
  have hD9 := hD.sub (ws' := [(om, .inr (20, [.ref mt, .ref qu, .int 0, .int 1, .ref lv, .int (-1), .int 0, .int 0, .ref mi, .int 0, .int 0, .int 0, .int 0, .ref ml, .ref mss, .ref rn, .ref sw, .ref mf, .null, .int 0, .ref msp, .int 0, .int 0, .int 0])), (lv, .inr (1, [.int 0, .ref de, .int 0])), (rn, .inr (1, [.int 0, .ref de, .int 0])), (sw, .inr (1, [.int 0, .ref de, .int 0])), (ml, .inl (cS, 6, .inl (slotF))), (mf, .inl (cF, 96, .inl (fun _ => 0)))]) [0, 1, 2, 3, 4, 5] (by decide) rfl
  have hK9 := hK.sub (tys' := [(cS, .int), (cF, .int)]) [0, 1] rfl
  exact W.iret (v := 0) hx hb hr (fun t htt hW => have ht := htt; ⟨⟨0, (), rfl, trivial, QW_of ht hW hP9 hK9 hD9⟩, hS.F ht⟩) hS.2.2 dX18_rests_9
set_option maxHeartbeats 4000000 in
set_option maxRecDepth 100000 in
theorem c_X18_longestAir (l : Launch) (dC : Nat → ClassId) (dI : Nat → Nat → Nat) (de : Nat) (om : Nat) (mt : Nat) (qu : Nat) (lv : Nat) (mi : Nat) (ml : Nat) (mss : Nat) (rn : Nat) (sw : Nat) (mf : Nat) (msp : Nat) (cS : ClassId) (cF : ClassId) (th : Int32) (a1 : Int32) (sz : Nat) : Met l yX18_longestAir (.code yX18_longestAir cX18_longestAir 8 (some .int) :: wsL_law) { frames := 3, cells := 0, slots := 0, locals := 64 } (va_Pc [.ref om, .int a1] (PW dC dI de [(cS, .int), (cF, .int)] (WM om mt qu lv mi ml mss rn sw mf msp cS cF th de) sz)) (va_Qi (fun (r : Int32) (u : Unit) => True) (fun (_ : Unit) (t : State) => QW dC dI [(cS, .int), (cF, .int)] (WM om mt qu lv mi ml mss rn sw mf msp cS cF 1 de) (va_A (WM om mt qu lv mi ml mss rn sw mf msp cS cF th de) sz) t) (va_A (WM om mt qu lv mi ml mss rn sw mf msp cS cF th de) sz)) 0 0 (va_A (WM om mt qu lv mi ml mss rn sw mf msp cS cF th de) sz) := by
  refine Met.ofW (cc := cX18_longestAir) (maxL := 8) (ret := (some .int)) (by decide) rfl ?_
  intro p e s m args below meth c s₁ B hml hv
  obtain ⟨rfl, hsz, hP, hK, hD0, hG⟩ := hv
  have hx := B.exec
  have hb := B.bytes
  have hr := B.returns
  have hts := atoms_spec (ws := .code yX18_longestAir cX18_longestAir 8 (some .int) :: wsL_law) B.pre
  have ht : ∀ w ∈ wsL_law, w.before _ s = true := fun w h => hts w (List.mem_cons_of_mem _ h)
  have hown : s.vm.findClass RX18 = some m.cls := findClass_of_methodNamed B.named
  have hlocks := B.notSynchronized
  subst hsz
  have hD := hD0.self (sz := s.heap.size)
  generalize hAe : va_A (WM om mt qu lv mi ml mss rn sw mf msp cS cF th de) s.heap.size = A at hD hG ⊢
  have hA : ∀ q : Nat, s.heap.size ≤ q → A q := fun q h => by rw [← hAe]; exact Or.inr h
  have hS : va_S A s.heap s.heap [] := va_S.rf
  have hP : va_P (dC, dI) vwCl [(om, .inr (20, [.ref mt, .ref qu, .int 0, .int th, .ref lv, .int (-1), .int 0, .int 0, .ref mi, .int 0, .int 0, .int 0, .int 0, .ref ml, .ref mss, .ref rn, .ref sw, .ref mf, .null, .int 0, .ref msp, .int 0, .int 0, .int 0])), (lv, .inr (1, [.int 0, .ref de, .int 0])), (rn, .inr (1, [.int 0, .ref de, .int 0])), (sw, .inr (1, [.int 0, .ref de, .int 0])), (ml, .inl (cS, 6, .inl (slotF))), (mf, .inl (cF, 96, .inl (fun _ => 0)))] s.heap := hP
  have hD : va_D A [(om, .inr (20, [.ref mt, .ref qu, .int 0, .int th, .ref lv, .int (-1), .int 0, .int 0, .ref mi, .int 0, .int 0, .int 0, .int 0, .ref ml, .ref mss, .ref rn, .ref sw, .ref mf, .null, .int 0, .ref msp, .int 0, .int 0, .int 0])), (lv, .inr (1, [.int 0, .ref de, .int 0])), (rn, .inr (1, [.int 0, .ref de, .int 0])), (sw, .inr (1, [.int 0, .ref de, .int 0])), (ml, .inl (cS, 6, .inl (slotF))), (mf, .inl (cF, 96, .inl (fun _ => 0)))] := hD
  have hl := lv_entry ([.ref om, .int a1]) (n := 8) (Nat.le_of_ble_eq_true rfl)
  rw [lg_entry_eq]
  generalize (lg_sl ([.ref om, .int a1]) ++ List.replicate (8 - (lg_sl ([.ref om, .int a1])).length) Slot.unset).toArray = ls at hl ⊢
  have hl : lv_has ls 8 [(0, .ref om), (1, .int a1)] := hl
  refine lv_aload_n hx hb dX18_longestAir_0 rfl (lv_at hl 0 rfl) ?_
  refine lv_iload_n hx hb dX18_longestAir_1 rfl (lv_at hl 1 rfl) ?_
  have hPc := hP.sub (ws' := [(om, .inr (20, [.ref mt, .ref qu, .int 0, .int th, .ref lv, .int (-1), .int 0, .int 0, .ref mi, .int 0, .int 0, .int 0, .int 0, .ref ml, .ref mss, .ref rn, .ref sw, .ref mf, .null, .int 0, .ref msp, .int 0, .int 0, .int 0])), (lv, .inr (1, [.int 0, .ref de, .int 0])), (rn, .inr (1, [.int 0, .ref de, .int 0])), (sw, .inr (1, [.int 0, .ref de, .int 0])), (ml, .inl (cS, 6, .inl (slotF))), (mf, .inl (cF, 96, .inl (fun _ => 0)))]) [0, 1, 2, 3, 4, 5] rfl
  have hDc := hD.sub (ws' := [(om, .inr (20, [.ref mt, .ref qu, .int 0, .int th, .ref lv, .int (-1), .int 0, .int 0, .ref mi, .int 0, .int 0, .int 0, .int 0, .ref ml, .ref mss, .ref rn, .ref sw, .ref mf, .null, .int 0, .ref msp, .int 0, .int 0, .int 0])), (lv, .inr (1, [.int 0, .ref de, .int 0])), (rn, .inr (1, [.int 0, .ref de, .int 0])), (sw, .inr (1, [.int 0, .ref de, .int 0])), (ml, .inl (cS, 6, .inl (slotF))), (mf, .inl (cF, 96, .inl (fun _ => 0)))]) [0, 1, 2, 3, 4, 5] (by decide) rfl
  have hKc := hK.sub (tys' := [(cS, .int), (cF, .int)]) [0, 1] rfl
  have hFc := va_free (wc := [(om, .inr (20, [.ref mt, .ref qu, .int 0, .int th, .ref lv, .int (-1), .int 0, .int 0, .ref mi, .int 0, .int 0, .int 0, .int 0, .ref ml, .ref mss, .ref rn, .ref sw, .ref mf, .null, .int 0, .ref msp, .int 0, .int 0, .int 0])), (lv, .inr (1, [.int 0, .ref de, .int 0])), (rn, .inr (1, [.int 0, .ref de, .int 0])), (sw, .inr (1, [.int 0, .ref de, .int 0])), (ml, .inl (cS, 6, .inl (slotF))), (mf, .inl (cF, 96, .inl (fun _ => 0)))]) hD hS hA [0, 1, 2, 3, 4, 5] rfl
  refine va_callq (va_runV (As := [.int a1]) (rest := []) ⟨hx, hb, hml, hown, ht⟩ (c_X18_won l dC dI de (om) (mt) (qu) (lv) (mi) (ml) (mss) (rn) (sw) (mf) (msp) (cS) (cF) (th) (a1) s.heap.size) (cwV 1 ht (gWV (wr_38 _ (List.mem_of_getElem? (i := 9) rfl)) (wr_38 _ (List.mem_of_getElem? (i := 10) rfl)) (wr_38 _ (List.mem_of_getElem? (i := 11) rfl)) (wr_1 _ (List.mem_of_getElem? (i := 5) rfl)) (wr_38 _ (List.mem_of_getElem? (i := 12) rfl))) rfl rfl rfl (by decide +kernel) ⟨Nat.le_of_ble_eq_true rfl, Nat.le_of_ble_eq_true rfl⟩) ⟨PW_blind, va_recv hKc hPc (ci := 20) (q0 := 0) rfl rfl, PW_call hPc hDc hKc hS hG hFc⟩ rfl rfl hl.1 rfl (lv_room (Nat.le_of_ble_eq_true rfl)) dX18_longestAir_2 ⟨Nat.le_of_ble_eq_true rfl, Nat.le_of_ble_eq_true rfl⟩) hS (fun q _ h => hFc q h) hFc (fun r_2 u t H1 locs ht9 hvm hw hB hz1 hk1 hS => ?_)
  obtain ⟨hP1, hK1, hD1⟩ := hB
  rw [ht9] at hP1
  have hK1 := va_K.moved hvm.symm hK1
  obtain ⟨hP, hD⟩ := va_join (wr := []) (w1 := [(om, .inr (20, [.ref mt, .ref qu, .int 0, .int 1, .ref lv, .int (-1), .int 0, .int 0, .ref mi, .int 0, .int 0, .int 0, .int 0, .ref ml, .ref mss, .ref rn, .ref sw, .ref mf, .null, .int 0, .ref msp, .int 0, .int 0, .int 0])), (lv, .inr (1, [.int 0, .ref de, .int 0])), (rn, .inr (1, [.int 0, .ref de, .int 0])), (sw, .inr (1, [.int 0, .ref de, .int 0])), (ml, .inl (cS, 6, .inl (slotF))), (mf, .inl (cF, 96, .inl (fun _ => 0)))]) hP hD [0, 1, 2, 3, 4, 5] [] rfl rfl (by decide) (by decide) hk1 hFc hP1 hD1
  have hK := (hK.sub (tys' := []) [] rfl).app hK1
  generalize H1 = H at hP hS ⊢
  replace hP : va_P (dC, dI) vwCl [(om, .inr (20, [.ref mt, .ref qu, .int 0, .int 1, .ref lv, .int (-1), .int 0, .int 0, .ref mi, .int 0, .int 0, .int 0, .int 0, .ref ml, .ref mss, .ref rn, .ref sw, .ref mf, .null, .int 0, .ref msp, .int 0, .int 0, .int 0])), (lv, .inr (1, [.int 0, .ref de, .int 0])), (rn, .inr (1, [.int 0, .ref de, .int 0])), (sw, .inr (1, [.int 0, .ref de, .int 0])), (ml, .inl (cS, 6, .inl (slotF))), (mf, .inl (cF, 96, .inl (fun _ => 0)))] H := hP
  replace hD : va_D A [(om, .inr (20, [.ref mt, .ref qu, .int 0, .int 1, .ref lv, .int (-1), .int 0, .int 0, .ref mi, .int 0, .int 0, .int 0, .int 0, .ref ml, .ref mss, .ref rn, .ref sw, .ref mf, .null, .int 0, .ref msp, .int 0, .int 0, .int 0])), (lv, .inr (1, [.int 0, .ref de, .int 0])), (rn, .inr (1, [.int 0, .ref de, .int 0])), (sw, .inr (1, [.int 0, .ref de, .int 0])), (ml, .inl (cS, 6, .inl (slotF))), (mf, .inl (cF, 96, .inl (fun _ => 0)))] := hD
  have hK : va_K (dC, dI) vwCl [(cS, .int), (cF, .int)] s := hK
  have e_2 : r_2 = none := hw
  subst e_2
  refine W.eq (g2 := F0 m 5 ls [.null]) rfl ?_
  refine lv_ifnonnullN hx hb dX18_longestAir_5 ?_
  refine lv_iconst (v := 0) hx hb dX18_longestAir_8 (by decide) ?_
  have hP9 := hP.sub (ws' := [(om, .inr (20, [.ref mt, .ref qu, .int 0, .int 1, .ref lv, .int (-1), .int 0, .int 0, .ref mi, .int 0, .int 0, .int 0, .int 0, .ref ml, .ref mss, .ref rn, .ref sw, .ref mf, .null, .int 0, .ref msp, .int 0, .int 0, .int 0])), (lv, .inr (1, [.int 0, .ref de, .int 0])), (rn, .inr (1, [.int 0, .ref de, .int 0])), (sw, .inr (1, [.int 0, .ref de, .int 0])), (ml, .inl (cS, 6, .inl (slotF))), (mf, .inl (cF, 96, .inl (fun _ => 0)))]) [0, 1, 2, 3, 4, 5] rfl
  have hD9 := hD.sub (ws' := [(om, .inr (20, [.ref mt, .ref qu, .int 0, .int 1, .ref lv, .int (-1), .int 0, .int 0, .ref mi, .int 0, .int 0, .int 0, .int 0, .ref ml, .ref mss, .ref rn, .ref sw, .ref mf, .null, .int 0, .ref msp, .int 0, .int 0, .int 0])), (lv, .inr (1, [.int 0, .ref de, .int 0])), (rn, .inr (1, [.int 0, .ref de, .int 0])), (sw, .inr (1, [.int 0, .ref de, .int 0])), (ml, .inl (cS, 6, .inl (slotF))), (mf, .inl (cF, 96, .inl (fun _ => 0)))]) [0, 1, 2, 3, 4, 5] (by decide) rfl
  have hK9 := hK.sub (tys' := [(cS, .int), (cF, .int)]) [0, 1] rfl
  exact W.iret (v := 0) hx hb hr (fun t htt hW => have ht := htt; ⟨⟨0, (), rfl, trivial, QW_of ht hW hP9 hK9 hD9⟩, hS.F ht⟩) hS.2.2 dX18_longestAir_9
set_option maxHeartbeats 4000000 in
set_option maxRecDepth 100000 in
theorem c_X18_play (l : Launch) (dC : Nat → ClassId) (dI : Nat → Nat → Nat) (de : Nat) (om : Nat) (mt : Nat) (qu : Nat) (lv : Nat) (mi : Nat) (ml : Nat) (mss : Nat) (rn : Nat) (sw : Nat) (mf : Nat) (msp : Nat) (cS : ClassId) (cF : ClassId) (th : Int32) (a1 : Int32) (sz : Nat) : Met l yX18_play (.code yX18_play cX18_play 3 (some .int) :: wsL_law) { frames := 2, cells := 0, slots := 0, locals := 43 } (va_Pc [.ref om, .int a1] (PW dC dI de [(cS, .int), (cF, .int)] (WM om mt qu lv mi ml mss rn sw mf msp cS cF th de) sz)) (va_Qi (fun (r : Int32) (u : Unit) => True) (fun (_ : Unit) (t : State) => QW dC dI [(cS, .int), (cF, .int)] (WM om mt qu lv mi ml mss rn sw mf msp cS cF 1 de) (va_A (WM om mt qu lv mi ml mss rn sw mf msp cS cF th de) sz) t) (va_A (WM om mt qu lv mi ml mss rn sw mf msp cS cF th de) sz)) 0 0 (va_A (WM om mt qu lv mi ml mss rn sw mf msp cS cF th de) sz) := by
  refine Met.ofW (cc := cX18_play) (maxL := 3) (ret := (some .int)) (by decide) rfl ?_
  intro p e s m args below meth c s₁ B hml hv
  obtain ⟨rfl, hsz, hP, hK, hD0, hG⟩ := hv
  have hx := B.exec
  have hb := B.bytes
  have hr := B.returns
  have hts := atoms_spec (ws := .code yX18_play cX18_play 3 (some .int) :: wsL_law) B.pre
  have ht : ∀ w ∈ wsL_law, w.before _ s = true := fun w h => hts w (List.mem_cons_of_mem _ h)
  have hown : s.vm.findClass RX18 = some m.cls := findClass_of_methodNamed B.named
  have hlocks := B.notSynchronized
  subst hsz
  have hD := hD0.self (sz := s.heap.size)
  generalize hAe : va_A (WM om mt qu lv mi ml mss rn sw mf msp cS cF th de) s.heap.size = A at hD hG ⊢
  have hA : ∀ q : Nat, s.heap.size ≤ q → A q := fun q h => by rw [← hAe]; exact Or.inr h
  have hS : va_S A s.heap s.heap [] := va_S.rf
  have hP : va_P (dC, dI) vwCl [(om, .inr (20, [.ref mt, .ref qu, .int 0, .int th, .ref lv, .int (-1), .int 0, .int 0, .ref mi, .int 0, .int 0, .int 0, .int 0, .ref ml, .ref mss, .ref rn, .ref sw, .ref mf, .null, .int 0, .ref msp, .int 0, .int 0, .int 0])), (lv, .inr (1, [.int 0, .ref de, .int 0])), (rn, .inr (1, [.int 0, .ref de, .int 0])), (sw, .inr (1, [.int 0, .ref de, .int 0])), (ml, .inl (cS, 6, .inl (slotF))), (mf, .inl (cF, 96, .inl (fun _ => 0)))] s.heap := hP
  have hD : va_D A [(om, .inr (20, [.ref mt, .ref qu, .int 0, .int th, .ref lv, .int (-1), .int 0, .int 0, .ref mi, .int 0, .int 0, .int 0, .int 0, .ref ml, .ref mss, .ref rn, .ref sw, .ref mf, .null, .int 0, .ref msp, .int 0, .int 0, .int 0])), (lv, .inr (1, [.int 0, .ref de, .int 0])), (rn, .inr (1, [.int 0, .ref de, .int 0])), (sw, .inr (1, [.int 0, .ref de, .int 0])), (ml, .inl (cS, 6, .inl (slotF))), (mf, .inl (cF, 96, .inl (fun _ => 0)))] := hD
  have hl := lv_entry ([.ref om, .int a1]) (n := 3) (Nat.le_of_ble_eq_true rfl)
  rw [lg_entry_eq]
  generalize (lg_sl ([.ref om, .int a1]) ++ List.replicate (3 - (lg_sl ([.ref om, .int a1])).length) Slot.unset).toArray = ls at hl ⊢
  have hl : lv_has ls 3 [(0, .ref om), (1, .int a1)] := hl
  refine lv_aload_n hx hb dX18_play_0 rfl (lv_at hl 0 rfl) ?_
  refine lv_iload_n hx hb dX18_play_1 rfl (lv_at hl 1 rfl) ?_
  have hPc := hP.sub (ws' := [(om, .inr (20, [.ref mt, .ref qu, .int 0, .int th, .ref lv, .int (-1), .int 0, .int 0, .ref mi, .int 0, .int 0, .int 0, .int 0, .ref ml, .ref mss, .ref rn, .ref sw, .ref mf, .null, .int 0, .ref msp, .int 0, .int 0, .int 0])), (lv, .inr (1, [.int 0, .ref de, .int 0])), (rn, .inr (1, [.int 0, .ref de, .int 0])), (sw, .inr (1, [.int 0, .ref de, .int 0])), (ml, .inl (cS, 6, .inl (slotF))), (mf, .inl (cF, 96, .inl (fun _ => 0)))]) [0, 1, 2, 3, 4, 5] rfl
  have hDc := hD.sub (ws' := [(om, .inr (20, [.ref mt, .ref qu, .int 0, .int th, .ref lv, .int (-1), .int 0, .int 0, .ref mi, .int 0, .int 0, .int 0, .int 0, .ref ml, .ref mss, .ref rn, .ref sw, .ref mf, .null, .int 0, .ref msp, .int 0, .int 0, .int 0])), (lv, .inr (1, [.int 0, .ref de, .int 0])), (rn, .inr (1, [.int 0, .ref de, .int 0])), (sw, .inr (1, [.int 0, .ref de, .int 0])), (ml, .inl (cS, 6, .inl (slotF))), (mf, .inl (cF, 96, .inl (fun _ => 0)))]) [0, 1, 2, 3, 4, 5] (by decide) rfl
  have hKc := hK.sub (tys' := [(cS, .int), (cF, .int)]) [0, 1] rfl
  have hFc := va_free (wc := [(om, .inr (20, [.ref mt, .ref qu, .int 0, .int th, .ref lv, .int (-1), .int 0, .int 0, .ref mi, .int 0, .int 0, .int 0, .int 0, .ref ml, .ref mss, .ref rn, .ref sw, .ref mf, .null, .int 0, .ref msp, .int 0, .int 0, .int 0])), (lv, .inr (1, [.int 0, .ref de, .int 0])), (rn, .inr (1, [.int 0, .ref de, .int 0])), (sw, .inr (1, [.int 0, .ref de, .int 0])), (ml, .inl (cS, 6, .inl (slotF))), (mf, .inl (cF, 96, .inl (fun _ => 0)))]) hD hS hA [0, 1, 2, 3, 4, 5] rfl
  refine va_calli (va_runV (As := [.int a1]) (rest := []) ⟨hx, hb, hml, hown, ht⟩ (c_X18_noLevel l dC dI de (om) (mt) (qu) (lv) (mi) (ml) (mss) (rn) (sw) (mf) (msp) (cS) (cF) (th) (a1) s.heap.size) (cwV 1 ht (gWV (wr_24 _ (List.mem_of_getElem? (i := 8) rfl)) (wr_24 _ (List.mem_of_getElem? (i := 9) rfl)) (wr_24 _ (List.mem_of_getElem? (i := 10) rfl)) (wr_1 _ (List.mem_of_getElem? (i := 5) rfl)) (wr_24 _ (List.mem_of_getElem? (i := 11) rfl))) rfl rfl rfl (by decide +kernel) ⟨Nat.le_of_ble_eq_true rfl, Nat.le_of_ble_eq_true rfl⟩) ⟨PW_blind, va_recv hKc hPc (ci := 20) (q0 := 0) rfl rfl, PW_call hPc hDc hKc hS hG hFc⟩ rfl rfl hl.1 rfl (lv_room (Nat.le_of_ble_eq_true rfl)) dX18_play_2 ⟨Nat.le_of_ble_eq_true rfl, Nat.le_of_ble_eq_true rfl⟩) hS (fun q _ h => hFc q h) hFc (fun r_2 u t H1 locs ht9 hvm hw hB hz1 hk1 hS => ?_)
  obtain ⟨hP1, hK1, hD1⟩ := hB
  rw [ht9] at hP1
  have hK1 := va_K.moved hvm.symm hK1
  obtain ⟨hP, hD⟩ := va_join (wr := []) (w1 := [(om, .inr (20, [.ref mt, .ref qu, .int 0, .int 1, .ref lv, .int (-1), .int 0, .int 0, .ref mi, .int 0, .int 0, .int 0, .int 0, .ref ml, .ref mss, .ref rn, .ref sw, .ref mf, .null, .int 0, .ref msp, .int 0, .int 0, .int 0])), (lv, .inr (1, [.int 0, .ref de, .int 0])), (rn, .inr (1, [.int 0, .ref de, .int 0])), (sw, .inr (1, [.int 0, .ref de, .int 0])), (ml, .inl (cS, 6, .inl (slotF))), (mf, .inl (cF, 96, .inl (fun _ => 0)))]) hP hD [0, 1, 2, 3, 4, 5] [] rfl rfl (by decide) (by decide) hk1 hFc hP1 hD1
  have hK := (hK.sub (tys' := []) [] rfl).app hK1
  generalize H1 = H at hP hS ⊢
  replace hP : va_P (dC, dI) vwCl [(om, .inr (20, [.ref mt, .ref qu, .int 0, .int 1, .ref lv, .int (-1), .int 0, .int 0, .ref mi, .int 0, .int 0, .int 0, .int 0, .ref ml, .ref mss, .ref rn, .ref sw, .ref mf, .null, .int 0, .ref msp, .int 0, .int 0, .int 0])), (lv, .inr (1, [.int 0, .ref de, .int 0])), (rn, .inr (1, [.int 0, .ref de, .int 0])), (sw, .inr (1, [.int 0, .ref de, .int 0])), (ml, .inl (cS, 6, .inl (slotF))), (mf, .inl (cF, 96, .inl (fun _ => 0)))] H := hP
  replace hD : va_D A [(om, .inr (20, [.ref mt, .ref qu, .int 0, .int 1, .ref lv, .int (-1), .int 0, .int 0, .ref mi, .int 0, .int 0, .int 0, .int 0, .ref ml, .ref mss, .ref rn, .ref sw, .ref mf, .null, .int 0, .ref msp, .int 0, .int 0, .int 0])), (lv, .inr (1, [.int 0, .ref de, .int 0])), (rn, .inr (1, [.int 0, .ref de, .int 0])), (sw, .inr (1, [.int 0, .ref de, .int 0])), (ml, .inl (cS, 6, .inl (slotF))), (mf, .inl (cF, 96, .inl (fun _ => 0)))] := hD
  have hK : va_K (dC, dI) vwCl [(cS, .int), (cF, .int)] s := hK
  have e_2 : r_2 = 1 := hw
  subst e_2
  refine lv_if_eq (tgt := 10) hx hb dX18_play_5 (by decide) (fun c_5 => absurd c_5 (by decide)) (fun c_5 => ?_)
  refine lv_iconst (v := 0) hx hb dX18_play_8 (by decide) ?_
  have hP9 := hP.sub (ws' := [(om, .inr (20, [.ref mt, .ref qu, .int 0, .int 1, .ref lv, .int (-1), .int 0, .int 0, .ref mi, .int 0, .int 0, .int 0, .int 0, .ref ml, .ref mss, .ref rn, .ref sw, .ref mf, .null, .int 0, .ref msp, .int 0, .int 0, .int 0])), (lv, .inr (1, [.int 0, .ref de, .int 0])), (rn, .inr (1, [.int 0, .ref de, .int 0])), (sw, .inr (1, [.int 0, .ref de, .int 0])), (ml, .inl (cS, 6, .inl (slotF))), (mf, .inl (cF, 96, .inl (fun _ => 0)))]) [0, 1, 2, 3, 4, 5] rfl
  have hD9 := hD.sub (ws' := [(om, .inr (20, [.ref mt, .ref qu, .int 0, .int 1, .ref lv, .int (-1), .int 0, .int 0, .ref mi, .int 0, .int 0, .int 0, .int 0, .ref ml, .ref mss, .ref rn, .ref sw, .ref mf, .null, .int 0, .ref msp, .int 0, .int 0, .int 0])), (lv, .inr (1, [.int 0, .ref de, .int 0])), (rn, .inr (1, [.int 0, .ref de, .int 0])), (sw, .inr (1, [.int 0, .ref de, .int 0])), (ml, .inl (cS, 6, .inl (slotF))), (mf, .inl (cF, 96, .inl (fun _ => 0)))]) [0, 1, 2, 3, 4, 5] (by decide) rfl
  have hK9 := hK.sub (tys' := [(cS, .int), (cF, .int)]) [0, 1] rfl
  exact W.iret (v := 0) hx hb hr (fun t htt hW => have ht := htt; ⟨⟨0, (), rfl, trivial, QW_of ht hW hP9 hK9 hD9⟩, hS.F ht⟩) hS.2.2 dX18_play_9
set_option maxHeartbeats 4000000 in
set_option maxRecDepth 100000 in
theorem c_X18_length (l : Launch) (dC : Nat → ClassId) (dI : Nat → Nat → Nat) (de : Nat) (om : Nat) (mt : Nat) (qu : Nat) (lv : Nat) (mi : Nat) (ml : Nat) (mss : Nat) (rn : Nat) (sw : Nat) (mf : Nat) (msp : Nat) (cS : ClassId) (cF : ClassId) (th : Int32) (a1 : Int32) (sz : Nat) : Met l yX18_length (.code yX18_length cX18_length 2 (some .int) :: wsL_law) { frames := 2, cells := 0, slots := 0, locals := 43 } (va_Pc [.ref om, .int a1] (PW dC dI de [(cS, .int), (cF, .int)] (WM om mt qu lv mi ml mss rn sw mf msp cS cF th de) sz)) (va_Qi (fun (r : Int32) (u : Unit) => True) (fun (_ : Unit) (t : State) => QW dC dI [(cS, .int), (cF, .int)] (WM om mt qu lv mi ml mss rn sw mf msp cS cF 1 de) (va_A (WM om mt qu lv mi ml mss rn sw mf msp cS cF th de) sz) t) (va_A (WM om mt qu lv mi ml mss rn sw mf msp cS cF th de) sz)) 0 0 (va_A (WM om mt qu lv mi ml mss rn sw mf msp cS cF th de) sz) := by
  refine Met.ofW (cc := cX18_length) (maxL := 2) (ret := (some .int)) (by decide) rfl ?_
  intro p e s m args below meth c s₁ B hml hv
  obtain ⟨rfl, hsz, hP, hK, hD0, hG⟩ := hv
  have hx := B.exec
  have hb := B.bytes
  have hr := B.returns
  have hts := atoms_spec (ws := .code yX18_length cX18_length 2 (some .int) :: wsL_law) B.pre
  have ht : ∀ w ∈ wsL_law, w.before _ s = true := fun w h => hts w (List.mem_cons_of_mem _ h)
  have hown : s.vm.findClass RX18 = some m.cls := findClass_of_methodNamed B.named
  have hlocks := B.notSynchronized
  subst hsz
  have hD := hD0.self (sz := s.heap.size)
  generalize hAe : va_A (WM om mt qu lv mi ml mss rn sw mf msp cS cF th de) s.heap.size = A at hD hG ⊢
  have hA : ∀ q : Nat, s.heap.size ≤ q → A q := fun q h => by rw [← hAe]; exact Or.inr h
  have hS : va_S A s.heap s.heap [] := va_S.rf
  have hP : va_P (dC, dI) vwCl [(om, .inr (20, [.ref mt, .ref qu, .int 0, .int th, .ref lv, .int (-1), .int 0, .int 0, .ref mi, .int 0, .int 0, .int 0, .int 0, .ref ml, .ref mss, .ref rn, .ref sw, .ref mf, .null, .int 0, .ref msp, .int 0, .int 0, .int 0])), (lv, .inr (1, [.int 0, .ref de, .int 0])), (rn, .inr (1, [.int 0, .ref de, .int 0])), (sw, .inr (1, [.int 0, .ref de, .int 0])), (ml, .inl (cS, 6, .inl (slotF))), (mf, .inl (cF, 96, .inl (fun _ => 0)))] s.heap := hP
  have hD : va_D A [(om, .inr (20, [.ref mt, .ref qu, .int 0, .int th, .ref lv, .int (-1), .int 0, .int 0, .ref mi, .int 0, .int 0, .int 0, .int 0, .ref ml, .ref mss, .ref rn, .ref sw, .ref mf, .null, .int 0, .ref msp, .int 0, .int 0, .int 0])), (lv, .inr (1, [.int 0, .ref de, .int 0])), (rn, .inr (1, [.int 0, .ref de, .int 0])), (sw, .inr (1, [.int 0, .ref de, .int 0])), (ml, .inl (cS, 6, .inl (slotF))), (mf, .inl (cF, 96, .inl (fun _ => 0)))] := hD
  have hl := lv_entry ([.ref om, .int a1]) (n := 2) (Nat.le_of_ble_eq_true rfl)
  rw [lg_entry_eq]
  generalize (lg_sl ([.ref om, .int a1]) ++ List.replicate (2 - (lg_sl ([.ref om, .int a1])).length) Slot.unset).toArray = ls at hl ⊢
  have hl : lv_has ls 2 [(0, .ref om), (1, .int a1)] := hl
  refine lv_aload_n hx hb dX18_length_0 rfl (lv_at hl 0 rfl) ?_
  refine lv_iload_n hx hb dX18_length_1 rfl (lv_at hl 1 rfl) ?_
  have hPc := hP.sub (ws' := [(om, .inr (20, [.ref mt, .ref qu, .int 0, .int th, .ref lv, .int (-1), .int 0, .int 0, .ref mi, .int 0, .int 0, .int 0, .int 0, .ref ml, .ref mss, .ref rn, .ref sw, .ref mf, .null, .int 0, .ref msp, .int 0, .int 0, .int 0])), (lv, .inr (1, [.int 0, .ref de, .int 0])), (rn, .inr (1, [.int 0, .ref de, .int 0])), (sw, .inr (1, [.int 0, .ref de, .int 0])), (ml, .inl (cS, 6, .inl (slotF))), (mf, .inl (cF, 96, .inl (fun _ => 0)))]) [0, 1, 2, 3, 4, 5] rfl
  have hDc := hD.sub (ws' := [(om, .inr (20, [.ref mt, .ref qu, .int 0, .int th, .ref lv, .int (-1), .int 0, .int 0, .ref mi, .int 0, .int 0, .int 0, .int 0, .ref ml, .ref mss, .ref rn, .ref sw, .ref mf, .null, .int 0, .ref msp, .int 0, .int 0, .int 0])), (lv, .inr (1, [.int 0, .ref de, .int 0])), (rn, .inr (1, [.int 0, .ref de, .int 0])), (sw, .inr (1, [.int 0, .ref de, .int 0])), (ml, .inl (cS, 6, .inl (slotF))), (mf, .inl (cF, 96, .inl (fun _ => 0)))]) [0, 1, 2, 3, 4, 5] (by decide) rfl
  have hKc := hK.sub (tys' := [(cS, .int), (cF, .int)]) [0, 1] rfl
  have hFc := va_free (wc := [(om, .inr (20, [.ref mt, .ref qu, .int 0, .int th, .ref lv, .int (-1), .int 0, .int 0, .ref mi, .int 0, .int 0, .int 0, .int 0, .ref ml, .ref mss, .ref rn, .ref sw, .ref mf, .null, .int 0, .ref msp, .int 0, .int 0, .int 0])), (lv, .inr (1, [.int 0, .ref de, .int 0])), (rn, .inr (1, [.int 0, .ref de, .int 0])), (sw, .inr (1, [.int 0, .ref de, .int 0])), (ml, .inl (cS, 6, .inl (slotF))), (mf, .inl (cF, 96, .inl (fun _ => 0)))]) hD hS hA [0, 1, 2, 3, 4, 5] rfl
  refine va_calli (va_runV (As := [.int a1]) (rest := []) ⟨hx, hb, hml, hown, ht⟩ (c_X18_noRun l dC dI de (om) (mt) (qu) (lv) (mi) (ml) (mss) (rn) (sw) (mf) (msp) (cS) (cF) (th) (a1) s.heap.size) (cwV 1 ht (gWV (wr_59 _ (List.mem_of_getElem? (i := 23) rfl)) (wr_60 _ (List.mem_of_getElem? (i := 0) rfl)) (wr_60 _ (List.mem_of_getElem? (i := 1) rfl)) (wr_1 _ (List.mem_of_getElem? (i := 5) rfl)) (wr_60 _ (List.mem_of_getElem? (i := 2) rfl))) rfl rfl rfl (by decide +kernel) ⟨Nat.le_of_ble_eq_true rfl, Nat.le_of_ble_eq_true rfl⟩) ⟨PW_blind, va_recv hKc hPc (ci := 20) (q0 := 0) rfl rfl, PW_call hPc hDc hKc hS hG hFc⟩ rfl rfl hl.1 rfl (lv_room (Nat.le_of_ble_eq_true rfl)) dX18_length_2 ⟨Nat.le_of_ble_eq_true rfl, Nat.le_of_ble_eq_true rfl⟩) hS (fun q _ h => hFc q h) hFc (fun r_2 u t H1 locs ht9 hvm hw hB hz1 hk1 hS => ?_)
  obtain ⟨hP1, hK1, hD1⟩ := hB
  rw [ht9] at hP1
  have hK1 := va_K.moved hvm.symm hK1
  obtain ⟨hP, hD⟩ := va_join (wr := []) (w1 := [(om, .inr (20, [.ref mt, .ref qu, .int 0, .int 1, .ref lv, .int (-1), .int 0, .int 0, .ref mi, .int 0, .int 0, .int 0, .int 0, .ref ml, .ref mss, .ref rn, .ref sw, .ref mf, .null, .int 0, .ref msp, .int 0, .int 0, .int 0])), (lv, .inr (1, [.int 0, .ref de, .int 0])), (rn, .inr (1, [.int 0, .ref de, .int 0])), (sw, .inr (1, [.int 0, .ref de, .int 0])), (ml, .inl (cS, 6, .inl (slotF))), (mf, .inl (cF, 96, .inl (fun _ => 0)))]) hP hD [0, 1, 2, 3, 4, 5] [] rfl rfl (by decide) (by decide) hk1 hFc hP1 hD1
  have hK := (hK.sub (tys' := []) [] rfl).app hK1
  generalize H1 = H at hP hS ⊢
  replace hP : va_P (dC, dI) vwCl [(om, .inr (20, [.ref mt, .ref qu, .int 0, .int 1, .ref lv, .int (-1), .int 0, .int 0, .ref mi, .int 0, .int 0, .int 0, .int 0, .ref ml, .ref mss, .ref rn, .ref sw, .ref mf, .null, .int 0, .ref msp, .int 0, .int 0, .int 0])), (lv, .inr (1, [.int 0, .ref de, .int 0])), (rn, .inr (1, [.int 0, .ref de, .int 0])), (sw, .inr (1, [.int 0, .ref de, .int 0])), (ml, .inl (cS, 6, .inl (slotF))), (mf, .inl (cF, 96, .inl (fun _ => 0)))] H := hP
  replace hD : va_D A [(om, .inr (20, [.ref mt, .ref qu, .int 0, .int 1, .ref lv, .int (-1), .int 0, .int 0, .ref mi, .int 0, .int 0, .int 0, .int 0, .ref ml, .ref mss, .ref rn, .ref sw, .ref mf, .null, .int 0, .ref msp, .int 0, .int 0, .int 0])), (lv, .inr (1, [.int 0, .ref de, .int 0])), (rn, .inr (1, [.int 0, .ref de, .int 0])), (sw, .inr (1, [.int 0, .ref de, .int 0])), (ml, .inl (cS, 6, .inl (slotF))), (mf, .inl (cF, 96, .inl (fun _ => 0)))] := hD
  have hK : va_K (dC, dI) vwCl [(cS, .int), (cF, .int)] s := hK
  have e_2 : r_2 = 1 := hw
  subst e_2
  refine lv_if_eq (tgt := 12) hx hb dX18_length_5 (by decide) (fun c_5 => absurd c_5 (by decide)) (fun c_5 => ?_)
  refine lv_iconst (v := 0) hx hb dX18_length_8 (by decide) ?_
  refine lv_goto (tgt := 27) hx hb dX18_length_9 (by decide) ?_
  have hP9 := hP.sub (ws' := [(om, .inr (20, [.ref mt, .ref qu, .int 0, .int 1, .ref lv, .int (-1), .int 0, .int 0, .ref mi, .int 0, .int 0, .int 0, .int 0, .ref ml, .ref mss, .ref rn, .ref sw, .ref mf, .null, .int 0, .ref msp, .int 0, .int 0, .int 0])), (lv, .inr (1, [.int 0, .ref de, .int 0])), (rn, .inr (1, [.int 0, .ref de, .int 0])), (sw, .inr (1, [.int 0, .ref de, .int 0])), (ml, .inl (cS, 6, .inl (slotF))), (mf, .inl (cF, 96, .inl (fun _ => 0)))]) [0, 1, 2, 3, 4, 5] rfl
  have hD9 := hD.sub (ws' := [(om, .inr (20, [.ref mt, .ref qu, .int 0, .int 1, .ref lv, .int (-1), .int 0, .int 0, .ref mi, .int 0, .int 0, .int 0, .int 0, .ref ml, .ref mss, .ref rn, .ref sw, .ref mf, .null, .int 0, .ref msp, .int 0, .int 0, .int 0])), (lv, .inr (1, [.int 0, .ref de, .int 0])), (rn, .inr (1, [.int 0, .ref de, .int 0])), (sw, .inr (1, [.int 0, .ref de, .int 0])), (ml, .inl (cS, 6, .inl (slotF))), (mf, .inl (cF, 96, .inl (fun _ => 0)))]) [0, 1, 2, 3, 4, 5] (by decide) rfl
  have hK9 := hK.sub (tys' := [(cS, .int), (cF, .int)]) [0, 1] rfl
  exact W.iret (v := 0) hx hb hr (fun t htt hW => have ht := htt; ⟨⟨0, (), rfl, trivial, QW_of ht hW hP9 hK9 hD9⟩, hS.F ht⟩) hS.2.2 dX18_length_27
set_option maxHeartbeats 4000000 in
set_option maxRecDepth 100000 in
theorem c_X18_replay (l : Launch) (dC : Nat → ClassId) (dI : Nat → Nat → Nat) (de : Nat) (om : Nat) (mt : Nat) (qu : Nat) (lv : Nat) (mi : Nat) (ml : Nat) (mss : Nat) (rn : Nat) (sw : Nat) (mf : Nat) (msp : Nat) (cS : ClassId) (cF : ClassId) (th : Int32) (a1 : Int32) (sz : Nat) : Met l yX18_replay (.code yX18_replay cX18_replay 3 (some .char) :: wsL_law) { frames := 2, cells := 0, slots := 0, locals := 43 } (va_Pc [.ref om, .int a1] (PW dC dI de [(cS, .int), (cF, .int)] (WM om mt qu lv mi ml mss rn sw mf msp cS cF th de) sz)) (va_Qi (fun (r : Int32) (u : Unit) => True) (fun (_ : Unit) (t : State) => QW dC dI [(cS, .int), (cF, .int)] (WM om mt qu lv mi ml mss rn sw mf msp cS cF 1 de) (va_A (WM om mt qu lv mi ml mss rn sw mf msp cS cF th de) sz) t) (va_A (WM om mt qu lv mi ml mss rn sw mf msp cS cF th de) sz)) 0 0 (va_A (WM om mt qu lv mi ml mss rn sw mf msp cS cF th de) sz) := by
  refine Met.ofW (cc := cX18_replay) (maxL := 3) (ret := (some .char)) (by decide) rfl ?_
  intro p e s m args below meth c s₁ B hml hv
  obtain ⟨rfl, hsz, hP, hK, hD0, hG⟩ := hv
  have hx := B.exec
  have hb := B.bytes
  have hr := B.returns
  have hts := atoms_spec (ws := .code yX18_replay cX18_replay 3 (some .char) :: wsL_law) B.pre
  have ht : ∀ w ∈ wsL_law, w.before _ s = true := fun w h => hts w (List.mem_cons_of_mem _ h)
  have hown : s.vm.findClass RX18 = some m.cls := findClass_of_methodNamed B.named
  have hlocks := B.notSynchronized
  subst hsz
  have hD := hD0.self (sz := s.heap.size)
  generalize hAe : va_A (WM om mt qu lv mi ml mss rn sw mf msp cS cF th de) s.heap.size = A at hD hG ⊢
  have hA : ∀ q : Nat, s.heap.size ≤ q → A q := fun q h => by rw [← hAe]; exact Or.inr h
  have hS : va_S A s.heap s.heap [] := va_S.rf
  have hP : va_P (dC, dI) vwCl [(om, .inr (20, [.ref mt, .ref qu, .int 0, .int th, .ref lv, .int (-1), .int 0, .int 0, .ref mi, .int 0, .int 0, .int 0, .int 0, .ref ml, .ref mss, .ref rn, .ref sw, .ref mf, .null, .int 0, .ref msp, .int 0, .int 0, .int 0])), (lv, .inr (1, [.int 0, .ref de, .int 0])), (rn, .inr (1, [.int 0, .ref de, .int 0])), (sw, .inr (1, [.int 0, .ref de, .int 0])), (ml, .inl (cS, 6, .inl (slotF))), (mf, .inl (cF, 96, .inl (fun _ => 0)))] s.heap := hP
  have hD : va_D A [(om, .inr (20, [.ref mt, .ref qu, .int 0, .int th, .ref lv, .int (-1), .int 0, .int 0, .ref mi, .int 0, .int 0, .int 0, .int 0, .ref ml, .ref mss, .ref rn, .ref sw, .ref mf, .null, .int 0, .ref msp, .int 0, .int 0, .int 0])), (lv, .inr (1, [.int 0, .ref de, .int 0])), (rn, .inr (1, [.int 0, .ref de, .int 0])), (sw, .inr (1, [.int 0, .ref de, .int 0])), (ml, .inl (cS, 6, .inl (slotF))), (mf, .inl (cF, 96, .inl (fun _ => 0)))] := hD
  have hl := lv_entry ([.ref om, .int a1]) (n := 3) (Nat.le_of_ble_eq_true rfl)
  rw [lg_entry_eq]
  generalize (lg_sl ([.ref om, .int a1]) ++ List.replicate (3 - (lg_sl ([.ref om, .int a1])).length) Slot.unset).toArray = ls at hl ⊢
  have hl : lv_has ls 3 [(0, .ref om), (1, .int a1)] := hl
  refine lv_aload_n hx hb dX18_replay_0 rfl (lv_at hl 0 rfl) ?_
  refine lv_iload_n hx hb dX18_replay_1 rfl (lv_at hl 1 rfl) ?_
  have hPc := hP.sub (ws' := [(om, .inr (20, [.ref mt, .ref qu, .int 0, .int th, .ref lv, .int (-1), .int 0, .int 0, .ref mi, .int 0, .int 0, .int 0, .int 0, .ref ml, .ref mss, .ref rn, .ref sw, .ref mf, .null, .int 0, .ref msp, .int 0, .int 0, .int 0])), (lv, .inr (1, [.int 0, .ref de, .int 0])), (rn, .inr (1, [.int 0, .ref de, .int 0])), (sw, .inr (1, [.int 0, .ref de, .int 0])), (ml, .inl (cS, 6, .inl (slotF))), (mf, .inl (cF, 96, .inl (fun _ => 0)))]) [0, 1, 2, 3, 4, 5] rfl
  have hDc := hD.sub (ws' := [(om, .inr (20, [.ref mt, .ref qu, .int 0, .int th, .ref lv, .int (-1), .int 0, .int 0, .ref mi, .int 0, .int 0, .int 0, .int 0, .ref ml, .ref mss, .ref rn, .ref sw, .ref mf, .null, .int 0, .ref msp, .int 0, .int 0, .int 0])), (lv, .inr (1, [.int 0, .ref de, .int 0])), (rn, .inr (1, [.int 0, .ref de, .int 0])), (sw, .inr (1, [.int 0, .ref de, .int 0])), (ml, .inl (cS, 6, .inl (slotF))), (mf, .inl (cF, 96, .inl (fun _ => 0)))]) [0, 1, 2, 3, 4, 5] (by decide) rfl
  have hKc := hK.sub (tys' := [(cS, .int), (cF, .int)]) [0, 1] rfl
  have hFc := va_free (wc := [(om, .inr (20, [.ref mt, .ref qu, .int 0, .int th, .ref lv, .int (-1), .int 0, .int 0, .ref mi, .int 0, .int 0, .int 0, .int 0, .ref ml, .ref mss, .ref rn, .ref sw, .ref mf, .null, .int 0, .ref msp, .int 0, .int 0, .int 0])), (lv, .inr (1, [.int 0, .ref de, .int 0])), (rn, .inr (1, [.int 0, .ref de, .int 0])), (sw, .inr (1, [.int 0, .ref de, .int 0])), (ml, .inl (cS, 6, .inl (slotF))), (mf, .inl (cF, 96, .inl (fun _ => 0)))]) hD hS hA [0, 1, 2, 3, 4, 5] rfl
  refine va_calli (va_runV (As := [.int a1]) (rest := []) ⟨hx, hb, hml, hown, ht⟩ (c_X18_noRun l dC dI de (om) (mt) (qu) (lv) (mi) (ml) (mss) (rn) (sw) (mf) (msp) (cS) (cF) (th) (a1) s.heap.size) (cwV 1 ht (gWV (wr_59 _ (List.mem_of_getElem? (i := 23) rfl)) (wr_60 _ (List.mem_of_getElem? (i := 0) rfl)) (wr_60 _ (List.mem_of_getElem? (i := 1) rfl)) (wr_1 _ (List.mem_of_getElem? (i := 5) rfl)) (wr_60 _ (List.mem_of_getElem? (i := 2) rfl))) rfl rfl rfl (by decide +kernel) ⟨Nat.le_of_ble_eq_true rfl, Nat.le_of_ble_eq_true rfl⟩) ⟨PW_blind, va_recv hKc hPc (ci := 20) (q0 := 0) rfl rfl, PW_call hPc hDc hKc hS hG hFc⟩ rfl rfl hl.1 rfl (lv_room (Nat.le_of_ble_eq_true rfl)) dX18_replay_2 ⟨Nat.le_of_ble_eq_true rfl, Nat.le_of_ble_eq_true rfl⟩) hS (fun q _ h => hFc q h) hFc (fun r_2 u t H1 locs ht9 hvm hw hB hz1 hk1 hS => ?_)
  obtain ⟨hP1, hK1, hD1⟩ := hB
  rw [ht9] at hP1
  have hK1 := va_K.moved hvm.symm hK1
  obtain ⟨hP, hD⟩ := va_join (wr := []) (w1 := [(om, .inr (20, [.ref mt, .ref qu, .int 0, .int 1, .ref lv, .int (-1), .int 0, .int 0, .ref mi, .int 0, .int 0, .int 0, .int 0, .ref ml, .ref mss, .ref rn, .ref sw, .ref mf, .null, .int 0, .ref msp, .int 0, .int 0, .int 0])), (lv, .inr (1, [.int 0, .ref de, .int 0])), (rn, .inr (1, [.int 0, .ref de, .int 0])), (sw, .inr (1, [.int 0, .ref de, .int 0])), (ml, .inl (cS, 6, .inl (slotF))), (mf, .inl (cF, 96, .inl (fun _ => 0)))]) hP hD [0, 1, 2, 3, 4, 5] [] rfl rfl (by decide) (by decide) hk1 hFc hP1 hD1
  have hK := (hK.sub (tys' := []) [] rfl).app hK1
  generalize H1 = H at hP hS ⊢
  replace hP : va_P (dC, dI) vwCl [(om, .inr (20, [.ref mt, .ref qu, .int 0, .int 1, .ref lv, .int (-1), .int 0, .int 0, .ref mi, .int 0, .int 0, .int 0, .int 0, .ref ml, .ref mss, .ref rn, .ref sw, .ref mf, .null, .int 0, .ref msp, .int 0, .int 0, .int 0])), (lv, .inr (1, [.int 0, .ref de, .int 0])), (rn, .inr (1, [.int 0, .ref de, .int 0])), (sw, .inr (1, [.int 0, .ref de, .int 0])), (ml, .inl (cS, 6, .inl (slotF))), (mf, .inl (cF, 96, .inl (fun _ => 0)))] H := hP
  replace hD : va_D A [(om, .inr (20, [.ref mt, .ref qu, .int 0, .int 1, .ref lv, .int (-1), .int 0, .int 0, .ref mi, .int 0, .int 0, .int 0, .int 0, .ref ml, .ref mss, .ref rn, .ref sw, .ref mf, .null, .int 0, .ref msp, .int 0, .int 0, .int 0])), (lv, .inr (1, [.int 0, .ref de, .int 0])), (rn, .inr (1, [.int 0, .ref de, .int 0])), (sw, .inr (1, [.int 0, .ref de, .int 0])), (ml, .inl (cS, 6, .inl (slotF))), (mf, .inl (cF, 96, .inl (fun _ => 0)))] := hD
  have hK : va_K (dC, dI) vwCl [(cS, .int), (cF, .int)] s := hK
  have e_2 : r_2 = 1 := hw
  subst e_2
  refine lv_if_eq (tgt := 11) hx hb dX18_replay_5 (by decide) (fun c_5 => absurd c_5 (by decide)) (fun c_5 => ?_)
  refine lv_bipush (v := 32) hx hb dX18_replay_8 (by decide) ?_
  have hP9 := hP.sub (ws' := [(om, .inr (20, [.ref mt, .ref qu, .int 0, .int 1, .ref lv, .int (-1), .int 0, .int 0, .ref mi, .int 0, .int 0, .int 0, .int 0, .ref ml, .ref mss, .ref rn, .ref sw, .ref mf, .null, .int 0, .ref msp, .int 0, .int 0, .int 0])), (lv, .inr (1, [.int 0, .ref de, .int 0])), (rn, .inr (1, [.int 0, .ref de, .int 0])), (sw, .inr (1, [.int 0, .ref de, .int 0])), (ml, .inl (cS, 6, .inl (slotF))), (mf, .inl (cF, 96, .inl (fun _ => 0)))]) [0, 1, 2, 3, 4, 5] rfl
  have hD9 := hD.sub (ws' := [(om, .inr (20, [.ref mt, .ref qu, .int 0, .int 1, .ref lv, .int (-1), .int 0, .int 0, .ref mi, .int 0, .int 0, .int 0, .int 0, .ref ml, .ref mss, .ref rn, .ref sw, .ref mf, .null, .int 0, .ref msp, .int 0, .int 0, .int 0])), (lv, .inr (1, [.int 0, .ref de, .int 0])), (rn, .inr (1, [.int 0, .ref de, .int 0])), (sw, .inr (1, [.int 0, .ref de, .int 0])), (ml, .inl (cS, 6, .inl (slotF))), (mf, .inl (cF, 96, .inl (fun _ => 0)))]) [0, 1, 2, 3, 4, 5] (by decide) rfl
  have hK9 := hK.sub (tys' := [(cS, .int), (cF, .int)]) [0, 1] rfl
  exact W.zret (v := 32) hx hb hr (by decide) (fun t htt hW => have ht := htt; ⟨⟨32, (), rfl, trivial, QW_of ht hW hP9 hK9 hD9⟩, hS.F ht⟩) hS.2.2 dX18_replay_10
set_option maxHeartbeats 4000000 in
set_option maxRecDepth 100000 in
theorem c_X18_isTrue (l : Launch) (dC : Nat → ClassId) (dI : Nat → Nat → Nat) (de : Nat) (om : Nat) (mt : Nat) (qu : Nat) (lv : Nat) (mi : Nat) (ml : Nat) (mss : Nat) (rn : Nat) (sw : Nat) (mf : Nat) (msp : Nat) (cS : ClassId) (cF : ClassId) (th : Int32) (a1 : Int32) (sz : Nat) : Met l yX18_isTrue (.code yX18_isTrue cX18_isTrue 4 (some .boolean) :: wsL_law) { frames := 2, cells := 0, slots := 0, locals := 43 } (va_Pc [.ref om, .int a1] (PW dC dI de [(cS, .int), (cF, .int)] (WM om mt qu lv mi ml mss rn sw mf msp cS cF th de) sz)) (va_Qi (fun (r : Int32) (u : Unit) => True) (fun (_ : Unit) (t : State) => QW dC dI [(cS, .int), (cF, .int)] (WM om mt qu lv mi ml mss rn sw mf msp cS cF 1 de) (va_A (WM om mt qu lv mi ml mss rn sw mf msp cS cF th de) sz) t) (va_A (WM om mt qu lv mi ml mss rn sw mf msp cS cF th de) sz)) 0 0 (va_A (WM om mt qu lv mi ml mss rn sw mf msp cS cF th de) sz) := by
  refine Met.ofW (cc := cX18_isTrue) (maxL := 4) (ret := (some .boolean)) (by decide) rfl ?_
  intro p e s m args below meth c s₁ B hml hv
  obtain ⟨rfl, hsz, hP, hK, hD0, hG⟩ := hv
  have hx := B.exec
  have hb := B.bytes
  have hr := B.returns
  have hts := atoms_spec (ws := .code yX18_isTrue cX18_isTrue 4 (some .boolean) :: wsL_law) B.pre
  have ht : ∀ w ∈ wsL_law, w.before _ s = true := fun w h => hts w (List.mem_cons_of_mem _ h)
  have hown : s.vm.findClass RX18 = some m.cls := findClass_of_methodNamed B.named
  have hlocks := B.notSynchronized
  subst hsz
  have hD := hD0.self (sz := s.heap.size)
  generalize hAe : va_A (WM om mt qu lv mi ml mss rn sw mf msp cS cF th de) s.heap.size = A at hD hG ⊢
  have hA : ∀ q : Nat, s.heap.size ≤ q → A q := fun q h => by rw [← hAe]; exact Or.inr h
  have hS : va_S A s.heap s.heap [] := va_S.rf
  have hP : va_P (dC, dI) vwCl [(om, .inr (20, [.ref mt, .ref qu, .int 0, .int th, .ref lv, .int (-1), .int 0, .int 0, .ref mi, .int 0, .int 0, .int 0, .int 0, .ref ml, .ref mss, .ref rn, .ref sw, .ref mf, .null, .int 0, .ref msp, .int 0, .int 0, .int 0])), (lv, .inr (1, [.int 0, .ref de, .int 0])), (rn, .inr (1, [.int 0, .ref de, .int 0])), (sw, .inr (1, [.int 0, .ref de, .int 0])), (ml, .inl (cS, 6, .inl (slotF))), (mf, .inl (cF, 96, .inl (fun _ => 0)))] s.heap := hP
  have hD : va_D A [(om, .inr (20, [.ref mt, .ref qu, .int 0, .int th, .ref lv, .int (-1), .int 0, .int 0, .ref mi, .int 0, .int 0, .int 0, .int 0, .ref ml, .ref mss, .ref rn, .ref sw, .ref mf, .null, .int 0, .ref msp, .int 0, .int 0, .int 0])), (lv, .inr (1, [.int 0, .ref de, .int 0])), (rn, .inr (1, [.int 0, .ref de, .int 0])), (sw, .inr (1, [.int 0, .ref de, .int 0])), (ml, .inl (cS, 6, .inl (slotF))), (mf, .inl (cF, 96, .inl (fun _ => 0)))] := hD
  have hl := lv_entry ([.ref om, .int a1]) (n := 4) (Nat.le_of_ble_eq_true rfl)
  rw [lg_entry_eq]
  generalize (lg_sl ([.ref om, .int a1]) ++ List.replicate (4 - (lg_sl ([.ref om, .int a1])).length) Slot.unset).toArray = ls at hl ⊢
  have hl : lv_has ls 4 [(0, .ref om), (1, .int a1)] := hl
  refine lv_aload_n hx hb dX18_isTrue_0 rfl (lv_at hl 0 rfl) ?_
  refine lv_iload_n hx hb dX18_isTrue_1 rfl (lv_at hl 1 rfl) ?_
  have hPc := hP.sub (ws' := [(om, .inr (20, [.ref mt, .ref qu, .int 0, .int th, .ref lv, .int (-1), .int 0, .int 0, .ref mi, .int 0, .int 0, .int 0, .int 0, .ref ml, .ref mss, .ref rn, .ref sw, .ref mf, .null, .int 0, .ref msp, .int 0, .int 0, .int 0])), (lv, .inr (1, [.int 0, .ref de, .int 0])), (rn, .inr (1, [.int 0, .ref de, .int 0])), (sw, .inr (1, [.int 0, .ref de, .int 0])), (ml, .inl (cS, 6, .inl (slotF))), (mf, .inl (cF, 96, .inl (fun _ => 0)))]) [0, 1, 2, 3, 4, 5] rfl
  have hDc := hD.sub (ws' := [(om, .inr (20, [.ref mt, .ref qu, .int 0, .int th, .ref lv, .int (-1), .int 0, .int 0, .ref mi, .int 0, .int 0, .int 0, .int 0, .ref ml, .ref mss, .ref rn, .ref sw, .ref mf, .null, .int 0, .ref msp, .int 0, .int 0, .int 0])), (lv, .inr (1, [.int 0, .ref de, .int 0])), (rn, .inr (1, [.int 0, .ref de, .int 0])), (sw, .inr (1, [.int 0, .ref de, .int 0])), (ml, .inl (cS, 6, .inl (slotF))), (mf, .inl (cF, 96, .inl (fun _ => 0)))]) [0, 1, 2, 3, 4, 5] (by decide) rfl
  have hKc := hK.sub (tys' := [(cS, .int), (cF, .int)]) [0, 1] rfl
  have hFc := va_free (wc := [(om, .inr (20, [.ref mt, .ref qu, .int 0, .int th, .ref lv, .int (-1), .int 0, .int 0, .ref mi, .int 0, .int 0, .int 0, .int 0, .ref ml, .ref mss, .ref rn, .ref sw, .ref mf, .null, .int 0, .ref msp, .int 0, .int 0, .int 0])), (lv, .inr (1, [.int 0, .ref de, .int 0])), (rn, .inr (1, [.int 0, .ref de, .int 0])), (sw, .inr (1, [.int 0, .ref de, .int 0])), (ml, .inl (cS, 6, .inl (slotF))), (mf, .inl (cF, 96, .inl (fun _ => 0)))]) hD hS hA [0, 1, 2, 3, 4, 5] rfl
  refine va_calli (va_runV (As := [.int a1]) (rest := []) ⟨hx, hb, hml, hown, ht⟩ (c_X18_noRun l dC dI de (om) (mt) (qu) (lv) (mi) (ml) (mss) (rn) (sw) (mf) (msp) (cS) (cF) (th) (a1) s.heap.size) (cwV 1 ht (gWV (wr_59 _ (List.mem_of_getElem? (i := 23) rfl)) (wr_60 _ (List.mem_of_getElem? (i := 0) rfl)) (wr_60 _ (List.mem_of_getElem? (i := 1) rfl)) (wr_1 _ (List.mem_of_getElem? (i := 5) rfl)) (wr_60 _ (List.mem_of_getElem? (i := 2) rfl))) rfl rfl rfl (by decide +kernel) ⟨Nat.le_of_ble_eq_true rfl, Nat.le_of_ble_eq_true rfl⟩) ⟨PW_blind, va_recv hKc hPc (ci := 20) (q0 := 0) rfl rfl, PW_call hPc hDc hKc hS hG hFc⟩ rfl rfl hl.1 rfl (lv_room (Nat.le_of_ble_eq_true rfl)) dX18_isTrue_2 ⟨Nat.le_of_ble_eq_true rfl, Nat.le_of_ble_eq_true rfl⟩) hS (fun q _ h => hFc q h) hFc (fun r_2 u t H1 locs ht9 hvm hw hB hz1 hk1 hS => ?_)
  obtain ⟨hP1, hK1, hD1⟩ := hB
  rw [ht9] at hP1
  have hK1 := va_K.moved hvm.symm hK1
  obtain ⟨hP, hD⟩ := va_join (wr := []) (w1 := [(om, .inr (20, [.ref mt, .ref qu, .int 0, .int 1, .ref lv, .int (-1), .int 0, .int 0, .ref mi, .int 0, .int 0, .int 0, .int 0, .ref ml, .ref mss, .ref rn, .ref sw, .ref mf, .null, .int 0, .ref msp, .int 0, .int 0, .int 0])), (lv, .inr (1, [.int 0, .ref de, .int 0])), (rn, .inr (1, [.int 0, .ref de, .int 0])), (sw, .inr (1, [.int 0, .ref de, .int 0])), (ml, .inl (cS, 6, .inl (slotF))), (mf, .inl (cF, 96, .inl (fun _ => 0)))]) hP hD [0, 1, 2, 3, 4, 5] [] rfl rfl (by decide) (by decide) hk1 hFc hP1 hD1
  have hK := (hK.sub (tys' := []) [] rfl).app hK1
  generalize H1 = H at hP hS ⊢
  replace hP : va_P (dC, dI) vwCl [(om, .inr (20, [.ref mt, .ref qu, .int 0, .int 1, .ref lv, .int (-1), .int 0, .int 0, .ref mi, .int 0, .int 0, .int 0, .int 0, .ref ml, .ref mss, .ref rn, .ref sw, .ref mf, .null, .int 0, .ref msp, .int 0, .int 0, .int 0])), (lv, .inr (1, [.int 0, .ref de, .int 0])), (rn, .inr (1, [.int 0, .ref de, .int 0])), (sw, .inr (1, [.int 0, .ref de, .int 0])), (ml, .inl (cS, 6, .inl (slotF))), (mf, .inl (cF, 96, .inl (fun _ => 0)))] H := hP
  replace hD : va_D A [(om, .inr (20, [.ref mt, .ref qu, .int 0, .int 1, .ref lv, .int (-1), .int 0, .int 0, .ref mi, .int 0, .int 0, .int 0, .int 0, .ref ml, .ref mss, .ref rn, .ref sw, .ref mf, .null, .int 0, .ref msp, .int 0, .int 0, .int 0])), (lv, .inr (1, [.int 0, .ref de, .int 0])), (rn, .inr (1, [.int 0, .ref de, .int 0])), (sw, .inr (1, [.int 0, .ref de, .int 0])), (ml, .inl (cS, 6, .inl (slotF))), (mf, .inl (cF, 96, .inl (fun _ => 0)))] := hD
  have hK : va_K (dC, dI) vwCl [(cS, .int), (cF, .int)] s := hK
  have e_2 : r_2 = 1 := hw
  subst e_2
  refine lv_if_eq (tgt := 10) hx hb dX18_isTrue_5 (by decide) (fun c_5 => absurd c_5 (by decide)) (fun c_5 => ?_)
  refine lv_iconst (v := 0) hx hb dX18_isTrue_8 (by decide) ?_
  have hP9 := hP.sub (ws' := [(om, .inr (20, [.ref mt, .ref qu, .int 0, .int 1, .ref lv, .int (-1), .int 0, .int 0, .ref mi, .int 0, .int 0, .int 0, .int 0, .ref ml, .ref mss, .ref rn, .ref sw, .ref mf, .null, .int 0, .ref msp, .int 0, .int 0, .int 0])), (lv, .inr (1, [.int 0, .ref de, .int 0])), (rn, .inr (1, [.int 0, .ref de, .int 0])), (sw, .inr (1, [.int 0, .ref de, .int 0])), (ml, .inl (cS, 6, .inl (slotF))), (mf, .inl (cF, 96, .inl (fun _ => 0)))]) [0, 1, 2, 3, 4, 5] rfl
  have hD9 := hD.sub (ws' := [(om, .inr (20, [.ref mt, .ref qu, .int 0, .int 1, .ref lv, .int (-1), .int 0, .int 0, .ref mi, .int 0, .int 0, .int 0, .int 0, .ref ml, .ref mss, .ref rn, .ref sw, .ref mf, .null, .int 0, .ref msp, .int 0, .int 0, .int 0])), (lv, .inr (1, [.int 0, .ref de, .int 0])), (rn, .inr (1, [.int 0, .ref de, .int 0])), (sw, .inr (1, [.int 0, .ref de, .int 0])), (ml, .inl (cS, 6, .inl (slotF))), (mf, .inl (cF, 96, .inl (fun _ => 0)))]) [0, 1, 2, 3, 4, 5] (by decide) rfl
  have hK9 := hK.sub (tys' := [(cS, .int), (cF, .int)]) [0, 1] rfl
  exact W.zret (v := 0) hx hb hr (by decide) (fun t htt hW => have ht := htt; ⟨⟨0, (), rfl, trivial, QW_of ht hW hP9 hK9 hD9⟩, hS.F ht⟩) hS.2.2 dX18_isTrue_9
set_option maxHeartbeats 4000000 in
set_option maxRecDepth 100000 in
theorem c_X18_isPatched (l : Launch) (dC : Nat → ClassId) (dI : Nat → Nat → Nat) (de : Nat) (om : Nat) (mt : Nat) (qu : Nat) (lv : Nat) (mi : Nat) (ml : Nat) (mss : Nat) (rn : Nat) (sw : Nat) (mf : Nat) (msp : Nat) (cS : ClassId) (cF : ClassId) (th : Int32) (a1 : Int32) (sz : Nat) : Met l yX18_isPatched (.code yX18_isPatched cX18_isPatched 2 (some .boolean) :: wsL_law) { frames := 2, cells := 0, slots := 0, locals := 43 } (va_Pc [.ref om, .int a1] (PW dC dI de [(cS, .int), (cF, .int)] (WM om mt qu lv mi ml mss rn sw mf msp cS cF th de) sz)) (va_Qi (fun (r : Int32) (u : Unit) => True) (fun (_ : Unit) (t : State) => QW dC dI [(cS, .int), (cF, .int)] (WM om mt qu lv mi ml mss rn sw mf msp cS cF 1 de) (va_A (WM om mt qu lv mi ml mss rn sw mf msp cS cF th de) sz) t) (va_A (WM om mt qu lv mi ml mss rn sw mf msp cS cF th de) sz)) 0 0 (va_A (WM om mt qu lv mi ml mss rn sw mf msp cS cF th de) sz) := by
  refine Met.ofW (cc := cX18_isPatched) (maxL := 2) (ret := (some .boolean)) (by decide) rfl ?_
  intro p e s m args below meth c s₁ B hml hv
  obtain ⟨rfl, hsz, hP, hK, hD0, hG⟩ := hv
  have hx := B.exec
  have hb := B.bytes
  have hr := B.returns
  have hts := atoms_spec (ws := .code yX18_isPatched cX18_isPatched 2 (some .boolean) :: wsL_law) B.pre
  have ht : ∀ w ∈ wsL_law, w.before _ s = true := fun w h => hts w (List.mem_cons_of_mem _ h)
  have hown : s.vm.findClass RX18 = some m.cls := findClass_of_methodNamed B.named
  have hlocks := B.notSynchronized
  subst hsz
  have hD := hD0.self (sz := s.heap.size)
  generalize hAe : va_A (WM om mt qu lv mi ml mss rn sw mf msp cS cF th de) s.heap.size = A at hD hG ⊢
  have hA : ∀ q : Nat, s.heap.size ≤ q → A q := fun q h => by rw [← hAe]; exact Or.inr h
  have hS : va_S A s.heap s.heap [] := va_S.rf
  have hP : va_P (dC, dI) vwCl [(om, .inr (20, [.ref mt, .ref qu, .int 0, .int th, .ref lv, .int (-1), .int 0, .int 0, .ref mi, .int 0, .int 0, .int 0, .int 0, .ref ml, .ref mss, .ref rn, .ref sw, .ref mf, .null, .int 0, .ref msp, .int 0, .int 0, .int 0])), (lv, .inr (1, [.int 0, .ref de, .int 0])), (rn, .inr (1, [.int 0, .ref de, .int 0])), (sw, .inr (1, [.int 0, .ref de, .int 0])), (ml, .inl (cS, 6, .inl (slotF))), (mf, .inl (cF, 96, .inl (fun _ => 0)))] s.heap := hP
  have hD : va_D A [(om, .inr (20, [.ref mt, .ref qu, .int 0, .int th, .ref lv, .int (-1), .int 0, .int 0, .ref mi, .int 0, .int 0, .int 0, .int 0, .ref ml, .ref mss, .ref rn, .ref sw, .ref mf, .null, .int 0, .ref msp, .int 0, .int 0, .int 0])), (lv, .inr (1, [.int 0, .ref de, .int 0])), (rn, .inr (1, [.int 0, .ref de, .int 0])), (sw, .inr (1, [.int 0, .ref de, .int 0])), (ml, .inl (cS, 6, .inl (slotF))), (mf, .inl (cF, 96, .inl (fun _ => 0)))] := hD
  have hl := lv_entry ([.ref om, .int a1]) (n := 2) (Nat.le_of_ble_eq_true rfl)
  rw [lg_entry_eq]
  generalize (lg_sl ([.ref om, .int a1]) ++ List.replicate (2 - (lg_sl ([.ref om, .int a1])).length) Slot.unset).toArray = ls at hl ⊢
  have hl : lv_has ls 2 [(0, .ref om), (1, .int a1)] := hl
  refine lv_aload_n hx hb dX18_isPatched_0 rfl (lv_at hl 0 rfl) ?_
  refine lv_iload_n hx hb dX18_isPatched_1 rfl (lv_at hl 1 rfl) ?_
  have hPc := hP.sub (ws' := [(om, .inr (20, [.ref mt, .ref qu, .int 0, .int th, .ref lv, .int (-1), .int 0, .int 0, .ref mi, .int 0, .int 0, .int 0, .int 0, .ref ml, .ref mss, .ref rn, .ref sw, .ref mf, .null, .int 0, .ref msp, .int 0, .int 0, .int 0])), (lv, .inr (1, [.int 0, .ref de, .int 0])), (rn, .inr (1, [.int 0, .ref de, .int 0])), (sw, .inr (1, [.int 0, .ref de, .int 0])), (ml, .inl (cS, 6, .inl (slotF))), (mf, .inl (cF, 96, .inl (fun _ => 0)))]) [0, 1, 2, 3, 4, 5] rfl
  have hDc := hD.sub (ws' := [(om, .inr (20, [.ref mt, .ref qu, .int 0, .int th, .ref lv, .int (-1), .int 0, .int 0, .ref mi, .int 0, .int 0, .int 0, .int 0, .ref ml, .ref mss, .ref rn, .ref sw, .ref mf, .null, .int 0, .ref msp, .int 0, .int 0, .int 0])), (lv, .inr (1, [.int 0, .ref de, .int 0])), (rn, .inr (1, [.int 0, .ref de, .int 0])), (sw, .inr (1, [.int 0, .ref de, .int 0])), (ml, .inl (cS, 6, .inl (slotF))), (mf, .inl (cF, 96, .inl (fun _ => 0)))]) [0, 1, 2, 3, 4, 5] (by decide) rfl
  have hKc := hK.sub (tys' := [(cS, .int), (cF, .int)]) [0, 1] rfl
  have hFc := va_free (wc := [(om, .inr (20, [.ref mt, .ref qu, .int 0, .int th, .ref lv, .int (-1), .int 0, .int 0, .ref mi, .int 0, .int 0, .int 0, .int 0, .ref ml, .ref mss, .ref rn, .ref sw, .ref mf, .null, .int 0, .ref msp, .int 0, .int 0, .int 0])), (lv, .inr (1, [.int 0, .ref de, .int 0])), (rn, .inr (1, [.int 0, .ref de, .int 0])), (sw, .inr (1, [.int 0, .ref de, .int 0])), (ml, .inl (cS, 6, .inl (slotF))), (mf, .inl (cF, 96, .inl (fun _ => 0)))]) hD hS hA [0, 1, 2, 3, 4, 5] rfl
  refine va_calli (va_runV (As := [.int a1]) (rest := []) ⟨hx, hb, hml, hown, ht⟩ (c_X18_noRun l dC dI de (om) (mt) (qu) (lv) (mi) (ml) (mss) (rn) (sw) (mf) (msp) (cS) (cF) (th) (a1) s.heap.size) (cwV 1 ht (gWV (wr_59 _ (List.mem_of_getElem? (i := 23) rfl)) (wr_60 _ (List.mem_of_getElem? (i := 0) rfl)) (wr_60 _ (List.mem_of_getElem? (i := 1) rfl)) (wr_1 _ (List.mem_of_getElem? (i := 5) rfl)) (wr_60 _ (List.mem_of_getElem? (i := 2) rfl))) rfl rfl rfl (by decide +kernel) ⟨Nat.le_of_ble_eq_true rfl, Nat.le_of_ble_eq_true rfl⟩) ⟨PW_blind, va_recv hKc hPc (ci := 20) (q0 := 0) rfl rfl, PW_call hPc hDc hKc hS hG hFc⟩ rfl rfl hl.1 rfl (lv_room (Nat.le_of_ble_eq_true rfl)) dX18_isPatched_2 ⟨Nat.le_of_ble_eq_true rfl, Nat.le_of_ble_eq_true rfl⟩) hS (fun q _ h => hFc q h) hFc (fun r_2 u t H1 locs ht9 hvm hw hB hz1 hk1 hS => ?_)
  obtain ⟨hP1, hK1, hD1⟩ := hB
  rw [ht9] at hP1
  have hK1 := va_K.moved hvm.symm hK1
  obtain ⟨hP, hD⟩ := va_join (wr := []) (w1 := [(om, .inr (20, [.ref mt, .ref qu, .int 0, .int 1, .ref lv, .int (-1), .int 0, .int 0, .ref mi, .int 0, .int 0, .int 0, .int 0, .ref ml, .ref mss, .ref rn, .ref sw, .ref mf, .null, .int 0, .ref msp, .int 0, .int 0, .int 0])), (lv, .inr (1, [.int 0, .ref de, .int 0])), (rn, .inr (1, [.int 0, .ref de, .int 0])), (sw, .inr (1, [.int 0, .ref de, .int 0])), (ml, .inl (cS, 6, .inl (slotF))), (mf, .inl (cF, 96, .inl (fun _ => 0)))]) hP hD [0, 1, 2, 3, 4, 5] [] rfl rfl (by decide) (by decide) hk1 hFc hP1 hD1
  have hK := (hK.sub (tys' := []) [] rfl).app hK1
  generalize H1 = H at hP hS ⊢
  replace hP : va_P (dC, dI) vwCl [(om, .inr (20, [.ref mt, .ref qu, .int 0, .int 1, .ref lv, .int (-1), .int 0, .int 0, .ref mi, .int 0, .int 0, .int 0, .int 0, .ref ml, .ref mss, .ref rn, .ref sw, .ref mf, .null, .int 0, .ref msp, .int 0, .int 0, .int 0])), (lv, .inr (1, [.int 0, .ref de, .int 0])), (rn, .inr (1, [.int 0, .ref de, .int 0])), (sw, .inr (1, [.int 0, .ref de, .int 0])), (ml, .inl (cS, 6, .inl (slotF))), (mf, .inl (cF, 96, .inl (fun _ => 0)))] H := hP
  replace hD : va_D A [(om, .inr (20, [.ref mt, .ref qu, .int 0, .int 1, .ref lv, .int (-1), .int 0, .int 0, .ref mi, .int 0, .int 0, .int 0, .int 0, .ref ml, .ref mss, .ref rn, .ref sw, .ref mf, .null, .int 0, .ref msp, .int 0, .int 0, .int 0])), (lv, .inr (1, [.int 0, .ref de, .int 0])), (rn, .inr (1, [.int 0, .ref de, .int 0])), (sw, .inr (1, [.int 0, .ref de, .int 0])), (ml, .inl (cS, 6, .inl (slotF))), (mf, .inl (cF, 96, .inl (fun _ => 0)))] := hD
  have hK : va_K (dC, dI) vwCl [(cS, .int), (cF, .int)] s := hK
  have e_2 : r_2 = 1 := hw
  subst e_2
  refine lv_if_ne (tgt := 56) hx hb dX18_isPatched_5 (by decide) (fun c_5 => ?_) (fun c_5 => absurd c_5 (by decide))
  refine lv_iconst (v := 0) hx hb dX18_isPatched_56 (by decide) ?_
  have hP9 := hP.sub (ws' := [(om, .inr (20, [.ref mt, .ref qu, .int 0, .int 1, .ref lv, .int (-1), .int 0, .int 0, .ref mi, .int 0, .int 0, .int 0, .int 0, .ref ml, .ref mss, .ref rn, .ref sw, .ref mf, .null, .int 0, .ref msp, .int 0, .int 0, .int 0])), (lv, .inr (1, [.int 0, .ref de, .int 0])), (rn, .inr (1, [.int 0, .ref de, .int 0])), (sw, .inr (1, [.int 0, .ref de, .int 0])), (ml, .inl (cS, 6, .inl (slotF))), (mf, .inl (cF, 96, .inl (fun _ => 0)))]) [0, 1, 2, 3, 4, 5] rfl
  have hD9 := hD.sub (ws' := [(om, .inr (20, [.ref mt, .ref qu, .int 0, .int 1, .ref lv, .int (-1), .int 0, .int 0, .ref mi, .int 0, .int 0, .int 0, .int 0, .ref ml, .ref mss, .ref rn, .ref sw, .ref mf, .null, .int 0, .ref msp, .int 0, .int 0, .int 0])), (lv, .inr (1, [.int 0, .ref de, .int 0])), (rn, .inr (1, [.int 0, .ref de, .int 0])), (sw, .inr (1, [.int 0, .ref de, .int 0])), (ml, .inl (cS, 6, .inl (slotF))), (mf, .inl (cF, 96, .inl (fun _ => 0)))]) [0, 1, 2, 3, 4, 5] (by decide) rfl
  have hK9 := hK.sub (tys' := [(cS, .int), (cF, .int)]) [0, 1] rfl
  exact W.zret (v := 0) hx hb hr (by decide) (fun t htt hW => have ht := htt; ⟨⟨0, (), rfl, trivial, QW_of ht hW hP9 hK9 hD9⟩, hS.F ht⟩) hS.2.2 dX18_isPatched_57
set_option maxHeartbeats 4000000 in
set_option maxRecDepth 100000 in
theorem c_X18_ghost (l : Launch) (dC : Nat → ClassId) (dI : Nat → Nat → Nat) (de : Nat) (om : Nat) (mt : Nat) (qu : Nat) (lv : Nat) (mi : Nat) (ml : Nat) (mss : Nat) (rn : Nat) (sw : Nat) (mf : Nat) (msp : Nat) (cS : ClassId) (cF : ClassId) (th : Int32) (a1 : Int32) (a2 : Int32) (a3 : Int32) (sz : Nat) : Met l yX18_ghost (.code yX18_ghost cX18_ghost 6 (some .int) :: wsL_law) { frames := 2, cells := 0, slots := 0, locals := 43 } (va_Pc [.ref om, .int a1, .int a2, .int a3] (PW dC dI de [(cS, .int), (cF, .int)] (WM om mt qu lv mi ml mss rn sw mf msp cS cF th de) sz)) (va_Qi (fun (r : Int32) (u : Unit) => True) (fun (_ : Unit) (t : State) => QW dC dI [(cS, .int), (cF, .int)] (WM om mt qu lv mi ml mss rn sw mf msp cS cF 1 de) (va_A (WM om mt qu lv mi ml mss rn sw mf msp cS cF th de) sz) t) (va_A (WM om mt qu lv mi ml mss rn sw mf msp cS cF th de) sz)) 0 0 (va_A (WM om mt qu lv mi ml mss rn sw mf msp cS cF th de) sz) := by
  refine Met.ofW (cc := cX18_ghost) (maxL := 6) (ret := (some .int)) (by decide) rfl ?_
  intro p e s m args below meth c s₁ B hml hv
  obtain ⟨rfl, hsz, hP, hK, hD0, hG⟩ := hv
  have hx := B.exec
  have hb := B.bytes
  have hr := B.returns
  have hts := atoms_spec (ws := .code yX18_ghost cX18_ghost 6 (some .int) :: wsL_law) B.pre
  have ht : ∀ w ∈ wsL_law, w.before _ s = true := fun w h => hts w (List.mem_cons_of_mem _ h)
  have hown : s.vm.findClass RX18 = some m.cls := findClass_of_methodNamed B.named
  have hlocks := B.notSynchronized
  subst hsz
  have hD := hD0.self (sz := s.heap.size)
  generalize hAe : va_A (WM om mt qu lv mi ml mss rn sw mf msp cS cF th de) s.heap.size = A at hD hG ⊢
  have hA : ∀ q : Nat, s.heap.size ≤ q → A q := fun q h => by rw [← hAe]; exact Or.inr h
  have hS : va_S A s.heap s.heap [] := va_S.rf
  have hP : va_P (dC, dI) vwCl [(om, .inr (20, [.ref mt, .ref qu, .int 0, .int th, .ref lv, .int (-1), .int 0, .int 0, .ref mi, .int 0, .int 0, .int 0, .int 0, .ref ml, .ref mss, .ref rn, .ref sw, .ref mf, .null, .int 0, .ref msp, .int 0, .int 0, .int 0])), (lv, .inr (1, [.int 0, .ref de, .int 0])), (rn, .inr (1, [.int 0, .ref de, .int 0])), (sw, .inr (1, [.int 0, .ref de, .int 0])), (ml, .inl (cS, 6, .inl (slotF))), (mf, .inl (cF, 96, .inl (fun _ => 0)))] s.heap := hP
  have hD : va_D A [(om, .inr (20, [.ref mt, .ref qu, .int 0, .int th, .ref lv, .int (-1), .int 0, .int 0, .ref mi, .int 0, .int 0, .int 0, .int 0, .ref ml, .ref mss, .ref rn, .ref sw, .ref mf, .null, .int 0, .ref msp, .int 0, .int 0, .int 0])), (lv, .inr (1, [.int 0, .ref de, .int 0])), (rn, .inr (1, [.int 0, .ref de, .int 0])), (sw, .inr (1, [.int 0, .ref de, .int 0])), (ml, .inl (cS, 6, .inl (slotF))), (mf, .inl (cF, 96, .inl (fun _ => 0)))] := hD
  have hl := lv_entry ([.ref om, .int a1, .int a2, .int a3]) (n := 6) (Nat.le_of_ble_eq_true rfl)
  rw [lg_entry_eq]
  generalize (lg_sl ([.ref om, .int a1, .int a2, .int a3]) ++ List.replicate (6 - (lg_sl ([.ref om, .int a1, .int a2, .int a3])).length) Slot.unset).toArray = ls at hl ⊢
  have hl : lv_has ls 6 [(0, .ref om), (1, .int a1), (2, .int a2), (3, .int a3)] := hl
  refine lv_aload_n hx hb dX18_ghost_0 rfl (lv_at hl 0 rfl) ?_
  refine lv_iload_n hx hb dX18_ghost_1 rfl (lv_at hl 1 rfl) ?_
  have hPc := hP.sub (ws' := [(om, .inr (20, [.ref mt, .ref qu, .int 0, .int th, .ref lv, .int (-1), .int 0, .int 0, .ref mi, .int 0, .int 0, .int 0, .int 0, .ref ml, .ref mss, .ref rn, .ref sw, .ref mf, .null, .int 0, .ref msp, .int 0, .int 0, .int 0])), (lv, .inr (1, [.int 0, .ref de, .int 0])), (rn, .inr (1, [.int 0, .ref de, .int 0])), (sw, .inr (1, [.int 0, .ref de, .int 0])), (ml, .inl (cS, 6, .inl (slotF))), (mf, .inl (cF, 96, .inl (fun _ => 0)))]) [0, 1, 2, 3, 4, 5] rfl
  have hDc := hD.sub (ws' := [(om, .inr (20, [.ref mt, .ref qu, .int 0, .int th, .ref lv, .int (-1), .int 0, .int 0, .ref mi, .int 0, .int 0, .int 0, .int 0, .ref ml, .ref mss, .ref rn, .ref sw, .ref mf, .null, .int 0, .ref msp, .int 0, .int 0, .int 0])), (lv, .inr (1, [.int 0, .ref de, .int 0])), (rn, .inr (1, [.int 0, .ref de, .int 0])), (sw, .inr (1, [.int 0, .ref de, .int 0])), (ml, .inl (cS, 6, .inl (slotF))), (mf, .inl (cF, 96, .inl (fun _ => 0)))]) [0, 1, 2, 3, 4, 5] (by decide) rfl
  have hKc := hK.sub (tys' := [(cS, .int), (cF, .int)]) [0, 1] rfl
  have hFc := va_free (wc := [(om, .inr (20, [.ref mt, .ref qu, .int 0, .int th, .ref lv, .int (-1), .int 0, .int 0, .ref mi, .int 0, .int 0, .int 0, .int 0, .ref ml, .ref mss, .ref rn, .ref sw, .ref mf, .null, .int 0, .ref msp, .int 0, .int 0, .int 0])), (lv, .inr (1, [.int 0, .ref de, .int 0])), (rn, .inr (1, [.int 0, .ref de, .int 0])), (sw, .inr (1, [.int 0, .ref de, .int 0])), (ml, .inl (cS, 6, .inl (slotF))), (mf, .inl (cF, 96, .inl (fun _ => 0)))]) hD hS hA [0, 1, 2, 3, 4, 5] rfl
  refine va_calli (va_runV (As := [.int a1]) (rest := []) ⟨hx, hb, hml, hown, ht⟩ (c_X18_noRun l dC dI de (om) (mt) (qu) (lv) (mi) (ml) (mss) (rn) (sw) (mf) (msp) (cS) (cF) (th) (a1) s.heap.size) (cwV 1 ht (gWV (wr_59 _ (List.mem_of_getElem? (i := 23) rfl)) (wr_60 _ (List.mem_of_getElem? (i := 0) rfl)) (wr_60 _ (List.mem_of_getElem? (i := 1) rfl)) (wr_1 _ (List.mem_of_getElem? (i := 5) rfl)) (wr_60 _ (List.mem_of_getElem? (i := 2) rfl))) rfl rfl rfl (by decide +kernel) ⟨Nat.le_of_ble_eq_true rfl, Nat.le_of_ble_eq_true rfl⟩) ⟨PW_blind, va_recv hKc hPc (ci := 20) (q0 := 0) rfl rfl, PW_call hPc hDc hKc hS hG hFc⟩ rfl rfl hl.1 rfl (lv_room (Nat.le_of_ble_eq_true rfl)) dX18_ghost_2 ⟨Nat.le_of_ble_eq_true rfl, Nat.le_of_ble_eq_true rfl⟩) hS (fun q _ h => hFc q h) hFc (fun r_2 u t H1 locs ht9 hvm hw hB hz1 hk1 hS => ?_)
  obtain ⟨hP1, hK1, hD1⟩ := hB
  rw [ht9] at hP1
  have hK1 := va_K.moved hvm.symm hK1
  obtain ⟨hP, hD⟩ := va_join (wr := []) (w1 := [(om, .inr (20, [.ref mt, .ref qu, .int 0, .int 1, .ref lv, .int (-1), .int 0, .int 0, .ref mi, .int 0, .int 0, .int 0, .int 0, .ref ml, .ref mss, .ref rn, .ref sw, .ref mf, .null, .int 0, .ref msp, .int 0, .int 0, .int 0])), (lv, .inr (1, [.int 0, .ref de, .int 0])), (rn, .inr (1, [.int 0, .ref de, .int 0])), (sw, .inr (1, [.int 0, .ref de, .int 0])), (ml, .inl (cS, 6, .inl (slotF))), (mf, .inl (cF, 96, .inl (fun _ => 0)))]) hP hD [0, 1, 2, 3, 4, 5] [] rfl rfl (by decide) (by decide) hk1 hFc hP1 hD1
  have hK := (hK.sub (tys' := []) [] rfl).app hK1
  generalize H1 = H at hP hS ⊢
  replace hP : va_P (dC, dI) vwCl [(om, .inr (20, [.ref mt, .ref qu, .int 0, .int 1, .ref lv, .int (-1), .int 0, .int 0, .ref mi, .int 0, .int 0, .int 0, .int 0, .ref ml, .ref mss, .ref rn, .ref sw, .ref mf, .null, .int 0, .ref msp, .int 0, .int 0, .int 0])), (lv, .inr (1, [.int 0, .ref de, .int 0])), (rn, .inr (1, [.int 0, .ref de, .int 0])), (sw, .inr (1, [.int 0, .ref de, .int 0])), (ml, .inl (cS, 6, .inl (slotF))), (mf, .inl (cF, 96, .inl (fun _ => 0)))] H := hP
  replace hD : va_D A [(om, .inr (20, [.ref mt, .ref qu, .int 0, .int 1, .ref lv, .int (-1), .int 0, .int 0, .ref mi, .int 0, .int 0, .int 0, .int 0, .ref ml, .ref mss, .ref rn, .ref sw, .ref mf, .null, .int 0, .ref msp, .int 0, .int 0, .int 0])), (lv, .inr (1, [.int 0, .ref de, .int 0])), (rn, .inr (1, [.int 0, .ref de, .int 0])), (sw, .inr (1, [.int 0, .ref de, .int 0])), (ml, .inl (cS, 6, .inl (slotF))), (mf, .inl (cF, 96, .inl (fun _ => 0)))] := hD
  have hK : va_K (dC, dI) vwCl [(cS, .int), (cF, .int)] s := hK
  have e_2 : r_2 = 1 := hw
  subst e_2
  refine lv_if_eq (tgt := 10) hx hb dX18_ghost_5 (by decide) (fun c_5 => absurd c_5 (by decide)) (fun c_5 => ?_)
  refine lv_iconst (v := 0) hx hb dX18_ghost_8 (by decide) ?_
  have hP9 := hP.sub (ws' := [(om, .inr (20, [.ref mt, .ref qu, .int 0, .int 1, .ref lv, .int (-1), .int 0, .int 0, .ref mi, .int 0, .int 0, .int 0, .int 0, .ref ml, .ref mss, .ref rn, .ref sw, .ref mf, .null, .int 0, .ref msp, .int 0, .int 0, .int 0])), (lv, .inr (1, [.int 0, .ref de, .int 0])), (rn, .inr (1, [.int 0, .ref de, .int 0])), (sw, .inr (1, [.int 0, .ref de, .int 0])), (ml, .inl (cS, 6, .inl (slotF))), (mf, .inl (cF, 96, .inl (fun _ => 0)))]) [0, 1, 2, 3, 4, 5] rfl
  have hD9 := hD.sub (ws' := [(om, .inr (20, [.ref mt, .ref qu, .int 0, .int 1, .ref lv, .int (-1), .int 0, .int 0, .ref mi, .int 0, .int 0, .int 0, .int 0, .ref ml, .ref mss, .ref rn, .ref sw, .ref mf, .null, .int 0, .ref msp, .int 0, .int 0, .int 0])), (lv, .inr (1, [.int 0, .ref de, .int 0])), (rn, .inr (1, [.int 0, .ref de, .int 0])), (sw, .inr (1, [.int 0, .ref de, .int 0])), (ml, .inl (cS, 6, .inl (slotF))), (mf, .inl (cF, 96, .inl (fun _ => 0)))]) [0, 1, 2, 3, 4, 5] (by decide) rfl
  have hK9 := hK.sub (tys' := [(cS, .int), (cF, .int)]) [0, 1] rfl
  exact W.iret (v := 0) hx hb hr (fun t htt hW => have ht := htt; ⟨⟨0, (), rfl, trivial, QW_of ht hW hP9 hK9 hD9⟩, hS.F ht⟩) hS.2.2 dX18_ghost_9
set_option maxHeartbeats 4000000 in
set_option maxRecDepth 100000 in
theorem c_X18_bot (l : Launch) (dC : Nat → ClassId) (dI : Nat → Nat → Nat) (de : Nat) (om : Nat) (mt : Nat) (qu : Nat) (lv : Nat) (mi : Nat) (ml : Nat) (mss : Nat) (rn : Nat) (sw : Nat) (mf : Nat) (msp : Nat) (cS : ClassId) (cF : ClassId) (th : Int32) (a1 : Int32) (a2 : Int32) (a3 : Int32) (a4 : Int32) (a5 : Int32) (sz : Nat) : Met l yX18_bot (.code yX18_bot cX18_bot 11 (some .int) :: wsL_law) { frames := 2, cells := 0, slots := 0, locals := 43 } (va_Pc [.ref om, .int a1, .int a2, .int a3, .int a4, .int a5] (PW dC dI de [(cS, .int), (cF, .int)] (WM om mt qu lv mi ml mss rn sw mf msp cS cF th de) sz)) (va_Qi (fun (r : Int32) (u : Unit) => True) (fun (_ : Unit) (t : State) => QW dC dI [(cS, .int), (cF, .int)] (WM om mt qu lv mi ml mss rn sw mf msp cS cF 1 de) (va_A (WM om mt qu lv mi ml mss rn sw mf msp cS cF th de) sz) t) (va_A (WM om mt qu lv mi ml mss rn sw mf msp cS cF th de) sz)) 0 0 (va_A (WM om mt qu lv mi ml mss rn sw mf msp cS cF th de) sz) := by
  refine Met.ofW (cc := cX18_bot) (maxL := 11) (ret := (some .int)) (by decide) rfl ?_
  intro p e s m args below meth c s₁ B hml hv
  obtain ⟨rfl, hsz, hP, hK, hD0, hG⟩ := hv
  have hx := B.exec
  have hb := B.bytes
  have hr := B.returns
  have hts := atoms_spec (ws := .code yX18_bot cX18_bot 11 (some .int) :: wsL_law) B.pre
  have ht : ∀ w ∈ wsL_law, w.before _ s = true := fun w h => hts w (List.mem_cons_of_mem _ h)
  have hown : s.vm.findClass RX18 = some m.cls := findClass_of_methodNamed B.named
  have hlocks := B.notSynchronized
  subst hsz
  have hD := hD0.self (sz := s.heap.size)
  generalize hAe : va_A (WM om mt qu lv mi ml mss rn sw mf msp cS cF th de) s.heap.size = A at hD hG ⊢
  have hA : ∀ q : Nat, s.heap.size ≤ q → A q := fun q h => by rw [← hAe]; exact Or.inr h
  have hS : va_S A s.heap s.heap [] := va_S.rf
  have hP : va_P (dC, dI) vwCl [(om, .inr (20, [.ref mt, .ref qu, .int 0, .int th, .ref lv, .int (-1), .int 0, .int 0, .ref mi, .int 0, .int 0, .int 0, .int 0, .ref ml, .ref mss, .ref rn, .ref sw, .ref mf, .null, .int 0, .ref msp, .int 0, .int 0, .int 0])), (lv, .inr (1, [.int 0, .ref de, .int 0])), (rn, .inr (1, [.int 0, .ref de, .int 0])), (sw, .inr (1, [.int 0, .ref de, .int 0])), (ml, .inl (cS, 6, .inl (slotF))), (mf, .inl (cF, 96, .inl (fun _ => 0)))] s.heap := hP
  have hD : va_D A [(om, .inr (20, [.ref mt, .ref qu, .int 0, .int th, .ref lv, .int (-1), .int 0, .int 0, .ref mi, .int 0, .int 0, .int 0, .int 0, .ref ml, .ref mss, .ref rn, .ref sw, .ref mf, .null, .int 0, .ref msp, .int 0, .int 0, .int 0])), (lv, .inr (1, [.int 0, .ref de, .int 0])), (rn, .inr (1, [.int 0, .ref de, .int 0])), (sw, .inr (1, [.int 0, .ref de, .int 0])), (ml, .inl (cS, 6, .inl (slotF))), (mf, .inl (cF, 96, .inl (fun _ => 0)))] := hD
  have hl := lv_entry ([.ref om, .int a1, .int a2, .int a3, .int a4, .int a5]) (n := 11) (Nat.le_of_ble_eq_true rfl)
  rw [lg_entry_eq]
  generalize (lg_sl ([.ref om, .int a1, .int a2, .int a3, .int a4, .int a5]) ++ List.replicate (11 - (lg_sl ([.ref om, .int a1, .int a2, .int a3, .int a4, .int a5])).length) Slot.unset).toArray = ls at hl ⊢
  have hl : lv_has ls 11 [(0, .ref om), (1, .int a1), (2, .int a2), (3, .int a3), (4, .int a4), (5, .int a5)] := hl
  refine lv_aload_n hx hb dX18_bot_0 rfl (lv_at hl 0 rfl) ?_
  refine lv_iload_n hx hb dX18_bot_1 rfl (lv_at hl 1 rfl) ?_
  have hPc := hP.sub (ws' := [(om, .inr (20, [.ref mt, .ref qu, .int 0, .int th, .ref lv, .int (-1), .int 0, .int 0, .ref mi, .int 0, .int 0, .int 0, .int 0, .ref ml, .ref mss, .ref rn, .ref sw, .ref mf, .null, .int 0, .ref msp, .int 0, .int 0, .int 0])), (lv, .inr (1, [.int 0, .ref de, .int 0])), (rn, .inr (1, [.int 0, .ref de, .int 0])), (sw, .inr (1, [.int 0, .ref de, .int 0])), (ml, .inl (cS, 6, .inl (slotF))), (mf, .inl (cF, 96, .inl (fun _ => 0)))]) [0, 1, 2, 3, 4, 5] rfl
  have hDc := hD.sub (ws' := [(om, .inr (20, [.ref mt, .ref qu, .int 0, .int th, .ref lv, .int (-1), .int 0, .int 0, .ref mi, .int 0, .int 0, .int 0, .int 0, .ref ml, .ref mss, .ref rn, .ref sw, .ref mf, .null, .int 0, .ref msp, .int 0, .int 0, .int 0])), (lv, .inr (1, [.int 0, .ref de, .int 0])), (rn, .inr (1, [.int 0, .ref de, .int 0])), (sw, .inr (1, [.int 0, .ref de, .int 0])), (ml, .inl (cS, 6, .inl (slotF))), (mf, .inl (cF, 96, .inl (fun _ => 0)))]) [0, 1, 2, 3, 4, 5] (by decide) rfl
  have hKc := hK.sub (tys' := [(cS, .int), (cF, .int)]) [0, 1] rfl
  have hFc := va_free (wc := [(om, .inr (20, [.ref mt, .ref qu, .int 0, .int th, .ref lv, .int (-1), .int 0, .int 0, .ref mi, .int 0, .int 0, .int 0, .int 0, .ref ml, .ref mss, .ref rn, .ref sw, .ref mf, .null, .int 0, .ref msp, .int 0, .int 0, .int 0])), (lv, .inr (1, [.int 0, .ref de, .int 0])), (rn, .inr (1, [.int 0, .ref de, .int 0])), (sw, .inr (1, [.int 0, .ref de, .int 0])), (ml, .inl (cS, 6, .inl (slotF))), (mf, .inl (cF, 96, .inl (fun _ => 0)))]) hD hS hA [0, 1, 2, 3, 4, 5] rfl
  refine va_calli (va_runV (As := [.int a1]) (rest := []) ⟨hx, hb, hml, hown, ht⟩ (c_X18_noLevel l dC dI de (om) (mt) (qu) (lv) (mi) (ml) (mss) (rn) (sw) (mf) (msp) (cS) (cF) (th) (a1) s.heap.size) (cwV 1 ht (gWV (wr_24 _ (List.mem_of_getElem? (i := 8) rfl)) (wr_24 _ (List.mem_of_getElem? (i := 9) rfl)) (wr_24 _ (List.mem_of_getElem? (i := 10) rfl)) (wr_1 _ (List.mem_of_getElem? (i := 5) rfl)) (wr_24 _ (List.mem_of_getElem? (i := 11) rfl))) rfl rfl rfl (by decide +kernel) ⟨Nat.le_of_ble_eq_true rfl, Nat.le_of_ble_eq_true rfl⟩) ⟨PW_blind, va_recv hKc hPc (ci := 20) (q0 := 0) rfl rfl, PW_call hPc hDc hKc hS hG hFc⟩ rfl rfl hl.1 rfl (lv_room (Nat.le_of_ble_eq_true rfl)) dX18_bot_2 ⟨Nat.le_of_ble_eq_true rfl, Nat.le_of_ble_eq_true rfl⟩) hS (fun q _ h => hFc q h) hFc (fun r_2 u t H1 locs ht9 hvm hw hB hz1 hk1 hS => ?_)
  obtain ⟨hP1, hK1, hD1⟩ := hB
  rw [ht9] at hP1
  have hK1 := va_K.moved hvm.symm hK1
  obtain ⟨hP, hD⟩ := va_join (wr := []) (w1 := [(om, .inr (20, [.ref mt, .ref qu, .int 0, .int 1, .ref lv, .int (-1), .int 0, .int 0, .ref mi, .int 0, .int 0, .int 0, .int 0, .ref ml, .ref mss, .ref rn, .ref sw, .ref mf, .null, .int 0, .ref msp, .int 0, .int 0, .int 0])), (lv, .inr (1, [.int 0, .ref de, .int 0])), (rn, .inr (1, [.int 0, .ref de, .int 0])), (sw, .inr (1, [.int 0, .ref de, .int 0])), (ml, .inl (cS, 6, .inl (slotF))), (mf, .inl (cF, 96, .inl (fun _ => 0)))]) hP hD [0, 1, 2, 3, 4, 5] [] rfl rfl (by decide) (by decide) hk1 hFc hP1 hD1
  have hK := (hK.sub (tys' := []) [] rfl).app hK1
  generalize H1 = H at hP hS ⊢
  replace hP : va_P (dC, dI) vwCl [(om, .inr (20, [.ref mt, .ref qu, .int 0, .int 1, .ref lv, .int (-1), .int 0, .int 0, .ref mi, .int 0, .int 0, .int 0, .int 0, .ref ml, .ref mss, .ref rn, .ref sw, .ref mf, .null, .int 0, .ref msp, .int 0, .int 0, .int 0])), (lv, .inr (1, [.int 0, .ref de, .int 0])), (rn, .inr (1, [.int 0, .ref de, .int 0])), (sw, .inr (1, [.int 0, .ref de, .int 0])), (ml, .inl (cS, 6, .inl (slotF))), (mf, .inl (cF, 96, .inl (fun _ => 0)))] H := hP
  replace hD : va_D A [(om, .inr (20, [.ref mt, .ref qu, .int 0, .int 1, .ref lv, .int (-1), .int 0, .int 0, .ref mi, .int 0, .int 0, .int 0, .int 0, .ref ml, .ref mss, .ref rn, .ref sw, .ref mf, .null, .int 0, .ref msp, .int 0, .int 0, .int 0])), (lv, .inr (1, [.int 0, .ref de, .int 0])), (rn, .inr (1, [.int 0, .ref de, .int 0])), (sw, .inr (1, [.int 0, .ref de, .int 0])), (ml, .inl (cS, 6, .inl (slotF))), (mf, .inl (cF, 96, .inl (fun _ => 0)))] := hD
  have hK : va_K (dC, dI) vwCl [(cS, .int), (cF, .int)] s := hK
  have e_2 : r_2 = 1 := hw
  subst e_2
  refine lv_if_eq (tgt := 10) hx hb dX18_bot_5 (by decide) (fun c_5 => absurd c_5 (by decide)) (fun c_5 => ?_)
  refine lv_iconst (v := 0) hx hb dX18_bot_8 (by decide) ?_
  have hP9 := hP.sub (ws' := [(om, .inr (20, [.ref mt, .ref qu, .int 0, .int 1, .ref lv, .int (-1), .int 0, .int 0, .ref mi, .int 0, .int 0, .int 0, .int 0, .ref ml, .ref mss, .ref rn, .ref sw, .ref mf, .null, .int 0, .ref msp, .int 0, .int 0, .int 0])), (lv, .inr (1, [.int 0, .ref de, .int 0])), (rn, .inr (1, [.int 0, .ref de, .int 0])), (sw, .inr (1, [.int 0, .ref de, .int 0])), (ml, .inl (cS, 6, .inl (slotF))), (mf, .inl (cF, 96, .inl (fun _ => 0)))]) [0, 1, 2, 3, 4, 5] rfl
  have hD9 := hD.sub (ws' := [(om, .inr (20, [.ref mt, .ref qu, .int 0, .int 1, .ref lv, .int (-1), .int 0, .int 0, .ref mi, .int 0, .int 0, .int 0, .int 0, .ref ml, .ref mss, .ref rn, .ref sw, .ref mf, .null, .int 0, .ref msp, .int 0, .int 0, .int 0])), (lv, .inr (1, [.int 0, .ref de, .int 0])), (rn, .inr (1, [.int 0, .ref de, .int 0])), (sw, .inr (1, [.int 0, .ref de, .int 0])), (ml, .inl (cS, 6, .inl (slotF))), (mf, .inl (cF, 96, .inl (fun _ => 0)))]) [0, 1, 2, 3, 4, 5] (by decide) rfl
  have hK9 := hK.sub (tys' := [(cS, .int), (cF, .int)]) [0, 1] rfl
  exact W.iret (v := 0) hx hb hr (fun t htt hW => have ht := htt; ⟨⟨0, (), rfl, trivial, QW_of ht hW hP9 hK9 hD9⟩, hS.F ht⟩) hS.2.2 dX18_bot_9
set_option maxHeartbeats 4000000 in
set_option maxRecDepth 100000 in
theorem c_X18_isStolen (l : Launch) (dC : Nat → ClassId) (dI : Nat → Nat → Nat) (de : Nat) (om : Nat) (mt : Nat) (qu : Nat) (lv : Nat) (mi : Nat) (ml : Nat) (mss : Nat) (rn : Nat) (sw : Nat) (mf : Nat) (msp : Nat) (cS : ClassId) (cF : ClassId) (th : Int32) (a1 : Int32) (a2 : Int32) (sz : Nat) : Met l yX18_isStolen (.code yX18_isStolen cX18_isStolen 4 (some .boolean) :: wsL_law) { frames := 2, cells := 0, slots := 0, locals := 43 } (va_Pc [.ref om, .int a1, .int a2] (PW dC dI de [(cS, .int), (cF, .int)] (WM om mt qu lv mi ml mss rn sw mf msp cS cF th de) sz)) (va_Qi (fun (r : Int32) (u : Unit) => True) (fun (_ : Unit) (t : State) => QW dC dI [(cS, .int), (cF, .int)] (WM om mt qu lv mi ml mss rn sw mf msp cS cF 1 de) (va_A (WM om mt qu lv mi ml mss rn sw mf msp cS cF th de) sz) t) (va_A (WM om mt qu lv mi ml mss rn sw mf msp cS cF th de) sz)) 0 0 (va_A (WM om mt qu lv mi ml mss rn sw mf msp cS cF th de) sz) := by
  refine Met.ofW (cc := cX18_isStolen) (maxL := 4) (ret := (some .boolean)) (by decide) rfl ?_
  intro p e s m args below meth c s₁ B hml hv
  obtain ⟨rfl, hsz, hP, hK, hD0, hG⟩ := hv
  have hx := B.exec
  have hb := B.bytes
  have hr := B.returns
  have hts := atoms_spec (ws := .code yX18_isStolen cX18_isStolen 4 (some .boolean) :: wsL_law) B.pre
  have ht : ∀ w ∈ wsL_law, w.before _ s = true := fun w h => hts w (List.mem_cons_of_mem _ h)
  have hown : s.vm.findClass RX18 = some m.cls := findClass_of_methodNamed B.named
  have hlocks := B.notSynchronized
  subst hsz
  have hD := hD0.self (sz := s.heap.size)
  generalize hAe : va_A (WM om mt qu lv mi ml mss rn sw mf msp cS cF th de) s.heap.size = A at hD hG ⊢
  have hA : ∀ q : Nat, s.heap.size ≤ q → A q := fun q h => by rw [← hAe]; exact Or.inr h
  have hS : va_S A s.heap s.heap [] := va_S.rf
  have hP : va_P (dC, dI) vwCl [(om, .inr (20, [.ref mt, .ref qu, .int 0, .int th, .ref lv, .int (-1), .int 0, .int 0, .ref mi, .int 0, .int 0, .int 0, .int 0, .ref ml, .ref mss, .ref rn, .ref sw, .ref mf, .null, .int 0, .ref msp, .int 0, .int 0, .int 0])), (lv, .inr (1, [.int 0, .ref de, .int 0])), (rn, .inr (1, [.int 0, .ref de, .int 0])), (sw, .inr (1, [.int 0, .ref de, .int 0])), (ml, .inl (cS, 6, .inl (slotF))), (mf, .inl (cF, 96, .inl (fun _ => 0)))] s.heap := hP
  have hD : va_D A [(om, .inr (20, [.ref mt, .ref qu, .int 0, .int th, .ref lv, .int (-1), .int 0, .int 0, .ref mi, .int 0, .int 0, .int 0, .int 0, .ref ml, .ref mss, .ref rn, .ref sw, .ref mf, .null, .int 0, .ref msp, .int 0, .int 0, .int 0])), (lv, .inr (1, [.int 0, .ref de, .int 0])), (rn, .inr (1, [.int 0, .ref de, .int 0])), (sw, .inr (1, [.int 0, .ref de, .int 0])), (ml, .inl (cS, 6, .inl (slotF))), (mf, .inl (cF, 96, .inl (fun _ => 0)))] := hD
  have hl := lv_entry ([.ref om, .int a1, .int a2]) (n := 4) (Nat.le_of_ble_eq_true rfl)
  rw [lg_entry_eq]
  generalize (lg_sl ([.ref om, .int a1, .int a2]) ++ List.replicate (4 - (lg_sl ([.ref om, .int a1, .int a2])).length) Slot.unset).toArray = ls at hl ⊢
  have hl : lv_has ls 4 [(0, .ref om), (1, .int a1), (2, .int a2)] := hl
  refine lv_aload_n hx hb dX18_isStolen_0 rfl (lv_at hl 0 rfl) ?_
  refine lv_iload_n hx hb dX18_isStolen_1 rfl (lv_at hl 1 rfl) ?_
  have hPc := hP.sub (ws' := [(om, .inr (20, [.ref mt, .ref qu, .int 0, .int th, .ref lv, .int (-1), .int 0, .int 0, .ref mi, .int 0, .int 0, .int 0, .int 0, .ref ml, .ref mss, .ref rn, .ref sw, .ref mf, .null, .int 0, .ref msp, .int 0, .int 0, .int 0])), (lv, .inr (1, [.int 0, .ref de, .int 0])), (rn, .inr (1, [.int 0, .ref de, .int 0])), (sw, .inr (1, [.int 0, .ref de, .int 0])), (ml, .inl (cS, 6, .inl (slotF))), (mf, .inl (cF, 96, .inl (fun _ => 0)))]) [0, 1, 2, 3, 4, 5] rfl
  have hDc := hD.sub (ws' := [(om, .inr (20, [.ref mt, .ref qu, .int 0, .int th, .ref lv, .int (-1), .int 0, .int 0, .ref mi, .int 0, .int 0, .int 0, .int 0, .ref ml, .ref mss, .ref rn, .ref sw, .ref mf, .null, .int 0, .ref msp, .int 0, .int 0, .int 0])), (lv, .inr (1, [.int 0, .ref de, .int 0])), (rn, .inr (1, [.int 0, .ref de, .int 0])), (sw, .inr (1, [.int 0, .ref de, .int 0])), (ml, .inl (cS, 6, .inl (slotF))), (mf, .inl (cF, 96, .inl (fun _ => 0)))]) [0, 1, 2, 3, 4, 5] (by decide) rfl
  have hKc := hK.sub (tys' := [(cS, .int), (cF, .int)]) [0, 1] rfl
  have hFc := va_free (wc := [(om, .inr (20, [.ref mt, .ref qu, .int 0, .int th, .ref lv, .int (-1), .int 0, .int 0, .ref mi, .int 0, .int 0, .int 0, .int 0, .ref ml, .ref mss, .ref rn, .ref sw, .ref mf, .null, .int 0, .ref msp, .int 0, .int 0, .int 0])), (lv, .inr (1, [.int 0, .ref de, .int 0])), (rn, .inr (1, [.int 0, .ref de, .int 0])), (sw, .inr (1, [.int 0, .ref de, .int 0])), (ml, .inl (cS, 6, .inl (slotF))), (mf, .inl (cF, 96, .inl (fun _ => 0)))]) hD hS hA [0, 1, 2, 3, 4, 5] rfl
  refine va_calli (va_runV (As := [.int a1]) (rest := []) ⟨hx, hb, hml, hown, ht⟩ (c_X18_noLevel l dC dI de (om) (mt) (qu) (lv) (mi) (ml) (mss) (rn) (sw) (mf) (msp) (cS) (cF) (th) (a1) s.heap.size) (cwV 1 ht (gWV (wr_24 _ (List.mem_of_getElem? (i := 8) rfl)) (wr_24 _ (List.mem_of_getElem? (i := 9) rfl)) (wr_24 _ (List.mem_of_getElem? (i := 10) rfl)) (wr_1 _ (List.mem_of_getElem? (i := 5) rfl)) (wr_24 _ (List.mem_of_getElem? (i := 11) rfl))) rfl rfl rfl (by decide +kernel) ⟨Nat.le_of_ble_eq_true rfl, Nat.le_of_ble_eq_true rfl⟩) ⟨PW_blind, va_recv hKc hPc (ci := 20) (q0 := 0) rfl rfl, PW_call hPc hDc hKc hS hG hFc⟩ rfl rfl hl.1 rfl (lv_room (Nat.le_of_ble_eq_true rfl)) dX18_isStolen_2 ⟨Nat.le_of_ble_eq_true rfl, Nat.le_of_ble_eq_true rfl⟩) hS (fun q _ h => hFc q h) hFc (fun r_2 u t H1 locs ht9 hvm hw hB hz1 hk1 hS => ?_)
  obtain ⟨hP1, hK1, hD1⟩ := hB
  rw [ht9] at hP1
  have hK1 := va_K.moved hvm.symm hK1
  obtain ⟨hP, hD⟩ := va_join (wr := []) (w1 := [(om, .inr (20, [.ref mt, .ref qu, .int 0, .int 1, .ref lv, .int (-1), .int 0, .int 0, .ref mi, .int 0, .int 0, .int 0, .int 0, .ref ml, .ref mss, .ref rn, .ref sw, .ref mf, .null, .int 0, .ref msp, .int 0, .int 0, .int 0])), (lv, .inr (1, [.int 0, .ref de, .int 0])), (rn, .inr (1, [.int 0, .ref de, .int 0])), (sw, .inr (1, [.int 0, .ref de, .int 0])), (ml, .inl (cS, 6, .inl (slotF))), (mf, .inl (cF, 96, .inl (fun _ => 0)))]) hP hD [0, 1, 2, 3, 4, 5] [] rfl rfl (by decide) (by decide) hk1 hFc hP1 hD1
  have hK := (hK.sub (tys' := []) [] rfl).app hK1
  generalize H1 = H at hP hS ⊢
  replace hP : va_P (dC, dI) vwCl [(om, .inr (20, [.ref mt, .ref qu, .int 0, .int 1, .ref lv, .int (-1), .int 0, .int 0, .ref mi, .int 0, .int 0, .int 0, .int 0, .ref ml, .ref mss, .ref rn, .ref sw, .ref mf, .null, .int 0, .ref msp, .int 0, .int 0, .int 0])), (lv, .inr (1, [.int 0, .ref de, .int 0])), (rn, .inr (1, [.int 0, .ref de, .int 0])), (sw, .inr (1, [.int 0, .ref de, .int 0])), (ml, .inl (cS, 6, .inl (slotF))), (mf, .inl (cF, 96, .inl (fun _ => 0)))] H := hP
  replace hD : va_D A [(om, .inr (20, [.ref mt, .ref qu, .int 0, .int 1, .ref lv, .int (-1), .int 0, .int 0, .ref mi, .int 0, .int 0, .int 0, .int 0, .ref ml, .ref mss, .ref rn, .ref sw, .ref mf, .null, .int 0, .ref msp, .int 0, .int 0, .int 0])), (lv, .inr (1, [.int 0, .ref de, .int 0])), (rn, .inr (1, [.int 0, .ref de, .int 0])), (sw, .inr (1, [.int 0, .ref de, .int 0])), (ml, .inl (cS, 6, .inl (slotF))), (mf, .inl (cF, 96, .inl (fun _ => 0)))] := hD
  have hK : va_K (dC, dI) vwCl [(cS, .int), (cF, .int)] s := hK
  have e_2 : r_2 = 1 := hw
  subst e_2
  refine lv_if_eq (tgt := 10) hx hb dX18_isStolen_5 (by decide) (fun c_5 => absurd c_5 (by decide)) (fun c_5 => ?_)
  refine lv_iconst (v := 0) hx hb dX18_isStolen_8 (by decide) ?_
  have hP9 := hP.sub (ws' := [(om, .inr (20, [.ref mt, .ref qu, .int 0, .int 1, .ref lv, .int (-1), .int 0, .int 0, .ref mi, .int 0, .int 0, .int 0, .int 0, .ref ml, .ref mss, .ref rn, .ref sw, .ref mf, .null, .int 0, .ref msp, .int 0, .int 0, .int 0])), (lv, .inr (1, [.int 0, .ref de, .int 0])), (rn, .inr (1, [.int 0, .ref de, .int 0])), (sw, .inr (1, [.int 0, .ref de, .int 0])), (ml, .inl (cS, 6, .inl (slotF))), (mf, .inl (cF, 96, .inl (fun _ => 0)))]) [0, 1, 2, 3, 4, 5] rfl
  have hD9 := hD.sub (ws' := [(om, .inr (20, [.ref mt, .ref qu, .int 0, .int 1, .ref lv, .int (-1), .int 0, .int 0, .ref mi, .int 0, .int 0, .int 0, .int 0, .ref ml, .ref mss, .ref rn, .ref sw, .ref mf, .null, .int 0, .ref msp, .int 0, .int 0, .int 0])), (lv, .inr (1, [.int 0, .ref de, .int 0])), (rn, .inr (1, [.int 0, .ref de, .int 0])), (sw, .inr (1, [.int 0, .ref de, .int 0])), (ml, .inl (cS, 6, .inl (slotF))), (mf, .inl (cF, 96, .inl (fun _ => 0)))]) [0, 1, 2, 3, 4, 5] (by decide) rfl
  have hK9 := hK.sub (tys' := [(cS, .int), (cF, .int)]) [0, 1] rfl
  exact W.zret (v := 0) hx hb hr (by decide) (fun t htt hW => have ht := htt; ⟨⟨0, (), rfl, trivial, QW_of ht hW hP9 hK9 hD9⟩, hS.F ht⟩) hS.2.2 dX18_isStolen_9
set_option maxHeartbeats 4000000 in
set_option maxRecDepth 100000 in
theorem c_X18_checksum (l : Launch) (dC : Nat → ClassId) (dI : Nat → Nat → Nat) (de : Nat) (om : Nat) (mt : Nat) (qu : Nat) (lv : Nat) (mi : Nat) (ml : Nat) (mss : Nat) (rn : Nat) (sw : Nat) (mf : Nat) (msp : Nat) (cS : ClassId) (cF : ClassId) (th : Int32) (a1 : Int32) (sz : Nat) : Met l yX18_checksum (.code yX18_checksum cX18_checksum 9 (some .long) :: wsL_law) { frames := 2, cells := 0, slots := 0, locals := 43 } (va_Pc [.ref om, .int a1] (PW dC dI de [(cS, .int), (cF, .int)] (WM om mt qu lv mi ml mss rn sw mf msp cS cF th de) sz)) (va_Ql (fun (r : Int64) (u : Unit) => True) (fun (_ : Unit) (t : State) => QW dC dI [(cS, .int), (cF, .int)] (WM om mt qu lv mi ml mss rn sw mf msp cS cF 1 de) (va_A (WM om mt qu lv mi ml mss rn sw mf msp cS cF th de) sz) t) (va_A (WM om mt qu lv mi ml mss rn sw mf msp cS cF th de) sz)) 0 0 (va_A (WM om mt qu lv mi ml mss rn sw mf msp cS cF th de) sz) := by
  refine Met.ofW (cc := cX18_checksum) (maxL := 9) (ret := (some .long)) (by decide) rfl ?_
  intro p e s m args below meth c s₁ B hml hv
  obtain ⟨rfl, hsz, hP, hK, hD0, hG⟩ := hv
  have hx := B.exec
  have hb := B.bytes
  have hr := B.returns
  have hts := atoms_spec (ws := .code yX18_checksum cX18_checksum 9 (some .long) :: wsL_law) B.pre
  have ht : ∀ w ∈ wsL_law, w.before _ s = true := fun w h => hts w (List.mem_cons_of_mem _ h)
  have hown : s.vm.findClass RX18 = some m.cls := findClass_of_methodNamed B.named
  have hlocks := B.notSynchronized
  subst hsz
  have hD := hD0.self (sz := s.heap.size)
  generalize hAe : va_A (WM om mt qu lv mi ml mss rn sw mf msp cS cF th de) s.heap.size = A at hD hG ⊢
  have hA : ∀ q : Nat, s.heap.size ≤ q → A q := fun q h => by rw [← hAe]; exact Or.inr h
  have hS : va_S A s.heap s.heap [] := va_S.rf
  have hP : va_P (dC, dI) vwCl [(om, .inr (20, [.ref mt, .ref qu, .int 0, .int th, .ref lv, .int (-1), .int 0, .int 0, .ref mi, .int 0, .int 0, .int 0, .int 0, .ref ml, .ref mss, .ref rn, .ref sw, .ref mf, .null, .int 0, .ref msp, .int 0, .int 0, .int 0])), (lv, .inr (1, [.int 0, .ref de, .int 0])), (rn, .inr (1, [.int 0, .ref de, .int 0])), (sw, .inr (1, [.int 0, .ref de, .int 0])), (ml, .inl (cS, 6, .inl (slotF))), (mf, .inl (cF, 96, .inl (fun _ => 0)))] s.heap := hP
  have hD : va_D A [(om, .inr (20, [.ref mt, .ref qu, .int 0, .int th, .ref lv, .int (-1), .int 0, .int 0, .ref mi, .int 0, .int 0, .int 0, .int 0, .ref ml, .ref mss, .ref rn, .ref sw, .ref mf, .null, .int 0, .ref msp, .int 0, .int 0, .int 0])), (lv, .inr (1, [.int 0, .ref de, .int 0])), (rn, .inr (1, [.int 0, .ref de, .int 0])), (sw, .inr (1, [.int 0, .ref de, .int 0])), (ml, .inl (cS, 6, .inl (slotF))), (mf, .inl (cF, 96, .inl (fun _ => 0)))] := hD
  have hl := lv_entry ([.ref om, .int a1]) (n := 9) (Nat.le_of_ble_eq_true rfl)
  rw [lg_entry_eq]
  generalize (lg_sl ([.ref om, .int a1]) ++ List.replicate (9 - (lg_sl ([.ref om, .int a1])).length) Slot.unset).toArray = ls at hl ⊢
  have hl : lv_has ls 9 [(0, .ref om), (1, .int a1)] := hl
  refine lv_aload_n hx hb dX18_checksum_0 rfl (lv_at hl 0 rfl) ?_
  refine lv_iload_n hx hb dX18_checksum_1 rfl (lv_at hl 1 rfl) ?_
  have hPc := hP.sub (ws' := [(om, .inr (20, [.ref mt, .ref qu, .int 0, .int th, .ref lv, .int (-1), .int 0, .int 0, .ref mi, .int 0, .int 0, .int 0, .int 0, .ref ml, .ref mss, .ref rn, .ref sw, .ref mf, .null, .int 0, .ref msp, .int 0, .int 0, .int 0])), (lv, .inr (1, [.int 0, .ref de, .int 0])), (rn, .inr (1, [.int 0, .ref de, .int 0])), (sw, .inr (1, [.int 0, .ref de, .int 0])), (ml, .inl (cS, 6, .inl (slotF))), (mf, .inl (cF, 96, .inl (fun _ => 0)))]) [0, 1, 2, 3, 4, 5] rfl
  have hDc := hD.sub (ws' := [(om, .inr (20, [.ref mt, .ref qu, .int 0, .int th, .ref lv, .int (-1), .int 0, .int 0, .ref mi, .int 0, .int 0, .int 0, .int 0, .ref ml, .ref mss, .ref rn, .ref sw, .ref mf, .null, .int 0, .ref msp, .int 0, .int 0, .int 0])), (lv, .inr (1, [.int 0, .ref de, .int 0])), (rn, .inr (1, [.int 0, .ref de, .int 0])), (sw, .inr (1, [.int 0, .ref de, .int 0])), (ml, .inl (cS, 6, .inl (slotF))), (mf, .inl (cF, 96, .inl (fun _ => 0)))]) [0, 1, 2, 3, 4, 5] (by decide) rfl
  have hKc := hK.sub (tys' := [(cS, .int), (cF, .int)]) [0, 1] rfl
  have hFc := va_free (wc := [(om, .inr (20, [.ref mt, .ref qu, .int 0, .int th, .ref lv, .int (-1), .int 0, .int 0, .ref mi, .int 0, .int 0, .int 0, .int 0, .ref ml, .ref mss, .ref rn, .ref sw, .ref mf, .null, .int 0, .ref msp, .int 0, .int 0, .int 0])), (lv, .inr (1, [.int 0, .ref de, .int 0])), (rn, .inr (1, [.int 0, .ref de, .int 0])), (sw, .inr (1, [.int 0, .ref de, .int 0])), (ml, .inl (cS, 6, .inl (slotF))), (mf, .inl (cF, 96, .inl (fun _ => 0)))]) hD hS hA [0, 1, 2, 3, 4, 5] rfl
  refine va_calli (va_runV (As := [.int a1]) (rest := []) ⟨hx, hb, hml, hown, ht⟩ (c_X18_noLevel l dC dI de (om) (mt) (qu) (lv) (mi) (ml) (mss) (rn) (sw) (mf) (msp) (cS) (cF) (th) (a1) s.heap.size) (cwV 1 ht (gWV (wr_24 _ (List.mem_of_getElem? (i := 8) rfl)) (wr_24 _ (List.mem_of_getElem? (i := 9) rfl)) (wr_24 _ (List.mem_of_getElem? (i := 10) rfl)) (wr_1 _ (List.mem_of_getElem? (i := 5) rfl)) (wr_24 _ (List.mem_of_getElem? (i := 11) rfl))) rfl rfl rfl (by decide +kernel) ⟨Nat.le_of_ble_eq_true rfl, Nat.le_of_ble_eq_true rfl⟩) ⟨PW_blind, va_recv hKc hPc (ci := 20) (q0 := 0) rfl rfl, PW_call hPc hDc hKc hS hG hFc⟩ rfl rfl hl.1 rfl (lv_room (Nat.le_of_ble_eq_true rfl)) dX18_checksum_2 ⟨Nat.le_of_ble_eq_true rfl, Nat.le_of_ble_eq_true rfl⟩) hS (fun q _ h => hFc q h) hFc (fun r_2 u t H1 locs ht9 hvm hw hB hz1 hk1 hS => ?_)
  obtain ⟨hP1, hK1, hD1⟩ := hB
  rw [ht9] at hP1
  have hK1 := va_K.moved hvm.symm hK1
  obtain ⟨hP, hD⟩ := va_join (wr := []) (w1 := [(om, .inr (20, [.ref mt, .ref qu, .int 0, .int 1, .ref lv, .int (-1), .int 0, .int 0, .ref mi, .int 0, .int 0, .int 0, .int 0, .ref ml, .ref mss, .ref rn, .ref sw, .ref mf, .null, .int 0, .ref msp, .int 0, .int 0, .int 0])), (lv, .inr (1, [.int 0, .ref de, .int 0])), (rn, .inr (1, [.int 0, .ref de, .int 0])), (sw, .inr (1, [.int 0, .ref de, .int 0])), (ml, .inl (cS, 6, .inl (slotF))), (mf, .inl (cF, 96, .inl (fun _ => 0)))]) hP hD [0, 1, 2, 3, 4, 5] [] rfl rfl (by decide) (by decide) hk1 hFc hP1 hD1
  have hK := (hK.sub (tys' := []) [] rfl).app hK1
  generalize H1 = H at hP hS ⊢
  replace hP : va_P (dC, dI) vwCl [(om, .inr (20, [.ref mt, .ref qu, .int 0, .int 1, .ref lv, .int (-1), .int 0, .int 0, .ref mi, .int 0, .int 0, .int 0, .int 0, .ref ml, .ref mss, .ref rn, .ref sw, .ref mf, .null, .int 0, .ref msp, .int 0, .int 0, .int 0])), (lv, .inr (1, [.int 0, .ref de, .int 0])), (rn, .inr (1, [.int 0, .ref de, .int 0])), (sw, .inr (1, [.int 0, .ref de, .int 0])), (ml, .inl (cS, 6, .inl (slotF))), (mf, .inl (cF, 96, .inl (fun _ => 0)))] H := hP
  replace hD : va_D A [(om, .inr (20, [.ref mt, .ref qu, .int 0, .int 1, .ref lv, .int (-1), .int 0, .int 0, .ref mi, .int 0, .int 0, .int 0, .int 0, .ref ml, .ref mss, .ref rn, .ref sw, .ref mf, .null, .int 0, .ref msp, .int 0, .int 0, .int 0])), (lv, .inr (1, [.int 0, .ref de, .int 0])), (rn, .inr (1, [.int 0, .ref de, .int 0])), (sw, .inr (1, [.int 0, .ref de, .int 0])), (ml, .inl (cS, 6, .inl (slotF))), (mf, .inl (cF, 96, .inl (fun _ => 0)))] := hD
  have hK : va_K (dC, dI) vwCl [(cS, .int), (cF, .int)] s := hK
  have e_2 : r_2 = 1 := hw
  subst e_2
  refine lv_if_eq (tgt := 10) hx hb dX18_checksum_5 (by decide) (fun c_5 => absurd c_5 (by decide)) (fun c_5 => ?_)
  refine lv_lconst (v := 0) hx hb dX18_checksum_8 (by decide) ?_
  have hP9 := hP.sub (ws' := [(om, .inr (20, [.ref mt, .ref qu, .int 0, .int 1, .ref lv, .int (-1), .int 0, .int 0, .ref mi, .int 0, .int 0, .int 0, .int 0, .ref ml, .ref mss, .ref rn, .ref sw, .ref mf, .null, .int 0, .ref msp, .int 0, .int 0, .int 0])), (lv, .inr (1, [.int 0, .ref de, .int 0])), (rn, .inr (1, [.int 0, .ref de, .int 0])), (sw, .inr (1, [.int 0, .ref de, .int 0])), (ml, .inl (cS, 6, .inl (slotF))), (mf, .inl (cF, 96, .inl (fun _ => 0)))]) [0, 1, 2, 3, 4, 5] rfl
  have hD9 := hD.sub (ws' := [(om, .inr (20, [.ref mt, .ref qu, .int 0, .int 1, .ref lv, .int (-1), .int 0, .int 0, .ref mi, .int 0, .int 0, .int 0, .int 0, .ref ml, .ref mss, .ref rn, .ref sw, .ref mf, .null, .int 0, .ref msp, .int 0, .int 0, .int 0])), (lv, .inr (1, [.int 0, .ref de, .int 0])), (rn, .inr (1, [.int 0, .ref de, .int 0])), (sw, .inr (1, [.int 0, .ref de, .int 0])), (ml, .inl (cS, 6, .inl (slotF))), (mf, .inl (cF, 96, .inl (fun _ => 0)))]) [0, 1, 2, 3, 4, 5] (by decide) rfl
  have hK9 := hK.sub (tys' := [(cS, .int), (cF, .int)]) [0, 1] rfl
  exact W.lret (v := 0) hx hb hr (fun t htt hW => have ht := htt; ⟨⟨0, (), rfl, trivial, QW_of ht hW hP9 hK9 hD9⟩, hS.F ht⟩) hS.2.2 dX18_checksum_9
set_option maxHeartbeats 4000000 in
set_option maxRecDepth 100000 in
theorem c_X18_stuckShare (l : Launch) (dC : Nat → ClassId) (dI : Nat → Nat → Nat) (de : Nat) (om : Nat) (mt : Nat) (qu : Nat) (lv : Nat) (mi : Nat) (ml : Nat) (mss : Nat) (rn : Nat) (sw : Nat) (mf : Nat) (msp : Nat) (cS : ClassId) (cF : ClassId) (th : Int32) (a1 : Int32) (sz : Nat) : Met l yX18_stuckShare (.code yX18_stuckShare cX18_stuckShare 2 (some .float) :: wsL_law) { frames := 2, cells := 0, slots := 0, locals := 43 } (va_Pc [.ref om, .int a1] (PW dC dI de [(cS, .int), (cF, .int)] (WM om mt qu lv mi ml mss rn sw mf msp cS cF th de) sz)) (va_Qf (fun (r : UInt32) (u : Unit) => True) (fun (_ : Unit) (t : State) => QW dC dI [(cS, .int), (cF, .int)] (WM om mt qu lv mi ml mss rn sw mf msp cS cF 1 de) (va_A (WM om mt qu lv mi ml mss rn sw mf msp cS cF th de) sz) t) (va_A (WM om mt qu lv mi ml mss rn sw mf msp cS cF th de) sz)) 0 0 (va_A (WM om mt qu lv mi ml mss rn sw mf msp cS cF th de) sz) := by
  refine Met.ofW (cc := cX18_stuckShare) (maxL := 2) (ret := (some .float)) (by decide) rfl ?_
  intro p e s m args below meth c s₁ B hml hv
  obtain ⟨rfl, hsz, hP, hK, hD0, hG⟩ := hv
  have hx := B.exec
  have hb := B.bytes
  have hr := B.returns
  have hts := atoms_spec (ws := .code yX18_stuckShare cX18_stuckShare 2 (some .float) :: wsL_law) B.pre
  have ht : ∀ w ∈ wsL_law, w.before _ s = true := fun w h => hts w (List.mem_cons_of_mem _ h)
  have hown : s.vm.findClass RX18 = some m.cls := findClass_of_methodNamed B.named
  have hlocks := B.notSynchronized
  subst hsz
  have hD := hD0.self (sz := s.heap.size)
  generalize hAe : va_A (WM om mt qu lv mi ml mss rn sw mf msp cS cF th de) s.heap.size = A at hD hG ⊢
  have hA : ∀ q : Nat, s.heap.size ≤ q → A q := fun q h => by rw [← hAe]; exact Or.inr h
  have hS : va_S A s.heap s.heap [] := va_S.rf
  have hP : va_P (dC, dI) vwCl [(om, .inr (20, [.ref mt, .ref qu, .int 0, .int th, .ref lv, .int (-1), .int 0, .int 0, .ref mi, .int 0, .int 0, .int 0, .int 0, .ref ml, .ref mss, .ref rn, .ref sw, .ref mf, .null, .int 0, .ref msp, .int 0, .int 0, .int 0])), (lv, .inr (1, [.int 0, .ref de, .int 0])), (rn, .inr (1, [.int 0, .ref de, .int 0])), (sw, .inr (1, [.int 0, .ref de, .int 0])), (ml, .inl (cS, 6, .inl (slotF))), (mf, .inl (cF, 96, .inl (fun _ => 0)))] s.heap := hP
  have hD : va_D A [(om, .inr (20, [.ref mt, .ref qu, .int 0, .int th, .ref lv, .int (-1), .int 0, .int 0, .ref mi, .int 0, .int 0, .int 0, .int 0, .ref ml, .ref mss, .ref rn, .ref sw, .ref mf, .null, .int 0, .ref msp, .int 0, .int 0, .int 0])), (lv, .inr (1, [.int 0, .ref de, .int 0])), (rn, .inr (1, [.int 0, .ref de, .int 0])), (sw, .inr (1, [.int 0, .ref de, .int 0])), (ml, .inl (cS, 6, .inl (slotF))), (mf, .inl (cF, 96, .inl (fun _ => 0)))] := hD
  have hl := lv_entry ([.ref om, .int a1]) (n := 2) (Nat.le_of_ble_eq_true rfl)
  rw [lg_entry_eq]
  generalize (lg_sl ([.ref om, .int a1]) ++ List.replicate (2 - (lg_sl ([.ref om, .int a1])).length) Slot.unset).toArray = ls at hl ⊢
  have hl : lv_has ls 2 [(0, .ref om), (1, .int a1)] := hl
  refine lv_aload_n hx hb dX18_stuckShare_0 rfl (lv_at hl 0 rfl) ?_
  refine lv_iload_n hx hb dX18_stuckShare_1 rfl (lv_at hl 1 rfl) ?_
  have hPc := hP.sub (ws' := [(om, .inr (20, [.ref mt, .ref qu, .int 0, .int th, .ref lv, .int (-1), .int 0, .int 0, .ref mi, .int 0, .int 0, .int 0, .int 0, .ref ml, .ref mss, .ref rn, .ref sw, .ref mf, .null, .int 0, .ref msp, .int 0, .int 0, .int 0])), (lv, .inr (1, [.int 0, .ref de, .int 0])), (rn, .inr (1, [.int 0, .ref de, .int 0])), (sw, .inr (1, [.int 0, .ref de, .int 0])), (ml, .inl (cS, 6, .inl (slotF))), (mf, .inl (cF, 96, .inl (fun _ => 0)))]) [0, 1, 2, 3, 4, 5] rfl
  have hDc := hD.sub (ws' := [(om, .inr (20, [.ref mt, .ref qu, .int 0, .int th, .ref lv, .int (-1), .int 0, .int 0, .ref mi, .int 0, .int 0, .int 0, .int 0, .ref ml, .ref mss, .ref rn, .ref sw, .ref mf, .null, .int 0, .ref msp, .int 0, .int 0, .int 0])), (lv, .inr (1, [.int 0, .ref de, .int 0])), (rn, .inr (1, [.int 0, .ref de, .int 0])), (sw, .inr (1, [.int 0, .ref de, .int 0])), (ml, .inl (cS, 6, .inl (slotF))), (mf, .inl (cF, 96, .inl (fun _ => 0)))]) [0, 1, 2, 3, 4, 5] (by decide) rfl
  have hKc := hK.sub (tys' := [(cS, .int), (cF, .int)]) [0, 1] rfl
  have hFc := va_free (wc := [(om, .inr (20, [.ref mt, .ref qu, .int 0, .int th, .ref lv, .int (-1), .int 0, .int 0, .ref mi, .int 0, .int 0, .int 0, .int 0, .ref ml, .ref mss, .ref rn, .ref sw, .ref mf, .null, .int 0, .ref msp, .int 0, .int 0, .int 0])), (lv, .inr (1, [.int 0, .ref de, .int 0])), (rn, .inr (1, [.int 0, .ref de, .int 0])), (sw, .inr (1, [.int 0, .ref de, .int 0])), (ml, .inl (cS, 6, .inl (slotF))), (mf, .inl (cF, 96, .inl (fun _ => 0)))]) hD hS hA [0, 1, 2, 3, 4, 5] rfl
  refine va_calli (va_runV (As := [.int a1]) (rest := []) ⟨hx, hb, hml, hown, ht⟩ (c_X18_noLevel l dC dI de (om) (mt) (qu) (lv) (mi) (ml) (mss) (rn) (sw) (mf) (msp) (cS) (cF) (th) (a1) s.heap.size) (cwV 1 ht (gWV (wr_24 _ (List.mem_of_getElem? (i := 8) rfl)) (wr_24 _ (List.mem_of_getElem? (i := 9) rfl)) (wr_24 _ (List.mem_of_getElem? (i := 10) rfl)) (wr_1 _ (List.mem_of_getElem? (i := 5) rfl)) (wr_24 _ (List.mem_of_getElem? (i := 11) rfl))) rfl rfl rfl (by decide +kernel) ⟨Nat.le_of_ble_eq_true rfl, Nat.le_of_ble_eq_true rfl⟩) ⟨PW_blind, va_recv hKc hPc (ci := 20) (q0 := 0) rfl rfl, PW_call hPc hDc hKc hS hG hFc⟩ rfl rfl hl.1 rfl (lv_room (Nat.le_of_ble_eq_true rfl)) dX18_stuckShare_2 ⟨Nat.le_of_ble_eq_true rfl, Nat.le_of_ble_eq_true rfl⟩) hS (fun q _ h => hFc q h) hFc (fun r_2 u t H1 locs ht9 hvm hw hB hz1 hk1 hS => ?_)
  obtain ⟨hP1, hK1, hD1⟩ := hB
  rw [ht9] at hP1
  have hK1 := va_K.moved hvm.symm hK1
  obtain ⟨hP, hD⟩ := va_join (wr := []) (w1 := [(om, .inr (20, [.ref mt, .ref qu, .int 0, .int 1, .ref lv, .int (-1), .int 0, .int 0, .ref mi, .int 0, .int 0, .int 0, .int 0, .ref ml, .ref mss, .ref rn, .ref sw, .ref mf, .null, .int 0, .ref msp, .int 0, .int 0, .int 0])), (lv, .inr (1, [.int 0, .ref de, .int 0])), (rn, .inr (1, [.int 0, .ref de, .int 0])), (sw, .inr (1, [.int 0, .ref de, .int 0])), (ml, .inl (cS, 6, .inl (slotF))), (mf, .inl (cF, 96, .inl (fun _ => 0)))]) hP hD [0, 1, 2, 3, 4, 5] [] rfl rfl (by decide) (by decide) hk1 hFc hP1 hD1
  have hK := (hK.sub (tys' := []) [] rfl).app hK1
  generalize H1 = H at hP hS ⊢
  replace hP : va_P (dC, dI) vwCl [(om, .inr (20, [.ref mt, .ref qu, .int 0, .int 1, .ref lv, .int (-1), .int 0, .int 0, .ref mi, .int 0, .int 0, .int 0, .int 0, .ref ml, .ref mss, .ref rn, .ref sw, .ref mf, .null, .int 0, .ref msp, .int 0, .int 0, .int 0])), (lv, .inr (1, [.int 0, .ref de, .int 0])), (rn, .inr (1, [.int 0, .ref de, .int 0])), (sw, .inr (1, [.int 0, .ref de, .int 0])), (ml, .inl (cS, 6, .inl (slotF))), (mf, .inl (cF, 96, .inl (fun _ => 0)))] H := hP
  replace hD : va_D A [(om, .inr (20, [.ref mt, .ref qu, .int 0, .int 1, .ref lv, .int (-1), .int 0, .int 0, .ref mi, .int 0, .int 0, .int 0, .int 0, .ref ml, .ref mss, .ref rn, .ref sw, .ref mf, .null, .int 0, .ref msp, .int 0, .int 0, .int 0])), (lv, .inr (1, [.int 0, .ref de, .int 0])), (rn, .inr (1, [.int 0, .ref de, .int 0])), (sw, .inr (1, [.int 0, .ref de, .int 0])), (ml, .inl (cS, 6, .inl (slotF))), (mf, .inl (cF, 96, .inl (fun _ => 0)))] := hD
  have hK : va_K (dC, dI) vwCl [(cS, .int), (cF, .int)] s := hK
  have e_2 : r_2 = 1 := hw
  subst e_2
  refine lv_if_eq (tgt := 12) hx hb dX18_stuckShare_5 (by decide) (fun c_5 => absurd c_5 (by decide)) (fun c_5 => ?_)
  refine lv_fconst0 hx hb dX18_stuckShare_8 ?_
  refine lv_goto (tgt := 31) hx hb dX18_stuckShare_9 (by decide) ?_
  have hP9 := hP.sub (ws' := [(om, .inr (20, [.ref mt, .ref qu, .int 0, .int 1, .ref lv, .int (-1), .int 0, .int 0, .ref mi, .int 0, .int 0, .int 0, .int 0, .ref ml, .ref mss, .ref rn, .ref sw, .ref mf, .null, .int 0, .ref msp, .int 0, .int 0, .int 0])), (lv, .inr (1, [.int 0, .ref de, .int 0])), (rn, .inr (1, [.int 0, .ref de, .int 0])), (sw, .inr (1, [.int 0, .ref de, .int 0])), (ml, .inl (cS, 6, .inl (slotF))), (mf, .inl (cF, 96, .inl (fun _ => 0)))]) [0, 1, 2, 3, 4, 5] rfl
  have hD9 := hD.sub (ws' := [(om, .inr (20, [.ref mt, .ref qu, .int 0, .int 1, .ref lv, .int (-1), .int 0, .int 0, .ref mi, .int 0, .int 0, .int 0, .int 0, .ref ml, .ref mss, .ref rn, .ref sw, .ref mf, .null, .int 0, .ref msp, .int 0, .int 0, .int 0])), (lv, .inr (1, [.int 0, .ref de, .int 0])), (rn, .inr (1, [.int 0, .ref de, .int 0])), (sw, .inr (1, [.int 0, .ref de, .int 0])), (ml, .inl (cS, 6, .inl (slotF))), (mf, .inl (cF, 96, .inl (fun _ => 0)))]) [0, 1, 2, 3, 4, 5] (by decide) rfl
  have hK9 := hK.sub (tys' := [(cS, .int), (cF, .int)]) [0, 1] rfl
  exact W.fret (v := FP.fconst0) hx hb hr (fun t htt hW => have ht := htt; ⟨⟨FP.fconst0, (), rfl, trivial, QW_of ht hW hP9 hK9 hD9⟩, hS.F ht⟩) hS.2.2 dX18_stuckShare_31
set_option maxHeartbeats 4000000 in
set_option maxRecDepth 100000 in
theorem c_X18_meanLeft (l : Launch) (dC : Nat → ClassId) (dI : Nat → Nat → Nat) (de : Nat) (om : Nat) (mt : Nat) (qu : Nat) (lv : Nat) (mi : Nat) (ml : Nat) (mss : Nat) (rn : Nat) (sw : Nat) (mf : Nat) (msp : Nat) (cS : ClassId) (cF : ClassId) (th : Int32) (a1 : Int32) (sz : Nat) : Met l yX18_meanLeft (.code yX18_meanLeft cX18_meanLeft 8 (some .double) :: wsL_law) { frames := 3, cells := 0, slots := 0, locals := 64 } (va_Pc [.ref om, .int a1] (PW dC dI de [(cS, .int), (cF, .int)] (WM om mt qu lv mi ml mss rn sw mf msp cS cF th de) sz)) (va_Qd (fun (r : UInt64) (u : Unit) => True) (fun (_ : Unit) (t : State) => QW dC dI [(cS, .int), (cF, .int)] (WM om mt qu lv mi ml mss rn sw mf msp cS cF 1 de) (va_A (WM om mt qu lv mi ml mss rn sw mf msp cS cF th de) sz) t) (va_A (WM om mt qu lv mi ml mss rn sw mf msp cS cF th de) sz)) 0 0 (va_A (WM om mt qu lv mi ml mss rn sw mf msp cS cF th de) sz) := by
  refine Met.ofW (cc := cX18_meanLeft) (maxL := 8) (ret := (some .double)) (by decide) rfl ?_
  intro p e s m args below meth c s₁ B hml hv
  obtain ⟨rfl, hsz, hP, hK, hD0, hG⟩ := hv
  have hx := B.exec
  have hb := B.bytes
  have hr := B.returns
  have hts := atoms_spec (ws := .code yX18_meanLeft cX18_meanLeft 8 (some .double) :: wsL_law) B.pre
  have ht : ∀ w ∈ wsL_law, w.before _ s = true := fun w h => hts w (List.mem_cons_of_mem _ h)
  have hown : s.vm.findClass RX18 = some m.cls := findClass_of_methodNamed B.named
  have hlocks := B.notSynchronized
  subst hsz
  have hD := hD0.self (sz := s.heap.size)
  generalize hAe : va_A (WM om mt qu lv mi ml mss rn sw mf msp cS cF th de) s.heap.size = A at hD hG ⊢
  have hA : ∀ q : Nat, s.heap.size ≤ q → A q := fun q h => by rw [← hAe]; exact Or.inr h
  have hS : va_S A s.heap s.heap [] := va_S.rf
  have hP : va_P (dC, dI) vwCl [(om, .inr (20, [.ref mt, .ref qu, .int 0, .int th, .ref lv, .int (-1), .int 0, .int 0, .ref mi, .int 0, .int 0, .int 0, .int 0, .ref ml, .ref mss, .ref rn, .ref sw, .ref mf, .null, .int 0, .ref msp, .int 0, .int 0, .int 0])), (lv, .inr (1, [.int 0, .ref de, .int 0])), (rn, .inr (1, [.int 0, .ref de, .int 0])), (sw, .inr (1, [.int 0, .ref de, .int 0])), (ml, .inl (cS, 6, .inl (slotF))), (mf, .inl (cF, 96, .inl (fun _ => 0)))] s.heap := hP
  have hD : va_D A [(om, .inr (20, [.ref mt, .ref qu, .int 0, .int th, .ref lv, .int (-1), .int 0, .int 0, .ref mi, .int 0, .int 0, .int 0, .int 0, .ref ml, .ref mss, .ref rn, .ref sw, .ref mf, .null, .int 0, .ref msp, .int 0, .int 0, .int 0])), (lv, .inr (1, [.int 0, .ref de, .int 0])), (rn, .inr (1, [.int 0, .ref de, .int 0])), (sw, .inr (1, [.int 0, .ref de, .int 0])), (ml, .inl (cS, 6, .inl (slotF))), (mf, .inl (cF, 96, .inl (fun _ => 0)))] := hD
  have hl := lv_entry ([.ref om, .int a1]) (n := 8) (Nat.le_of_ble_eq_true rfl)
  rw [lg_entry_eq]
  generalize (lg_sl ([.ref om, .int a1]) ++ List.replicate (8 - (lg_sl ([.ref om, .int a1])).length) Slot.unset).toArray = ls at hl ⊢
  have hl : lv_has ls 8 [(0, .ref om), (1, .int a1)] := hl
  refine lv_aload_n hx hb dX18_meanLeft_0 rfl (lv_at hl 0 rfl) ?_
  refine lv_iload_n hx hb dX18_meanLeft_1 rfl (lv_at hl 1 rfl) ?_
  have hPc := hP.sub (ws' := [(om, .inr (20, [.ref mt, .ref qu, .int 0, .int th, .ref lv, .int (-1), .int 0, .int 0, .ref mi, .int 0, .int 0, .int 0, .int 0, .ref ml, .ref mss, .ref rn, .ref sw, .ref mf, .null, .int 0, .ref msp, .int 0, .int 0, .int 0])), (lv, .inr (1, [.int 0, .ref de, .int 0])), (rn, .inr (1, [.int 0, .ref de, .int 0])), (sw, .inr (1, [.int 0, .ref de, .int 0])), (ml, .inl (cS, 6, .inl (slotF))), (mf, .inl (cF, 96, .inl (fun _ => 0)))]) [0, 1, 2, 3, 4, 5] rfl
  have hDc := hD.sub (ws' := [(om, .inr (20, [.ref mt, .ref qu, .int 0, .int th, .ref lv, .int (-1), .int 0, .int 0, .ref mi, .int 0, .int 0, .int 0, .int 0, .ref ml, .ref mss, .ref rn, .ref sw, .ref mf, .null, .int 0, .ref msp, .int 0, .int 0, .int 0])), (lv, .inr (1, [.int 0, .ref de, .int 0])), (rn, .inr (1, [.int 0, .ref de, .int 0])), (sw, .inr (1, [.int 0, .ref de, .int 0])), (ml, .inl (cS, 6, .inl (slotF))), (mf, .inl (cF, 96, .inl (fun _ => 0)))]) [0, 1, 2, 3, 4, 5] (by decide) rfl
  have hKc := hK.sub (tys' := [(cS, .int), (cF, .int)]) [0, 1] rfl
  have hFc := va_free (wc := [(om, .inr (20, [.ref mt, .ref qu, .int 0, .int th, .ref lv, .int (-1), .int 0, .int 0, .ref mi, .int 0, .int 0, .int 0, .int 0, .ref ml, .ref mss, .ref rn, .ref sw, .ref mf, .null, .int 0, .ref msp, .int 0, .int 0, .int 0])), (lv, .inr (1, [.int 0, .ref de, .int 0])), (rn, .inr (1, [.int 0, .ref de, .int 0])), (sw, .inr (1, [.int 0, .ref de, .int 0])), (ml, .inl (cS, 6, .inl (slotF))), (mf, .inl (cF, 96, .inl (fun _ => 0)))]) hD hS hA [0, 1, 2, 3, 4, 5] rfl
  refine va_callq (va_runV (As := [.int a1]) (rest := []) ⟨hx, hb, hml, hown, ht⟩ (c_X18_won l dC dI de (om) (mt) (qu) (lv) (mi) (ml) (mss) (rn) (sw) (mf) (msp) (cS) (cF) (th) (a1) s.heap.size) (cwV 1 ht (gWV (wr_38 _ (List.mem_of_getElem? (i := 9) rfl)) (wr_38 _ (List.mem_of_getElem? (i := 10) rfl)) (wr_38 _ (List.mem_of_getElem? (i := 11) rfl)) (wr_1 _ (List.mem_of_getElem? (i := 5) rfl)) (wr_38 _ (List.mem_of_getElem? (i := 12) rfl))) rfl rfl rfl (by decide +kernel) ⟨Nat.le_of_ble_eq_true rfl, Nat.le_of_ble_eq_true rfl⟩) ⟨PW_blind, va_recv hKc hPc (ci := 20) (q0 := 0) rfl rfl, PW_call hPc hDc hKc hS hG hFc⟩ rfl rfl hl.1 rfl (lv_room (Nat.le_of_ble_eq_true rfl)) dX18_meanLeft_2 ⟨Nat.le_of_ble_eq_true rfl, Nat.le_of_ble_eq_true rfl⟩) hS (fun q _ h => hFc q h) hFc (fun r_2 u t H1 locs ht9 hvm hw hB hz1 hk1 hS => ?_)
  obtain ⟨hP1, hK1, hD1⟩ := hB
  rw [ht9] at hP1
  have hK1 := va_K.moved hvm.symm hK1
  obtain ⟨hP, hD⟩ := va_join (wr := []) (w1 := [(om, .inr (20, [.ref mt, .ref qu, .int 0, .int 1, .ref lv, .int (-1), .int 0, .int 0, .ref mi, .int 0, .int 0, .int 0, .int 0, .ref ml, .ref mss, .ref rn, .ref sw, .ref mf, .null, .int 0, .ref msp, .int 0, .int 0, .int 0])), (lv, .inr (1, [.int 0, .ref de, .int 0])), (rn, .inr (1, [.int 0, .ref de, .int 0])), (sw, .inr (1, [.int 0, .ref de, .int 0])), (ml, .inl (cS, 6, .inl (slotF))), (mf, .inl (cF, 96, .inl (fun _ => 0)))]) hP hD [0, 1, 2, 3, 4, 5] [] rfl rfl (by decide) (by decide) hk1 hFc hP1 hD1
  have hK := (hK.sub (tys' := []) [] rfl).app hK1
  generalize H1 = H at hP hS ⊢
  replace hP : va_P (dC, dI) vwCl [(om, .inr (20, [.ref mt, .ref qu, .int 0, .int 1, .ref lv, .int (-1), .int 0, .int 0, .ref mi, .int 0, .int 0, .int 0, .int 0, .ref ml, .ref mss, .ref rn, .ref sw, .ref mf, .null, .int 0, .ref msp, .int 0, .int 0, .int 0])), (lv, .inr (1, [.int 0, .ref de, .int 0])), (rn, .inr (1, [.int 0, .ref de, .int 0])), (sw, .inr (1, [.int 0, .ref de, .int 0])), (ml, .inl (cS, 6, .inl (slotF))), (mf, .inl (cF, 96, .inl (fun _ => 0)))] H := hP
  replace hD : va_D A [(om, .inr (20, [.ref mt, .ref qu, .int 0, .int 1, .ref lv, .int (-1), .int 0, .int 0, .ref mi, .int 0, .int 0, .int 0, .int 0, .ref ml, .ref mss, .ref rn, .ref sw, .ref mf, .null, .int 0, .ref msp, .int 0, .int 0, .int 0])), (lv, .inr (1, [.int 0, .ref de, .int 0])), (rn, .inr (1, [.int 0, .ref de, .int 0])), (sw, .inr (1, [.int 0, .ref de, .int 0])), (ml, .inl (cS, 6, .inl (slotF))), (mf, .inl (cF, 96, .inl (fun _ => 0)))] := hD
  have hK : va_K (dC, dI) vwCl [(cS, .int), (cF, .int)] s := hK
  have e_2 : r_2 = none := hw
  subst e_2
  refine W.eq (g2 := F0 m 5 ls [.null]) rfl ?_
  refine lv_astore_nN (lv' := [(2, .null), (0, .ref om), (1, .int a1)]) hx hb dX18_meanLeft_5 rfl hl (by decide) rfl (fun ls hl => ?_)
  refine lv_aload_nN hx hb dX18_meanLeft_6 rfl (lv_at hl 0 rfl) ?_
  refine lv_ifnonnullN hx hb dX18_meanLeft_7 ?_
  refine lv_dconst0 hx hb dX18_meanLeft_10 ?_
  have hP9 := hP.sub (ws' := [(om, .inr (20, [.ref mt, .ref qu, .int 0, .int 1, .ref lv, .int (-1), .int 0, .int 0, .ref mi, .int 0, .int 0, .int 0, .int 0, .ref ml, .ref mss, .ref rn, .ref sw, .ref mf, .null, .int 0, .ref msp, .int 0, .int 0, .int 0])), (lv, .inr (1, [.int 0, .ref de, .int 0])), (rn, .inr (1, [.int 0, .ref de, .int 0])), (sw, .inr (1, [.int 0, .ref de, .int 0])), (ml, .inl (cS, 6, .inl (slotF))), (mf, .inl (cF, 96, .inl (fun _ => 0)))]) [0, 1, 2, 3, 4, 5] rfl
  have hD9 := hD.sub (ws' := [(om, .inr (20, [.ref mt, .ref qu, .int 0, .int 1, .ref lv, .int (-1), .int 0, .int 0, .ref mi, .int 0, .int 0, .int 0, .int 0, .ref ml, .ref mss, .ref rn, .ref sw, .ref mf, .null, .int 0, .ref msp, .int 0, .int 0, .int 0])), (lv, .inr (1, [.int 0, .ref de, .int 0])), (rn, .inr (1, [.int 0, .ref de, .int 0])), (sw, .inr (1, [.int 0, .ref de, .int 0])), (ml, .inl (cS, 6, .inl (slotF))), (mf, .inl (cF, 96, .inl (fun _ => 0)))]) [0, 1, 2, 3, 4, 5] (by decide) rfl
  have hK9 := hK.sub (tys' := [(cS, .int), (cF, .int)]) [0, 1] rfl
  exact W.dret (v := FP.dconst0) hx hb hr (fun t htt hW => have ht := htt; ⟨⟨FP.dconst0, (), rfl, trivial, QW_of ht hW hP9 hK9 hD9⟩, hS.F ht⟩) hS.2.2 dX18_meanLeft_11
