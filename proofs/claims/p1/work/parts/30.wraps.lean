abbrev WXJ (ox pl ru sh sp sl gr re pr ga rp bo fa gpl gin bbe bdi oq : Nat) (cP cI cL : ClassId) (de : Nat) : va_W := [(ox, .inr (13, [.ref pl, .ref ru, .ref sh, .ref sp, .ref sl, .ref gr, .ref re, .ref pr, .ref ga, .ref rp, .ref bo, .int 0])), (pl, .inr (1, [.int 0, .ref de, .int 0])), (ru, .inr (1, [.int 0, .ref de, .int 0])), (sh, .inr (1, [.int 0, .ref de, .int 0])), (sp, .inl (cP, 6, .inr (.inr (.inr (.inr (fun _ => none)))))), (ga, .inr (5, [.ref gpl, .ref gin, .int (-1), .int 0, .int 112, .int 0])), (bo, .inr (2, [.ref fa, .ref bbe, .ref bdi, .int 0, .int 0])), (fa, .inl (cI, 96, .inl (fun _ => 0))), (oq, .inl (cL, 1, .inr (.inl (fun _ => 0))))]
abbrev WXD (ox pl ru sh sp sl gr re pr ga rp bo fa gpl gin bbe bdi oq : Nat) (cP cI cL : ClassId) (de : Nat) : va_W := [(ox, .inr (13, [.ref pl, .ref ru, .ref sh, .ref sp, .ref sl, .ref gr, .ref re, .ref pr, .ref ga, .ref rp, .ref bo, .int 0])), (pl, .inr (1, [.int 0, .ref de, .int 0])), (ru, .inr (1, [.int 0, .ref de, .int 0])), (sh, .inr (1, [.int 0, .ref de, .int 0])), (sp, .inl (cP, 6, .inr (.inr (.inr (.inr (fun _ => none)))))), (ga, .inr (5, [.ref gpl, .ref gin, .int (-1), .int 0, .int 112, .int 0])), (bo, .inr (2, [.ref fa, .ref bbe, .ref bdi, .int 0, .int 0])), (fa, .inl (cI, 96, .inl (fun _ => 0))), (oq, .inl (cL, 1, .inr (.inr (.inr (.inl (fun _ => 0))))))]
theorem va_P_nil (D : va_G) (cl : List vw_C) (H : Heap) : va_P D cl [] H := fun k q h => by simp at h
theorem va_D_nil (A : Nat → Prop) : va_D A [] := ⟨fun i j p q h => by simp at h, fun k q h => by simp at h⟩
theorem dX11_isSound_0 : decode cX11_isSound 0 = .ok (.iconst 0, 1) := by decide +kernel
theorem dX11_isSound_1 : decode cX11_isSound 1 = .ok (.istore_n 1, 1) := by decide +kernel
theorem dX11_isSound_2 : decode cX11_isSound 2 = .ok (.iload_n 1, 1) := by decide +kernel
theorem dX11_isSound_3 : decode cX11_isSound 3 = .ok (.aload_n 0, 1) := by decide +kernel
theorem dX11_isSound_4 : decode cX11_isSound 4 = .ok (.getfield 12, 3) := by decide +kernel
theorem dX11_isSound_7 : decode cX11_isSound 7 = .ok (.invokevirtual 108, 3) := by decide +kernel
theorem dX11_isSound_10 : decode cX11_isSound 10 = .ok (.if_icmp .ge 33, 3) := by decide +kernel
theorem dX11_isSound_43 : decode cX11_isSound 43 = .ok (.iconst 1, 1) := by decide +kernel
theorem dX11_isSound_44 : decode cX11_isSound 44 = .ok (.ireturn, 1) := by decide +kernel
theorem dL_put_0 : decode cL_put 0 = .ok (.aload 5, 2) := by decide +kernel
theorem dL_put_2 : decode cL_put 2 = .ok (.iconst 0, 1) := by decide +kernel
theorem dL_put_3 : decode cL_put 3 = .ok (.aload_n 0, 1) := by decide +kernel
theorem dL_put_4 : decode cL_put 4 = .ok (.iload_n 1, 1) := by decide +kernel
theorem dL_put_5 : decode cL_put 5 = .ok (.iload_n 2, 1) := by decide +kernel
theorem dL_put_6 : decode cL_put 6 = .ok (.iload_n 3, 1) := by decide +kernel
theorem dL_put_7 : decode cL_put 7 = .ok (.iload 4, 2) := by decide +kernel
theorem dL_put_9 : decode cL_put 9 = .ok (.invokevirtual 17, 3) := by decide +kernel
theorem dL_put_17 : decode cL_put 17 = .ok (.astore 6, 2) := by decide +kernel
theorem dL_put_19 : decode cL_put 19 = .ok (.iconst 1, 1) := by decide +kernel
theorem dL_put_20 : decode cL_put 20 = .ok (.ireturn, 1) := by decide +kernel
theorem dL_fill_0 : decode cL_fill 0 = .ok (.aload 7, 2) := by decide +kernel
theorem dL_fill_2 : decode cL_fill 2 = .ok (.iconst 0, 1) := by decide +kernel
theorem dL_fill_3 : decode cL_fill 3 = .ok (.aload_n 0, 1) := by decide +kernel
theorem dL_fill_4 : decode cL_fill 4 = .ok (.iload_n 1, 1) := by decide +kernel
theorem dL_fill_5 : decode cL_fill 5 = .ok (.iload_n 2, 1) := by decide +kernel
theorem dL_fill_6 : decode cL_fill 6 = .ok (.iload_n 3, 1) := by decide +kernel
theorem dL_fill_7 : decode cL_fill 7 = .ok (.iload 4, 2) := by decide +kernel
theorem dL_fill_9 : decode cL_fill 9 = .ok (.iload 5, 2) := by decide +kernel
theorem dL_fill_11 : decode cL_fill 11 = .ok (.iload 6, 2) := by decide +kernel
theorem dL_fill_13 : decode cL_fill 13 = .ok (.invokevirtual 23, 3) := by decide +kernel
theorem dL_fill_21 : decode cL_fill 21 = .ok (.astore 8, 2) := by decide +kernel
theorem dL_fill_23 : decode cL_fill 23 = .ok (.iconst 1, 1) := by decide +kernel
theorem dL_fill_24 : decode cL_fill 24 = .ok (.ireturn, 1) := by decide +kernel
theorem dL_tile_0 : decode cL_tile 0 = .ok (.aload 4, 2) := by decide +kernel
theorem dL_tile_2 : decode cL_tile 2 = .ok (.iconst 0, 1) := by decide +kernel
theorem dL_tile_3 : decode cL_tile 3 = .ok (.aload_n 0, 1) := by decide +kernel
theorem dL_tile_4 : decode cL_tile 4 = .ok (.iload_n 1, 1) := by decide +kernel
theorem dL_tile_5 : decode cL_tile 5 = .ok (.iload_n 2, 1) := by decide +kernel
theorem dL_tile_6 : decode cL_tile 6 = .ok (.iload_n 3, 1) := by decide +kernel
theorem dL_tile_7 : decode cL_tile 7 = .ok (.invokevirtual 27, 3) := by decide +kernel
theorem dL_tile_15 : decode cL_tile 15 = .ok (.astore 5, 2) := by decide +kernel
theorem dL_tile_17 : decode cL_tile 17 = .ok (.iconst 1, 1) := by decide +kernel
theorem dL_tile_18 : decode cL_tile 18 = .ok (.ireturn, 1) := by decide +kernel
theorem dL_start_0 : decode cL_start 0 = .ok (.aload 4, 2) := by decide +kernel
theorem dL_start_2 : decode cL_start 2 = .ok (.iconst 0, 1) := by decide +kernel
theorem dL_start_3 : decode cL_start 3 = .ok (.aload_n 0, 1) := by decide +kernel
theorem dL_start_4 : decode cL_start 4 = .ok (.iload_n 1, 1) := by decide +kernel
theorem dL_start_5 : decode cL_start 5 = .ok (.iload_n 2, 1) := by decide +kernel
theorem dL_start_6 : decode cL_start 6 = .ok (.iload_n 3, 1) := by decide +kernel
theorem dL_start_7 : decode cL_start 7 = .ok (.invokevirtual 31, 3) := by decide +kernel
theorem dL_start_15 : decode cL_start 15 = .ok (.astore 5, 2) := by decide +kernel
theorem dL_start_17 : decode cL_start 17 = .ok (.iconst 1, 1) := by decide +kernel
theorem dL_start_18 : decode cL_start 18 = .ok (.ireturn, 1) := by decide +kernel
theorem dL_guard_0 : decode cL_guard 0 = .ok (.aload 5, 2) := by decide +kernel
theorem dL_guard_2 : decode cL_guard 2 = .ok (.iconst 0, 1) := by decide +kernel
theorem dL_guard_3 : decode cL_guard 3 = .ok (.aload_n 0, 1) := by decide +kernel
theorem dL_guard_4 : decode cL_guard 4 = .ok (.iload_n 1, 1) := by decide +kernel
theorem dL_guard_5 : decode cL_guard 5 = .ok (.iload_n 2, 1) := by decide +kernel
theorem dL_guard_6 : decode cL_guard 6 = .ok (.iload_n 3, 1) := by decide +kernel
theorem dL_guard_7 : decode cL_guard 7 = .ok (.iload 4, 2) := by decide +kernel
theorem dL_guard_9 : decode cL_guard 9 = .ok (.invokevirtual 35, 3) := by decide +kernel
theorem dL_guard_17 : decode cL_guard 17 = .ok (.astore 6, 2) := by decide +kernel
theorem dL_guard_19 : decode cL_guard 19 = .ok (.iconst 1, 1) := by decide +kernel
theorem dL_guard_20 : decode cL_guard 20 = .ok (.ireturn, 1) := by decide +kernel
theorem dL_guardAt_0 : decode cL_guardAt 0 = .ok (.aload 4, 2) := by decide +kernel
theorem dL_guardAt_2 : decode cL_guardAt 2 = .ok (.iconst 0, 1) := by decide +kernel
theorem dL_guardAt_3 : decode cL_guardAt 3 = .ok (.aload_n 0, 1) := by decide +kernel
theorem dL_guardAt_4 : decode cL_guardAt 4 = .ok (.iload_n 1, 1) := by decide +kernel
theorem dL_guardAt_5 : decode cL_guardAt 5 = .ok (.iload_n 2, 1) := by decide +kernel
theorem dL_guardAt_6 : decode cL_guardAt 6 = .ok (.iload_n 3, 1) := by decide +kernel
theorem dL_guardAt_7 : decode cL_guardAt 7 = .ok (.invokevirtual 39, 3) := by decide +kernel
theorem dL_guardAt_15 : decode cL_guardAt 15 = .ok (.astore 5, 2) := by decide +kernel
theorem dL_guardAt_17 : decode cL_guardAt 17 = .ok (.iconst 1, 1) := by decide +kernel
theorem dL_guardAt_18 : decode cL_guardAt 18 = .ok (.ireturn, 1) := by decide +kernel
theorem dL_copy_0 : decode cL_copy 0 = .ok (.aload_n 2, 1) := by decide +kernel
theorem dL_copy_1 : decode cL_copy 1 = .ok (.iconst 0, 1) := by decide +kernel
theorem dL_copy_2 : decode cL_copy 2 = .ok (.aload_n 0, 1) := by decide +kernel
theorem dL_copy_3 : decode cL_copy 3 = .ok (.iload_n 1, 1) := by decide +kernel
theorem dL_copy_4 : decode cL_copy 4 = .ok (.invokevirtual 42, 3) := by decide +kernel
theorem dL_copy_12 : decode cL_copy 12 = .ok (.astore_n 3, 1) := by decide +kernel
theorem dL_copy_13 : decode cL_copy 13 = .ok (.iconst 1, 1) := by decide +kernel
theorem dL_copy_14 : decode cL_copy 14 = .ok (.ireturn, 1) := by decide +kernel
theorem dL_grow_0 : decode cL_grow 0 = .ok (.aload_n 3, 1) := by decide +kernel
theorem dL_grow_1 : decode cL_grow 1 = .ok (.iconst 0, 1) := by decide +kernel
theorem dL_grow_2 : decode cL_grow 2 = .ok (.aload_n 0, 1) := by decide +kernel
theorem dL_grow_3 : decode cL_grow 3 = .ok (.iload_n 1, 1) := by decide +kernel
theorem dL_grow_4 : decode cL_grow 4 = .ok (.iload_n 2, 1) := by decide +kernel
theorem dL_grow_5 : decode cL_grow 5 = .ok (.invokevirtual 46, 3) := by decide +kernel
theorem dL_grow_13 : decode cL_grow 13 = .ok (.astore 4, 2) := by decide +kernel
theorem dL_grow_15 : decode cL_grow 15 = .ok (.iconst 1, 1) := by decide +kernel
theorem dL_grow_16 : decode cL_grow 16 = .ok (.ireturn, 1) := by decide +kernel
theorem dL_isWinnable_0 : decode cL_isWinnable 0 = .ok (.aload_n 2, 1) := by decide +kernel
theorem dL_isWinnable_1 : decode cL_isWinnable 1 = .ok (.iconst 0, 1) := by decide +kernel
theorem dL_isWinnable_2 : decode cL_isWinnable 2 = .ok (.aload_n 0, 1) := by decide +kernel
theorem dL_isWinnable_3 : decode cL_isWinnable 3 = .ok (.iload_n 1, 1) := by decide +kernel
theorem dL_isWinnable_4 : decode cL_isWinnable 4 = .ok (.invokevirtual 50, 3) := by decide +kernel
theorem dL_isWinnable_19 : decode cL_isWinnable 19 = .ok (.astore_n 3, 1) := by decide +kernel
theorem dL_isWinnable_20 : decode cL_isWinnable 20 = .ok (.iconst 1, 1) := by decide +kernel
theorem dL_isWinnable_21 : decode cL_isWinnable 21 = .ok (.ireturn, 1) := by decide +kernel
theorem dL_frames_0 : decode cL_frames 0 = .ok (.aload_n 2, 1) := by decide +kernel
theorem dL_frames_1 : decode cL_frames 1 = .ok (.iconst 0, 1) := by decide +kernel
theorem dL_frames_2 : decode cL_frames 2 = .ok (.aload_n 0, 1) := by decide +kernel
theorem dL_frames_3 : decode cL_frames 3 = .ok (.iload_n 1, 1) := by decide +kernel
theorem dL_frames_4 : decode cL_frames 4 = .ok (.invokevirtual 54, 3) := by decide +kernel
theorem dL_frames_12 : decode cL_frames 12 = .ok (.astore_n 3, 1) := by decide +kernel
theorem dL_frames_13 : decode cL_frames 13 = .ok (.iconst 1, 1) := by decide +kernel
theorem dL_frames_14 : decode cL_frames 14 = .ok (.ireturn, 1) := by decide +kernel
theorem dL_routeAt_0 : decode cL_routeAt 0 = .ok (.aload_n 3, 1) := by decide +kernel
theorem dL_routeAt_1 : decode cL_routeAt 1 = .ok (.iconst 0, 1) := by decide +kernel
theorem dL_routeAt_2 : decode cL_routeAt 2 = .ok (.aload_n 0, 1) := by decide +kernel
theorem dL_routeAt_3 : decode cL_routeAt 3 = .ok (.iload_n 1, 1) := by decide +kernel
theorem dL_routeAt_4 : decode cL_routeAt 4 = .ok (.iload_n 2, 1) := by decide +kernel
theorem dL_routeAt_5 : decode cL_routeAt 5 = .ok (.invokevirtual 59, 3) := by decide +kernel
theorem dL_routeAt_13 : decode cL_routeAt 13 = .ok (.astore 4, 2) := by decide +kernel
theorem dL_routeAt_15 : decode cL_routeAt 15 = .ok (.iconst 1, 1) := by decide +kernel
theorem dL_routeAt_16 : decode cL_routeAt 16 = .ok (.ireturn, 1) := by decide +kernel
theorem dL_states_0 : decode cL_states 0 = .ok (.aload_n 2, 1) := by decide +kernel
theorem dL_states_1 : decode cL_states 1 = .ok (.iconst 0, 1) := by decide +kernel
theorem dL_states_2 : decode cL_states 2 = .ok (.aload_n 0, 1) := by decide +kernel
theorem dL_states_3 : decode cL_states 3 = .ok (.iload_n 1, 1) := by decide +kernel
theorem dL_states_4 : decode cL_states 4 = .ok (.invokevirtual 62, 3) := by decide +kernel
theorem dL_states_12 : decode cL_states 12 = .ok (.astore_n 3, 1) := by decide +kernel
theorem dL_states_13 : decode cL_states 13 = .ok (.iconst 1, 1) := by decide +kernel
theorem dL_states_14 : decode cL_states 14 = .ok (.ireturn, 1) := by decide +kernel
theorem dL_framesTo_0 : decode cL_framesTo 0 = .ok (.aload 4, 2) := by decide +kernel
theorem dL_framesTo_2 : decode cL_framesTo 2 = .ok (.iconst 0, 1) := by decide +kernel
theorem dL_framesTo_3 : decode cL_framesTo 3 = .ok (.aload_n 0, 1) := by decide +kernel
theorem dL_framesTo_4 : decode cL_framesTo 4 = .ok (.iload_n 1, 1) := by decide +kernel
theorem dL_framesTo_5 : decode cL_framesTo 5 = .ok (.iload_n 2, 1) := by decide +kernel
theorem dL_framesTo_6 : decode cL_framesTo 6 = .ok (.iload_n 3, 1) := by decide +kernel
theorem dL_framesTo_7 : decode cL_framesTo 7 = .ok (.invokevirtual 65, 3) := by decide +kernel
theorem dL_framesTo_15 : decode cL_framesTo 15 = .ok (.astore 5, 2) := by decide +kernel
theorem dL_framesTo_17 : decode cL_framesTo 17 = .ok (.iconst 1, 1) := by decide +kernel
theorem dL_framesTo_18 : decode cL_framesTo 18 = .ok (.ireturn, 1) := by decide +kernel
theorem dL_softLocks_0 : decode cL_softLocks 0 = .ok (.aload_n 2, 1) := by decide +kernel
theorem dL_softLocks_1 : decode cL_softLocks 1 = .ok (.iconst 0, 1) := by decide +kernel
theorem dL_softLocks_2 : decode cL_softLocks 2 = .ok (.aload_n 0, 1) := by decide +kernel
theorem dL_softLocks_3 : decode cL_softLocks 3 = .ok (.iload_n 1, 1) := by decide +kernel
theorem dL_softLocks_4 : decode cL_softLocks 4 = .ok (.invokevirtual 68, 3) := by decide +kernel
theorem dL_softLocks_12 : decode cL_softLocks 12 = .ok (.astore_n 3, 1) := by decide +kernel
theorem dL_softLocks_13 : decode cL_softLocks 13 = .ok (.iconst 1, 1) := by decide +kernel
theorem dL_softLocks_14 : decode cL_softLocks 14 = .ok (.ireturn, 1) := by decide +kernel
theorem dL_softLockAt_0 : decode cL_softLockAt 0 = .ok (.aload_n 3, 1) := by decide +kernel
theorem dL_softLockAt_1 : decode cL_softLockAt 1 = .ok (.iconst 0, 1) := by decide +kernel
theorem dL_softLockAt_2 : decode cL_softLockAt 2 = .ok (.aload_n 0, 1) := by decide +kernel
theorem dL_softLockAt_3 : decode cL_softLockAt 3 = .ok (.iload_n 1, 1) := by decide +kernel
theorem dL_softLockAt_4 : decode cL_softLockAt 4 = .ok (.iload_n 2, 1) := by decide +kernel
theorem dL_softLockAt_5 : decode cL_softLockAt 5 = .ok (.invokevirtual 71, 3) := by decide +kernel
theorem dL_softLockAt_13 : decode cL_softLockAt 13 = .ok (.astore 4, 2) := by decide +kernel
theorem dL_softLockAt_15 : decode cL_softLockAt 15 = .ok (.iconst 1, 1) := by decide +kernel
theorem dL_softLockAt_16 : decode cL_softLockAt 16 = .ok (.ireturn, 1) := by decide +kernel
theorem dL_ways_0 : decode cL_ways 0 = .ok (.aload_n 2, 1) := by decide +kernel
theorem dL_ways_1 : decode cL_ways 1 = .ok (.iconst 0, 1) := by decide +kernel
theorem dL_ways_2 : decode cL_ways 2 = .ok (.aload_n 0, 1) := by decide +kernel
theorem dL_ways_3 : decode cL_ways 3 = .ok (.iload_n 1, 1) := by decide +kernel
theorem dL_ways_4 : decode cL_ways 4 = .ok (.invokevirtual 75, 3) := by decide +kernel
theorem dL_ways_12 : decode cL_ways 12 = .ok (.astore_n 3, 1) := by decide +kernel
theorem dL_ways_13 : decode cL_ways 13 = .ok (.iconst 1, 1) := by decide +kernel
theorem dL_ways_14 : decode cL_ways 14 = .ok (.ireturn, 1) := by decide +kernel
theorem dL_isNeeded_0 : decode cL_isNeeded 0 = .ok (.aload_n 3, 1) := by decide +kernel
theorem dL_isNeeded_1 : decode cL_isNeeded 1 = .ok (.iconst 0, 1) := by decide +kernel
theorem dL_isNeeded_2 : decode cL_isNeeded 2 = .ok (.aload_n 0, 1) := by decide +kernel
theorem dL_isNeeded_3 : decode cL_isNeeded 3 = .ok (.iload_n 1, 1) := by decide +kernel
theorem dL_isNeeded_4 : decode cL_isNeeded 4 = .ok (.iload_n 2, 1) := by decide +kernel
theorem dL_isNeeded_5 : decode cL_isNeeded 5 = .ok (.invokevirtual 78, 3) := by decide +kernel
theorem dL_isNeeded_20 : decode cL_isNeeded 20 = .ok (.astore 4, 2) := by decide +kernel
theorem dL_isNeeded_22 : decode cL_isNeeded 22 = .ok (.iconst 1, 1) := by decide +kernel
theorem dL_isNeeded_23 : decode cL_isNeeded 23 = .ok (.ireturn, 1) := by decide +kernel
theorem dL_isWinnableWith_0 : decode cL_isWinnableWith 0 = .ok (.aload_n 3, 1) := by decide +kernel
theorem dL_isWinnableWith_1 : decode cL_isWinnableWith 1 = .ok (.iconst 0, 1) := by decide +kernel
theorem dL_isWinnableWith_2 : decode cL_isWinnableWith 2 = .ok (.aload_n 0, 1) := by decide +kernel
theorem dL_isWinnableWith_3 : decode cL_isWinnableWith 3 = .ok (.iload_n 1, 1) := by decide +kernel
theorem dL_isWinnableWith_4 : decode cL_isWinnableWith 4 = .ok (.iload_n 2, 1) := by decide +kernel
theorem dL_isWinnableWith_5 : decode cL_isWinnableWith 5 = .ok (.invokevirtual 82, 3) := by decide +kernel
theorem dL_isWinnableWith_20 : decode cL_isWinnableWith 20 = .ok (.astore 4, 2) := by decide +kernel
theorem dL_isWinnableWith_22 : decode cL_isWinnableWith 22 = .ok (.iconst 1, 1) := by decide +kernel
theorem dL_isWinnableWith_23 : decode cL_isWinnableWith 23 = .ok (.ireturn, 1) := by decide +kernel
theorem dL_mend_0 : decode cL_mend 0 = .ok (.aload_n 2, 1) := by decide +kernel
theorem dL_mend_1 : decode cL_mend 1 = .ok (.iconst 0, 1) := by decide +kernel
theorem dL_mend_2 : decode cL_mend 2 = .ok (.aload_n 0, 1) := by decide +kernel
theorem dL_mend_3 : decode cL_mend 3 = .ok (.iload_n 1, 1) := by decide +kernel
theorem dL_mend_4 : decode cL_mend 4 = .ok (.invokevirtual 85, 3) := by decide +kernel
theorem dL_mend_12 : decode cL_mend 12 = .ok (.astore_n 3, 1) := by decide +kernel
theorem dL_mend_13 : decode cL_mend 13 = .ok (.iconst 1, 1) := by decide +kernel
theorem dL_mend_14 : decode cL_mend 14 = .ok (.ireturn, 1) := by decide +kernel
theorem dL_mendAt_0 : decode cL_mendAt 0 = .ok (.aload_n 3, 1) := by decide +kernel
theorem dL_mendAt_1 : decode cL_mendAt 1 = .ok (.iconst 0, 1) := by decide +kernel
theorem dL_mendAt_2 : decode cL_mendAt 2 = .ok (.aload_n 0, 1) := by decide +kernel
theorem dL_mendAt_3 : decode cL_mendAt 3 = .ok (.iload_n 1, 1) := by decide +kernel
theorem dL_mendAt_4 : decode cL_mendAt 4 = .ok (.iload_n 2, 1) := by decide +kernel
theorem dL_mendAt_5 : decode cL_mendAt 5 = .ok (.invokevirtual 90, 3) := by decide +kernel
theorem dL_mendAt_13 : decode cL_mendAt 13 = .ok (.astore 4, 2) := by decide +kernel
theorem dL_mendAt_15 : decode cL_mendAt 15 = .ok (.iconst 1, 1) := by decide +kernel
theorem dL_mendAt_16 : decode cL_mendAt 16 = .ok (.ireturn, 1) := by decide +kernel
theorem dL_rests_0 : decode cL_rests 0 = .ok (.aload_n 2, 1) := by decide +kernel
theorem dL_rests_1 : decode cL_rests 1 = .ok (.iconst 0, 1) := by decide +kernel
theorem dL_rests_2 : decode cL_rests 2 = .ok (.aload_n 0, 1) := by decide +kernel
theorem dL_rests_3 : decode cL_rests 3 = .ok (.iload_n 1, 1) := by decide +kernel
theorem dL_rests_4 : decode cL_rests 4 = .ok (.invokevirtual 93, 3) := by decide +kernel
theorem dL_rests_12 : decode cL_rests 12 = .ok (.astore_n 3, 1) := by decide +kernel
theorem dL_rests_13 : decode cL_rests 13 = .ok (.iconst 1, 1) := by decide +kernel
theorem dL_rests_14 : decode cL_rests 14 = .ok (.ireturn, 1) := by decide +kernel
theorem dL_longestAir_0 : decode cL_longestAir 0 = .ok (.aload_n 2, 1) := by decide +kernel
theorem dL_longestAir_1 : decode cL_longestAir 1 = .ok (.iconst 0, 1) := by decide +kernel
theorem dL_longestAir_2 : decode cL_longestAir 2 = .ok (.aload_n 0, 1) := by decide +kernel
theorem dL_longestAir_3 : decode cL_longestAir 3 = .ok (.iload_n 1, 1) := by decide +kernel
theorem dL_longestAir_4 : decode cL_longestAir 4 = .ok (.invokevirtual 96, 3) := by decide +kernel
theorem dL_longestAir_12 : decode cL_longestAir 12 = .ok (.astore_n 3, 1) := by decide +kernel
theorem dL_longestAir_13 : decode cL_longestAir 13 = .ok (.iconst 1, 1) := by decide +kernel
theorem dL_longestAir_14 : decode cL_longestAir 14 = .ok (.ireturn, 1) := by decide +kernel
theorem dL_play_0 : decode cL_play 0 = .ok (.aload_n 2, 1) := by decide +kernel
theorem dL_play_1 : decode cL_play 1 = .ok (.iconst 0, 1) := by decide +kernel
theorem dL_play_2 : decode cL_play 2 = .ok (.aload_n 0, 1) := by decide +kernel
theorem dL_play_3 : decode cL_play 3 = .ok (.iload_n 1, 1) := by decide +kernel
theorem dL_play_4 : decode cL_play 4 = .ok (.invokevirtual 99, 3) := by decide +kernel
theorem dL_play_12 : decode cL_play 12 = .ok (.astore_n 3, 1) := by decide +kernel
theorem dL_play_13 : decode cL_play 13 = .ok (.iconst 1, 1) := by decide +kernel
theorem dL_play_14 : decode cL_play 14 = .ok (.ireturn, 1) := by decide +kernel
theorem dL_length_0 : decode cL_length 0 = .ok (.aload_n 2, 1) := by decide +kernel
theorem dL_length_1 : decode cL_length 1 = .ok (.iconst 0, 1) := by decide +kernel
theorem dL_length_2 : decode cL_length 2 = .ok (.aload_n 0, 1) := by decide +kernel
theorem dL_length_3 : decode cL_length 3 = .ok (.iload_n 1, 1) := by decide +kernel
theorem dL_length_4 : decode cL_length 4 = .ok (.invokevirtual 120, 3) := by decide +kernel
theorem dL_length_12 : decode cL_length 12 = .ok (.astore_n 3, 1) := by decide +kernel
theorem dL_length_13 : decode cL_length 13 = .ok (.iconst 1, 1) := by decide +kernel
theorem dL_length_14 : decode cL_length 14 = .ok (.ireturn, 1) := by decide +kernel
theorem dL_replay_0 : decode cL_replay 0 = .ok (.aload_n 2, 1) := by decide +kernel
theorem dL_replay_1 : decode cL_replay 1 = .ok (.iconst 0, 1) := by decide +kernel
theorem dL_replay_2 : decode cL_replay 2 = .ok (.aload_n 0, 1) := by decide +kernel
theorem dL_replay_3 : decode cL_replay 3 = .ok (.iload_n 1, 1) := by decide +kernel
theorem dL_replay_4 : decode cL_replay 4 = .ok (.invokevirtual 123, 3) := by decide +kernel
theorem dL_replay_12 : decode cL_replay 12 = .ok (.astore_n 3, 1) := by decide +kernel
theorem dL_replay_13 : decode cL_replay 13 = .ok (.iconst 1, 1) := by decide +kernel
theorem dL_replay_14 : decode cL_replay 14 = .ok (.ireturn, 1) := by decide +kernel
theorem dL_isTrue_0 : decode cL_isTrue 0 = .ok (.aload_n 2, 1) := by decide +kernel
theorem dL_isTrue_1 : decode cL_isTrue 1 = .ok (.iconst 0, 1) := by decide +kernel
theorem dL_isTrue_2 : decode cL_isTrue 2 = .ok (.aload_n 0, 1) := by decide +kernel
theorem dL_isTrue_3 : decode cL_isTrue 3 = .ok (.iload_n 1, 1) := by decide +kernel
theorem dL_isTrue_4 : decode cL_isTrue 4 = .ok (.invokevirtual 126, 3) := by decide +kernel
theorem dL_isTrue_19 : decode cL_isTrue 19 = .ok (.astore_n 3, 1) := by decide +kernel
theorem dL_isTrue_20 : decode cL_isTrue 20 = .ok (.iconst 1, 1) := by decide +kernel
theorem dL_isTrue_21 : decode cL_isTrue 21 = .ok (.ireturn, 1) := by decide +kernel
theorem dL_isPatched_0 : decode cL_isPatched 0 = .ok (.aload_n 2, 1) := by decide +kernel
theorem dL_isPatched_1 : decode cL_isPatched 1 = .ok (.iconst 0, 1) := by decide +kernel
theorem dL_isPatched_2 : decode cL_isPatched 2 = .ok (.aload_n 0, 1) := by decide +kernel
theorem dL_isPatched_3 : decode cL_isPatched 3 = .ok (.iload_n 1, 1) := by decide +kernel
theorem dL_isPatched_4 : decode cL_isPatched 4 = .ok (.invokevirtual 129, 3) := by decide +kernel
theorem dL_isPatched_19 : decode cL_isPatched 19 = .ok (.astore_n 3, 1) := by decide +kernel
theorem dL_isPatched_20 : decode cL_isPatched 20 = .ok (.iconst 1, 1) := by decide +kernel
theorem dL_isPatched_21 : decode cL_isPatched 21 = .ok (.ireturn, 1) := by decide +kernel
theorem dL_ghost_0 : decode cL_ghost 0 = .ok (.aload 4, 2) := by decide +kernel
theorem dL_ghost_2 : decode cL_ghost 2 = .ok (.iconst 0, 1) := by decide +kernel
theorem dL_ghost_3 : decode cL_ghost 3 = .ok (.aload_n 0, 1) := by decide +kernel
theorem dL_ghost_4 : decode cL_ghost 4 = .ok (.iload_n 1, 1) := by decide +kernel
theorem dL_ghost_5 : decode cL_ghost 5 = .ok (.iload_n 2, 1) := by decide +kernel
theorem dL_ghost_6 : decode cL_ghost 6 = .ok (.iload_n 3, 1) := by decide +kernel
theorem dL_ghost_7 : decode cL_ghost 7 = .ok (.invokevirtual 132, 3) := by decide +kernel
theorem dL_ghost_15 : decode cL_ghost 15 = .ok (.astore 5, 2) := by decide +kernel
theorem dL_ghost_17 : decode cL_ghost 17 = .ok (.iconst 1, 1) := by decide +kernel
theorem dL_ghost_18 : decode cL_ghost 18 = .ok (.ireturn, 1) := by decide +kernel
theorem dL_bot_0 : decode cL_bot 0 = .ok (.aload 6, 2) := by decide +kernel
theorem dL_bot_2 : decode cL_bot 2 = .ok (.iconst 0, 1) := by decide +kernel
theorem dL_bot_3 : decode cL_bot 3 = .ok (.aload_n 0, 1) := by decide +kernel
theorem dL_bot_4 : decode cL_bot 4 = .ok (.iload_n 1, 1) := by decide +kernel
theorem dL_bot_5 : decode cL_bot 5 = .ok (.iload_n 2, 1) := by decide +kernel
theorem dL_bot_6 : decode cL_bot 6 = .ok (.iload_n 3, 1) := by decide +kernel
theorem dL_bot_7 : decode cL_bot 7 = .ok (.iload 4, 2) := by decide +kernel
theorem dL_bot_9 : decode cL_bot 9 = .ok (.iload 5, 2) := by decide +kernel
theorem dL_bot_11 : decode cL_bot 11 = .ok (.invokevirtual 135, 3) := by decide +kernel
theorem dL_bot_19 : decode cL_bot 19 = .ok (.astore 7, 2) := by decide +kernel
theorem dL_bot_21 : decode cL_bot 21 = .ok (.iconst 1, 1) := by decide +kernel
theorem dL_bot_22 : decode cL_bot 22 = .ok (.ireturn, 1) := by decide +kernel
theorem dL_publish_0 : decode cL_publish 0 = .ok (.aload 4, 2) := by decide +kernel
theorem dL_publish_2 : decode cL_publish 2 = .ok (.iconst 0, 1) := by decide +kernel
theorem dL_publish_3 : decode cL_publish 3 = .ok (.aload_n 0, 1) := by decide +kernel
theorem dL_publish_4 : decode cL_publish 4 = .ok (.iload_n 1, 1) := by decide +kernel
theorem dL_publish_5 : decode cL_publish 5 = .ok (.iload_n 2, 1) := by decide +kernel
theorem dL_publish_6 : decode cL_publish 6 = .ok (.iload_n 3, 1) := by decide +kernel
theorem dL_publish_7 : decode cL_publish 7 = .ok (.invokevirtual 145, 3) := by decide +kernel
theorem dL_publish_15 : decode cL_publish 15 = .ok (.astore 5, 2) := by decide +kernel
theorem dL_publish_17 : decode cL_publish 17 = .ok (.iconst 1, 1) := by decide +kernel
theorem dL_publish_18 : decode cL_publish 18 = .ok (.ireturn, 1) := by decide +kernel
theorem dL_isStolen_0 : decode cL_isStolen 0 = .ok (.aload_n 3, 1) := by decide +kernel
theorem dL_isStolen_1 : decode cL_isStolen 1 = .ok (.iconst 0, 1) := by decide +kernel
theorem dL_isStolen_2 : decode cL_isStolen 2 = .ok (.aload_n 0, 1) := by decide +kernel
theorem dL_isStolen_3 : decode cL_isStolen 3 = .ok (.iload_n 1, 1) := by decide +kernel
theorem dL_isStolen_4 : decode cL_isStolen 4 = .ok (.iload_n 2, 1) := by decide +kernel
theorem dL_isStolen_5 : decode cL_isStolen 5 = .ok (.invokevirtual 151, 3) := by decide +kernel
theorem dL_isStolen_20 : decode cL_isStolen 20 = .ok (.astore 4, 2) := by decide +kernel
theorem dL_isStolen_22 : decode cL_isStolen 22 = .ok (.iconst 1, 1) := by decide +kernel
theorem dL_isStolen_23 : decode cL_isStolen 23 = .ok (.ireturn, 1) := by decide +kernel
theorem dL_checksum_0 : decode cL_checksum 0 = .ok (.aload_n 2, 1) := by decide +kernel
theorem dL_checksum_1 : decode cL_checksum 1 = .ok (.iconst 0, 1) := by decide +kernel
theorem dL_checksum_2 : decode cL_checksum 2 = .ok (.aload_n 0, 1) := by decide +kernel
theorem dL_checksum_3 : decode cL_checksum 3 = .ok (.iload_n 1, 1) := by decide +kernel
theorem dL_checksum_4 : decode cL_checksum 4 = .ok (.invokevirtual 155, 3) := by decide +kernel
theorem dL_checksum_11 : decode cL_checksum 11 = .ok (.astore_n 3, 1) := by decide +kernel
theorem dL_checksum_12 : decode cL_checksum 12 = .ok (.iconst 1, 1) := by decide +kernel
theorem dL_checksum_13 : decode cL_checksum 13 = .ok (.ireturn, 1) := by decide +kernel
theorem dL_stuckShare_0 : decode cL_stuckShare 0 = .ok (.aload_n 2, 1) := by decide +kernel
theorem dL_stuckShare_1 : decode cL_stuckShare 1 = .ok (.iconst 0, 1) := by decide +kernel
theorem dL_stuckShare_2 : decode cL_stuckShare 2 = .ok (.aload_n 0, 1) := by decide +kernel
theorem dL_stuckShare_3 : decode cL_stuckShare 3 = .ok (.iload_n 1, 1) := by decide +kernel
theorem dL_stuckShare_4 : decode cL_stuckShare 4 = .ok (.invokevirtual 159, 3) := by decide +kernel
theorem dL_stuckShare_12 : decode cL_stuckShare 12 = .ok (.astore_n 3, 1) := by decide +kernel
theorem dL_stuckShare_13 : decode cL_stuckShare 13 = .ok (.iconst 1, 1) := by decide +kernel
theorem dL_stuckShare_14 : decode cL_stuckShare 14 = .ok (.ireturn, 1) := by decide +kernel
theorem dL_meanLeft_0 : decode cL_meanLeft 0 = .ok (.aload_n 2, 1) := by decide +kernel
theorem dL_meanLeft_1 : decode cL_meanLeft 1 = .ok (.iconst 0, 1) := by decide +kernel
theorem dL_meanLeft_2 : decode cL_meanLeft 2 = .ok (.aload_n 0, 1) := by decide +kernel
theorem dL_meanLeft_3 : decode cL_meanLeft 3 = .ok (.iload_n 1, 1) := by decide +kernel
theorem dL_meanLeft_4 : decode cL_meanLeft 4 = .ok (.invokevirtual 163, 3) := by decide +kernel
theorem dL_meanLeft_11 : decode cL_meanLeft 11 = .ok (.astore_n 3, 1) := by decide +kernel
theorem dL_meanLeft_12 : decode cL_meanLeft 12 = .ok (.iconst 1, 1) := by decide +kernel
theorem dL_meanLeft_13 : decode cL_meanLeft 13 = .ok (.ireturn, 1) := by decide +kernel
theorem dL_makerAt_0 : decode cL_makerAt 0 = .ok (.aload_n 2, 1) := by decide +kernel
theorem dL_makerAt_1 : decode cL_makerAt 1 = .ok (.iconst 0, 1) := by decide +kernel
theorem dL_makerAt_2 : decode cL_makerAt 2 = .ok (.aload_n 0, 1) := by decide +kernel
theorem dL_makerAt_3 : decode cL_makerAt 3 = .ok (.iload_n 1, 1) := by decide +kernel
theorem dL_makerAt_4 : decode cL_makerAt 4 = .ok (.invokevirtual 148, 3) := by decide +kernel
theorem dL_makerAt_12 : decode cL_makerAt 12 = .ok (.astore_n 3, 1) := by decide +kernel
theorem dL_makerAt_13 : decode cL_makerAt 13 = .ok (.iconst 1, 1) := by decide +kernel
theorem dL_makerAt_14 : decode cL_makerAt 14 = .ok (.ireturn, 1) := by decide +kernel
theorem dL_keep_0 : decode cL_keep 0 = .ok (.aload_n 1, 1) := by decide +kernel
theorem dL_keep_1 : decode cL_keep 1 = .ok (.iconst 0, 1) := by decide +kernel
theorem dL_keep_2 : decode cL_keep 2 = .ok (.aload_n 0, 1) := by decide +kernel
theorem dL_keep_3 : decode cL_keep 3 = .ok (.invokevirtual 116, 3) := by decide +kernel
theorem dL_keep_11 : decode cL_keep 11 = .ok (.astore_n 2, 1) := by decide +kernel
theorem dL_keep_12 : decode cL_keep 12 = .ok (.iconst 1, 1) := by decide +kernel
theorem dL_keep_13 : decode cL_keep 13 = .ok (.ireturn, 1) := by decide +kernel
theorem dL_input_0 : decode cL_input 0 = .ok (.aload_n 2, 1) := by decide +kernel
theorem dL_input_1 : decode cL_input 1 = .ok (.iconst 0, 1) := by decide +kernel
theorem dL_input_2 : decode cL_input 2 = .ok (.aload_n 0, 1) := by decide +kernel
theorem dL_input_3 : decode cL_input 3 = .ok (.iload_n 1, 1) := by decide +kernel
theorem dL_input_4 : decode cL_input 4 = .ok (.invokevirtual 102, 3) := by decide +kernel
theorem dL_input_12 : decode cL_input 12 = .ok (.astore_n 3, 1) := by decide +kernel
theorem dL_input_13 : decode cL_input 13 = .ok (.iconst 1, 1) := by decide +kernel
theorem dL_input_14 : decode cL_input 14 = .ok (.ireturn, 1) := by decide +kernel
theorem dL_input_15 : decode cL_input 15 = .ok (.astore_n 3, 1) := by decide +kernel
theorem dL_input_16 : decode cL_input 16 = .ok (.iconst 2, 1) := by decide +kernel
theorem dL_input_17 : decode cL_input 17 = .ok (.ireturn, 1) := by decide +kernel
theorem dL_told_0 : decode cL_told 0 = .ok (.aload_n 2, 1) := by decide +kernel
theorem dL_told_1 : decode cL_told 1 = .ok (.iconst 0, 1) := by decide +kernel
theorem dL_told_2 : decode cL_told 2 = .ok (.aload_n 0, 1) := by decide +kernel
theorem dL_told_3 : decode cL_told 3 = .ok (.iload_n 1, 1) := by decide +kernel
theorem dL_told_4 : decode cL_told 4 = .ok (.invokevirtual 106, 3) := by decide +kernel
theorem dL_told_12 : decode cL_told 12 = .ok (.astore_n 3, 1) := by decide +kernel
theorem dL_told_13 : decode cL_told 13 = .ok (.iconst 1, 1) := by decide +kernel
theorem dL_told_14 : decode cL_told 14 = .ok (.ireturn, 1) := by decide +kernel
theorem dL_told_15 : decode cL_told 15 = .ok (.astore_n 3, 1) := by decide +kernel
theorem dL_told_16 : decode cL_told 16 = .ok (.iconst 2, 1) := by decide +kernel
theorem dL_told_17 : decode cL_told 17 = .ok (.ireturn, 1) := by decide +kernel
theorem dL_save_0 : decode cL_save 0 = .ok (.aload_n 2, 1) := by decide +kernel
theorem dL_save_1 : decode cL_save 1 = .ok (.iconst 0, 1) := by decide +kernel
theorem dL_save_2 : decode cL_save 2 = .ok (.aload_n 0, 1) := by decide +kernel
theorem dL_save_3 : decode cL_save 3 = .ok (.iload_n 1, 1) := by decide +kernel
theorem dL_save_4 : decode cL_save 4 = .ok (.invokevirtual 110, 3) := by decide +kernel
theorem dL_save_19 : decode cL_save 19 = .ok (.astore_n 3, 1) := by decide +kernel
theorem dL_save_20 : decode cL_save 20 = .ok (.iconst 1, 1) := by decide +kernel
theorem dL_save_21 : decode cL_save 21 = .ok (.ireturn, 1) := by decide +kernel
theorem dL_save_22 : decode cL_save 22 = .ok (.astore_n 3, 1) := by decide +kernel
theorem dL_save_23 : decode cL_save 23 = .ok (.iconst 2, 1) := by decide +kernel
theorem dL_save_24 : decode cL_save 24 = .ok (.ireturn, 1) := by decide +kernel
theorem dL_load_0 : decode cL_load 0 = .ok (.aload_n 2, 1) := by decide +kernel
theorem dL_load_1 : decode cL_load 1 = .ok (.iconst 0, 1) := by decide +kernel
theorem dL_load_2 : decode cL_load 2 = .ok (.aload_n 0, 1) := by decide +kernel
theorem dL_load_3 : decode cL_load 3 = .ok (.iload_n 1, 1) := by decide +kernel
theorem dL_load_4 : decode cL_load 4 = .ok (.invokevirtual 113, 3) := by decide +kernel
theorem dL_load_12 : decode cL_load 12 = .ok (.astore_n 3, 1) := by decide +kernel
theorem dL_load_13 : decode cL_load 13 = .ok (.iconst 1, 1) := by decide +kernel
theorem dL_load_14 : decode cL_load 14 = .ok (.ireturn, 1) := by decide +kernel
theorem dL_load_15 : decode cL_load 15 = .ok (.astore_n 3, 1) := by decide +kernel
theorem dL_load_16 : decode cL_load 16 = .ok (.iconst 2, 1) := by decide +kernel
theorem dL_load_17 : decode cL_load 17 = .ok (.ireturn, 1) := by decide +kernel
theorem dL_hardest_0 : decode cL_hardest 0 = .ok (.aload_n 2, 1) := by decide +kernel
theorem dL_hardest_1 : decode cL_hardest 1 = .ok (.iconst 0, 1) := by decide +kernel
theorem dL_hardest_2 : decode cL_hardest 2 = .ok (.aload_n 0, 1) := by decide +kernel
theorem dL_hardest_3 : decode cL_hardest 3 = .ok (.iload_n 1, 1) := by decide +kernel
theorem dL_hardest_4 : decode cL_hardest 4 = .ok (.invokevirtual 142, 3) := by decide +kernel
theorem dL_hardest_12 : decode cL_hardest 12 = .ok (.astore_n 3, 1) := by decide +kernel
theorem dL_hardest_13 : decode cL_hardest 13 = .ok (.iconst 1, 1) := by decide +kernel
theorem dL_hardest_14 : decode cL_hardest 14 = .ok (.ireturn, 1) := by decide +kernel
theorem dL_hardest_15 : decode cL_hardest 15 = .ok (.astore_n 3, 1) := by decide +kernel
theorem dL_hardest_16 : decode cL_hardest 16 = .ok (.iconst 2, 1) := by decide +kernel
theorem dL_hardest_17 : decode cL_hardest 17 = .ok (.ireturn, 1) := by decide +kernel
theorem dL_fell_0 : decode cL_fell 0 = .ok (.aload_n 3, 1) := by decide +kernel
theorem dL_fell_1 : decode cL_fell 1 = .ok (.iconst 0, 1) := by decide +kernel
theorem dL_fell_2 : decode cL_fell 2 = .ok (.aload_n 0, 1) := by decide +kernel
theorem dL_fell_3 : decode cL_fell 3 = .ok (.iload_n 1, 1) := by decide +kernel
theorem dL_fell_4 : decode cL_fell 4 = .ok (.iload_n 2, 1) := by decide +kernel
theorem dL_fell_5 : decode cL_fell 5 = .ok (.invokevirtual 139, 3) := by decide +kernel
theorem dL_fell_8 : decode cL_fell 8 = .ok (.i2l, 1) := by decide +kernel
theorem dL_fell_9 : decode cL_fell 9 = .ok (.lastore, 1) := by decide +kernel
theorem dL_fell_10 : decode cL_fell 10 = .ok (.goto 7, 3) := by decide +kernel
theorem dL_fell_13 : decode cL_fell 13 = .ok (.astore 4, 2) := by decide +kernel
theorem dL_fell_15 : decode cL_fell 15 = .ok (.iconst 1, 1) := by decide +kernel
theorem dL_fell_16 : decode cL_fell 16 = .ok (.ireturn, 1) := by decide +kernel
theorem dL_fell_17 : decode cL_fell 17 = .ok (.iconst 0, 1) := by decide +kernel
theorem dL_fell_18 : decode cL_fell 18 = .ok (.ireturn, 1) := by decide +kernel
theorem dL_level_0 : decode cL_level 0 = .ok (.aload 4, 2) := by decide +kernel
theorem dL_level_2 : decode cL_level 2 = .ok (.iconst 0, 1) := by decide +kernel
theorem dL_level_3 : decode cL_level 3 = .ok (.aload_n 0, 1) := by decide +kernel
theorem dL_level_4 : decode cL_level 4 = .ok (.iload_n 1, 1) := by decide +kernel
theorem dL_level_5 : decode cL_level 5 = .ok (.iload_n 2, 1) := by decide +kernel
theorem dL_level_6 : decode cL_level 6 = .ok (.iload_n 3, 1) := by decide +kernel
theorem dL_level_7 : decode cL_level 7 = .ok (.invokevirtual 7, 3) := by decide +kernel
theorem dL_level_10 : decode cL_level 10 = .ok (.i2l, 1) := by decide +kernel
theorem dL_level_11 : decode cL_level 11 = .ok (.lastore, 1) := by decide +kernel
theorem dL_level_12 : decode cL_level 12 = .ok (.goto 11, 3) := by decide +kernel
theorem dL_level_15 : decode cL_level 15 = .ok (.astore 5, 2) := by decide +kernel
theorem dL_level_17 : decode cL_level 17 = .ok (.iconst 1, 1) := by decide +kernel
theorem dL_level_18 : decode cL_level 18 = .ok (.ireturn, 1) := by decide +kernel
theorem dL_level_23 : decode cL_level 23 = .ok (.iconst 0, 1) := by decide +kernel
theorem dL_level_24 : decode cL_level 24 = .ok (.ireturn, 1) := by decide +kernel
set_option maxHeartbeats 4000000 in
set_option maxRecDepth 100000 in
theorem c_X11_isSound (l : Launch) (dC : Nat → ClassId) (dI : Nat → Nat → Nat) (de : Nat) (ox : Nat) (pl : Nat) (ru : Nat) (sh : Nat) (sp : Nat) (sl : Nat) (gr : Nat) (re : Nat) (pr : Nat) (ga : Nat) (rp : Nat) (bo : Nat) (fa : Nat) (gpl : Nat) (gin : Nat) (bbe : Nat) (bdi : Nat) (cP : ClassId) (cI : ClassId) (sz : Nat) : Met l yX11_isSound (.code yX11_isSound cX11_isSound 3 (some .boolean) :: wsL_law) { frames := 1, cells := 0, slots := 0, locals := 20 } (va_Pc [.ref ox] (PW dC dI de [(cP, .object "Levelsmith$Player"), (cI, .int)] (WX ox pl ru sh sp sl gr re pr ga rp bo fa gpl gin bbe bdi cP cI de) sz)) (va_Qi (fun (r : Int32) (u : Unit) => r = 1) (fun (_ : Unit) (t : State) => QW dC dI [(cP, .object "Levelsmith$Player"), (cI, .int)] (WX ox pl ru sh sp sl gr re pr ga rp bo fa gpl gin bbe bdi cP cI de) (va_A (WX ox pl ru sh sp sl gr re pr ga rp bo fa gpl gin bbe bdi cP cI de) sz) t) (va_A (WX ox pl ru sh sp sl gr re pr ga rp bo fa gpl gin bbe bdi cP cI de) sz)) 0 0 (va_A (WX ox pl ru sh sp sl gr re pr ga rp bo fa gpl gin bbe bdi cP cI de) sz) := by
  refine Met.ofW (cc := cX11_isSound) (maxL := 3) (ret := (some .boolean)) (by decide) rfl ?_
  intro p e s m args below meth c s₁ B hml hv
  obtain ⟨rfl, hsz, hP, hK, hD0, hG⟩ := hv
  have hx := B.exec
  have hb := B.bytes
  have hr := B.returns
  have hts := atoms_spec (ws := .code yX11_isSound cX11_isSound 3 (some .boolean) :: wsL_law) B.pre
  have ht : ∀ w ∈ wsL_law, w.before _ s = true := fun w h => hts w (List.mem_cons_of_mem _ h)
  have hown : s.vm.findClass RX11 = some m.cls := findClass_of_methodNamed B.named
  have hlocks := B.notSynchronized
  subst hsz
  have hD := hD0.self (sz := s.heap.size)
  generalize hAe : va_A (WX ox pl ru sh sp sl gr re pr ga rp bo fa gpl gin bbe bdi cP cI de) s.heap.size = A at hD hG ⊢
  have hA : ∀ q : Nat, s.heap.size ≤ q → A q := fun q h => by rw [← hAe]; exact Or.inr h
  have hS : va_S A s.heap s.heap [] := va_S.rf
  have hP : va_P (dC, dI) vwCl [(ox, .inr (13, [.ref pl, .ref ru, .ref sh, .ref sp, .ref sl, .ref gr, .ref re, .ref pr, .ref ga, .ref rp, .ref bo, .int 0])), (pl, .inr (1, [.int 0, .ref de, .int 0])), (ru, .inr (1, [.int 0, .ref de, .int 0])), (sh, .inr (1, [.int 0, .ref de, .int 0])), (sp, .inl (cP, 6, .inr (.inr (.inr (.inr (fun _ => none)))))), (ga, .inr (5, [.ref gpl, .ref gin, .int (-1), .int 0, .int 112, .int 0])), (bo, .inr (2, [.ref fa, .ref bbe, .ref bdi, .int 0, .int 0])), (fa, .inl (cI, 96, .inl (fun _ => 0)))] s.heap := hP
  have hD : va_D A [(ox, .inr (13, [.ref pl, .ref ru, .ref sh, .ref sp, .ref sl, .ref gr, .ref re, .ref pr, .ref ga, .ref rp, .ref bo, .int 0])), (pl, .inr (1, [.int 0, .ref de, .int 0])), (ru, .inr (1, [.int 0, .ref de, .int 0])), (sh, .inr (1, [.int 0, .ref de, .int 0])), (sp, .inl (cP, 6, .inr (.inr (.inr (.inr (fun _ => none)))))), (ga, .inr (5, [.ref gpl, .ref gin, .int (-1), .int 0, .int 112, .int 0])), (bo, .inr (2, [.ref fa, .ref bbe, .ref bdi, .int 0, .int 0])), (fa, .inl (cI, 96, .inl (fun _ => 0)))] := hD
  have hl := lv_entry ([.ref ox]) (n := 3) (Nat.le_of_ble_eq_true rfl)
  rw [lg_entry_eq]
  generalize (lg_sl ([.ref ox]) ++ List.replicate (3 - (lg_sl ([.ref ox])).length) Slot.unset).toArray = ls at hl ⊢
  have hl : lv_has ls 3 [(0, .ref ox)] := hl
  refine lv_iconst (v := 0) hx hb dX11_isSound_0 (by decide) ?_
  refine lv_istore_n (lv' := [(1, .int 0), (0, .ref ox)]) hx hb dX11_isSound_1 rfl hl (by decide) rfl (fun ls hl => ?_)
  refine lv_iload_n hx hb dX11_isSound_2 rfl (lv_at hl 0 rfl) ?_
  refine lv_aload_n hx hb dX11_isSound_3 rfl (lv_at hl 1 rfl) ?_
  refine va_get (D := (dC, dI)) (ci := 13) (v := .ref pl) (C := RX11) (T := TX11) (N := 12) hx hb ht inlX11 hown hK hP 0 rfl rfl 0 (by decide) (ht _ (wr_1 _ (List.mem_of_getElem? (i := 17) rfl))) (fun _ h9 => h9) rfl dX11_isSound_4 ?_
  have hPc := hP.sub (ws' := [(pl, .inr (1, [.int 0, .ref de, .int 0]))]) [1] rfl
  have hDc := hD.sub (ws' := [(pl, .inr (1, [.int 0, .ref de, .int 0]))]) [1] (by decide) rfl
  have hKc := hK.sub (tys' := []) [] rfl
  have hFc := va_free (wc := [(pl, .inr (1, [.int 0, .ref de, .int 0]))]) hD hS hA [1] rfl
  refine va_calli (va_runV (As := []) (rest := [.int 0]) ⟨hx, hb, hml, hown, ht⟩ (c_Jx4a65c_size_8abf5 l dC dI de (pl) (0) (.ref de) (0) s.heap.size) (cwV 0 ht (gWV (wr_14 _ (List.mem_of_getElem? (i := 5) rfl)) (wr_14 _ (List.mem_of_getElem? (i := 6) rfl)) (wr_14 _ (List.mem_of_getElem? (i := 7) rfl)) (wr_1 _ (List.mem_of_getElem? (i := 16) rfl)) (wr_14 _ (List.mem_of_getElem? (i := 8) rfl))) rfl rfl rfl (by decide +kernel) ⟨Nat.le_of_ble_eq_true rfl, Nat.le_of_ble_eq_true rfl⟩) ⟨PW_blind, va_recv hKc hPc (ci := 1) (q0 := 0) rfl rfl, PW_call hPc hDc hKc hS hG hFc⟩ rfl rfl hl.1 rfl (lv_room (Nat.le_of_ble_eq_true rfl)) dX11_isSound_7 ⟨Nat.le_of_ble_eq_true rfl, Nat.le_of_ble_eq_true rfl⟩) hS (fun q _ h => hFc q h) hFc (fun r_7 u t H1 locs ht9 hvm hw hB hz1 hk1 hS => ?_)
  obtain ⟨hP1, hK1, hD1⟩ := hB
  rw [ht9] at hP1
  have hK1 := va_K.moved hvm.symm hK1
  obtain ⟨hP, hD⟩ := va_join (wr := [(ox, .inr (13, [.ref pl, .ref ru, .ref sh, .ref sp, .ref sl, .ref gr, .ref re, .ref pr, .ref ga, .ref rp, .ref bo, .int 0])), (ru, .inr (1, [.int 0, .ref de, .int 0])), (sh, .inr (1, [.int 0, .ref de, .int 0])), (sp, .inl (cP, 6, .inr (.inr (.inr (.inr (fun _ => none)))))), (ga, .inr (5, [.ref gpl, .ref gin, .int (-1), .int 0, .int 112, .int 0])), (bo, .inr (2, [.ref fa, .ref bbe, .ref bdi, .int 0, .int 0])), (fa, .inl (cI, 96, .inl (fun _ => 0)))]) (w1 := [(pl, .inr (1, [.int 0, .ref de, .int 0]))]) hP hD [1] [0, 2, 3, 4, 5, 6, 7] rfl rfl (by decide) (by decide) hk1 hFc hP1 hD1
  have hK := (hK.sub (tys' := [(cP, .object "Levelsmith$Player"), (cI, .int)]) [0, 1] rfl).app hK1
  generalize H1 = H at hP hS ⊢
  replace hP : va_P (dC, dI) vwCl [(ox, .inr (13, [.ref pl, .ref ru, .ref sh, .ref sp, .ref sl, .ref gr, .ref re, .ref pr, .ref ga, .ref rp, .ref bo, .int 0])), (ru, .inr (1, [.int 0, .ref de, .int 0])), (sh, .inr (1, [.int 0, .ref de, .int 0])), (sp, .inl (cP, 6, .inr (.inr (.inr (.inr (fun _ => none)))))), (ga, .inr (5, [.ref gpl, .ref gin, .int (-1), .int 0, .int 112, .int 0])), (bo, .inr (2, [.ref fa, .ref bbe, .ref bdi, .int 0, .int 0])), (fa, .inl (cI, 96, .inl (fun _ => 0))), (pl, .inr (1, [.int 0, .ref de, .int 0]))] H := hP
  replace hD : va_D A [(ox, .inr (13, [.ref pl, .ref ru, .ref sh, .ref sp, .ref sl, .ref gr, .ref re, .ref pr, .ref ga, .ref rp, .ref bo, .int 0])), (ru, .inr (1, [.int 0, .ref de, .int 0])), (sh, .inr (1, [.int 0, .ref de, .int 0])), (sp, .inl (cP, 6, .inr (.inr (.inr (.inr (fun _ => none)))))), (ga, .inr (5, [.ref gpl, .ref gin, .int (-1), .int 0, .int 112, .int 0])), (bo, .inr (2, [.ref fa, .ref bbe, .ref bdi, .int 0, .int 0])), (fa, .inl (cI, 96, .inl (fun _ => 0))), (pl, .inr (1, [.int 0, .ref de, .int 0]))] := hD
  have hK : va_K (dC, dI) vwCl [(cP, .object "Levelsmith$Player"), (cI, .int)] s := hK
  have e_7 : r_7 = 0 := hw
  subst e_7
  refine lv_icmp_ge (tgt := 43) hx hb dX11_isSound_10 (by decide) (fun c_10 => ?_) (fun c_10 => absurd c_10 (by decide))
  refine lv_iconst (v := 1) hx hb dX11_isSound_43 (by decide) ?_
  have hP9 := hP.sub (ws' := [(ox, .inr (13, [.ref pl, .ref ru, .ref sh, .ref sp, .ref sl, .ref gr, .ref re, .ref pr, .ref ga, .ref rp, .ref bo, .int 0])), (pl, .inr (1, [.int 0, .ref de, .int 0])), (ru, .inr (1, [.int 0, .ref de, .int 0])), (sh, .inr (1, [.int 0, .ref de, .int 0])), (sp, .inl (cP, 6, .inr (.inr (.inr (.inr (fun _ => none)))))), (ga, .inr (5, [.ref gpl, .ref gin, .int (-1), .int 0, .int 112, .int 0])), (bo, .inr (2, [.ref fa, .ref bbe, .ref bdi, .int 0, .int 0])), (fa, .inl (cI, 96, .inl (fun _ => 0)))]) [0, 7, 1, 2, 3, 4, 5, 6] rfl
  have hD9 := hD.sub (ws' := [(ox, .inr (13, [.ref pl, .ref ru, .ref sh, .ref sp, .ref sl, .ref gr, .ref re, .ref pr, .ref ga, .ref rp, .ref bo, .int 0])), (pl, .inr (1, [.int 0, .ref de, .int 0])), (ru, .inr (1, [.int 0, .ref de, .int 0])), (sh, .inr (1, [.int 0, .ref de, .int 0])), (sp, .inl (cP, 6, .inr (.inr (.inr (.inr (fun _ => none)))))), (ga, .inr (5, [.ref gpl, .ref gin, .int (-1), .int 0, .int 112, .int 0])), (bo, .inr (2, [.ref fa, .ref bbe, .ref bdi, .int 0, .int 0])), (fa, .inl (cI, 96, .inl (fun _ => 0)))]) [0, 7, 1, 2, 3, 4, 5, 6] (by decide) rfl
  have hK9 := hK.sub (tys' := [(cP, .object "Levelsmith$Player"), (cI, .int)]) [0, 1] rfl
  exact W.zret (v := 1) hx hb hr (by decide) (fun t htt hW => have ht := htt; ⟨⟨1, (), rfl, rfl, QW_of ht hW hP9 hK9 hD9⟩, hS.F ht⟩) hS.2.2 dX11_isSound_44
set_option maxHeartbeats 4000000 in
set_option maxRecDepth 100000 in
theorem c_L_put (l : Launch) (hlt : l.stackTraces = false) (dC : Nat → ClassId) (dI : Nat → Nat → Nat) (de : Nat) (ox : Nat) (pl : Nat) (ru : Nat) (sh : Nat) (sp : Nat) (sl : Nat) (gr : Nat) (re : Nat) (pr : Nat) (ga : Nat) (rp : Nat) (bo : Nat) (fa : Nat) (gpl : Nat) (gin : Nat) (bbe : Nat) (bdi : Nat) (cP : ClassId) (cI : ClassId) (oq : Nat) (cL : ClassId) (a1 : Int32) (a2 : Int32) (a3 : Int32) (a4 : Int32) (sz : Nat) : vx_Met l yL_put (.codeWith yL_put cL_put 7 (some .int) [(0, 14, 17, 21), (0, 14, 21, 13)] :: wsL_law) { frames := 9, cells := 1, slots := 6, locals := 161 } (va_Pc [.ref ox, .int a1, .int a2, .int a3, .int a4, .ref oq] (PW dC dI de [(cP, .object "Levelsmith$Player"), (cI, .int), (cL, .long)] (WXJ ox pl ru sh sp sl gr re pr ga rp bo fa gpl gin bbe bdi oq cP cI cL de) sz)) (va_Qi (fun (r : Int32) (u : Unit) => r = 1) (fun (_ : Unit) (t : State) => QW dC dI [] [] (va_A (WXJ ox pl ru sh sp sl gr re pr ga rp bo fa gpl gin bbe bdi oq cP cI cL de) sz) t) (va_A (WXJ ox pl ru sh sp sl gr re pr ga rp bo fa gpl gin bbe bdi oq cP cI cL de) sz)) (XX (fun E => False) (va_A (WXJ ox pl ru sh sp sl gr re pr ga rp bo fa gpl gin bbe bdi oq cP cI cL de) sz)) 1 6 (va_A (WXJ ox pl ru sh sp sl gr re pr ga rp bo fa gpl gin bbe bdi oq cP cI cL de) sz) := by
  refine vx_ofWH (cc := cL_put) (maxL := 7) (ret := (some .int)) (by decide) rfl ?_
  intro p e s m args below meth c s₁ B hml hv
  obtain ⟨rfl, hsz, hP, hK, hD0, hG⟩ := hv
  have hx := B.exec
  have hb := B.bytes
  have hr := B.returns
  have hts := atoms_spec (ws := .codeWith yL_put cL_put 7 (some .int) [(0, 14, 17, 21), (0, 14, 21, 13)] :: wsL_law) B.pre
  have ht : ∀ w ∈ wsL_law, w.before _ s = true := fun w h => hts w (List.mem_cons_of_mem _ h)
  have hown : s.vm.findClass RL = some m.cls := findClass_of_methodNamed B.named
  have hlocks := B.notSynchronized
  have htab : c.exceptionTable.toList = tableOf [(0, 14, 17, 21), (0, 14, 21, 13)] := vx_table (x := yL_put) B (hts _ List.mem_cons_self)
  subst hsz
  have hD := hD0.self (sz := s.heap.size)
  generalize hAe : va_A (WXJ ox pl ru sh sp sl gr re pr ga rp bo fa gpl gin bbe bdi oq cP cI cL de) s.heap.size = A at hD hG ⊢
  have hA : ∀ q : Nat, s.heap.size ≤ q → A q := fun q h => by rw [← hAe]; exact Or.inr h
  have hS : va_S A s.heap s.heap [] := va_S.rf
  have hP : va_P (dC, dI) vwCl [(ox, .inr (13, [.ref pl, .ref ru, .ref sh, .ref sp, .ref sl, .ref gr, .ref re, .ref pr, .ref ga, .ref rp, .ref bo, .int 0])), (pl, .inr (1, [.int 0, .ref de, .int 0])), (ru, .inr (1, [.int 0, .ref de, .int 0])), (sh, .inr (1, [.int 0, .ref de, .int 0])), (sp, .inl (cP, 6, .inr (.inr (.inr (.inr (fun _ => none)))))), (ga, .inr (5, [.ref gpl, .ref gin, .int (-1), .int 0, .int 112, .int 0])), (bo, .inr (2, [.ref fa, .ref bbe, .ref bdi, .int 0, .int 0])), (fa, .inl (cI, 96, .inl (fun _ => 0))), (oq, .inl (cL, 1, .inr (.inl (fun _ => 0))))] s.heap := hP
  have hD : va_D A [(ox, .inr (13, [.ref pl, .ref ru, .ref sh, .ref sp, .ref sl, .ref gr, .ref re, .ref pr, .ref ga, .ref rp, .ref bo, .int 0])), (pl, .inr (1, [.int 0, .ref de, .int 0])), (ru, .inr (1, [.int 0, .ref de, .int 0])), (sh, .inr (1, [.int 0, .ref de, .int 0])), (sp, .inl (cP, 6, .inr (.inr (.inr (.inr (fun _ => none)))))), (ga, .inr (5, [.ref gpl, .ref gin, .int (-1), .int 0, .int 112, .int 0])), (bo, .inr (2, [.ref fa, .ref bbe, .ref bdi, .int 0, .int 0])), (fa, .inl (cI, 96, .inl (fun _ => 0))), (oq, .inl (cL, 1, .inr (.inl (fun _ => 0))))] := hD
  have hl := lv_entry ([.ref ox, .int a1, .int a2, .int a3, .int a4, .ref oq]) (n := 7) (Nat.le_of_ble_eq_true rfl)
  rw [lg_entry_eq]
  generalize (lg_sl ([.ref ox, .int a1, .int a2, .int a3, .int a4, .ref oq]) ++ List.replicate (7 - (lg_sl ([.ref ox, .int a1, .int a2, .int a3, .int a4, .ref oq])).length) Slot.unset).toArray = ls at hl ⊢
  have hl : lv_has ls 7 [(0, .ref ox), (1, .int a1), (2, .int a2), (3, .int a3), (4, .int a4), (5, .ref oq)] := hl
  refine lv_aload hx hb dL_put_0 (lv_at hl 5 rfl) ?_
  refine lv_iconst (v := 0) hx hb dL_put_2 (by decide) ?_
  refine lv_aload_n hx hb dL_put_3 rfl (lv_at hl 0 rfl) ?_
  refine lv_iload_n hx hb dL_put_4 rfl (lv_at hl 1 rfl) ?_
  refine lv_iload_n hx hb dL_put_5 rfl (lv_at hl 2 rfl) ?_
  refine lv_iload_n hx hb dL_put_6 rfl (lv_at hl 3 rfl) ?_
  refine lv_iload hx hb dL_put_7 (lv_at hl 4 rfl) ?_
  have hPc := hP.sub (ws' := [(ox, .inr (13, [.ref pl, .ref ru, .ref sh, .ref sp, .ref sl, .ref gr, .ref re, .ref pr, .ref ga, .ref rp, .ref bo, .int 0])), (pl, .inr (1, [.int 0, .ref de, .int 0])), (ru, .inr (1, [.int 0, .ref de, .int 0])), (sh, .inr (1, [.int 0, .ref de, .int 0])), (sp, .inl (cP, 6, .inr (.inr (.inr (.inr (fun _ => none)))))), (ga, .inr (5, [.ref gpl, .ref gin, .int (-1), .int 0, .int 112, .int 0])), (bo, .inr (2, [.ref fa, .ref bbe, .ref bdi, .int 0, .int 0])), (fa, .inl (cI, 96, .inl (fun _ => 0)))]) [0, 1, 2, 3, 4, 5, 6, 7] rfl
  have hDc := hD.sub (ws' := [(ox, .inr (13, [.ref pl, .ref ru, .ref sh, .ref sp, .ref sl, .ref gr, .ref re, .ref pr, .ref ga, .ref rp, .ref bo, .int 0])), (pl, .inr (1, [.int 0, .ref de, .int 0])), (ru, .inr (1, [.int 0, .ref de, .int 0])), (sh, .inr (1, [.int 0, .ref de, .int 0])), (sp, .inl (cP, 6, .inr (.inr (.inr (.inr (fun _ => none)))))), (ga, .inr (5, [.ref gpl, .ref gin, .int (-1), .int 0, .int 112, .int 0])), (bo, .inr (2, [.ref fa, .ref bbe, .ref bdi, .int 0, .int 0])), (fa, .inl (cI, 96, .inl (fun _ => 0)))]) [0, 1, 2, 3, 4, 5, 6, 7] (by decide) rfl
  have hKc := hK.sub (tys' := [(cP, .object "Levelsmith$Player"), (cI, .int)]) [0, 1] rfl
  have hFc := va_free (wc := [(ox, .inr (13, [.ref pl, .ref ru, .ref sh, .ref sp, .ref sl, .ref gr, .ref re, .ref pr, .ref ga, .ref rp, .ref bo, .int 0])), (pl, .inr (1, [.int 0, .ref de, .int 0])), (ru, .inr (1, [.int 0, .ref de, .int 0])), (sh, .inr (1, [.int 0, .ref de, .int 0])), (sp, .inl (cP, 6, .inr (.inr (.inr (.inr (fun _ => none)))))), (ga, .inr (5, [.ref gpl, .ref gin, .int (-1), .int 0, .int 112, .int 0])), (bo, .inr (2, [.ref fa, .ref bbe, .ref bdi, .int 0, .int 0])), (fa, .inl (cI, 96, .inl (fun _ => 0)))]) hD hS hA [0, 1, 2, 3, 4, 5, 6, 7] rfl
  refine vx_calli (vx_runV (As := [.int a1, .int a2, .int a3, .int a4]) (rest := [.int 0, .ref oq]) ⟨hx, hb, hml, hown, ht⟩ (c_X11_put l hlt dC dI de (ox) (pl) (ru) (sh) (sp) (sl) (gr) (re) (pr) (ga) (rp) (bo) (fa) (gpl) (gin) (bbe) (bdi) (cP) (cI) (a1) (a2) (a3) (a4) s.heap.size) (cwV 4 ht (gWV (wr_18 _ (List.mem_of_getElem? (i := 13) rfl)) (wr_18 _ (List.mem_of_getElem? (i := 14) rfl)) (wr_18 _ (List.mem_of_getElem? (i := 15) rfl)) (wr_1 _ (List.mem_of_getElem? (i := 2) rfl)) (wr_18 _ (List.mem_of_getElem? (i := 16) rfl))) rfl rfl rfl (by decide +kernel) ⟨Nat.le_of_ble_eq_true rfl, Nat.le_of_ble_eq_true rfl⟩) ⟨PW_blind, va_recv hKc hPc (ci := 13) (q0 := 0) rfl rfl, PW_call hPc hDc hKc hS hG hFc⟩ rfl rfl hl.1 rfl (lv_room (Nat.le_of_ble_eq_true rfl)) dL_put_9 ⟨Nat.le_of_ble_eq_true rfl, Nat.le_of_ble_eq_true rfl⟩) hS (fun q _ h => hFc q h) hFc (fun q _ h => hFc q h) (fun E ce q9 u t H1 locs1 ht9 hvm9 _ hR9 hz9 hk9 hS9 hc9 hv9 hcl9 => ?_) (fun r_9 u t H1 locs ht9 hvm hw hB hz1 hk1 hS => False.elim hw)
  obtain ⟨hP, hD⟩ := va_join (wr := [(oq, .inl (cL, 1, .inr (.inl (fun _ => 0))))]) (w1 := []) hP hD [0, 1, 2, 3, 4, 5, 6, 7] [8] rfl rfl (by decide) (by decide) hk9 hFc (va_P_nil (dC, dI) vwCl H1) (va_D_nil _)
  have hK := hK.sub (tys' := [(cL, .long)]) [2] rfl
  have hS := hS9
  obtain rfl := hR9
  refine vx_catch (own := RL) (name := "java/lang/IndexOutOfBoundsException") hown [] ⟨0, 14, 17, 21⟩ [⟨0, 14, 21, 13⟩] htab (fun z hz => nomatch hz) (by decide) (by decide) (ht _ (wr_18 _ (List.mem_of_getElem? (i := 12) rfl))) (va_Nw.use rfl (hG.2.2.2.1 _ (List.mem_of_getElem? (i := 0) rfl))) hc9 hv9 hcl9 ?_
  refine lv_astore (lv' := [(6, .ref q9), (0, .ref ox), (1, .int a1), (2, .int a2), (3, .int a3), (4, .int a4), (5, .ref oq)]) hx hb dL_put_17 hl (by decide) rfl (fun ls hl => ?_)
  refine lv_iconst (v := 1) hx hb dL_put_19 (by decide) ?_
  have hP9 := hP.sub (ws' := []) [] rfl
  have hD9 := hD.sub (ws' := []) [] (by decide) rfl
  have hK9 := hK.sub (tys' := []) [] rfl
  exact vx_ret (W.iret (v := 1) hx hb hr (fun t htt hW => have ht := htt; ⟨⟨1, (), rfl, rfl, QW_of ht hW hP9 hK9 hD9⟩, hS.F ht⟩) hS.2.2 dL_put_20)
set_option maxHeartbeats 4000000 in
set_option maxRecDepth 100000 in
theorem c_L_fill (l : Launch) (hlt : l.stackTraces = false) (dC : Nat → ClassId) (dI : Nat → Nat → Nat) (de : Nat) (ox : Nat) (pl : Nat) (ru : Nat) (sh : Nat) (sp : Nat) (sl : Nat) (gr : Nat) (re : Nat) (pr : Nat) (ga : Nat) (rp : Nat) (bo : Nat) (fa : Nat) (gpl : Nat) (gin : Nat) (bbe : Nat) (bdi : Nat) (cP : ClassId) (cI : ClassId) (oq : Nat) (cL : ClassId) (a1 : Int32) (a2 : Int32) (a3 : Int32) (a4 : Int32) (a5 : Int32) (a6 : Int32) (sz : Nat) : vx_Met l yL_fill (.codeWith yL_fill cL_fill 9 (some .int) [(0, 18, 21, 21), (0, 18, 25, 13)] :: wsL_law) { frames := 9, cells := 1, slots := 6, locals := 162 } (va_Pc [.ref ox, .int a1, .int a2, .int a3, .int a4, .int a5, .int a6, .ref oq] (PW dC dI de [(cP, .object "Levelsmith$Player"), (cI, .int), (cL, .long)] (WXJ ox pl ru sh sp sl gr re pr ga rp bo fa gpl gin bbe bdi oq cP cI cL de) sz)) (va_Qi (fun (r : Int32) (u : Unit) => r = 1) (fun (_ : Unit) (t : State) => QW dC dI [] [] (va_A (WXJ ox pl ru sh sp sl gr re pr ga rp bo fa gpl gin bbe bdi oq cP cI cL de) sz) t) (va_A (WXJ ox pl ru sh sp sl gr re pr ga rp bo fa gpl gin bbe bdi oq cP cI cL de) sz)) (XX (fun E => False) (va_A (WXJ ox pl ru sh sp sl gr re pr ga rp bo fa gpl gin bbe bdi oq cP cI cL de) sz)) 1 6 (va_A (WXJ ox pl ru sh sp sl gr re pr ga rp bo fa gpl gin bbe bdi oq cP cI cL de) sz) := by
  refine vx_ofWH (cc := cL_fill) (maxL := 9) (ret := (some .int)) (by decide) rfl ?_
  intro p e s m args below meth c s₁ B hml hv
  obtain ⟨rfl, hsz, hP, hK, hD0, hG⟩ := hv
  have hx := B.exec
  have hb := B.bytes
  have hr := B.returns
  have hts := atoms_spec (ws := .codeWith yL_fill cL_fill 9 (some .int) [(0, 18, 21, 21), (0, 18, 25, 13)] :: wsL_law) B.pre
  have ht : ∀ w ∈ wsL_law, w.before _ s = true := fun w h => hts w (List.mem_cons_of_mem _ h)
  have hown : s.vm.findClass RL = some m.cls := findClass_of_methodNamed B.named
  have hlocks := B.notSynchronized
  have htab : c.exceptionTable.toList = tableOf [(0, 18, 21, 21), (0, 18, 25, 13)] := vx_table (x := yL_fill) B (hts _ List.mem_cons_self)
  subst hsz
  have hD := hD0.self (sz := s.heap.size)
  generalize hAe : va_A (WXJ ox pl ru sh sp sl gr re pr ga rp bo fa gpl gin bbe bdi oq cP cI cL de) s.heap.size = A at hD hG ⊢
  have hA : ∀ q : Nat, s.heap.size ≤ q → A q := fun q h => by rw [← hAe]; exact Or.inr h
  have hS : va_S A s.heap s.heap [] := va_S.rf
  have hP : va_P (dC, dI) vwCl [(ox, .inr (13, [.ref pl, .ref ru, .ref sh, .ref sp, .ref sl, .ref gr, .ref re, .ref pr, .ref ga, .ref rp, .ref bo, .int 0])), (pl, .inr (1, [.int 0, .ref de, .int 0])), (ru, .inr (1, [.int 0, .ref de, .int 0])), (sh, .inr (1, [.int 0, .ref de, .int 0])), (sp, .inl (cP, 6, .inr (.inr (.inr (.inr (fun _ => none)))))), (ga, .inr (5, [.ref gpl, .ref gin, .int (-1), .int 0, .int 112, .int 0])), (bo, .inr (2, [.ref fa, .ref bbe, .ref bdi, .int 0, .int 0])), (fa, .inl (cI, 96, .inl (fun _ => 0))), (oq, .inl (cL, 1, .inr (.inl (fun _ => 0))))] s.heap := hP
  have hD : va_D A [(ox, .inr (13, [.ref pl, .ref ru, .ref sh, .ref sp, .ref sl, .ref gr, .ref re, .ref pr, .ref ga, .ref rp, .ref bo, .int 0])), (pl, .inr (1, [.int 0, .ref de, .int 0])), (ru, .inr (1, [.int 0, .ref de, .int 0])), (sh, .inr (1, [.int 0, .ref de, .int 0])), (sp, .inl (cP, 6, .inr (.inr (.inr (.inr (fun _ => none)))))), (ga, .inr (5, [.ref gpl, .ref gin, .int (-1), .int 0, .int 112, .int 0])), (bo, .inr (2, [.ref fa, .ref bbe, .ref bdi, .int 0, .int 0])), (fa, .inl (cI, 96, .inl (fun _ => 0))), (oq, .inl (cL, 1, .inr (.inl (fun _ => 0))))] := hD
  have hl := lv_entry ([.ref ox, .int a1, .int a2, .int a3, .int a4, .int a5, .int a6, .ref oq]) (n := 9) (Nat.le_of_ble_eq_true rfl)
  rw [lg_entry_eq]
  generalize (lg_sl ([.ref ox, .int a1, .int a2, .int a3, .int a4, .int a5, .int a6, .ref oq]) ++ List.replicate (9 - (lg_sl ([.ref ox, .int a1, .int a2, .int a3, .int a4, .int a5, .int a6, .ref oq])).length) Slot.unset).toArray = ls at hl ⊢
  have hl : lv_has ls 9 [(0, .ref ox), (1, .int a1), (2, .int a2), (3, .int a3), (4, .int a4), (5, .int a5), (6, .int a6), (7, .ref oq)] := hl
  refine lv_aload hx hb dL_fill_0 (lv_at hl 7 rfl) ?_
  refine lv_iconst (v := 0) hx hb dL_fill_2 (by decide) ?_
  refine lv_aload_n hx hb dL_fill_3 rfl (lv_at hl 0 rfl) ?_
  refine lv_iload_n hx hb dL_fill_4 rfl (lv_at hl 1 rfl) ?_
  refine lv_iload_n hx hb dL_fill_5 rfl (lv_at hl 2 rfl) ?_
  refine lv_iload_n hx hb dL_fill_6 rfl (lv_at hl 3 rfl) ?_
  refine lv_iload hx hb dL_fill_7 (lv_at hl 4 rfl) ?_
  refine lv_iload hx hb dL_fill_9 (lv_at hl 5 rfl) ?_
  refine lv_iload hx hb dL_fill_11 (lv_at hl 6 rfl) ?_
  have hPc := hP.sub (ws' := [(ox, .inr (13, [.ref pl, .ref ru, .ref sh, .ref sp, .ref sl, .ref gr, .ref re, .ref pr, .ref ga, .ref rp, .ref bo, .int 0])), (pl, .inr (1, [.int 0, .ref de, .int 0])), (ru, .inr (1, [.int 0, .ref de, .int 0])), (sh, .inr (1, [.int 0, .ref de, .int 0])), (sp, .inl (cP, 6, .inr (.inr (.inr (.inr (fun _ => none)))))), (ga, .inr (5, [.ref gpl, .ref gin, .int (-1), .int 0, .int 112, .int 0])), (bo, .inr (2, [.ref fa, .ref bbe, .ref bdi, .int 0, .int 0])), (fa, .inl (cI, 96, .inl (fun _ => 0)))]) [0, 1, 2, 3, 4, 5, 6, 7] rfl
  have hDc := hD.sub (ws' := [(ox, .inr (13, [.ref pl, .ref ru, .ref sh, .ref sp, .ref sl, .ref gr, .ref re, .ref pr, .ref ga, .ref rp, .ref bo, .int 0])), (pl, .inr (1, [.int 0, .ref de, .int 0])), (ru, .inr (1, [.int 0, .ref de, .int 0])), (sh, .inr (1, [.int 0, .ref de, .int 0])), (sp, .inl (cP, 6, .inr (.inr (.inr (.inr (fun _ => none)))))), (ga, .inr (5, [.ref gpl, .ref gin, .int (-1), .int 0, .int 112, .int 0])), (bo, .inr (2, [.ref fa, .ref bbe, .ref bdi, .int 0, .int 0])), (fa, .inl (cI, 96, .inl (fun _ => 0)))]) [0, 1, 2, 3, 4, 5, 6, 7] (by decide) rfl
  have hKc := hK.sub (tys' := [(cP, .object "Levelsmith$Player"), (cI, .int)]) [0, 1] rfl
  have hFc := va_free (wc := [(ox, .inr (13, [.ref pl, .ref ru, .ref sh, .ref sp, .ref sl, .ref gr, .ref re, .ref pr, .ref ga, .ref rp, .ref bo, .int 0])), (pl, .inr (1, [.int 0, .ref de, .int 0])), (ru, .inr (1, [.int 0, .ref de, .int 0])), (sh, .inr (1, [.int 0, .ref de, .int 0])), (sp, .inl (cP, 6, .inr (.inr (.inr (.inr (fun _ => none)))))), (ga, .inr (5, [.ref gpl, .ref gin, .int (-1), .int 0, .int 112, .int 0])), (bo, .inr (2, [.ref fa, .ref bbe, .ref bdi, .int 0, .int 0])), (fa, .inl (cI, 96, .inl (fun _ => 0)))]) hD hS hA [0, 1, 2, 3, 4, 5, 6, 7] rfl
  refine vx_calli (vx_runV (As := [.int a1, .int a2, .int a3, .int a4, .int a5, .int a6]) (rest := [.int 0, .ref oq]) ⟨hx, hb, hml, hown, ht⟩ (c_X11_fill l hlt dC dI de (ox) (pl) (ru) (sh) (sp) (sl) (gr) (re) (pr) (ga) (rp) (bo) (fa) (gpl) (gin) (bbe) (bdi) (cP) (cI) (a1) (a2) (a3) (a4) (a5) (a6) s.heap.size) (cwV 6 ht (gWV (wr_20 _ (List.mem_of_getElem? (i := 20) rfl)) (wr_20 _ (List.mem_of_getElem? (i := 21) rfl)) (wr_20 _ (List.mem_of_getElem? (i := 22) rfl)) (wr_1 _ (List.mem_of_getElem? (i := 2) rfl)) (wr_20 _ (List.mem_of_getElem? (i := 23) rfl))) rfl rfl rfl (by decide +kernel) ⟨Nat.le_of_ble_eq_true rfl, Nat.le_of_ble_eq_true rfl⟩) ⟨PW_blind, va_recv hKc hPc (ci := 13) (q0 := 0) rfl rfl, PW_call hPc hDc hKc hS hG hFc⟩ rfl rfl hl.1 rfl (lv_room (Nat.le_of_ble_eq_true rfl)) dL_fill_13 ⟨Nat.le_of_ble_eq_true rfl, Nat.le_of_ble_eq_true rfl⟩) hS (fun q _ h => hFc q h) hFc (fun q _ h => hFc q h) (fun E ce q9 u t H1 locs1 ht9 hvm9 _ hR9 hz9 hk9 hS9 hc9 hv9 hcl9 => ?_) (fun r_13 u t H1 locs ht9 hvm hw hB hz1 hk1 hS => False.elim hw)
  obtain ⟨hP, hD⟩ := va_join (wr := [(oq, .inl (cL, 1, .inr (.inl (fun _ => 0))))]) (w1 := []) hP hD [0, 1, 2, 3, 4, 5, 6, 7] [8] rfl rfl (by decide) (by decide) hk9 hFc (va_P_nil (dC, dI) vwCl H1) (va_D_nil _)
  have hK := hK.sub (tys' := [(cL, .long)]) [2] rfl
  have hS := hS9
  obtain rfl := hR9
  refine vx_catch (own := RL) (name := "java/lang/IndexOutOfBoundsException") hown [] ⟨0, 18, 21, 21⟩ [⟨0, 18, 25, 13⟩] htab (fun z hz => nomatch hz) (by decide) (by decide) (ht _ (wr_18 _ (List.mem_of_getElem? (i := 12) rfl))) (va_Nw.use rfl (hG.2.2.2.1 _ (List.mem_of_getElem? (i := 0) rfl))) hc9 hv9 hcl9 ?_
  refine lv_astore (lv' := [(8, .ref q9), (0, .ref ox), (1, .int a1), (2, .int a2), (3, .int a3), (4, .int a4), (5, .int a5), (6, .int a6), (7, .ref oq)]) hx hb dL_fill_21 hl (by decide) rfl (fun ls hl => ?_)
  refine lv_iconst (v := 1) hx hb dL_fill_23 (by decide) ?_
  have hP9 := hP.sub (ws' := []) [] rfl
  have hD9 := hD.sub (ws' := []) [] (by decide) rfl
  have hK9 := hK.sub (tys' := []) [] rfl
  exact vx_ret (W.iret (v := 1) hx hb hr (fun t htt hW => have ht := htt; ⟨⟨1, (), rfl, rfl, QW_of ht hW hP9 hK9 hD9⟩, hS.F ht⟩) hS.2.2 dL_fill_24)
set_option maxHeartbeats 4000000 in
set_option maxRecDepth 100000 in
theorem c_L_tile (l : Launch) (hlt : l.stackTraces = false) (dC : Nat → ClassId) (dI : Nat → Nat → Nat) (de : Nat) (ox : Nat) (pl : Nat) (ru : Nat) (sh : Nat) (sp : Nat) (sl : Nat) (gr : Nat) (re : Nat) (pr : Nat) (ga : Nat) (rp : Nat) (bo : Nat) (fa : Nat) (gpl : Nat) (gin : Nat) (bbe : Nat) (bdi : Nat) (cP : ClassId) (cI : ClassId) (oq : Nat) (cL : ClassId) (a1 : Int32) (a2 : Int32) (a3 : Int32) (sz : Nat) : vx_Met l yL_tile (.codeWith yL_tile cL_tile 6 (some .int) [(0, 12, 15, 21)] :: wsL_law) { frames := 9, cells := 1, slots := 6, locals := 158 } (va_Pc [.ref ox, .int a1, .int a2, .int a3, .ref oq] (PW dC dI de [(cP, .object "Levelsmith$Player"), (cI, .int), (cL, .long)] (WXJ ox pl ru sh sp sl gr re pr ga rp bo fa gpl gin bbe bdi oq cP cI cL de) sz)) (va_Qi (fun (r : Int32) (u : Unit) => r = 1) (fun (_ : Unit) (t : State) => QW dC dI [] [] (va_A (WXJ ox pl ru sh sp sl gr re pr ga rp bo fa gpl gin bbe bdi oq cP cI cL de) sz) t) (va_A (WXJ ox pl ru sh sp sl gr re pr ga rp bo fa gpl gin bbe bdi oq cP cI cL de) sz)) (XX (fun E => False) (va_A (WXJ ox pl ru sh sp sl gr re pr ga rp bo fa gpl gin bbe bdi oq cP cI cL de) sz)) 1 6 (va_A (WXJ ox pl ru sh sp sl gr re pr ga rp bo fa gpl gin bbe bdi oq cP cI cL de) sz) := by
  refine vx_ofWH (cc := cL_tile) (maxL := 6) (ret := (some .int)) (by decide) rfl ?_
  intro p e s m args below meth c s₁ B hml hv
  obtain ⟨rfl, hsz, hP, hK, hD0, hG⟩ := hv
  have hx := B.exec
  have hb := B.bytes
  have hr := B.returns
  have hts := atoms_spec (ws := .codeWith yL_tile cL_tile 6 (some .int) [(0, 12, 15, 21)] :: wsL_law) B.pre
  have ht : ∀ w ∈ wsL_law, w.before _ s = true := fun w h => hts w (List.mem_cons_of_mem _ h)
  have hown : s.vm.findClass RL = some m.cls := findClass_of_methodNamed B.named
  have hlocks := B.notSynchronized
  have htab : c.exceptionTable.toList = tableOf [(0, 12, 15, 21)] := vx_table (x := yL_tile) B (hts _ List.mem_cons_self)
  subst hsz
  have hD := hD0.self (sz := s.heap.size)
  generalize hAe : va_A (WXJ ox pl ru sh sp sl gr re pr ga rp bo fa gpl gin bbe bdi oq cP cI cL de) s.heap.size = A at hD hG ⊢
  have hA : ∀ q : Nat, s.heap.size ≤ q → A q := fun q h => by rw [← hAe]; exact Or.inr h
  have hS : va_S A s.heap s.heap [] := va_S.rf
  have hP : va_P (dC, dI) vwCl [(ox, .inr (13, [.ref pl, .ref ru, .ref sh, .ref sp, .ref sl, .ref gr, .ref re, .ref pr, .ref ga, .ref rp, .ref bo, .int 0])), (pl, .inr (1, [.int 0, .ref de, .int 0])), (ru, .inr (1, [.int 0, .ref de, .int 0])), (sh, .inr (1, [.int 0, .ref de, .int 0])), (sp, .inl (cP, 6, .inr (.inr (.inr (.inr (fun _ => none)))))), (ga, .inr (5, [.ref gpl, .ref gin, .int (-1), .int 0, .int 112, .int 0])), (bo, .inr (2, [.ref fa, .ref bbe, .ref bdi, .int 0, .int 0])), (fa, .inl (cI, 96, .inl (fun _ => 0))), (oq, .inl (cL, 1, .inr (.inl (fun _ => 0))))] s.heap := hP
  have hD : va_D A [(ox, .inr (13, [.ref pl, .ref ru, .ref sh, .ref sp, .ref sl, .ref gr, .ref re, .ref pr, .ref ga, .ref rp, .ref bo, .int 0])), (pl, .inr (1, [.int 0, .ref de, .int 0])), (ru, .inr (1, [.int 0, .ref de, .int 0])), (sh, .inr (1, [.int 0, .ref de, .int 0])), (sp, .inl (cP, 6, .inr (.inr (.inr (.inr (fun _ => none)))))), (ga, .inr (5, [.ref gpl, .ref gin, .int (-1), .int 0, .int 112, .int 0])), (bo, .inr (2, [.ref fa, .ref bbe, .ref bdi, .int 0, .int 0])), (fa, .inl (cI, 96, .inl (fun _ => 0))), (oq, .inl (cL, 1, .inr (.inl (fun _ => 0))))] := hD
  have hl := lv_entry ([.ref ox, .int a1, .int a2, .int a3, .ref oq]) (n := 6) (Nat.le_of_ble_eq_true rfl)
  rw [lg_entry_eq]
  generalize (lg_sl ([.ref ox, .int a1, .int a2, .int a3, .ref oq]) ++ List.replicate (6 - (lg_sl ([.ref ox, .int a1, .int a2, .int a3, .ref oq])).length) Slot.unset).toArray = ls at hl ⊢
  have hl : lv_has ls 6 [(0, .ref ox), (1, .int a1), (2, .int a2), (3, .int a3), (4, .ref oq)] := hl
  refine lv_aload hx hb dL_tile_0 (lv_at hl 4 rfl) ?_
  refine lv_iconst (v := 0) hx hb dL_tile_2 (by decide) ?_
  refine lv_aload_n hx hb dL_tile_3 rfl (lv_at hl 0 rfl) ?_
  refine lv_iload_n hx hb dL_tile_4 rfl (lv_at hl 1 rfl) ?_
  refine lv_iload_n hx hb dL_tile_5 rfl (lv_at hl 2 rfl) ?_
  refine lv_iload_n hx hb dL_tile_6 rfl (lv_at hl 3 rfl) ?_
  have hPc := hP.sub (ws' := [(ox, .inr (13, [.ref pl, .ref ru, .ref sh, .ref sp, .ref sl, .ref gr, .ref re, .ref pr, .ref ga, .ref rp, .ref bo, .int 0])), (pl, .inr (1, [.int 0, .ref de, .int 0])), (ru, .inr (1, [.int 0, .ref de, .int 0])), (sh, .inr (1, [.int 0, .ref de, .int 0])), (sp, .inl (cP, 6, .inr (.inr (.inr (.inr (fun _ => none)))))), (ga, .inr (5, [.ref gpl, .ref gin, .int (-1), .int 0, .int 112, .int 0])), (bo, .inr (2, [.ref fa, .ref bbe, .ref bdi, .int 0, .int 0])), (fa, .inl (cI, 96, .inl (fun _ => 0)))]) [0, 1, 2, 3, 4, 5, 6, 7] rfl
  have hDc := hD.sub (ws' := [(ox, .inr (13, [.ref pl, .ref ru, .ref sh, .ref sp, .ref sl, .ref gr, .ref re, .ref pr, .ref ga, .ref rp, .ref bo, .int 0])), (pl, .inr (1, [.int 0, .ref de, .int 0])), (ru, .inr (1, [.int 0, .ref de, .int 0])), (sh, .inr (1, [.int 0, .ref de, .int 0])), (sp, .inl (cP, 6, .inr (.inr (.inr (.inr (fun _ => none)))))), (ga, .inr (5, [.ref gpl, .ref gin, .int (-1), .int 0, .int 112, .int 0])), (bo, .inr (2, [.ref fa, .ref bbe, .ref bdi, .int 0, .int 0])), (fa, .inl (cI, 96, .inl (fun _ => 0)))]) [0, 1, 2, 3, 4, 5, 6, 7] (by decide) rfl
  have hKc := hK.sub (tys' := [(cP, .object "Levelsmith$Player"), (cI, .int)]) [0, 1] rfl
  have hFc := va_free (wc := [(ox, .inr (13, [.ref pl, .ref ru, .ref sh, .ref sp, .ref sl, .ref gr, .ref re, .ref pr, .ref ga, .ref rp, .ref bo, .int 0])), (pl, .inr (1, [.int 0, .ref de, .int 0])), (ru, .inr (1, [.int 0, .ref de, .int 0])), (sh, .inr (1, [.int 0, .ref de, .int 0])), (sp, .inl (cP, 6, .inr (.inr (.inr (.inr (fun _ => none)))))), (ga, .inr (5, [.ref gpl, .ref gin, .int (-1), .int 0, .int 112, .int 0])), (bo, .inr (2, [.ref fa, .ref bbe, .ref bdi, .int 0, .int 0])), (fa, .inl (cI, 96, .inl (fun _ => 0)))]) hD hS hA [0, 1, 2, 3, 4, 5, 6, 7] rfl
  refine vx_calli (vx_runV (As := [.int a1, .int a2, .int a3]) (rest := [.int 0, .ref oq]) ⟨hx, hb, hml, hown, ht⟩ (c_X11_tile l hlt dC dI de (ox) (pl) (ru) (sh) (sp) (sl) (gr) (re) (pr) (ga) (rp) (bo) (fa) (gpl) (gin) (bbe) (bdi) (cP) (cI) (a1) (a2) (a3) s.heap.size) (cwV 3 ht (gWV (wr_21 _ (List.mem_of_getElem? (i := 11) rfl)) (wr_21 _ (List.mem_of_getElem? (i := 12) rfl)) (wr_21 _ (List.mem_of_getElem? (i := 13) rfl)) (wr_1 _ (List.mem_of_getElem? (i := 2) rfl)) (wr_21 _ (List.mem_of_getElem? (i := 14) rfl))) rfl rfl rfl (by decide +kernel) ⟨Nat.le_of_ble_eq_true rfl, Nat.le_of_ble_eq_true rfl⟩) ⟨PW_blind, va_recv hKc hPc (ci := 13) (q0 := 0) rfl rfl, PW_call hPc hDc hKc hS hG hFc⟩ rfl rfl hl.1 rfl (lv_room (Nat.le_of_ble_eq_true rfl)) dL_tile_7 ⟨Nat.le_of_ble_eq_true rfl, Nat.le_of_ble_eq_true rfl⟩) hS (fun q _ h => hFc q h) hFc (fun q _ h => hFc q h) (fun E ce q9 u t H1 locs1 ht9 hvm9 _ hR9 hz9 hk9 hS9 hc9 hv9 hcl9 => ?_) (fun r_7 u t H1 locs ht9 hvm hw hB hz1 hk1 hS => False.elim hw)
  obtain ⟨hP, hD⟩ := va_join (wr := [(oq, .inl (cL, 1, .inr (.inl (fun _ => 0))))]) (w1 := []) hP hD [0, 1, 2, 3, 4, 5, 6, 7] [8] rfl rfl (by decide) (by decide) hk9 hFc (va_P_nil (dC, dI) vwCl H1) (va_D_nil _)
  have hK := hK.sub (tys' := [(cL, .long)]) [2] rfl
  have hS := hS9
  obtain rfl := hR9
  refine vx_catch (own := RL) (name := "java/lang/IndexOutOfBoundsException") hown [] ⟨0, 12, 15, 21⟩ [] htab (fun z hz => nomatch hz) (by decide) (by decide) (ht _ (wr_18 _ (List.mem_of_getElem? (i := 12) rfl))) (va_Nw.use rfl (hG.2.2.2.1 _ (List.mem_of_getElem? (i := 0) rfl))) hc9 hv9 hcl9 ?_
  refine lv_astore (lv' := [(5, .ref q9), (0, .ref ox), (1, .int a1), (2, .int a2), (3, .int a3), (4, .ref oq)]) hx hb dL_tile_15 hl (by decide) rfl (fun ls hl => ?_)
  refine lv_iconst (v := 1) hx hb dL_tile_17 (by decide) ?_
  have hP9 := hP.sub (ws' := []) [] rfl
  have hD9 := hD.sub (ws' := []) [] (by decide) rfl
  have hK9 := hK.sub (tys' := []) [] rfl
  exact vx_ret (W.iret (v := 1) hx hb hr (fun t htt hW => have ht := htt; ⟨⟨1, (), rfl, rfl, QW_of ht hW hP9 hK9 hD9⟩, hS.F ht⟩) hS.2.2 dL_tile_18)
set_option maxHeartbeats 4000000 in
set_option maxRecDepth 100000 in
theorem c_L_start (l : Launch) (hlt : l.stackTraces = false) (dC : Nat → ClassId) (dI : Nat → Nat → Nat) (de : Nat) (ox : Nat) (pl : Nat) (ru : Nat) (sh : Nat) (sp : Nat) (sl : Nat) (gr : Nat) (re : Nat) (pr : Nat) (ga : Nat) (rp : Nat) (bo : Nat) (fa : Nat) (gpl : Nat) (gin : Nat) (bbe : Nat) (bdi : Nat) (cP : ClassId) (cI : ClassId) (oq : Nat) (cL : ClassId) (a1 : Int32) (a2 : Int32) (a3 : Int32) (sz : Nat) : vx_Met l yL_start (.codeWith yL_start cL_start 6 (some .int) [(0, 12, 15, 21)] :: wsL_law) { frames := 9, cells := 1, slots := 6, locals := 160 } (va_Pc [.ref ox, .int a1, .int a2, .int a3, .ref oq] (PW dC dI de [(cP, .object "Levelsmith$Player"), (cI, .int), (cL, .long)] (WXJ ox pl ru sh sp sl gr re pr ga rp bo fa gpl gin bbe bdi oq cP cI cL de) sz)) (va_Qi (fun (r : Int32) (u : Unit) => r = 1) (fun (_ : Unit) (t : State) => QW dC dI [] [] (va_A (WXJ ox pl ru sh sp sl gr re pr ga rp bo fa gpl gin bbe bdi oq cP cI cL de) sz) t) (va_A (WXJ ox pl ru sh sp sl gr re pr ga rp bo fa gpl gin bbe bdi oq cP cI cL de) sz)) (XX (fun E => False) (va_A (WXJ ox pl ru sh sp sl gr re pr ga rp bo fa gpl gin bbe bdi oq cP cI cL de) sz)) 1 6 (va_A (WXJ ox pl ru sh sp sl gr re pr ga rp bo fa gpl gin bbe bdi oq cP cI cL de) sz) := by
  refine vx_ofWH (cc := cL_start) (maxL := 6) (ret := (some .int)) (by decide) rfl ?_
  intro p e s m args below meth c s₁ B hml hv
  obtain ⟨rfl, hsz, hP, hK, hD0, hG⟩ := hv
  have hx := B.exec
  have hb := B.bytes
  have hr := B.returns
  have hts := atoms_spec (ws := .codeWith yL_start cL_start 6 (some .int) [(0, 12, 15, 21)] :: wsL_law) B.pre
  have ht : ∀ w ∈ wsL_law, w.before _ s = true := fun w h => hts w (List.mem_cons_of_mem _ h)
  have hown : s.vm.findClass RL = some m.cls := findClass_of_methodNamed B.named
  have hlocks := B.notSynchronized
  have htab : c.exceptionTable.toList = tableOf [(0, 12, 15, 21)] := vx_table (x := yL_start) B (hts _ List.mem_cons_self)
  subst hsz
  have hD := hD0.self (sz := s.heap.size)
  generalize hAe : va_A (WXJ ox pl ru sh sp sl gr re pr ga rp bo fa gpl gin bbe bdi oq cP cI cL de) s.heap.size = A at hD hG ⊢
  have hA : ∀ q : Nat, s.heap.size ≤ q → A q := fun q h => by rw [← hAe]; exact Or.inr h
  have hS : va_S A s.heap s.heap [] := va_S.rf
  have hP : va_P (dC, dI) vwCl [(ox, .inr (13, [.ref pl, .ref ru, .ref sh, .ref sp, .ref sl, .ref gr, .ref re, .ref pr, .ref ga, .ref rp, .ref bo, .int 0])), (pl, .inr (1, [.int 0, .ref de, .int 0])), (ru, .inr (1, [.int 0, .ref de, .int 0])), (sh, .inr (1, [.int 0, .ref de, .int 0])), (sp, .inl (cP, 6, .inr (.inr (.inr (.inr (fun _ => none)))))), (ga, .inr (5, [.ref gpl, .ref gin, .int (-1), .int 0, .int 112, .int 0])), (bo, .inr (2, [.ref fa, .ref bbe, .ref bdi, .int 0, .int 0])), (fa, .inl (cI, 96, .inl (fun _ => 0))), (oq, .inl (cL, 1, .inr (.inl (fun _ => 0))))] s.heap := hP
  have hD : va_D A [(ox, .inr (13, [.ref pl, .ref ru, .ref sh, .ref sp, .ref sl, .ref gr, .ref re, .ref pr, .ref ga, .ref rp, .ref bo, .int 0])), (pl, .inr (1, [.int 0, .ref de, .int 0])), (ru, .inr (1, [.int 0, .ref de, .int 0])), (sh, .inr (1, [.int 0, .ref de, .int 0])), (sp, .inl (cP, 6, .inr (.inr (.inr (.inr (fun _ => none)))))), (ga, .inr (5, [.ref gpl, .ref gin, .int (-1), .int 0, .int 112, .int 0])), (bo, .inr (2, [.ref fa, .ref bbe, .ref bdi, .int 0, .int 0])), (fa, .inl (cI, 96, .inl (fun _ => 0))), (oq, .inl (cL, 1, .inr (.inl (fun _ => 0))))] := hD
  have hl := lv_entry ([.ref ox, .int a1, .int a2, .int a3, .ref oq]) (n := 6) (Nat.le_of_ble_eq_true rfl)
  rw [lg_entry_eq]
  generalize (lg_sl ([.ref ox, .int a1, .int a2, .int a3, .ref oq]) ++ List.replicate (6 - (lg_sl ([.ref ox, .int a1, .int a2, .int a3, .ref oq])).length) Slot.unset).toArray = ls at hl ⊢
  have hl : lv_has ls 6 [(0, .ref ox), (1, .int a1), (2, .int a2), (3, .int a3), (4, .ref oq)] := hl
  refine lv_aload hx hb dL_start_0 (lv_at hl 4 rfl) ?_
  refine lv_iconst (v := 0) hx hb dL_start_2 (by decide) ?_
  refine lv_aload_n hx hb dL_start_3 rfl (lv_at hl 0 rfl) ?_
  refine lv_iload_n hx hb dL_start_4 rfl (lv_at hl 1 rfl) ?_
  refine lv_iload_n hx hb dL_start_5 rfl (lv_at hl 2 rfl) ?_
  refine lv_iload_n hx hb dL_start_6 rfl (lv_at hl 3 rfl) ?_
  have hPc := hP.sub (ws' := [(ox, .inr (13, [.ref pl, .ref ru, .ref sh, .ref sp, .ref sl, .ref gr, .ref re, .ref pr, .ref ga, .ref rp, .ref bo, .int 0])), (pl, .inr (1, [.int 0, .ref de, .int 0])), (ru, .inr (1, [.int 0, .ref de, .int 0])), (sh, .inr (1, [.int 0, .ref de, .int 0])), (sp, .inl (cP, 6, .inr (.inr (.inr (.inr (fun _ => none)))))), (ga, .inr (5, [.ref gpl, .ref gin, .int (-1), .int 0, .int 112, .int 0])), (bo, .inr (2, [.ref fa, .ref bbe, .ref bdi, .int 0, .int 0])), (fa, .inl (cI, 96, .inl (fun _ => 0)))]) [0, 1, 2, 3, 4, 5, 6, 7] rfl
  have hDc := hD.sub (ws' := [(ox, .inr (13, [.ref pl, .ref ru, .ref sh, .ref sp, .ref sl, .ref gr, .ref re, .ref pr, .ref ga, .ref rp, .ref bo, .int 0])), (pl, .inr (1, [.int 0, .ref de, .int 0])), (ru, .inr (1, [.int 0, .ref de, .int 0])), (sh, .inr (1, [.int 0, .ref de, .int 0])), (sp, .inl (cP, 6, .inr (.inr (.inr (.inr (fun _ => none)))))), (ga, .inr (5, [.ref gpl, .ref gin, .int (-1), .int 0, .int 112, .int 0])), (bo, .inr (2, [.ref fa, .ref bbe, .ref bdi, .int 0, .int 0])), (fa, .inl (cI, 96, .inl (fun _ => 0)))]) [0, 1, 2, 3, 4, 5, 6, 7] (by decide) rfl
  have hKc := hK.sub (tys' := [(cP, .object "Levelsmith$Player"), (cI, .int)]) [0, 1] rfl
  have hFc := va_free (wc := [(ox, .inr (13, [.ref pl, .ref ru, .ref sh, .ref sp, .ref sl, .ref gr, .ref re, .ref pr, .ref ga, .ref rp, .ref bo, .int 0])), (pl, .inr (1, [.int 0, .ref de, .int 0])), (ru, .inr (1, [.int 0, .ref de, .int 0])), (sh, .inr (1, [.int 0, .ref de, .int 0])), (sp, .inl (cP, 6, .inr (.inr (.inr (.inr (fun _ => none)))))), (ga, .inr (5, [.ref gpl, .ref gin, .int (-1), .int 0, .int 112, .int 0])), (bo, .inr (2, [.ref fa, .ref bbe, .ref bdi, .int 0, .int 0])), (fa, .inl (cI, 96, .inl (fun _ => 0)))]) hD hS hA [0, 1, 2, 3, 4, 5, 6, 7] rfl
  refine vx_calli (vx_runV (As := [.int a1, .int a2, .int a3]) (rest := [.int 0, .ref oq]) ⟨hx, hb, hml, hown, ht⟩ (c_X11_start l hlt dC dI de (ox) (pl) (ru) (sh) (sp) (sl) (gr) (re) (pr) (ga) (rp) (bo) (fa) (gpl) (gin) (bbe) (bdi) (cP) (cI) (a1) (a2) (a3) s.heap.size) (cwV 3 ht (gWV (wr_21 _ (List.mem_of_getElem? (i := 22) rfl)) (wr_21 _ (List.mem_of_getElem? (i := 23) rfl)) (wr_22 _ (List.mem_of_getElem? (i := 0) rfl)) (wr_1 _ (List.mem_of_getElem? (i := 2) rfl)) (wr_22 _ (List.mem_of_getElem? (i := 1) rfl))) rfl rfl rfl (by decide +kernel) ⟨Nat.le_of_ble_eq_true rfl, Nat.le_of_ble_eq_true rfl⟩) ⟨PW_blind, va_recv hKc hPc (ci := 13) (q0 := 0) rfl rfl, PW_call hPc hDc hKc hS hG hFc⟩ rfl rfl hl.1 rfl (lv_room (Nat.le_of_ble_eq_true rfl)) dL_start_7 ⟨Nat.le_of_ble_eq_true rfl, Nat.le_of_ble_eq_true rfl⟩) hS (fun q _ h => hFc q h) hFc (fun q _ h => hFc q h) (fun E ce q9 u t H1 locs1 ht9 hvm9 _ hR9 hz9 hk9 hS9 hc9 hv9 hcl9 => ?_) (fun r_7 u t H1 locs ht9 hvm hw hB hz1 hk1 hS => False.elim hw)
  obtain ⟨hP, hD⟩ := va_join (wr := [(oq, .inl (cL, 1, .inr (.inl (fun _ => 0))))]) (w1 := []) hP hD [0, 1, 2, 3, 4, 5, 6, 7] [8] rfl rfl (by decide) (by decide) hk9 hFc (va_P_nil (dC, dI) vwCl H1) (va_D_nil _)
  have hK := hK.sub (tys' := [(cL, .long)]) [2] rfl
  have hS := hS9
  obtain rfl := hR9
  refine vx_catch (own := RL) (name := "java/lang/IndexOutOfBoundsException") hown [] ⟨0, 12, 15, 21⟩ [] htab (fun z hz => nomatch hz) (by decide) (by decide) (ht _ (wr_18 _ (List.mem_of_getElem? (i := 12) rfl))) (va_Nw.use rfl (hG.2.2.2.1 _ (List.mem_of_getElem? (i := 0) rfl))) hc9 hv9 hcl9 ?_
  refine lv_astore (lv' := [(5, .ref q9), (0, .ref ox), (1, .int a1), (2, .int a2), (3, .int a3), (4, .ref oq)]) hx hb dL_start_15 hl (by decide) rfl (fun ls hl => ?_)
  refine lv_iconst (v := 1) hx hb dL_start_17 (by decide) ?_
  have hP9 := hP.sub (ws' := []) [] rfl
  have hD9 := hD.sub (ws' := []) [] (by decide) rfl
  have hK9 := hK.sub (tys' := []) [] rfl
  exact vx_ret (W.iret (v := 1) hx hb hr (fun t htt hW => have ht := htt; ⟨⟨1, (), rfl, rfl, QW_of ht hW hP9 hK9 hD9⟩, hS.F ht⟩) hS.2.2 dL_start_18)
set_option maxHeartbeats 4000000 in
set_option maxRecDepth 100000 in
theorem c_L_guard (l : Launch) (hlt : l.stackTraces = false) (dC : Nat → ClassId) (dI : Nat → Nat → Nat) (de : Nat) (ox : Nat) (pl : Nat) (ru : Nat) (sh : Nat) (sp : Nat) (sl : Nat) (gr : Nat) (re : Nat) (pr : Nat) (ga : Nat) (rp : Nat) (bo : Nat) (fa : Nat) (gpl : Nat) (gin : Nat) (bbe : Nat) (bdi : Nat) (cP : ClassId) (cI : ClassId) (oq : Nat) (cL : ClassId) (a1 : Int32) (a2 : Int32) (a3 : Int32) (a4 : Int32) (sz : Nat) : vx_Met l yL_guard (.codeWith yL_guard cL_guard 7 (some .int) [(0, 14, 17, 21), (0, 14, 21, 13), (0, 14, 25, 15)] :: wsL_law) { frames := 9, cells := 1, slots := 6, locals := 160 } (va_Pc [.ref ox, .int a1, .int a2, .int a3, .int a4, .ref oq] (PW dC dI de [(cP, .object "Levelsmith$Player"), (cI, .int), (cL, .long)] (WXJ ox pl ru sh sp sl gr re pr ga rp bo fa gpl gin bbe bdi oq cP cI cL de) sz)) (va_Qi (fun (r : Int32) (u : Unit) => r = 1) (fun (_ : Unit) (t : State) => QW dC dI [] [] (va_A (WXJ ox pl ru sh sp sl gr re pr ga rp bo fa gpl gin bbe bdi oq cP cI cL de) sz) t) (va_A (WXJ ox pl ru sh sp sl gr re pr ga rp bo fa gpl gin bbe bdi oq cP cI cL de) sz)) (XX (fun E => False) (va_A (WXJ ox pl ru sh sp sl gr re pr ga rp bo fa gpl gin bbe bdi oq cP cI cL de) sz)) 1 6 (va_A (WXJ ox pl ru sh sp sl gr re pr ga rp bo fa gpl gin bbe bdi oq cP cI cL de) sz) := by
  refine vx_ofWH (cc := cL_guard) (maxL := 7) (ret := (some .int)) (by decide) rfl ?_
  intro p e s m args below meth c s₁ B hml hv
  obtain ⟨rfl, hsz, hP, hK, hD0, hG⟩ := hv
  have hx := B.exec
  have hb := B.bytes
  have hr := B.returns
  have hts := atoms_spec (ws := .codeWith yL_guard cL_guard 7 (some .int) [(0, 14, 17, 21), (0, 14, 21, 13), (0, 14, 25, 15)] :: wsL_law) B.pre
  have ht : ∀ w ∈ wsL_law, w.before _ s = true := fun w h => hts w (List.mem_cons_of_mem _ h)
  have hown : s.vm.findClass RL = some m.cls := findClass_of_methodNamed B.named
  have hlocks := B.notSynchronized
  have htab : c.exceptionTable.toList = tableOf [(0, 14, 17, 21), (0, 14, 21, 13), (0, 14, 25, 15)] := vx_table (x := yL_guard) B (hts _ List.mem_cons_self)
  subst hsz
  have hD := hD0.self (sz := s.heap.size)
  generalize hAe : va_A (WXJ ox pl ru sh sp sl gr re pr ga rp bo fa gpl gin bbe bdi oq cP cI cL de) s.heap.size = A at hD hG ⊢
  have hA : ∀ q : Nat, s.heap.size ≤ q → A q := fun q h => by rw [← hAe]; exact Or.inr h
  have hS : va_S A s.heap s.heap [] := va_S.rf
  have hP : va_P (dC, dI) vwCl [(ox, .inr (13, [.ref pl, .ref ru, .ref sh, .ref sp, .ref sl, .ref gr, .ref re, .ref pr, .ref ga, .ref rp, .ref bo, .int 0])), (pl, .inr (1, [.int 0, .ref de, .int 0])), (ru, .inr (1, [.int 0, .ref de, .int 0])), (sh, .inr (1, [.int 0, .ref de, .int 0])), (sp, .inl (cP, 6, .inr (.inr (.inr (.inr (fun _ => none)))))), (ga, .inr (5, [.ref gpl, .ref gin, .int (-1), .int 0, .int 112, .int 0])), (bo, .inr (2, [.ref fa, .ref bbe, .ref bdi, .int 0, .int 0])), (fa, .inl (cI, 96, .inl (fun _ => 0))), (oq, .inl (cL, 1, .inr (.inl (fun _ => 0))))] s.heap := hP
  have hD : va_D A [(ox, .inr (13, [.ref pl, .ref ru, .ref sh, .ref sp, .ref sl, .ref gr, .ref re, .ref pr, .ref ga, .ref rp, .ref bo, .int 0])), (pl, .inr (1, [.int 0, .ref de, .int 0])), (ru, .inr (1, [.int 0, .ref de, .int 0])), (sh, .inr (1, [.int 0, .ref de, .int 0])), (sp, .inl (cP, 6, .inr (.inr (.inr (.inr (fun _ => none)))))), (ga, .inr (5, [.ref gpl, .ref gin, .int (-1), .int 0, .int 112, .int 0])), (bo, .inr (2, [.ref fa, .ref bbe, .ref bdi, .int 0, .int 0])), (fa, .inl (cI, 96, .inl (fun _ => 0))), (oq, .inl (cL, 1, .inr (.inl (fun _ => 0))))] := hD
  have hl := lv_entry ([.ref ox, .int a1, .int a2, .int a3, .int a4, .ref oq]) (n := 7) (Nat.le_of_ble_eq_true rfl)
  rw [lg_entry_eq]
  generalize (lg_sl ([.ref ox, .int a1, .int a2, .int a3, .int a4, .ref oq]) ++ List.replicate (7 - (lg_sl ([.ref ox, .int a1, .int a2, .int a3, .int a4, .ref oq])).length) Slot.unset).toArray = ls at hl ⊢
  have hl : lv_has ls 7 [(0, .ref ox), (1, .int a1), (2, .int a2), (3, .int a3), (4, .int a4), (5, .ref oq)] := hl
  refine lv_aload hx hb dL_guard_0 (lv_at hl 5 rfl) ?_
  refine lv_iconst (v := 0) hx hb dL_guard_2 (by decide) ?_
  refine lv_aload_n hx hb dL_guard_3 rfl (lv_at hl 0 rfl) ?_
  refine lv_iload_n hx hb dL_guard_4 rfl (lv_at hl 1 rfl) ?_
  refine lv_iload_n hx hb dL_guard_5 rfl (lv_at hl 2 rfl) ?_
  refine lv_iload_n hx hb dL_guard_6 rfl (lv_at hl 3 rfl) ?_
  refine lv_iload hx hb dL_guard_7 (lv_at hl 4 rfl) ?_
  have hPc := hP.sub (ws' := [(ox, .inr (13, [.ref pl, .ref ru, .ref sh, .ref sp, .ref sl, .ref gr, .ref re, .ref pr, .ref ga, .ref rp, .ref bo, .int 0])), (pl, .inr (1, [.int 0, .ref de, .int 0])), (ru, .inr (1, [.int 0, .ref de, .int 0])), (sh, .inr (1, [.int 0, .ref de, .int 0])), (sp, .inl (cP, 6, .inr (.inr (.inr (.inr (fun _ => none)))))), (ga, .inr (5, [.ref gpl, .ref gin, .int (-1), .int 0, .int 112, .int 0])), (bo, .inr (2, [.ref fa, .ref bbe, .ref bdi, .int 0, .int 0])), (fa, .inl (cI, 96, .inl (fun _ => 0)))]) [0, 1, 2, 3, 4, 5, 6, 7] rfl
  have hDc := hD.sub (ws' := [(ox, .inr (13, [.ref pl, .ref ru, .ref sh, .ref sp, .ref sl, .ref gr, .ref re, .ref pr, .ref ga, .ref rp, .ref bo, .int 0])), (pl, .inr (1, [.int 0, .ref de, .int 0])), (ru, .inr (1, [.int 0, .ref de, .int 0])), (sh, .inr (1, [.int 0, .ref de, .int 0])), (sp, .inl (cP, 6, .inr (.inr (.inr (.inr (fun _ => none)))))), (ga, .inr (5, [.ref gpl, .ref gin, .int (-1), .int 0, .int 112, .int 0])), (bo, .inr (2, [.ref fa, .ref bbe, .ref bdi, .int 0, .int 0])), (fa, .inl (cI, 96, .inl (fun _ => 0)))]) [0, 1, 2, 3, 4, 5, 6, 7] (by decide) rfl
  have hKc := hK.sub (tys' := [(cP, .object "Levelsmith$Player"), (cI, .int)]) [0, 1] rfl
  have hFc := va_free (wc := [(ox, .inr (13, [.ref pl, .ref ru, .ref sh, .ref sp, .ref sl, .ref gr, .ref re, .ref pr, .ref ga, .ref rp, .ref bo, .int 0])), (pl, .inr (1, [.int 0, .ref de, .int 0])), (ru, .inr (1, [.int 0, .ref de, .int 0])), (sh, .inr (1, [.int 0, .ref de, .int 0])), (sp, .inl (cP, 6, .inr (.inr (.inr (.inr (fun _ => none)))))), (ga, .inr (5, [.ref gpl, .ref gin, .int (-1), .int 0, .int 112, .int 0])), (bo, .inr (2, [.ref fa, .ref bbe, .ref bdi, .int 0, .int 0])), (fa, .inl (cI, 96, .inl (fun _ => 0)))]) hD hS hA [0, 1, 2, 3, 4, 5, 6, 7] rfl
  refine vx_calli (vx_runV (As := [.int a1, .int a2, .int a3, .int a4]) (rest := [.int 0, .ref oq]) ⟨hx, hb, hml, hown, ht⟩ (c_X11_guard l hlt dC dI de (ox) (pl) (ru) (sh) (sp) (sl) (gr) (re) (pr) (ga) (rp) (bo) (fa) (gpl) (gin) (bbe) (bdi) (cP) (cI) (a1) (a2) (a3) (a4) s.heap.size) (cwV 4 ht (gWV (wr_22 _ (List.mem_of_getElem? (i := 14) rfl)) (wr_22 _ (List.mem_of_getElem? (i := 15) rfl)) (wr_22 _ (List.mem_of_getElem? (i := 16) rfl)) (wr_1 _ (List.mem_of_getElem? (i := 2) rfl)) (wr_22 _ (List.mem_of_getElem? (i := 17) rfl))) rfl rfl rfl (by decide +kernel) ⟨Nat.le_of_ble_eq_true rfl, Nat.le_of_ble_eq_true rfl⟩) ⟨PW_blind, va_recv hKc hPc (ci := 13) (q0 := 0) rfl rfl, PW_call hPc hDc hKc hS hG hFc⟩ rfl rfl hl.1 rfl (lv_room (Nat.le_of_ble_eq_true rfl)) dL_guard_9 ⟨Nat.le_of_ble_eq_true rfl, Nat.le_of_ble_eq_true rfl⟩) hS (fun q _ h => hFc q h) hFc (fun q _ h => hFc q h) (fun E ce q9 u t H1 locs1 ht9 hvm9 _ hR9 hz9 hk9 hS9 hc9 hv9 hcl9 => ?_) (fun r_9 u t H1 locs ht9 hvm hw hB hz1 hk1 hS => False.elim hw)
  obtain ⟨hP, hD⟩ := va_join (wr := [(oq, .inl (cL, 1, .inr (.inl (fun _ => 0))))]) (w1 := []) hP hD [0, 1, 2, 3, 4, 5, 6, 7] [8] rfl rfl (by decide) (by decide) hk9 hFc (va_P_nil (dC, dI) vwCl H1) (va_D_nil _)
  have hK := hK.sub (tys' := [(cL, .long)]) [2] rfl
  have hS := hS9
  obtain rfl := hR9
  refine vx_catch (own := RL) (name := "java/lang/IndexOutOfBoundsException") hown [] ⟨0, 14, 17, 21⟩ [⟨0, 14, 21, 13⟩, ⟨0, 14, 25, 15⟩] htab (fun z hz => nomatch hz) (by decide) (by decide) (ht _ (wr_18 _ (List.mem_of_getElem? (i := 12) rfl))) (va_Nw.use rfl (hG.2.2.2.1 _ (List.mem_of_getElem? (i := 0) rfl))) hc9 hv9 hcl9 ?_
  refine lv_astore (lv' := [(6, .ref q9), (0, .ref ox), (1, .int a1), (2, .int a2), (3, .int a3), (4, .int a4), (5, .ref oq)]) hx hb dL_guard_17 hl (by decide) rfl (fun ls hl => ?_)
  refine lv_iconst (v := 1) hx hb dL_guard_19 (by decide) ?_
  have hP9 := hP.sub (ws' := []) [] rfl
  have hD9 := hD.sub (ws' := []) [] (by decide) rfl
  have hK9 := hK.sub (tys' := []) [] rfl
  exact vx_ret (W.iret (v := 1) hx hb hr (fun t htt hW => have ht := htt; ⟨⟨1, (), rfl, rfl, QW_of ht hW hP9 hK9 hD9⟩, hS.F ht⟩) hS.2.2 dL_guard_20)
set_option maxHeartbeats 4000000 in
set_option maxRecDepth 100000 in
theorem c_L_guardAt (l : Launch) (hlt : l.stackTraces = false) (dC : Nat → ClassId) (dI : Nat → Nat → Nat) (de : Nat) (ox : Nat) (pl : Nat) (ru : Nat) (sh : Nat) (sp : Nat) (sl : Nat) (gr : Nat) (re : Nat) (pr : Nat) (ga : Nat) (rp : Nat) (bo : Nat) (fa : Nat) (gpl : Nat) (gin : Nat) (bbe : Nat) (bdi : Nat) (cP : ClassId) (cI : ClassId) (oq : Nat) (cL : ClassId) (a1 : Int32) (a2 : Int32) (a3 : Int32) (sz : Nat) : vx_Met l yL_guardAt (.codeWith yL_guardAt cL_guardAt 6 (some .int) [(0, 12, 15, 21), (0, 12, 19, 13)] :: wsL_law) { frames := 8, cells := 1, slots := 6, locals := 135 } (va_Pc [.ref ox, .int a1, .int a2, .int a3, .ref oq] (PW dC dI de [(cP, .object "Levelsmith$Player"), (cI, .int), (cL, .long)] (WXJ ox pl ru sh sp sl gr re pr ga rp bo fa gpl gin bbe bdi oq cP cI cL de) sz)) (va_Qi (fun (r : Int32) (u : Unit) => r = 1) (fun (_ : Unit) (t : State) => QW dC dI [] [] (va_A (WXJ ox pl ru sh sp sl gr re pr ga rp bo fa gpl gin bbe bdi oq cP cI cL de) sz) t) (va_A (WXJ ox pl ru sh sp sl gr re pr ga rp bo fa gpl gin bbe bdi oq cP cI cL de) sz)) (XX (fun E => False) (va_A (WXJ ox pl ru sh sp sl gr re pr ga rp bo fa gpl gin bbe bdi oq cP cI cL de) sz)) 1 6 (va_A (WXJ ox pl ru sh sp sl gr re pr ga rp bo fa gpl gin bbe bdi oq cP cI cL de) sz) := by
  refine vx_ofWH (cc := cL_guardAt) (maxL := 6) (ret := (some .int)) (by decide) rfl ?_
  intro p e s m args below meth c s₁ B hml hv
  obtain ⟨rfl, hsz, hP, hK, hD0, hG⟩ := hv
  have hx := B.exec
  have hb := B.bytes
  have hr := B.returns
  have hts := atoms_spec (ws := .codeWith yL_guardAt cL_guardAt 6 (some .int) [(0, 12, 15, 21), (0, 12, 19, 13)] :: wsL_law) B.pre
  have ht : ∀ w ∈ wsL_law, w.before _ s = true := fun w h => hts w (List.mem_cons_of_mem _ h)
  have hown : s.vm.findClass RL = some m.cls := findClass_of_methodNamed B.named
  have hlocks := B.notSynchronized
  have htab : c.exceptionTable.toList = tableOf [(0, 12, 15, 21), (0, 12, 19, 13)] := vx_table (x := yL_guardAt) B (hts _ List.mem_cons_self)
  subst hsz
  have hD := hD0.self (sz := s.heap.size)
  generalize hAe : va_A (WXJ ox pl ru sh sp sl gr re pr ga rp bo fa gpl gin bbe bdi oq cP cI cL de) s.heap.size = A at hD hG ⊢
  have hA : ∀ q : Nat, s.heap.size ≤ q → A q := fun q h => by rw [← hAe]; exact Or.inr h
  have hS : va_S A s.heap s.heap [] := va_S.rf
  have hP : va_P (dC, dI) vwCl [(ox, .inr (13, [.ref pl, .ref ru, .ref sh, .ref sp, .ref sl, .ref gr, .ref re, .ref pr, .ref ga, .ref rp, .ref bo, .int 0])), (pl, .inr (1, [.int 0, .ref de, .int 0])), (ru, .inr (1, [.int 0, .ref de, .int 0])), (sh, .inr (1, [.int 0, .ref de, .int 0])), (sp, .inl (cP, 6, .inr (.inr (.inr (.inr (fun _ => none)))))), (ga, .inr (5, [.ref gpl, .ref gin, .int (-1), .int 0, .int 112, .int 0])), (bo, .inr (2, [.ref fa, .ref bbe, .ref bdi, .int 0, .int 0])), (fa, .inl (cI, 96, .inl (fun _ => 0))), (oq, .inl (cL, 1, .inr (.inl (fun _ => 0))))] s.heap := hP
  have hD : va_D A [(ox, .inr (13, [.ref pl, .ref ru, .ref sh, .ref sp, .ref sl, .ref gr, .ref re, .ref pr, .ref ga, .ref rp, .ref bo, .int 0])), (pl, .inr (1, [.int 0, .ref de, .int 0])), (ru, .inr (1, [.int 0, .ref de, .int 0])), (sh, .inr (1, [.int 0, .ref de, .int 0])), (sp, .inl (cP, 6, .inr (.inr (.inr (.inr (fun _ => none)))))), (ga, .inr (5, [.ref gpl, .ref gin, .int (-1), .int 0, .int 112, .int 0])), (bo, .inr (2, [.ref fa, .ref bbe, .ref bdi, .int 0, .int 0])), (fa, .inl (cI, 96, .inl (fun _ => 0))), (oq, .inl (cL, 1, .inr (.inl (fun _ => 0))))] := hD
  have hl := lv_entry ([.ref ox, .int a1, .int a2, .int a3, .ref oq]) (n := 6) (Nat.le_of_ble_eq_true rfl)
  rw [lg_entry_eq]
  generalize (lg_sl ([.ref ox, .int a1, .int a2, .int a3, .ref oq]) ++ List.replicate (6 - (lg_sl ([.ref ox, .int a1, .int a2, .int a3, .ref oq])).length) Slot.unset).toArray = ls at hl ⊢
  have hl : lv_has ls 6 [(0, .ref ox), (1, .int a1), (2, .int a2), (3, .int a3), (4, .ref oq)] := hl
  refine lv_aload hx hb dL_guardAt_0 (lv_at hl 4 rfl) ?_
  refine lv_iconst (v := 0) hx hb dL_guardAt_2 (by decide) ?_
  refine lv_aload_n hx hb dL_guardAt_3 rfl (lv_at hl 0 rfl) ?_
  refine lv_iload_n hx hb dL_guardAt_4 rfl (lv_at hl 1 rfl) ?_
  refine lv_iload_n hx hb dL_guardAt_5 rfl (lv_at hl 2 rfl) ?_
  refine lv_iload_n hx hb dL_guardAt_6 rfl (lv_at hl 3 rfl) ?_
  have hPc := hP.sub (ws' := [(ox, .inr (13, [.ref pl, .ref ru, .ref sh, .ref sp, .ref sl, .ref gr, .ref re, .ref pr, .ref ga, .ref rp, .ref bo, .int 0])), (pl, .inr (1, [.int 0, .ref de, .int 0])), (ru, .inr (1, [.int 0, .ref de, .int 0])), (sh, .inr (1, [.int 0, .ref de, .int 0])), (sp, .inl (cP, 6, .inr (.inr (.inr (.inr (fun _ => none)))))), (ga, .inr (5, [.ref gpl, .ref gin, .int (-1), .int 0, .int 112, .int 0])), (bo, .inr (2, [.ref fa, .ref bbe, .ref bdi, .int 0, .int 0])), (fa, .inl (cI, 96, .inl (fun _ => 0)))]) [0, 1, 2, 3, 4, 5, 6, 7] rfl
  have hDc := hD.sub (ws' := [(ox, .inr (13, [.ref pl, .ref ru, .ref sh, .ref sp, .ref sl, .ref gr, .ref re, .ref pr, .ref ga, .ref rp, .ref bo, .int 0])), (pl, .inr (1, [.int 0, .ref de, .int 0])), (ru, .inr (1, [.int 0, .ref de, .int 0])), (sh, .inr (1, [.int 0, .ref de, .int 0])), (sp, .inl (cP, 6, .inr (.inr (.inr (.inr (fun _ => none)))))), (ga, .inr (5, [.ref gpl, .ref gin, .int (-1), .int 0, .int 112, .int 0])), (bo, .inr (2, [.ref fa, .ref bbe, .ref bdi, .int 0, .int 0])), (fa, .inl (cI, 96, .inl (fun _ => 0)))]) [0, 1, 2, 3, 4, 5, 6, 7] (by decide) rfl
  have hKc := hK.sub (tys' := [(cP, .object "Levelsmith$Player"), (cI, .int)]) [0, 1] rfl
  have hFc := va_free (wc := [(ox, .inr (13, [.ref pl, .ref ru, .ref sh, .ref sp, .ref sl, .ref gr, .ref re, .ref pr, .ref ga, .ref rp, .ref bo, .int 0])), (pl, .inr (1, [.int 0, .ref de, .int 0])), (ru, .inr (1, [.int 0, .ref de, .int 0])), (sh, .inr (1, [.int 0, .ref de, .int 0])), (sp, .inl (cP, 6, .inr (.inr (.inr (.inr (fun _ => none)))))), (ga, .inr (5, [.ref gpl, .ref gin, .int (-1), .int 0, .int 112, .int 0])), (bo, .inr (2, [.ref fa, .ref bbe, .ref bdi, .int 0, .int 0])), (fa, .inl (cI, 96, .inl (fun _ => 0)))]) hD hS hA [0, 1, 2, 3, 4, 5, 6, 7] rfl
  refine vx_calli (vx_runV (As := [.int a1, .int a2, .int a3]) (rest := [.int 0, .ref oq]) ⟨hx, hb, hml, hown, ht⟩ (c_X11_guardAt l hlt dC dI de (ox) (pl) (ru) (sh) (sp) (sl) (gr) (re) (pr) (ga) (rp) (bo) (fa) (gpl) (gin) (bbe) (bdi) (cP) (cI) (a1) (a2) (a3) s.heap.size) (cwV 3 ht (gWV (wr_23 _ (List.mem_of_getElem? (i := 19) rfl)) (wr_23 _ (List.mem_of_getElem? (i := 20) rfl)) (wr_23 _ (List.mem_of_getElem? (i := 21) rfl)) (wr_1 _ (List.mem_of_getElem? (i := 2) rfl)) (wr_23 _ (List.mem_of_getElem? (i := 22) rfl))) rfl rfl rfl (by decide +kernel) ⟨Nat.le_of_ble_eq_true rfl, Nat.le_of_ble_eq_true rfl⟩) ⟨PW_blind, va_recv hKc hPc (ci := 13) (q0 := 0) rfl rfl, PW_call hPc hDc hKc hS hG hFc⟩ rfl rfl hl.1 rfl (lv_room (Nat.le_of_ble_eq_true rfl)) dL_guardAt_7 ⟨Nat.le_of_ble_eq_true rfl, Nat.le_of_ble_eq_true rfl⟩) hS (fun q _ h => hFc q h) hFc (fun q _ h => hFc q h) (fun E ce q9 u t H1 locs1 ht9 hvm9 _ hR9 hz9 hk9 hS9 hc9 hv9 hcl9 => ?_) (fun r_7 u t H1 locs ht9 hvm hw hB hz1 hk1 hS => False.elim hw)
  obtain ⟨hP, hD⟩ := va_join (wr := [(oq, .inl (cL, 1, .inr (.inl (fun _ => 0))))]) (w1 := []) hP hD [0, 1, 2, 3, 4, 5, 6, 7] [8] rfl rfl (by decide) (by decide) hk9 hFc (va_P_nil (dC, dI) vwCl H1) (va_D_nil _)
  have hK := hK.sub (tys' := [(cL, .long)]) [2] rfl
  have hS := hS9
  obtain rfl := hR9
  refine vx_catch (own := RL) (name := "java/lang/IndexOutOfBoundsException") hown [] ⟨0, 12, 15, 21⟩ [⟨0, 12, 19, 13⟩] htab (fun z hz => nomatch hz) (by decide) (by decide) (ht _ (wr_18 _ (List.mem_of_getElem? (i := 12) rfl))) (va_Nw.use rfl (hG.2.2.2.1 _ (List.mem_of_getElem? (i := 0) rfl))) hc9 hv9 hcl9 ?_
  refine lv_astore (lv' := [(5, .ref q9), (0, .ref ox), (1, .int a1), (2, .int a2), (3, .int a3), (4, .ref oq)]) hx hb dL_guardAt_15 hl (by decide) rfl (fun ls hl => ?_)
  refine lv_iconst (v := 1) hx hb dL_guardAt_17 (by decide) ?_
  have hP9 := hP.sub (ws' := []) [] rfl
  have hD9 := hD.sub (ws' := []) [] (by decide) rfl
  have hK9 := hK.sub (tys' := []) [] rfl
  exact vx_ret (W.iret (v := 1) hx hb hr (fun t htt hW => have ht := htt; ⟨⟨1, (), rfl, rfl, QW_of ht hW hP9 hK9 hD9⟩, hS.F ht⟩) hS.2.2 dL_guardAt_18)
set_option maxHeartbeats 4000000 in
set_option maxRecDepth 100000 in
theorem c_L_copy (l : Launch) (hlt : l.stackTraces = false) (dC : Nat → ClassId) (dI : Nat → Nat → Nat) (de : Nat) (ox : Nat) (pl : Nat) (ru : Nat) (sh : Nat) (sp : Nat) (sl : Nat) (gr : Nat) (re : Nat) (pr : Nat) (ga : Nat) (rp : Nat) (bo : Nat) (fa : Nat) (gpl : Nat) (gin : Nat) (bbe : Nat) (bdi : Nat) (cP : ClassId) (cI : ClassId) (oq : Nat) (cL : ClassId) (a1 : Int32) (sz : Nat) : vx_Met l yL_copy (.codeWith yL_copy cL_copy 4 (some .int) [(0, 9, 12, 21), (0, 9, 15, 15)] :: wsL_law) { frames := 8, cells := 1, slots := 6, locals := 134 } (va_Pc [.ref ox, .int a1, .ref oq] (PW dC dI de [(cP, .object "Levelsmith$Player"), (cI, .int), (cL, .long)] (WXJ ox pl ru sh sp sl gr re pr ga rp bo fa gpl gin bbe bdi oq cP cI cL de) sz)) (va_Qi (fun (r : Int32) (u : Unit) => r = 1) (fun (_ : Unit) (t : State) => QW dC dI [] [] (va_A (WXJ ox pl ru sh sp sl gr re pr ga rp bo fa gpl gin bbe bdi oq cP cI cL de) sz) t) (va_A (WXJ ox pl ru sh sp sl gr re pr ga rp bo fa gpl gin bbe bdi oq cP cI cL de) sz)) (XX (fun E => False) (va_A (WXJ ox pl ru sh sp sl gr re pr ga rp bo fa gpl gin bbe bdi oq cP cI cL de) sz)) 1 6 (va_A (WXJ ox pl ru sh sp sl gr re pr ga rp bo fa gpl gin bbe bdi oq cP cI cL de) sz) := by
  refine vx_ofWH (cc := cL_copy) (maxL := 4) (ret := (some .int)) (by decide) rfl ?_
  intro p e s m args below meth c s₁ B hml hv
  obtain ⟨rfl, hsz, hP, hK, hD0, hG⟩ := hv
  have hx := B.exec
  have hb := B.bytes
  have hr := B.returns
  have hts := atoms_spec (ws := .codeWith yL_copy cL_copy 4 (some .int) [(0, 9, 12, 21), (0, 9, 15, 15)] :: wsL_law) B.pre
  have ht : ∀ w ∈ wsL_law, w.before _ s = true := fun w h => hts w (List.mem_cons_of_mem _ h)
  have hown : s.vm.findClass RL = some m.cls := findClass_of_methodNamed B.named
  have hlocks := B.notSynchronized
  have htab : c.exceptionTable.toList = tableOf [(0, 9, 12, 21), (0, 9, 15, 15)] := vx_table (x := yL_copy) B (hts _ List.mem_cons_self)
  subst hsz
  have hD := hD0.self (sz := s.heap.size)
  generalize hAe : va_A (WXJ ox pl ru sh sp sl gr re pr ga rp bo fa gpl gin bbe bdi oq cP cI cL de) s.heap.size = A at hD hG ⊢
  have hA : ∀ q : Nat, s.heap.size ≤ q → A q := fun q h => by rw [← hAe]; exact Or.inr h
  have hS : va_S A s.heap s.heap [] := va_S.rf
  have hP : va_P (dC, dI) vwCl [(ox, .inr (13, [.ref pl, .ref ru, .ref sh, .ref sp, .ref sl, .ref gr, .ref re, .ref pr, .ref ga, .ref rp, .ref bo, .int 0])), (pl, .inr (1, [.int 0, .ref de, .int 0])), (ru, .inr (1, [.int 0, .ref de, .int 0])), (sh, .inr (1, [.int 0, .ref de, .int 0])), (sp, .inl (cP, 6, .inr (.inr (.inr (.inr (fun _ => none)))))), (ga, .inr (5, [.ref gpl, .ref gin, .int (-1), .int 0, .int 112, .int 0])), (bo, .inr (2, [.ref fa, .ref bbe, .ref bdi, .int 0, .int 0])), (fa, .inl (cI, 96, .inl (fun _ => 0))), (oq, .inl (cL, 1, .inr (.inl (fun _ => 0))))] s.heap := hP
  have hD : va_D A [(ox, .inr (13, [.ref pl, .ref ru, .ref sh, .ref sp, .ref sl, .ref gr, .ref re, .ref pr, .ref ga, .ref rp, .ref bo, .int 0])), (pl, .inr (1, [.int 0, .ref de, .int 0])), (ru, .inr (1, [.int 0, .ref de, .int 0])), (sh, .inr (1, [.int 0, .ref de, .int 0])), (sp, .inl (cP, 6, .inr (.inr (.inr (.inr (fun _ => none)))))), (ga, .inr (5, [.ref gpl, .ref gin, .int (-1), .int 0, .int 112, .int 0])), (bo, .inr (2, [.ref fa, .ref bbe, .ref bdi, .int 0, .int 0])), (fa, .inl (cI, 96, .inl (fun _ => 0))), (oq, .inl (cL, 1, .inr (.inl (fun _ => 0))))] := hD
  have hl := lv_entry ([.ref ox, .int a1, .ref oq]) (n := 4) (Nat.le_of_ble_eq_true rfl)
  rw [lg_entry_eq]
  generalize (lg_sl ([.ref ox, .int a1, .ref oq]) ++ List.replicate (4 - (lg_sl ([.ref ox, .int a1, .ref oq])).length) Slot.unset).toArray = ls at hl ⊢
  have hl : lv_has ls 4 [(0, .ref ox), (1, .int a1), (2, .ref oq)] := hl
  refine lv_aload_n hx hb dL_copy_0 rfl (lv_at hl 2 rfl) ?_
  refine lv_iconst (v := 0) hx hb dL_copy_1 (by decide) ?_
  refine lv_aload_n hx hb dL_copy_2 rfl (lv_at hl 0 rfl) ?_
  refine lv_iload_n hx hb dL_copy_3 rfl (lv_at hl 1 rfl) ?_
  have hPc := hP.sub (ws' := [(ox, .inr (13, [.ref pl, .ref ru, .ref sh, .ref sp, .ref sl, .ref gr, .ref re, .ref pr, .ref ga, .ref rp, .ref bo, .int 0])), (pl, .inr (1, [.int 0, .ref de, .int 0])), (ru, .inr (1, [.int 0, .ref de, .int 0])), (sh, .inr (1, [.int 0, .ref de, .int 0])), (sp, .inl (cP, 6, .inr (.inr (.inr (.inr (fun _ => none)))))), (ga, .inr (5, [.ref gpl, .ref gin, .int (-1), .int 0, .int 112, .int 0])), (bo, .inr (2, [.ref fa, .ref bbe, .ref bdi, .int 0, .int 0])), (fa, .inl (cI, 96, .inl (fun _ => 0)))]) [0, 1, 2, 3, 4, 5, 6, 7] rfl
  have hDc := hD.sub (ws' := [(ox, .inr (13, [.ref pl, .ref ru, .ref sh, .ref sp, .ref sl, .ref gr, .ref re, .ref pr, .ref ga, .ref rp, .ref bo, .int 0])), (pl, .inr (1, [.int 0, .ref de, .int 0])), (ru, .inr (1, [.int 0, .ref de, .int 0])), (sh, .inr (1, [.int 0, .ref de, .int 0])), (sp, .inl (cP, 6, .inr (.inr (.inr (.inr (fun _ => none)))))), (ga, .inr (5, [.ref gpl, .ref gin, .int (-1), .int 0, .int 112, .int 0])), (bo, .inr (2, [.ref fa, .ref bbe, .ref bdi, .int 0, .int 0])), (fa, .inl (cI, 96, .inl (fun _ => 0)))]) [0, 1, 2, 3, 4, 5, 6, 7] (by decide) rfl
  have hKc := hK.sub (tys' := [(cP, .object "Levelsmith$Player"), (cI, .int)]) [0, 1] rfl
  have hFc := va_free (wc := [(ox, .inr (13, [.ref pl, .ref ru, .ref sh, .ref sp, .ref sl, .ref gr, .ref re, .ref pr, .ref ga, .ref rp, .ref bo, .int 0])), (pl, .inr (1, [.int 0, .ref de, .int 0])), (ru, .inr (1, [.int 0, .ref de, .int 0])), (sh, .inr (1, [.int 0, .ref de, .int 0])), (sp, .inl (cP, 6, .inr (.inr (.inr (.inr (fun _ => none)))))), (ga, .inr (5, [.ref gpl, .ref gin, .int (-1), .int 0, .int 112, .int 0])), (bo, .inr (2, [.ref fa, .ref bbe, .ref bdi, .int 0, .int 0])), (fa, .inl (cI, 96, .inl (fun _ => 0)))]) hD hS hA [0, 1, 2, 3, 4, 5, 6, 7] rfl
  refine vx_calli (vx_runV (As := [.int a1]) (rest := [.int 0, .ref oq]) ⟨hx, hb, hml, hown, ht⟩ (c_X11_copy l hlt dC dI de (ox) (pl) (ru) (sh) (sp) (sl) (gr) (re) (pr) (ga) (rp) (bo) (fa) (gpl) (gin) (bbe) (bdi) (cP) (cI) (a1) s.heap.size) (cwV 1 ht (gWV (wr_24 _ (List.mem_of_getElem? (i := 19) rfl)) (wr_24 _ (List.mem_of_getElem? (i := 20) rfl)) (wr_24 _ (List.mem_of_getElem? (i := 21) rfl)) (wr_1 _ (List.mem_of_getElem? (i := 2) rfl)) (wr_24 _ (List.mem_of_getElem? (i := 22) rfl))) rfl rfl rfl (by decide +kernel) ⟨Nat.le_of_ble_eq_true rfl, Nat.le_of_ble_eq_true rfl⟩) ⟨PW_blind, va_recv hKc hPc (ci := 13) (q0 := 0) rfl rfl, PW_call hPc hDc hKc hS hG hFc⟩ rfl rfl hl.1 rfl (lv_room (Nat.le_of_ble_eq_true rfl)) dL_copy_4 ⟨Nat.le_of_ble_eq_true rfl, Nat.le_of_ble_eq_true rfl⟩) hS (fun q _ h => hFc q h) hFc (fun q _ h => hFc q h) (fun E ce q9 u t H1 locs1 ht9 hvm9 _ hR9 hz9 hk9 hS9 hc9 hv9 hcl9 => ?_) (fun r_4 u t H1 locs ht9 hvm hw hB hz1 hk1 hS => False.elim hw)
  obtain ⟨hP, hD⟩ := va_join (wr := [(oq, .inl (cL, 1, .inr (.inl (fun _ => 0))))]) (w1 := []) hP hD [0, 1, 2, 3, 4, 5, 6, 7] [8] rfl rfl (by decide) (by decide) hk9 hFc (va_P_nil (dC, dI) vwCl H1) (va_D_nil _)
  have hK := hK.sub (tys' := [(cL, .long)]) [2] rfl
  have hS := hS9
  obtain rfl := hR9
  refine vx_catch (own := RL) (name := "java/lang/IndexOutOfBoundsException") hown [] ⟨0, 9, 12, 21⟩ [⟨0, 9, 15, 15⟩] htab (fun z hz => nomatch hz) (by decide) (by decide) (ht _ (wr_18 _ (List.mem_of_getElem? (i := 12) rfl))) (va_Nw.use rfl (hG.2.2.2.1 _ (List.mem_of_getElem? (i := 0) rfl))) hc9 hv9 hcl9 ?_
  refine lv_astore_n (lv' := [(3, .ref q9), (0, .ref ox), (1, .int a1), (2, .ref oq)]) hx hb dL_copy_12 rfl hl (by decide) rfl (fun ls hl => ?_)
  refine lv_iconst (v := 1) hx hb dL_copy_13 (by decide) ?_
  have hP9 := hP.sub (ws' := []) [] rfl
  have hD9 := hD.sub (ws' := []) [] (by decide) rfl
  have hK9 := hK.sub (tys' := []) [] rfl
  exact vx_ret (W.iret (v := 1) hx hb hr (fun t htt hW => have ht := htt; ⟨⟨1, (), rfl, rfl, QW_of ht hW hP9 hK9 hD9⟩, hS.F ht⟩) hS.2.2 dL_copy_14)
set_option maxHeartbeats 4000000 in
set_option maxRecDepth 100000 in
theorem c_L_grow (l : Launch) (hlt : l.stackTraces = false) (dC : Nat → ClassId) (dI : Nat → Nat → Nat) (de : Nat) (ox : Nat) (pl : Nat) (ru : Nat) (sh : Nat) (sp : Nat) (sl : Nat) (gr : Nat) (re : Nat) (pr : Nat) (ga : Nat) (rp : Nat) (bo : Nat) (fa : Nat) (gpl : Nat) (gin : Nat) (bbe : Nat) (bdi : Nat) (cP : ClassId) (cI : ClassId) (oq : Nat) (cL : ClassId) (a1 : Int32) (a2 : Int32) (sz : Nat) : vx_Met l yL_grow (.codeWith yL_grow cL_grow 5 (some .int) [(0, 10, 13, 21)] :: wsL_law) { frames := 8, cells := 1, slots := 6, locals := 134 } (va_Pc [.ref ox, .int a1, .int a2, .ref oq] (PW dC dI de [(cP, .object "Levelsmith$Player"), (cI, .int), (cL, .long)] (WXJ ox pl ru sh sp sl gr re pr ga rp bo fa gpl gin bbe bdi oq cP cI cL de) sz)) (va_Qi (fun (r : Int32) (u : Unit) => r = 1) (fun (_ : Unit) (t : State) => QW dC dI [] [] (va_A (WXJ ox pl ru sh sp sl gr re pr ga rp bo fa gpl gin bbe bdi oq cP cI cL de) sz) t) (va_A (WXJ ox pl ru sh sp sl gr re pr ga rp bo fa gpl gin bbe bdi oq cP cI cL de) sz)) (XX (fun E => False) (va_A (WXJ ox pl ru sh sp sl gr re pr ga rp bo fa gpl gin bbe bdi oq cP cI cL de) sz)) 1 6 (va_A (WXJ ox pl ru sh sp sl gr re pr ga rp bo fa gpl gin bbe bdi oq cP cI cL de) sz) := by
  refine vx_ofWH (cc := cL_grow) (maxL := 5) (ret := (some .int)) (by decide) rfl ?_
  intro p e s m args below meth c s₁ B hml hv
  obtain ⟨rfl, hsz, hP, hK, hD0, hG⟩ := hv
  have hx := B.exec
  have hb := B.bytes
  have hr := B.returns
  have hts := atoms_spec (ws := .codeWith yL_grow cL_grow 5 (some .int) [(0, 10, 13, 21)] :: wsL_law) B.pre
  have ht : ∀ w ∈ wsL_law, w.before _ s = true := fun w h => hts w (List.mem_cons_of_mem _ h)
  have hown : s.vm.findClass RL = some m.cls := findClass_of_methodNamed B.named
  have hlocks := B.notSynchronized
  have htab : c.exceptionTable.toList = tableOf [(0, 10, 13, 21)] := vx_table (x := yL_grow) B (hts _ List.mem_cons_self)
  subst hsz
  have hD := hD0.self (sz := s.heap.size)
  generalize hAe : va_A (WXJ ox pl ru sh sp sl gr re pr ga rp bo fa gpl gin bbe bdi oq cP cI cL de) s.heap.size = A at hD hG ⊢
  have hA : ∀ q : Nat, s.heap.size ≤ q → A q := fun q h => by rw [← hAe]; exact Or.inr h
  have hS : va_S A s.heap s.heap [] := va_S.rf
  have hP : va_P (dC, dI) vwCl [(ox, .inr (13, [.ref pl, .ref ru, .ref sh, .ref sp, .ref sl, .ref gr, .ref re, .ref pr, .ref ga, .ref rp, .ref bo, .int 0])), (pl, .inr (1, [.int 0, .ref de, .int 0])), (ru, .inr (1, [.int 0, .ref de, .int 0])), (sh, .inr (1, [.int 0, .ref de, .int 0])), (sp, .inl (cP, 6, .inr (.inr (.inr (.inr (fun _ => none)))))), (ga, .inr (5, [.ref gpl, .ref gin, .int (-1), .int 0, .int 112, .int 0])), (bo, .inr (2, [.ref fa, .ref bbe, .ref bdi, .int 0, .int 0])), (fa, .inl (cI, 96, .inl (fun _ => 0))), (oq, .inl (cL, 1, .inr (.inl (fun _ => 0))))] s.heap := hP
  have hD : va_D A [(ox, .inr (13, [.ref pl, .ref ru, .ref sh, .ref sp, .ref sl, .ref gr, .ref re, .ref pr, .ref ga, .ref rp, .ref bo, .int 0])), (pl, .inr (1, [.int 0, .ref de, .int 0])), (ru, .inr (1, [.int 0, .ref de, .int 0])), (sh, .inr (1, [.int 0, .ref de, .int 0])), (sp, .inl (cP, 6, .inr (.inr (.inr (.inr (fun _ => none)))))), (ga, .inr (5, [.ref gpl, .ref gin, .int (-1), .int 0, .int 112, .int 0])), (bo, .inr (2, [.ref fa, .ref bbe, .ref bdi, .int 0, .int 0])), (fa, .inl (cI, 96, .inl (fun _ => 0))), (oq, .inl (cL, 1, .inr (.inl (fun _ => 0))))] := hD
  have hl := lv_entry ([.ref ox, .int a1, .int a2, .ref oq]) (n := 5) (Nat.le_of_ble_eq_true rfl)
  rw [lg_entry_eq]
  generalize (lg_sl ([.ref ox, .int a1, .int a2, .ref oq]) ++ List.replicate (5 - (lg_sl ([.ref ox, .int a1, .int a2, .ref oq])).length) Slot.unset).toArray = ls at hl ⊢
  have hl : lv_has ls 5 [(0, .ref ox), (1, .int a1), (2, .int a2), (3, .ref oq)] := hl
  refine lv_aload_n hx hb dL_grow_0 rfl (lv_at hl 3 rfl) ?_
  refine lv_iconst (v := 0) hx hb dL_grow_1 (by decide) ?_
  refine lv_aload_n hx hb dL_grow_2 rfl (lv_at hl 0 rfl) ?_
  refine lv_iload_n hx hb dL_grow_3 rfl (lv_at hl 1 rfl) ?_
  refine lv_iload_n hx hb dL_grow_4 rfl (lv_at hl 2 rfl) ?_
  have hPc := hP.sub (ws' := [(ox, .inr (13, [.ref pl, .ref ru, .ref sh, .ref sp, .ref sl, .ref gr, .ref re, .ref pr, .ref ga, .ref rp, .ref bo, .int 0])), (pl, .inr (1, [.int 0, .ref de, .int 0])), (ru, .inr (1, [.int 0, .ref de, .int 0])), (sh, .inr (1, [.int 0, .ref de, .int 0])), (sp, .inl (cP, 6, .inr (.inr (.inr (.inr (fun _ => none)))))), (ga, .inr (5, [.ref gpl, .ref gin, .int (-1), .int 0, .int 112, .int 0])), (bo, .inr (2, [.ref fa, .ref bbe, .ref bdi, .int 0, .int 0])), (fa, .inl (cI, 96, .inl (fun _ => 0)))]) [0, 1, 2, 3, 4, 5, 6, 7] rfl
  have hDc := hD.sub (ws' := [(ox, .inr (13, [.ref pl, .ref ru, .ref sh, .ref sp, .ref sl, .ref gr, .ref re, .ref pr, .ref ga, .ref rp, .ref bo, .int 0])), (pl, .inr (1, [.int 0, .ref de, .int 0])), (ru, .inr (1, [.int 0, .ref de, .int 0])), (sh, .inr (1, [.int 0, .ref de, .int 0])), (sp, .inl (cP, 6, .inr (.inr (.inr (.inr (fun _ => none)))))), (ga, .inr (5, [.ref gpl, .ref gin, .int (-1), .int 0, .int 112, .int 0])), (bo, .inr (2, [.ref fa, .ref bbe, .ref bdi, .int 0, .int 0])), (fa, .inl (cI, 96, .inl (fun _ => 0)))]) [0, 1, 2, 3, 4, 5, 6, 7] (by decide) rfl
  have hKc := hK.sub (tys' := [(cP, .object "Levelsmith$Player"), (cI, .int)]) [0, 1] rfl
  have hFc := va_free (wc := [(ox, .inr (13, [.ref pl, .ref ru, .ref sh, .ref sp, .ref sl, .ref gr, .ref re, .ref pr, .ref ga, .ref rp, .ref bo, .int 0])), (pl, .inr (1, [.int 0, .ref de, .int 0])), (ru, .inr (1, [.int 0, .ref de, .int 0])), (sh, .inr (1, [.int 0, .ref de, .int 0])), (sp, .inl (cP, 6, .inr (.inr (.inr (.inr (fun _ => none)))))), (ga, .inr (5, [.ref gpl, .ref gin, .int (-1), .int 0, .int 112, .int 0])), (bo, .inr (2, [.ref fa, .ref bbe, .ref bdi, .int 0, .int 0])), (fa, .inl (cI, 96, .inl (fun _ => 0)))]) hD hS hA [0, 1, 2, 3, 4, 5, 6, 7] rfl
  refine vx_calli (vx_runV (As := [.int a1, .int a2]) (rest := [.int 0, .ref oq]) ⟨hx, hb, hml, hown, ht⟩ (c_X11_grow l hlt dC dI de (ox) (pl) (ru) (sh) (sp) (sl) (gr) (re) (pr) (ga) (rp) (bo) (fa) (gpl) (gin) (bbe) (bdi) (cP) (cI) (a1) (a2) s.heap.size) (cwV 2 ht (gWV (wr_26 _ (List.mem_of_getElem? (i := 4) rfl)) (wr_26 _ (List.mem_of_getElem? (i := 5) rfl)) (wr_26 _ (List.mem_of_getElem? (i := 6) rfl)) (wr_1 _ (List.mem_of_getElem? (i := 2) rfl)) (wr_26 _ (List.mem_of_getElem? (i := 7) rfl))) rfl rfl rfl (by decide +kernel) ⟨Nat.le_of_ble_eq_true rfl, Nat.le_of_ble_eq_true rfl⟩) ⟨PW_blind, va_recv hKc hPc (ci := 13) (q0 := 0) rfl rfl, PW_call hPc hDc hKc hS hG hFc⟩ rfl rfl hl.1 rfl (lv_room (Nat.le_of_ble_eq_true rfl)) dL_grow_5 ⟨Nat.le_of_ble_eq_true rfl, Nat.le_of_ble_eq_true rfl⟩) hS (fun q _ h => hFc q h) hFc (fun q _ h => hFc q h) (fun E ce q9 u t H1 locs1 ht9 hvm9 _ hR9 hz9 hk9 hS9 hc9 hv9 hcl9 => ?_) (fun r_5 u t H1 locs ht9 hvm hw hB hz1 hk1 hS => False.elim hw)
  obtain ⟨hP, hD⟩ := va_join (wr := [(oq, .inl (cL, 1, .inr (.inl (fun _ => 0))))]) (w1 := []) hP hD [0, 1, 2, 3, 4, 5, 6, 7] [8] rfl rfl (by decide) (by decide) hk9 hFc (va_P_nil (dC, dI) vwCl H1) (va_D_nil _)
  have hK := hK.sub (tys' := [(cL, .long)]) [2] rfl
  have hS := hS9
  obtain rfl := hR9
  refine vx_catch (own := RL) (name := "java/lang/IndexOutOfBoundsException") hown [] ⟨0, 10, 13, 21⟩ [] htab (fun z hz => nomatch hz) (by decide) (by decide) (ht _ (wr_18 _ (List.mem_of_getElem? (i := 12) rfl))) (va_Nw.use rfl (hG.2.2.2.1 _ (List.mem_of_getElem? (i := 0) rfl))) hc9 hv9 hcl9 ?_
  refine lv_astore (lv' := [(4, .ref q9), (0, .ref ox), (1, .int a1), (2, .int a2), (3, .ref oq)]) hx hb dL_grow_13 hl (by decide) rfl (fun ls hl => ?_)
  refine lv_iconst (v := 1) hx hb dL_grow_15 (by decide) ?_
  have hP9 := hP.sub (ws' := []) [] rfl
  have hD9 := hD.sub (ws' := []) [] (by decide) rfl
  have hK9 := hK.sub (tys' := []) [] rfl
  exact vx_ret (W.iret (v := 1) hx hb hr (fun t htt hW => have ht := htt; ⟨⟨1, (), rfl, rfl, QW_of ht hW hP9 hK9 hD9⟩, hS.F ht⟩) hS.2.2 dL_grow_16)
set_option maxHeartbeats 4000000 in
set_option maxRecDepth 100000 in
theorem c_L_isWinnable (l : Launch) (hlt : l.stackTraces = false) (dC : Nat → ClassId) (dI : Nat → Nat → Nat) (de : Nat) (ox : Nat) (pl : Nat) (ru : Nat) (sh : Nat) (sp : Nat) (sl : Nat) (gr : Nat) (re : Nat) (pr : Nat) (ga : Nat) (rp : Nat) (bo : Nat) (fa : Nat) (gpl : Nat) (gin : Nat) (bbe : Nat) (bdi : Nat) (cP : ClassId) (cI : ClassId) (oq : Nat) (cL : ClassId) (a1 : Int32) (sz : Nat) : vx_Met l yL_isWinnable (.codeWith yL_isWinnable cL_isWinnable 4 (some .int) [(0, 16, 19, 21)] :: wsL_law) { frames := 9, cells := 1, slots := 6, locals := 154 } (va_Pc [.ref ox, .int a1, .ref oq] (PW dC dI de [(cP, .object "Levelsmith$Player"), (cI, .int), (cL, .long)] (WXJ ox pl ru sh sp sl gr re pr ga rp bo fa gpl gin bbe bdi oq cP cI cL de) sz)) (va_Qi (fun (r : Int32) (u : Unit) => r = 1) (fun (_ : Unit) (t : State) => QW dC dI [] [] (va_A (WXJ ox pl ru sh sp sl gr re pr ga rp bo fa gpl gin bbe bdi oq cP cI cL de) sz) t) (va_A (WXJ ox pl ru sh sp sl gr re pr ga rp bo fa gpl gin bbe bdi oq cP cI cL de) sz)) (XX (fun E => False) (va_A (WXJ ox pl ru sh sp sl gr re pr ga rp bo fa gpl gin bbe bdi oq cP cI cL de) sz)) 1 6 (va_A (WXJ ox pl ru sh sp sl gr re pr ga rp bo fa gpl gin bbe bdi oq cP cI cL de) sz) := by
  refine vx_ofWH (cc := cL_isWinnable) (maxL := 4) (ret := (some .int)) (by decide) rfl ?_
  intro p e s m args below meth c s₁ B hml hv
  obtain ⟨rfl, hsz, hP, hK, hD0, hG⟩ := hv
  have hx := B.exec
  have hb := B.bytes
  have hr := B.returns
  have hts := atoms_spec (ws := .codeWith yL_isWinnable cL_isWinnable 4 (some .int) [(0, 16, 19, 21)] :: wsL_law) B.pre
  have ht : ∀ w ∈ wsL_law, w.before _ s = true := fun w h => hts w (List.mem_cons_of_mem _ h)
  have hown : s.vm.findClass RL = some m.cls := findClass_of_methodNamed B.named
  have hlocks := B.notSynchronized
  have htab : c.exceptionTable.toList = tableOf [(0, 16, 19, 21)] := vx_table (x := yL_isWinnable) B (hts _ List.mem_cons_self)
  subst hsz
  have hD := hD0.self (sz := s.heap.size)
  generalize hAe : va_A (WXJ ox pl ru sh sp sl gr re pr ga rp bo fa gpl gin bbe bdi oq cP cI cL de) s.heap.size = A at hD hG ⊢
  have hA : ∀ q : Nat, s.heap.size ≤ q → A q := fun q h => by rw [← hAe]; exact Or.inr h
  have hS : va_S A s.heap s.heap [] := va_S.rf
  have hP : va_P (dC, dI) vwCl [(ox, .inr (13, [.ref pl, .ref ru, .ref sh, .ref sp, .ref sl, .ref gr, .ref re, .ref pr, .ref ga, .ref rp, .ref bo, .int 0])), (pl, .inr (1, [.int 0, .ref de, .int 0])), (ru, .inr (1, [.int 0, .ref de, .int 0])), (sh, .inr (1, [.int 0, .ref de, .int 0])), (sp, .inl (cP, 6, .inr (.inr (.inr (.inr (fun _ => none)))))), (ga, .inr (5, [.ref gpl, .ref gin, .int (-1), .int 0, .int 112, .int 0])), (bo, .inr (2, [.ref fa, .ref bbe, .ref bdi, .int 0, .int 0])), (fa, .inl (cI, 96, .inl (fun _ => 0))), (oq, .inl (cL, 1, .inr (.inl (fun _ => 0))))] s.heap := hP
  have hD : va_D A [(ox, .inr (13, [.ref pl, .ref ru, .ref sh, .ref sp, .ref sl, .ref gr, .ref re, .ref pr, .ref ga, .ref rp, .ref bo, .int 0])), (pl, .inr (1, [.int 0, .ref de, .int 0])), (ru, .inr (1, [.int 0, .ref de, .int 0])), (sh, .inr (1, [.int 0, .ref de, .int 0])), (sp, .inl (cP, 6, .inr (.inr (.inr (.inr (fun _ => none)))))), (ga, .inr (5, [.ref gpl, .ref gin, .int (-1), .int 0, .int 112, .int 0])), (bo, .inr (2, [.ref fa, .ref bbe, .ref bdi, .int 0, .int 0])), (fa, .inl (cI, 96, .inl (fun _ => 0))), (oq, .inl (cL, 1, .inr (.inl (fun _ => 0))))] := hD
  have hl := lv_entry ([.ref ox, .int a1, .ref oq]) (n := 4) (Nat.le_of_ble_eq_true rfl)
  rw [lg_entry_eq]
  generalize (lg_sl ([.ref ox, .int a1, .ref oq]) ++ List.replicate (4 - (lg_sl ([.ref ox, .int a1, .ref oq])).length) Slot.unset).toArray = ls at hl ⊢
  have hl : lv_has ls 4 [(0, .ref ox), (1, .int a1), (2, .ref oq)] := hl
  refine lv_aload_n hx hb dL_isWinnable_0 rfl (lv_at hl 2 rfl) ?_
  refine lv_iconst (v := 0) hx hb dL_isWinnable_1 (by decide) ?_
  refine lv_aload_n hx hb dL_isWinnable_2 rfl (lv_at hl 0 rfl) ?_
  refine lv_iload_n hx hb dL_isWinnable_3 rfl (lv_at hl 1 rfl) ?_
  have hPc := hP.sub (ws' := [(ox, .inr (13, [.ref pl, .ref ru, .ref sh, .ref sp, .ref sl, .ref gr, .ref re, .ref pr, .ref ga, .ref rp, .ref bo, .int 0])), (pl, .inr (1, [.int 0, .ref de, .int 0])), (ru, .inr (1, [.int 0, .ref de, .int 0])), (sh, .inr (1, [.int 0, .ref de, .int 0])), (sp, .inl (cP, 6, .inr (.inr (.inr (.inr (fun _ => none)))))), (ga, .inr (5, [.ref gpl, .ref gin, .int (-1), .int 0, .int 112, .int 0])), (bo, .inr (2, [.ref fa, .ref bbe, .ref bdi, .int 0, .int 0])), (fa, .inl (cI, 96, .inl (fun _ => 0)))]) [0, 1, 2, 3, 4, 5, 6, 7] rfl
  have hDc := hD.sub (ws' := [(ox, .inr (13, [.ref pl, .ref ru, .ref sh, .ref sp, .ref sl, .ref gr, .ref re, .ref pr, .ref ga, .ref rp, .ref bo, .int 0])), (pl, .inr (1, [.int 0, .ref de, .int 0])), (ru, .inr (1, [.int 0, .ref de, .int 0])), (sh, .inr (1, [.int 0, .ref de, .int 0])), (sp, .inl (cP, 6, .inr (.inr (.inr (.inr (fun _ => none)))))), (ga, .inr (5, [.ref gpl, .ref gin, .int (-1), .int 0, .int 112, .int 0])), (bo, .inr (2, [.ref fa, .ref bbe, .ref bdi, .int 0, .int 0])), (fa, .inl (cI, 96, .inl (fun _ => 0)))]) [0, 1, 2, 3, 4, 5, 6, 7] (by decide) rfl
  have hKc := hK.sub (tys' := [(cP, .object "Levelsmith$Player"), (cI, .int)]) [0, 1] rfl
  have hFc := va_free (wc := [(ox, .inr (13, [.ref pl, .ref ru, .ref sh, .ref sp, .ref sl, .ref gr, .ref re, .ref pr, .ref ga, .ref rp, .ref bo, .int 0])), (pl, .inr (1, [.int 0, .ref de, .int 0])), (ru, .inr (1, [.int 0, .ref de, .int 0])), (sh, .inr (1, [.int 0, .ref de, .int 0])), (sp, .inl (cP, 6, .inr (.inr (.inr (.inr (fun _ => none)))))), (ga, .inr (5, [.ref gpl, .ref gin, .int (-1), .int 0, .int 112, .int 0])), (bo, .inr (2, [.ref fa, .ref bbe, .ref bdi, .int 0, .int 0])), (fa, .inl (cI, 96, .inl (fun _ => 0)))]) hD hS hA [0, 1, 2, 3, 4, 5, 6, 7] rfl
  refine vx_calli (vx_runV (As := [.int a1]) (rest := [.int 0, .ref oq]) ⟨hx, hb, hml, hown, ht⟩ (c_X11_isWinnable l hlt dC dI de (ox) (pl) (ru) (sh) (sp) (sl) (gr) (re) (pr) (ga) (rp) (bo) (fa) (gpl) (gin) (bbe) (bdi) (cP) (cI) (a1) s.heap.size) (cwV 1 ht (gWV (wr_28 _ (List.mem_of_getElem? (i := 17) rfl)) (wr_28 _ (List.mem_of_getElem? (i := 18) rfl)) (wr_28 _ (List.mem_of_getElem? (i := 19) rfl)) (wr_1 _ (List.mem_of_getElem? (i := 2) rfl)) (wr_28 _ (List.mem_of_getElem? (i := 20) rfl))) rfl rfl rfl (by decide +kernel) ⟨Nat.le_of_ble_eq_true rfl, Nat.le_of_ble_eq_true rfl⟩) ⟨PW_blind, va_recv hKc hPc (ci := 13) (q0 := 0) rfl rfl, PW_call hPc hDc hKc hS hG hFc⟩ rfl rfl hl.1 rfl (lv_room (Nat.le_of_ble_eq_true rfl)) dL_isWinnable_4 ⟨Nat.le_of_ble_eq_true rfl, Nat.le_of_ble_eq_true rfl⟩) hS (fun q _ h => hFc q h) hFc (fun q _ h => hFc q h) (fun E ce q9 u t H1 locs1 ht9 hvm9 _ hR9 hz9 hk9 hS9 hc9 hv9 hcl9 => ?_) (fun r_4 u t H1 locs ht9 hvm hw hB hz1 hk1 hS => False.elim hw)
  obtain ⟨hP, hD⟩ := va_join (wr := [(oq, .inl (cL, 1, .inr (.inl (fun _ => 0))))]) (w1 := []) hP hD [0, 1, 2, 3, 4, 5, 6, 7] [8] rfl rfl (by decide) (by decide) hk9 hFc (va_P_nil (dC, dI) vwCl H1) (va_D_nil _)
  have hK := hK.sub (tys' := [(cL, .long)]) [2] rfl
  have hS := hS9
  obtain rfl := hR9
  refine vx_catch (own := RL) (name := "java/lang/IndexOutOfBoundsException") hown [] ⟨0, 16, 19, 21⟩ [] htab (fun z hz => nomatch hz) (by decide) (by decide) (ht _ (wr_18 _ (List.mem_of_getElem? (i := 12) rfl))) (va_Nw.use rfl (hG.2.2.2.1 _ (List.mem_of_getElem? (i := 0) rfl))) hc9 hv9 hcl9 ?_
  refine lv_astore_n (lv' := [(3, .ref q9), (0, .ref ox), (1, .int a1), (2, .ref oq)]) hx hb dL_isWinnable_19 rfl hl (by decide) rfl (fun ls hl => ?_)
  refine lv_iconst (v := 1) hx hb dL_isWinnable_20 (by decide) ?_
  have hP9 := hP.sub (ws' := []) [] rfl
  have hD9 := hD.sub (ws' := []) [] (by decide) rfl
  have hK9 := hK.sub (tys' := []) [] rfl
  exact vx_ret (W.iret (v := 1) hx hb hr (fun t htt hW => have ht := htt; ⟨⟨1, (), rfl, rfl, QW_of ht hW hP9 hK9 hD9⟩, hS.F ht⟩) hS.2.2 dL_isWinnable_21)
set_option maxHeartbeats 4000000 in
set_option maxRecDepth 100000 in
theorem c_L_frames (l : Launch) (hlt : l.stackTraces = false) (dC : Nat → ClassId) (dI : Nat → Nat → Nat) (de : Nat) (ox : Nat) (pl : Nat) (ru : Nat) (sh : Nat) (sp : Nat) (sl : Nat) (gr : Nat) (re : Nat) (pr : Nat) (ga : Nat) (rp : Nat) (bo : Nat) (fa : Nat) (gpl : Nat) (gin : Nat) (bbe : Nat) (bdi : Nat) (cP : ClassId) (cI : ClassId) (oq : Nat) (cL : ClassId) (a1 : Int32) (sz : Nat) : vx_Met l yL_frames (.codeWith yL_frames cL_frames 4 (some .int) [(0, 9, 12, 21), (0, 9, 15, 57)] :: wsL_law) { frames := 10, cells := 1, slots := 6, locals := 176 } (va_Pc [.ref ox, .int a1, .ref oq] (PW dC dI de [(cP, .object "Levelsmith$Player"), (cI, .int), (cL, .long)] (WXJ ox pl ru sh sp sl gr re pr ga rp bo fa gpl gin bbe bdi oq cP cI cL de) sz)) (va_Qi (fun (r : Int32) (u : Unit) => r = 1) (fun (_ : Unit) (t : State) => QW dC dI [] [] (va_A (WXJ ox pl ru sh sp sl gr re pr ga rp bo fa gpl gin bbe bdi oq cP cI cL de) sz) t) (va_A (WXJ ox pl ru sh sp sl gr re pr ga rp bo fa gpl gin bbe bdi oq cP cI cL de) sz)) (XX (fun E => False) (va_A (WXJ ox pl ru sh sp sl gr re pr ga rp bo fa gpl gin bbe bdi oq cP cI cL de) sz)) 1 6 (va_A (WXJ ox pl ru sh sp sl gr re pr ga rp bo fa gpl gin bbe bdi oq cP cI cL de) sz) := by
  refine vx_ofWH (cc := cL_frames) (maxL := 4) (ret := (some .int)) (by decide) rfl ?_
  intro p e s m args below meth c s₁ B hml hv
  obtain ⟨rfl, hsz, hP, hK, hD0, hG⟩ := hv
  have hx := B.exec
  have hb := B.bytes
  have hr := B.returns
  have hts := atoms_spec (ws := .codeWith yL_frames cL_frames 4 (some .int) [(0, 9, 12, 21), (0, 9, 15, 57)] :: wsL_law) B.pre
  have ht : ∀ w ∈ wsL_law, w.before _ s = true := fun w h => hts w (List.mem_cons_of_mem _ h)
  have hown : s.vm.findClass RL = some m.cls := findClass_of_methodNamed B.named
  have hlocks := B.notSynchronized
  have htab : c.exceptionTable.toList = tableOf [(0, 9, 12, 21), (0, 9, 15, 57)] := vx_table (x := yL_frames) B (hts _ List.mem_cons_self)
  subst hsz
  have hD := hD0.self (sz := s.heap.size)
  generalize hAe : va_A (WXJ ox pl ru sh sp sl gr re pr ga rp bo fa gpl gin bbe bdi oq cP cI cL de) s.heap.size = A at hD hG ⊢
  have hA : ∀ q : Nat, s.heap.size ≤ q → A q := fun q h => by rw [← hAe]; exact Or.inr h
  have hS : va_S A s.heap s.heap [] := va_S.rf
  have hP : va_P (dC, dI) vwCl [(ox, .inr (13, [.ref pl, .ref ru, .ref sh, .ref sp, .ref sl, .ref gr, .ref re, .ref pr, .ref ga, .ref rp, .ref bo, .int 0])), (pl, .inr (1, [.int 0, .ref de, .int 0])), (ru, .inr (1, [.int 0, .ref de, .int 0])), (sh, .inr (1, [.int 0, .ref de, .int 0])), (sp, .inl (cP, 6, .inr (.inr (.inr (.inr (fun _ => none)))))), (ga, .inr (5, [.ref gpl, .ref gin, .int (-1), .int 0, .int 112, .int 0])), (bo, .inr (2, [.ref fa, .ref bbe, .ref bdi, .int 0, .int 0])), (fa, .inl (cI, 96, .inl (fun _ => 0))), (oq, .inl (cL, 1, .inr (.inl (fun _ => 0))))] s.heap := hP
  have hD : va_D A [(ox, .inr (13, [.ref pl, .ref ru, .ref sh, .ref sp, .ref sl, .ref gr, .ref re, .ref pr, .ref ga, .ref rp, .ref bo, .int 0])), (pl, .inr (1, [.int 0, .ref de, .int 0])), (ru, .inr (1, [.int 0, .ref de, .int 0])), (sh, .inr (1, [.int 0, .ref de, .int 0])), (sp, .inl (cP, 6, .inr (.inr (.inr (.inr (fun _ => none)))))), (ga, .inr (5, [.ref gpl, .ref gin, .int (-1), .int 0, .int 112, .int 0])), (bo, .inr (2, [.ref fa, .ref bbe, .ref bdi, .int 0, .int 0])), (fa, .inl (cI, 96, .inl (fun _ => 0))), (oq, .inl (cL, 1, .inr (.inl (fun _ => 0))))] := hD
  have hl := lv_entry ([.ref ox, .int a1, .ref oq]) (n := 4) (Nat.le_of_ble_eq_true rfl)
  rw [lg_entry_eq]
  generalize (lg_sl ([.ref ox, .int a1, .ref oq]) ++ List.replicate (4 - (lg_sl ([.ref ox, .int a1, .ref oq])).length) Slot.unset).toArray = ls at hl ⊢
  have hl : lv_has ls 4 [(0, .ref ox), (1, .int a1), (2, .ref oq)] := hl
  refine lv_aload_n hx hb dL_frames_0 rfl (lv_at hl 2 rfl) ?_
  refine lv_iconst (v := 0) hx hb dL_frames_1 (by decide) ?_
  refine lv_aload_n hx hb dL_frames_2 rfl (lv_at hl 0 rfl) ?_
  refine lv_iload_n hx hb dL_frames_3 rfl (lv_at hl 1 rfl) ?_
  have hPc := hP.sub (ws' := [(ox, .inr (13, [.ref pl, .ref ru, .ref sh, .ref sp, .ref sl, .ref gr, .ref re, .ref pr, .ref ga, .ref rp, .ref bo, .int 0])), (pl, .inr (1, [.int 0, .ref de, .int 0])), (ru, .inr (1, [.int 0, .ref de, .int 0])), (sh, .inr (1, [.int 0, .ref de, .int 0])), (sp, .inl (cP, 6, .inr (.inr (.inr (.inr (fun _ => none)))))), (ga, .inr (5, [.ref gpl, .ref gin, .int (-1), .int 0, .int 112, .int 0])), (bo, .inr (2, [.ref fa, .ref bbe, .ref bdi, .int 0, .int 0])), (fa, .inl (cI, 96, .inl (fun _ => 0)))]) [0, 1, 2, 3, 4, 5, 6, 7] rfl
  have hDc := hD.sub (ws' := [(ox, .inr (13, [.ref pl, .ref ru, .ref sh, .ref sp, .ref sl, .ref gr, .ref re, .ref pr, .ref ga, .ref rp, .ref bo, .int 0])), (pl, .inr (1, [.int 0, .ref de, .int 0])), (ru, .inr (1, [.int 0, .ref de, .int 0])), (sh, .inr (1, [.int 0, .ref de, .int 0])), (sp, .inl (cP, 6, .inr (.inr (.inr (.inr (fun _ => none)))))), (ga, .inr (5, [.ref gpl, .ref gin, .int (-1), .int 0, .int 112, .int 0])), (bo, .inr (2, [.ref fa, .ref bbe, .ref bdi, .int 0, .int 0])), (fa, .inl (cI, 96, .inl (fun _ => 0)))]) [0, 1, 2, 3, 4, 5, 6, 7] (by decide) rfl
  have hKc := hK.sub (tys' := [(cP, .object "Levelsmith$Player"), (cI, .int)]) [0, 1] rfl
  have hFc := va_free (wc := [(ox, .inr (13, [.ref pl, .ref ru, .ref sh, .ref sp, .ref sl, .ref gr, .ref re, .ref pr, .ref ga, .ref rp, .ref bo, .int 0])), (pl, .inr (1, [.int 0, .ref de, .int 0])), (ru, .inr (1, [.int 0, .ref de, .int 0])), (sh, .inr (1, [.int 0, .ref de, .int 0])), (sp, .inl (cP, 6, .inr (.inr (.inr (.inr (fun _ => none)))))), (ga, .inr (5, [.ref gpl, .ref gin, .int (-1), .int 0, .int 112, .int 0])), (bo, .inr (2, [.ref fa, .ref bbe, .ref bdi, .int 0, .int 0])), (fa, .inl (cI, 96, .inl (fun _ => 0)))]) hD hS hA [0, 1, 2, 3, 4, 5, 6, 7] rfl
  refine vx_calli (vx_runV (As := [.int a1]) (rest := [.int 0, .ref oq]) ⟨hx, hb, hml, hown, ht⟩ (c_X11_frames l hlt dC dI de (ox) (pl) (ru) (sh) (sp) (sl) (gr) (re) (pr) (ga) (rp) (bo) (fa) (gpl) (gin) (bbe) (bdi) (cP) (cI) (a1) s.heap.size) (cwV 1 ht (gWV (wr_37 _ (List.mem_of_getElem? (i := 18) rfl)) (wr_37 _ (List.mem_of_getElem? (i := 19) rfl)) (wr_37 _ (List.mem_of_getElem? (i := 20) rfl)) (wr_1 _ (List.mem_of_getElem? (i := 2) rfl)) (wr_37 _ (List.mem_of_getElem? (i := 21) rfl))) rfl rfl rfl (by decide +kernel) ⟨Nat.le_of_ble_eq_true rfl, Nat.le_of_ble_eq_true rfl⟩) ⟨PW_blind, va_recv hKc hPc (ci := 13) (q0 := 0) rfl rfl, PW_call hPc hDc hKc hS hG hFc⟩ rfl rfl hl.1 rfl (lv_room (Nat.le_of_ble_eq_true rfl)) dL_frames_4 ⟨Nat.le_of_ble_eq_true rfl, Nat.le_of_ble_eq_true rfl⟩) hS (fun q _ h => hFc q h) hFc (fun q _ h => hFc q h) (fun E ce q9 u t H1 locs1 ht9 hvm9 _ hR9 hz9 hk9 hS9 hc9 hv9 hcl9 => ?_) (fun r_4 u t H1 locs ht9 hvm hw hB hz1 hk1 hS => False.elim hw)
  obtain ⟨hP, hD⟩ := va_join (wr := [(oq, .inl (cL, 1, .inr (.inl (fun _ => 0))))]) (w1 := []) hP hD [0, 1, 2, 3, 4, 5, 6, 7] [8] rfl rfl (by decide) (by decide) hk9 hFc (va_P_nil (dC, dI) vwCl H1) (va_D_nil _)
  have hK := hK.sub (tys' := [(cL, .long)]) [2] rfl
  have hS := hS9
  obtain rfl := hR9
  refine vx_catch (own := RL) (name := "java/lang/IndexOutOfBoundsException") hown [] ⟨0, 9, 12, 21⟩ [⟨0, 9, 15, 57⟩] htab (fun z hz => nomatch hz) (by decide) (by decide) (ht _ (wr_18 _ (List.mem_of_getElem? (i := 12) rfl))) (va_Nw.use rfl (hG.2.2.2.1 _ (List.mem_of_getElem? (i := 0) rfl))) hc9 hv9 hcl9 ?_
  refine lv_astore_n (lv' := [(3, .ref q9), (0, .ref ox), (1, .int a1), (2, .ref oq)]) hx hb dL_frames_12 rfl hl (by decide) rfl (fun ls hl => ?_)
  refine lv_iconst (v := 1) hx hb dL_frames_13 (by decide) ?_
  have hP9 := hP.sub (ws' := []) [] rfl
  have hD9 := hD.sub (ws' := []) [] (by decide) rfl
  have hK9 := hK.sub (tys' := []) [] rfl
  exact vx_ret (W.iret (v := 1) hx hb hr (fun t htt hW => have ht := htt; ⟨⟨1, (), rfl, rfl, QW_of ht hW hP9 hK9 hD9⟩, hS.F ht⟩) hS.2.2 dL_frames_14)
set_option maxHeartbeats 4000000 in
set_option maxRecDepth 100000 in
theorem c_L_routeAt (l : Launch) (hlt : l.stackTraces = false) (dC : Nat → ClassId) (dI : Nat → Nat → Nat) (de : Nat) (ox : Nat) (pl : Nat) (ru : Nat) (sh : Nat) (sp : Nat) (sl : Nat) (gr : Nat) (re : Nat) (pr : Nat) (ga : Nat) (rp : Nat) (bo : Nat) (fa : Nat) (gpl : Nat) (gin : Nat) (bbe : Nat) (bdi : Nat) (cP : ClassId) (cI : ClassId) (oq : Nat) (cL : ClassId) (a1 : Int32) (a2 : Int32) (sz : Nat) : vx_Met l yL_routeAt (.codeWith yL_routeAt cL_routeAt 5 (some .int) [(0, 10, 13, 21), (0, 10, 17, 57)] :: wsL_law) { frames := 10, cells := 1, slots := 6, locals := 178 } (va_Pc [.ref ox, .int a1, .int a2, .ref oq] (PW dC dI de [(cP, .object "Levelsmith$Player"), (cI, .int), (cL, .long)] (WXJ ox pl ru sh sp sl gr re pr ga rp bo fa gpl gin bbe bdi oq cP cI cL de) sz)) (va_Qi (fun (r : Int32) (u : Unit) => r = 1) (fun (_ : Unit) (t : State) => QW dC dI [] [] (va_A (WXJ ox pl ru sh sp sl gr re pr ga rp bo fa gpl gin bbe bdi oq cP cI cL de) sz) t) (va_A (WXJ ox pl ru sh sp sl gr re pr ga rp bo fa gpl gin bbe bdi oq cP cI cL de) sz)) (XX (fun E => False) (va_A (WXJ ox pl ru sh sp sl gr re pr ga rp bo fa gpl gin bbe bdi oq cP cI cL de) sz)) 1 6 (va_A (WXJ ox pl ru sh sp sl gr re pr ga rp bo fa gpl gin bbe bdi oq cP cI cL de) sz) := by
  refine vx_ofWH (cc := cL_routeAt) (maxL := 5) (ret := (some .int)) (by decide) rfl ?_
  intro p e s m args below meth c s₁ B hml hv
  obtain ⟨rfl, hsz, hP, hK, hD0, hG⟩ := hv
  have hx := B.exec
  have hb := B.bytes
  have hr := B.returns
  have hts := atoms_spec (ws := .codeWith yL_routeAt cL_routeAt 5 (some .int) [(0, 10, 13, 21), (0, 10, 17, 57)] :: wsL_law) B.pre
  have ht : ∀ w ∈ wsL_law, w.before _ s = true := fun w h => hts w (List.mem_cons_of_mem _ h)
  have hown : s.vm.findClass RL = some m.cls := findClass_of_methodNamed B.named
  have hlocks := B.notSynchronized
  have htab : c.exceptionTable.toList = tableOf [(0, 10, 13, 21), (0, 10, 17, 57)] := vx_table (x := yL_routeAt) B (hts _ List.mem_cons_self)
  subst hsz
  have hD := hD0.self (sz := s.heap.size)
  generalize hAe : va_A (WXJ ox pl ru sh sp sl gr re pr ga rp bo fa gpl gin bbe bdi oq cP cI cL de) s.heap.size = A at hD hG ⊢
  have hA : ∀ q : Nat, s.heap.size ≤ q → A q := fun q h => by rw [← hAe]; exact Or.inr h
  have hS : va_S A s.heap s.heap [] := va_S.rf
  have hP : va_P (dC, dI) vwCl [(ox, .inr (13, [.ref pl, .ref ru, .ref sh, .ref sp, .ref sl, .ref gr, .ref re, .ref pr, .ref ga, .ref rp, .ref bo, .int 0])), (pl, .inr (1, [.int 0, .ref de, .int 0])), (ru, .inr (1, [.int 0, .ref de, .int 0])), (sh, .inr (1, [.int 0, .ref de, .int 0])), (sp, .inl (cP, 6, .inr (.inr (.inr (.inr (fun _ => none)))))), (ga, .inr (5, [.ref gpl, .ref gin, .int (-1), .int 0, .int 112, .int 0])), (bo, .inr (2, [.ref fa, .ref bbe, .ref bdi, .int 0, .int 0])), (fa, .inl (cI, 96, .inl (fun _ => 0))), (oq, .inl (cL, 1, .inr (.inl (fun _ => 0))))] s.heap := hP
  have hD : va_D A [(ox, .inr (13, [.ref pl, .ref ru, .ref sh, .ref sp, .ref sl, .ref gr, .ref re, .ref pr, .ref ga, .ref rp, .ref bo, .int 0])), (pl, .inr (1, [.int 0, .ref de, .int 0])), (ru, .inr (1, [.int 0, .ref de, .int 0])), (sh, .inr (1, [.int 0, .ref de, .int 0])), (sp, .inl (cP, 6, .inr (.inr (.inr (.inr (fun _ => none)))))), (ga, .inr (5, [.ref gpl, .ref gin, .int (-1), .int 0, .int 112, .int 0])), (bo, .inr (2, [.ref fa, .ref bbe, .ref bdi, .int 0, .int 0])), (fa, .inl (cI, 96, .inl (fun _ => 0))), (oq, .inl (cL, 1, .inr (.inl (fun _ => 0))))] := hD
  have hl := lv_entry ([.ref ox, .int a1, .int a2, .ref oq]) (n := 5) (Nat.le_of_ble_eq_true rfl)
  rw [lg_entry_eq]
  generalize (lg_sl ([.ref ox, .int a1, .int a2, .ref oq]) ++ List.replicate (5 - (lg_sl ([.ref ox, .int a1, .int a2, .ref oq])).length) Slot.unset).toArray = ls at hl ⊢
  have hl : lv_has ls 5 [(0, .ref ox), (1, .int a1), (2, .int a2), (3, .ref oq)] := hl
  refine lv_aload_n hx hb dL_routeAt_0 rfl (lv_at hl 3 rfl) ?_
  refine lv_iconst (v := 0) hx hb dL_routeAt_1 (by decide) ?_
  refine lv_aload_n hx hb dL_routeAt_2 rfl (lv_at hl 0 rfl) ?_
  refine lv_iload_n hx hb dL_routeAt_3 rfl (lv_at hl 1 rfl) ?_
  refine lv_iload_n hx hb dL_routeAt_4 rfl (lv_at hl 2 rfl) ?_
  have hPc := hP.sub (ws' := [(ox, .inr (13, [.ref pl, .ref ru, .ref sh, .ref sp, .ref sl, .ref gr, .ref re, .ref pr, .ref ga, .ref rp, .ref bo, .int 0])), (pl, .inr (1, [.int 0, .ref de, .int 0])), (ru, .inr (1, [.int 0, .ref de, .int 0])), (sh, .inr (1, [.int 0, .ref de, .int 0])), (sp, .inl (cP, 6, .inr (.inr (.inr (.inr (fun _ => none)))))), (ga, .inr (5, [.ref gpl, .ref gin, .int (-1), .int 0, .int 112, .int 0])), (bo, .inr (2, [.ref fa, .ref bbe, .ref bdi, .int 0, .int 0])), (fa, .inl (cI, 96, .inl (fun _ => 0)))]) [0, 1, 2, 3, 4, 5, 6, 7] rfl
  have hDc := hD.sub (ws' := [(ox, .inr (13, [.ref pl, .ref ru, .ref sh, .ref sp, .ref sl, .ref gr, .ref re, .ref pr, .ref ga, .ref rp, .ref bo, .int 0])), (pl, .inr (1, [.int 0, .ref de, .int 0])), (ru, .inr (1, [.int 0, .ref de, .int 0])), (sh, .inr (1, [.int 0, .ref de, .int 0])), (sp, .inl (cP, 6, .inr (.inr (.inr (.inr (fun _ => none)))))), (ga, .inr (5, [.ref gpl, .ref gin, .int (-1), .int 0, .int 112, .int 0])), (bo, .inr (2, [.ref fa, .ref bbe, .ref bdi, .int 0, .int 0])), (fa, .inl (cI, 96, .inl (fun _ => 0)))]) [0, 1, 2, 3, 4, 5, 6, 7] (by decide) rfl
  have hKc := hK.sub (tys' := [(cP, .object "Levelsmith$Player"), (cI, .int)]) [0, 1] rfl
  have hFc := va_free (wc := [(ox, .inr (13, [.ref pl, .ref ru, .ref sh, .ref sp, .ref sl, .ref gr, .ref re, .ref pr, .ref ga, .ref rp, .ref bo, .int 0])), (pl, .inr (1, [.int 0, .ref de, .int 0])), (ru, .inr (1, [.int 0, .ref de, .int 0])), (sh, .inr (1, [.int 0, .ref de, .int 0])), (sp, .inl (cP, 6, .inr (.inr (.inr (.inr (fun _ => none)))))), (ga, .inr (5, [.ref gpl, .ref gin, .int (-1), .int 0, .int 112, .int 0])), (bo, .inr (2, [.ref fa, .ref bbe, .ref bdi, .int 0, .int 0])), (fa, .inl (cI, 96, .inl (fun _ => 0)))]) hD hS hA [0, 1, 2, 3, 4, 5, 6, 7] rfl
  refine vx_calli (vx_runV (As := [.int a1, .int a2]) (rest := [.int 0, .ref oq]) ⟨hx, hb, hml, hown, ht⟩ (c_X11_routeAt l hlt dC dI de (ox) (pl) (ru) (sh) (sp) (sl) (gr) (re) (pr) (ga) (rp) (bo) (fa) (gpl) (gin) (bbe) (bdi) (cP) (cI) (a1) (a2) s.heap.size) (cwV 2 ht (gWV (wr_38 _ (List.mem_of_getElem? (i := 20) rfl)) (wr_38 _ (List.mem_of_getElem? (i := 21) rfl)) (wr_38 _ (List.mem_of_getElem? (i := 22) rfl)) (wr_1 _ (List.mem_of_getElem? (i := 2) rfl)) (wr_38 _ (List.mem_of_getElem? (i := 23) rfl))) rfl rfl rfl (by decide +kernel) ⟨Nat.le_of_ble_eq_true rfl, Nat.le_of_ble_eq_true rfl⟩) ⟨PW_blind, va_recv hKc hPc (ci := 13) (q0 := 0) rfl rfl, PW_call hPc hDc hKc hS hG hFc⟩ rfl rfl hl.1 rfl (lv_room (Nat.le_of_ble_eq_true rfl)) dL_routeAt_5 ⟨Nat.le_of_ble_eq_true rfl, Nat.le_of_ble_eq_true rfl⟩) hS (fun q _ h => hFc q h) hFc (fun q _ h => hFc q h) (fun E ce q9 u t H1 locs1 ht9 hvm9 _ hR9 hz9 hk9 hS9 hc9 hv9 hcl9 => ?_) (fun r_5 u t H1 locs ht9 hvm hw hB hz1 hk1 hS => False.elim hw)
  obtain ⟨hP, hD⟩ := va_join (wr := [(oq, .inl (cL, 1, .inr (.inl (fun _ => 0))))]) (w1 := []) hP hD [0, 1, 2, 3, 4, 5, 6, 7] [8] rfl rfl (by decide) (by decide) hk9 hFc (va_P_nil (dC, dI) vwCl H1) (va_D_nil _)
  have hK := hK.sub (tys' := [(cL, .long)]) [2] rfl
  have hS := hS9
  obtain rfl := hR9
  refine vx_catch (own := RL) (name := "java/lang/IndexOutOfBoundsException") hown [] ⟨0, 10, 13, 21⟩ [⟨0, 10, 17, 57⟩] htab (fun z hz => nomatch hz) (by decide) (by decide) (ht _ (wr_18 _ (List.mem_of_getElem? (i := 12) rfl))) (va_Nw.use rfl (hG.2.2.2.1 _ (List.mem_of_getElem? (i := 0) rfl))) hc9 hv9 hcl9 ?_
  refine lv_astore (lv' := [(4, .ref q9), (0, .ref ox), (1, .int a1), (2, .int a2), (3, .ref oq)]) hx hb dL_routeAt_13 hl (by decide) rfl (fun ls hl => ?_)
  refine lv_iconst (v := 1) hx hb dL_routeAt_15 (by decide) ?_
  have hP9 := hP.sub (ws' := []) [] rfl
  have hD9 := hD.sub (ws' := []) [] (by decide) rfl
  have hK9 := hK.sub (tys' := []) [] rfl
  exact vx_ret (W.iret (v := 1) hx hb hr (fun t htt hW => have ht := htt; ⟨⟨1, (), rfl, rfl, QW_of ht hW hP9 hK9 hD9⟩, hS.F ht⟩) hS.2.2 dL_routeAt_16)
set_option maxHeartbeats 4000000 in
set_option maxRecDepth 100000 in
theorem c_L_states (l : Launch) (hlt : l.stackTraces = false) (dC : Nat → ClassId) (dI : Nat → Nat → Nat) (de : Nat) (ox : Nat) (pl : Nat) (ru : Nat) (sh : Nat) (sp : Nat) (sl : Nat) (gr : Nat) (re : Nat) (pr : Nat) (ga : Nat) (rp : Nat) (bo : Nat) (fa : Nat) (gpl : Nat) (gin : Nat) (bbe : Nat) (bdi : Nat) (cP : ClassId) (cI : ClassId) (oq : Nat) (cL : ClassId) (a1 : Int32) (sz : Nat) : vx_Met l yL_states (.codeWith yL_states cL_states 4 (some .int) [(0, 9, 12, 21)] :: wsL_law) { frames := 9, cells := 1, slots := 6, locals := 154 } (va_Pc [.ref ox, .int a1, .ref oq] (PW dC dI de [(cP, .object "Levelsmith$Player"), (cI, .int), (cL, .long)] (WXJ ox pl ru sh sp sl gr re pr ga rp bo fa gpl gin bbe bdi oq cP cI cL de) sz)) (va_Qi (fun (r : Int32) (u : Unit) => r = 1) (fun (_ : Unit) (t : State) => QW dC dI [] [] (va_A (WXJ ox pl ru sh sp sl gr re pr ga rp bo fa gpl gin bbe bdi oq cP cI cL de) sz) t) (va_A (WXJ ox pl ru sh sp sl gr re pr ga rp bo fa gpl gin bbe bdi oq cP cI cL de) sz)) (XX (fun E => False) (va_A (WXJ ox pl ru sh sp sl gr re pr ga rp bo fa gpl gin bbe bdi oq cP cI cL de) sz)) 1 6 (va_A (WXJ ox pl ru sh sp sl gr re pr ga rp bo fa gpl gin bbe bdi oq cP cI cL de) sz) := by
  refine vx_ofWH (cc := cL_states) (maxL := 4) (ret := (some .int)) (by decide) rfl ?_
  intro p e s m args below meth c s₁ B hml hv
  obtain ⟨rfl, hsz, hP, hK, hD0, hG⟩ := hv
  have hx := B.exec
  have hb := B.bytes
  have hr := B.returns
  have hts := atoms_spec (ws := .codeWith yL_states cL_states 4 (some .int) [(0, 9, 12, 21)] :: wsL_law) B.pre
  have ht : ∀ w ∈ wsL_law, w.before _ s = true := fun w h => hts w (List.mem_cons_of_mem _ h)
  have hown : s.vm.findClass RL = some m.cls := findClass_of_methodNamed B.named
  have hlocks := B.notSynchronized
  have htab : c.exceptionTable.toList = tableOf [(0, 9, 12, 21)] := vx_table (x := yL_states) B (hts _ List.mem_cons_self)
  subst hsz
  have hD := hD0.self (sz := s.heap.size)
  generalize hAe : va_A (WXJ ox pl ru sh sp sl gr re pr ga rp bo fa gpl gin bbe bdi oq cP cI cL de) s.heap.size = A at hD hG ⊢
  have hA : ∀ q : Nat, s.heap.size ≤ q → A q := fun q h => by rw [← hAe]; exact Or.inr h
  have hS : va_S A s.heap s.heap [] := va_S.rf
  have hP : va_P (dC, dI) vwCl [(ox, .inr (13, [.ref pl, .ref ru, .ref sh, .ref sp, .ref sl, .ref gr, .ref re, .ref pr, .ref ga, .ref rp, .ref bo, .int 0])), (pl, .inr (1, [.int 0, .ref de, .int 0])), (ru, .inr (1, [.int 0, .ref de, .int 0])), (sh, .inr (1, [.int 0, .ref de, .int 0])), (sp, .inl (cP, 6, .inr (.inr (.inr (.inr (fun _ => none)))))), (ga, .inr (5, [.ref gpl, .ref gin, .int (-1), .int 0, .int 112, .int 0])), (bo, .inr (2, [.ref fa, .ref bbe, .ref bdi, .int 0, .int 0])), (fa, .inl (cI, 96, .inl (fun _ => 0))), (oq, .inl (cL, 1, .inr (.inl (fun _ => 0))))] s.heap := hP
  have hD : va_D A [(ox, .inr (13, [.ref pl, .ref ru, .ref sh, .ref sp, .ref sl, .ref gr, .ref re, .ref pr, .ref ga, .ref rp, .ref bo, .int 0])), (pl, .inr (1, [.int 0, .ref de, .int 0])), (ru, .inr (1, [.int 0, .ref de, .int 0])), (sh, .inr (1, [.int 0, .ref de, .int 0])), (sp, .inl (cP, 6, .inr (.inr (.inr (.inr (fun _ => none)))))), (ga, .inr (5, [.ref gpl, .ref gin, .int (-1), .int 0, .int 112, .int 0])), (bo, .inr (2, [.ref fa, .ref bbe, .ref bdi, .int 0, .int 0])), (fa, .inl (cI, 96, .inl (fun _ => 0))), (oq, .inl (cL, 1, .inr (.inl (fun _ => 0))))] := hD
  have hl := lv_entry ([.ref ox, .int a1, .ref oq]) (n := 4) (Nat.le_of_ble_eq_true rfl)
  rw [lg_entry_eq]
  generalize (lg_sl ([.ref ox, .int a1, .ref oq]) ++ List.replicate (4 - (lg_sl ([.ref ox, .int a1, .ref oq])).length) Slot.unset).toArray = ls at hl ⊢
  have hl : lv_has ls 4 [(0, .ref ox), (1, .int a1), (2, .ref oq)] := hl
  refine lv_aload_n hx hb dL_states_0 rfl (lv_at hl 2 rfl) ?_
  refine lv_iconst (v := 0) hx hb dL_states_1 (by decide) ?_
  refine lv_aload_n hx hb dL_states_2 rfl (lv_at hl 0 rfl) ?_
  refine lv_iload_n hx hb dL_states_3 rfl (lv_at hl 1 rfl) ?_
  have hPc := hP.sub (ws' := [(ox, .inr (13, [.ref pl, .ref ru, .ref sh, .ref sp, .ref sl, .ref gr, .ref re, .ref pr, .ref ga, .ref rp, .ref bo, .int 0])), (pl, .inr (1, [.int 0, .ref de, .int 0])), (ru, .inr (1, [.int 0, .ref de, .int 0])), (sh, .inr (1, [.int 0, .ref de, .int 0])), (sp, .inl (cP, 6, .inr (.inr (.inr (.inr (fun _ => none)))))), (ga, .inr (5, [.ref gpl, .ref gin, .int (-1), .int 0, .int 112, .int 0])), (bo, .inr (2, [.ref fa, .ref bbe, .ref bdi, .int 0, .int 0])), (fa, .inl (cI, 96, .inl (fun _ => 0)))]) [0, 1, 2, 3, 4, 5, 6, 7] rfl
  have hDc := hD.sub (ws' := [(ox, .inr (13, [.ref pl, .ref ru, .ref sh, .ref sp, .ref sl, .ref gr, .ref re, .ref pr, .ref ga, .ref rp, .ref bo, .int 0])), (pl, .inr (1, [.int 0, .ref de, .int 0])), (ru, .inr (1, [.int 0, .ref de, .int 0])), (sh, .inr (1, [.int 0, .ref de, .int 0])), (sp, .inl (cP, 6, .inr (.inr (.inr (.inr (fun _ => none)))))), (ga, .inr (5, [.ref gpl, .ref gin, .int (-1), .int 0, .int 112, .int 0])), (bo, .inr (2, [.ref fa, .ref bbe, .ref bdi, .int 0, .int 0])), (fa, .inl (cI, 96, .inl (fun _ => 0)))]) [0, 1, 2, 3, 4, 5, 6, 7] (by decide) rfl
  have hKc := hK.sub (tys' := [(cP, .object "Levelsmith$Player"), (cI, .int)]) [0, 1] rfl
  have hFc := va_free (wc := [(ox, .inr (13, [.ref pl, .ref ru, .ref sh, .ref sp, .ref sl, .ref gr, .ref re, .ref pr, .ref ga, .ref rp, .ref bo, .int 0])), (pl, .inr (1, [.int 0, .ref de, .int 0])), (ru, .inr (1, [.int 0, .ref de, .int 0])), (sh, .inr (1, [.int 0, .ref de, .int 0])), (sp, .inl (cP, 6, .inr (.inr (.inr (.inr (fun _ => none)))))), (ga, .inr (5, [.ref gpl, .ref gin, .int (-1), .int 0, .int 112, .int 0])), (bo, .inr (2, [.ref fa, .ref bbe, .ref bdi, .int 0, .int 0])), (fa, .inl (cI, 96, .inl (fun _ => 0)))]) hD hS hA [0, 1, 2, 3, 4, 5, 6, 7] rfl
  refine vx_calli (vx_runV (As := [.int a1]) (rest := [.int 0, .ref oq]) ⟨hx, hb, hml, hown, ht⟩ (c_X11_states l hlt dC dI de (ox) (pl) (ru) (sh) (sp) (sl) (gr) (re) (pr) (ga) (rp) (bo) (fa) (gpl) (gin) (bbe) (bdi) (cP) (cI) (a1) s.heap.size) (cwV 1 ht (gWV (wr_39 _ (List.mem_of_getElem? (i := 20) rfl)) (wr_39 _ (List.mem_of_getElem? (i := 21) rfl)) (wr_39 _ (List.mem_of_getElem? (i := 22) rfl)) (wr_1 _ (List.mem_of_getElem? (i := 2) rfl)) (wr_39 _ (List.mem_of_getElem? (i := 23) rfl))) rfl rfl rfl (by decide +kernel) ⟨Nat.le_of_ble_eq_true rfl, Nat.le_of_ble_eq_true rfl⟩) ⟨PW_blind, va_recv hKc hPc (ci := 13) (q0 := 0) rfl rfl, PW_call hPc hDc hKc hS hG hFc⟩ rfl rfl hl.1 rfl (lv_room (Nat.le_of_ble_eq_true rfl)) dL_states_4 ⟨Nat.le_of_ble_eq_true rfl, Nat.le_of_ble_eq_true rfl⟩) hS (fun q _ h => hFc q h) hFc (fun q _ h => hFc q h) (fun E ce q9 u t H1 locs1 ht9 hvm9 _ hR9 hz9 hk9 hS9 hc9 hv9 hcl9 => ?_) (fun r_4 u t H1 locs ht9 hvm hw hB hz1 hk1 hS => False.elim hw)
  obtain ⟨hP, hD⟩ := va_join (wr := [(oq, .inl (cL, 1, .inr (.inl (fun _ => 0))))]) (w1 := []) hP hD [0, 1, 2, 3, 4, 5, 6, 7] [8] rfl rfl (by decide) (by decide) hk9 hFc (va_P_nil (dC, dI) vwCl H1) (va_D_nil _)
  have hK := hK.sub (tys' := [(cL, .long)]) [2] rfl
  have hS := hS9
  obtain rfl := hR9
  refine vx_catch (own := RL) (name := "java/lang/IndexOutOfBoundsException") hown [] ⟨0, 9, 12, 21⟩ [] htab (fun z hz => nomatch hz) (by decide) (by decide) (ht _ (wr_18 _ (List.mem_of_getElem? (i := 12) rfl))) (va_Nw.use rfl (hG.2.2.2.1 _ (List.mem_of_getElem? (i := 0) rfl))) hc9 hv9 hcl9 ?_
  refine lv_astore_n (lv' := [(3, .ref q9), (0, .ref ox), (1, .int a1), (2, .ref oq)]) hx hb dL_states_12 rfl hl (by decide) rfl (fun ls hl => ?_)
  refine lv_iconst (v := 1) hx hb dL_states_13 (by decide) ?_
  have hP9 := hP.sub (ws' := []) [] rfl
  have hD9 := hD.sub (ws' := []) [] (by decide) rfl
  have hK9 := hK.sub (tys' := []) [] rfl
  exact vx_ret (W.iret (v := 1) hx hb hr (fun t htt hW => have ht := htt; ⟨⟨1, (), rfl, rfl, QW_of ht hW hP9 hK9 hD9⟩, hS.F ht⟩) hS.2.2 dL_states_14)
set_option maxHeartbeats 4000000 in
set_option maxRecDepth 100000 in
theorem c_L_framesTo (l : Launch) (hlt : l.stackTraces = false) (dC : Nat → ClassId) (dI : Nat → Nat → Nat) (de : Nat) (ox : Nat) (pl : Nat) (ru : Nat) (sh : Nat) (sp : Nat) (sl : Nat) (gr : Nat) (re : Nat) (pr : Nat) (ga : Nat) (rp : Nat) (bo : Nat) (fa : Nat) (gpl : Nat) (gin : Nat) (bbe : Nat) (bdi : Nat) (cP : ClassId) (cI : ClassId) (oq : Nat) (cL : ClassId) (a1 : Int32) (a2 : Int32) (a3 : Int32) (sz : Nat) : vx_Met l yL_framesTo (.codeWith yL_framesTo cL_framesTo 6 (some .int) [(0, 12, 15, 21), (0, 12, 19, 57)] :: wsL_law) { frames := 9, cells := 1, slots := 6, locals := 159 } (va_Pc [.ref ox, .int a1, .int a2, .int a3, .ref oq] (PW dC dI de [(cP, .object "Levelsmith$Player"), (cI, .int), (cL, .long)] (WXJ ox pl ru sh sp sl gr re pr ga rp bo fa gpl gin bbe bdi oq cP cI cL de) sz)) (va_Qi (fun (r : Int32) (u : Unit) => r = 1) (fun (_ : Unit) (t : State) => QW dC dI [] [] (va_A (WXJ ox pl ru sh sp sl gr re pr ga rp bo fa gpl gin bbe bdi oq cP cI cL de) sz) t) (va_A (WXJ ox pl ru sh sp sl gr re pr ga rp bo fa gpl gin bbe bdi oq cP cI cL de) sz)) (XX (fun E => False) (va_A (WXJ ox pl ru sh sp sl gr re pr ga rp bo fa gpl gin bbe bdi oq cP cI cL de) sz)) 1 6 (va_A (WXJ ox pl ru sh sp sl gr re pr ga rp bo fa gpl gin bbe bdi oq cP cI cL de) sz) := by
  refine vx_ofWH (cc := cL_framesTo) (maxL := 6) (ret := (some .int)) (by decide) rfl ?_
  intro p e s m args below meth c s₁ B hml hv
  obtain ⟨rfl, hsz, hP, hK, hD0, hG⟩ := hv
  have hx := B.exec
  have hb := B.bytes
  have hr := B.returns
  have hts := atoms_spec (ws := .codeWith yL_framesTo cL_framesTo 6 (some .int) [(0, 12, 15, 21), (0, 12, 19, 57)] :: wsL_law) B.pre
  have ht : ∀ w ∈ wsL_law, w.before _ s = true := fun w h => hts w (List.mem_cons_of_mem _ h)
  have hown : s.vm.findClass RL = some m.cls := findClass_of_methodNamed B.named
  have hlocks := B.notSynchronized
  have htab : c.exceptionTable.toList = tableOf [(0, 12, 15, 21), (0, 12, 19, 57)] := vx_table (x := yL_framesTo) B (hts _ List.mem_cons_self)
  subst hsz
  have hD := hD0.self (sz := s.heap.size)
  generalize hAe : va_A (WXJ ox pl ru sh sp sl gr re pr ga rp bo fa gpl gin bbe bdi oq cP cI cL de) s.heap.size = A at hD hG ⊢
  have hA : ∀ q : Nat, s.heap.size ≤ q → A q := fun q h => by rw [← hAe]; exact Or.inr h
  have hS : va_S A s.heap s.heap [] := va_S.rf
  have hP : va_P (dC, dI) vwCl [(ox, .inr (13, [.ref pl, .ref ru, .ref sh, .ref sp, .ref sl, .ref gr, .ref re, .ref pr, .ref ga, .ref rp, .ref bo, .int 0])), (pl, .inr (1, [.int 0, .ref de, .int 0])), (ru, .inr (1, [.int 0, .ref de, .int 0])), (sh, .inr (1, [.int 0, .ref de, .int 0])), (sp, .inl (cP, 6, .inr (.inr (.inr (.inr (fun _ => none)))))), (ga, .inr (5, [.ref gpl, .ref gin, .int (-1), .int 0, .int 112, .int 0])), (bo, .inr (2, [.ref fa, .ref bbe, .ref bdi, .int 0, .int 0])), (fa, .inl (cI, 96, .inl (fun _ => 0))), (oq, .inl (cL, 1, .inr (.inl (fun _ => 0))))] s.heap := hP
  have hD : va_D A [(ox, .inr (13, [.ref pl, .ref ru, .ref sh, .ref sp, .ref sl, .ref gr, .ref re, .ref pr, .ref ga, .ref rp, .ref bo, .int 0])), (pl, .inr (1, [.int 0, .ref de, .int 0])), (ru, .inr (1, [.int 0, .ref de, .int 0])), (sh, .inr (1, [.int 0, .ref de, .int 0])), (sp, .inl (cP, 6, .inr (.inr (.inr (.inr (fun _ => none)))))), (ga, .inr (5, [.ref gpl, .ref gin, .int (-1), .int 0, .int 112, .int 0])), (bo, .inr (2, [.ref fa, .ref bbe, .ref bdi, .int 0, .int 0])), (fa, .inl (cI, 96, .inl (fun _ => 0))), (oq, .inl (cL, 1, .inr (.inl (fun _ => 0))))] := hD
  have hl := lv_entry ([.ref ox, .int a1, .int a2, .int a3, .ref oq]) (n := 6) (Nat.le_of_ble_eq_true rfl)
  rw [lg_entry_eq]
  generalize (lg_sl ([.ref ox, .int a1, .int a2, .int a3, .ref oq]) ++ List.replicate (6 - (lg_sl ([.ref ox, .int a1, .int a2, .int a3, .ref oq])).length) Slot.unset).toArray = ls at hl ⊢
  have hl : lv_has ls 6 [(0, .ref ox), (1, .int a1), (2, .int a2), (3, .int a3), (4, .ref oq)] := hl
  refine lv_aload hx hb dL_framesTo_0 (lv_at hl 4 rfl) ?_
  refine lv_iconst (v := 0) hx hb dL_framesTo_2 (by decide) ?_
  refine lv_aload_n hx hb dL_framesTo_3 rfl (lv_at hl 0 rfl) ?_
  refine lv_iload_n hx hb dL_framesTo_4 rfl (lv_at hl 1 rfl) ?_
  refine lv_iload_n hx hb dL_framesTo_5 rfl (lv_at hl 2 rfl) ?_
  refine lv_iload_n hx hb dL_framesTo_6 rfl (lv_at hl 3 rfl) ?_
  have hPc := hP.sub (ws' := [(ox, .inr (13, [.ref pl, .ref ru, .ref sh, .ref sp, .ref sl, .ref gr, .ref re, .ref pr, .ref ga, .ref rp, .ref bo, .int 0])), (pl, .inr (1, [.int 0, .ref de, .int 0])), (ru, .inr (1, [.int 0, .ref de, .int 0])), (sh, .inr (1, [.int 0, .ref de, .int 0])), (sp, .inl (cP, 6, .inr (.inr (.inr (.inr (fun _ => none)))))), (ga, .inr (5, [.ref gpl, .ref gin, .int (-1), .int 0, .int 112, .int 0])), (bo, .inr (2, [.ref fa, .ref bbe, .ref bdi, .int 0, .int 0])), (fa, .inl (cI, 96, .inl (fun _ => 0)))]) [0, 1, 2, 3, 4, 5, 6, 7] rfl
  have hDc := hD.sub (ws' := [(ox, .inr (13, [.ref pl, .ref ru, .ref sh, .ref sp, .ref sl, .ref gr, .ref re, .ref pr, .ref ga, .ref rp, .ref bo, .int 0])), (pl, .inr (1, [.int 0, .ref de, .int 0])), (ru, .inr (1, [.int 0, .ref de, .int 0])), (sh, .inr (1, [.int 0, .ref de, .int 0])), (sp, .inl (cP, 6, .inr (.inr (.inr (.inr (fun _ => none)))))), (ga, .inr (5, [.ref gpl, .ref gin, .int (-1), .int 0, .int 112, .int 0])), (bo, .inr (2, [.ref fa, .ref bbe, .ref bdi, .int 0, .int 0])), (fa, .inl (cI, 96, .inl (fun _ => 0)))]) [0, 1, 2, 3, 4, 5, 6, 7] (by decide) rfl
  have hKc := hK.sub (tys' := [(cP, .object "Levelsmith$Player"), (cI, .int)]) [0, 1] rfl
  have hFc := va_free (wc := [(ox, .inr (13, [.ref pl, .ref ru, .ref sh, .ref sp, .ref sl, .ref gr, .ref re, .ref pr, .ref ga, .ref rp, .ref bo, .int 0])), (pl, .inr (1, [.int 0, .ref de, .int 0])), (ru, .inr (1, [.int 0, .ref de, .int 0])), (sh, .inr (1, [.int 0, .ref de, .int 0])), (sp, .inl (cP, 6, .inr (.inr (.inr (.inr (fun _ => none)))))), (ga, .inr (5, [.ref gpl, .ref gin, .int (-1), .int 0, .int 112, .int 0])), (bo, .inr (2, [.ref fa, .ref bbe, .ref bdi, .int 0, .int 0])), (fa, .inl (cI, 96, .inl (fun _ => 0)))]) hD hS hA [0, 1, 2, 3, 4, 5, 6, 7] rfl
  refine vx_calli (vx_runV (As := [.int a1, .int a2, .int a3]) (rest := [.int 0, .ref oq]) ⟨hx, hb, hml, hown, ht⟩ (c_X11_framesTo l hlt dC dI de (ox) (pl) (ru) (sh) (sp) (sl) (gr) (re) (pr) (ga) (rp) (bo) (fa) (gpl) (gin) (bbe) (bdi) (cP) (cI) (a1) (a2) (a3) s.heap.size) (cwV 3 ht (gWV (wr_40 _ (List.mem_of_getElem? (i := 11) rfl)) (wr_40 _ (List.mem_of_getElem? (i := 12) rfl)) (wr_40 _ (List.mem_of_getElem? (i := 13) rfl)) (wr_1 _ (List.mem_of_getElem? (i := 2) rfl)) (wr_40 _ (List.mem_of_getElem? (i := 14) rfl))) rfl rfl rfl (by decide +kernel) ⟨Nat.le_of_ble_eq_true rfl, Nat.le_of_ble_eq_true rfl⟩) ⟨PW_blind, va_recv hKc hPc (ci := 13) (q0 := 0) rfl rfl, PW_call hPc hDc hKc hS hG hFc⟩ rfl rfl hl.1 rfl (lv_room (Nat.le_of_ble_eq_true rfl)) dL_framesTo_7 ⟨Nat.le_of_ble_eq_true rfl, Nat.le_of_ble_eq_true rfl⟩) hS (fun q _ h => hFc q h) hFc (fun q _ h => hFc q h) (fun E ce q9 u t H1 locs1 ht9 hvm9 _ hR9 hz9 hk9 hS9 hc9 hv9 hcl9 => ?_) (fun r_7 u t H1 locs ht9 hvm hw hB hz1 hk1 hS => False.elim hw)
  obtain ⟨hP, hD⟩ := va_join (wr := [(oq, .inl (cL, 1, .inr (.inl (fun _ => 0))))]) (w1 := []) hP hD [0, 1, 2, 3, 4, 5, 6, 7] [8] rfl rfl (by decide) (by decide) hk9 hFc (va_P_nil (dC, dI) vwCl H1) (va_D_nil _)
  have hK := hK.sub (tys' := [(cL, .long)]) [2] rfl
  have hS := hS9
  obtain rfl := hR9
  refine vx_catch (own := RL) (name := "java/lang/IndexOutOfBoundsException") hown [] ⟨0, 12, 15, 21⟩ [⟨0, 12, 19, 57⟩] htab (fun z hz => nomatch hz) (by decide) (by decide) (ht _ (wr_18 _ (List.mem_of_getElem? (i := 12) rfl))) (va_Nw.use rfl (hG.2.2.2.1 _ (List.mem_of_getElem? (i := 0) rfl))) hc9 hv9 hcl9 ?_
  refine lv_astore (lv' := [(5, .ref q9), (0, .ref ox), (1, .int a1), (2, .int a2), (3, .int a3), (4, .ref oq)]) hx hb dL_framesTo_15 hl (by decide) rfl (fun ls hl => ?_)
  refine lv_iconst (v := 1) hx hb dL_framesTo_17 (by decide) ?_
  have hP9 := hP.sub (ws' := []) [] rfl
  have hD9 := hD.sub (ws' := []) [] (by decide) rfl
  have hK9 := hK.sub (tys' := []) [] rfl
  exact vx_ret (W.iret (v := 1) hx hb hr (fun t htt hW => have ht := htt; ⟨⟨1, (), rfl, rfl, QW_of ht hW hP9 hK9 hD9⟩, hS.F ht⟩) hS.2.2 dL_framesTo_18)
set_option maxHeartbeats 4000000 in
set_option maxRecDepth 100000 in
theorem c_L_softLocks (l : Launch) (hlt : l.stackTraces = false) (dC : Nat → ClassId) (dI : Nat → Nat → Nat) (de : Nat) (ox : Nat) (pl : Nat) (ru : Nat) (sh : Nat) (sp : Nat) (sl : Nat) (gr : Nat) (re : Nat) (pr : Nat) (ga : Nat) (rp : Nat) (bo : Nat) (fa : Nat) (gpl : Nat) (gin : Nat) (bbe : Nat) (bdi : Nat) (cP : ClassId) (cI : ClassId) (oq : Nat) (cL : ClassId) (a1 : Int32) (sz : Nat) : vx_Met l yL_softLocks (.codeWith yL_softLocks cL_softLocks 4 (some .int) [(0, 9, 12, 21)] :: wsL_law) { frames := 10, cells := 1, slots := 6, locals := 176 } (va_Pc [.ref ox, .int a1, .ref oq] (PW dC dI de [(cP, .object "Levelsmith$Player"), (cI, .int), (cL, .long)] (WXJ ox pl ru sh sp sl gr re pr ga rp bo fa gpl gin bbe bdi oq cP cI cL de) sz)) (va_Qi (fun (r : Int32) (u : Unit) => r = 1) (fun (_ : Unit) (t : State) => QW dC dI [] [] (va_A (WXJ ox pl ru sh sp sl gr re pr ga rp bo fa gpl gin bbe bdi oq cP cI cL de) sz) t) (va_A (WXJ ox pl ru sh sp sl gr re pr ga rp bo fa gpl gin bbe bdi oq cP cI cL de) sz)) (XX (fun E => False) (va_A (WXJ ox pl ru sh sp sl gr re pr ga rp bo fa gpl gin bbe bdi oq cP cI cL de) sz)) 1 6 (va_A (WXJ ox pl ru sh sp sl gr re pr ga rp bo fa gpl gin bbe bdi oq cP cI cL de) sz) := by
  refine vx_ofWH (cc := cL_softLocks) (maxL := 4) (ret := (some .int)) (by decide) rfl ?_
  intro p e s m args below meth c s₁ B hml hv
  obtain ⟨rfl, hsz, hP, hK, hD0, hG⟩ := hv
  have hx := B.exec
  have hb := B.bytes
  have hr := B.returns
  have hts := atoms_spec (ws := .codeWith yL_softLocks cL_softLocks 4 (some .int) [(0, 9, 12, 21)] :: wsL_law) B.pre
  have ht : ∀ w ∈ wsL_law, w.before _ s = true := fun w h => hts w (List.mem_cons_of_mem _ h)
  have hown : s.vm.findClass RL = some m.cls := findClass_of_methodNamed B.named
  have hlocks := B.notSynchronized
  have htab : c.exceptionTable.toList = tableOf [(0, 9, 12, 21)] := vx_table (x := yL_softLocks) B (hts _ List.mem_cons_self)
  subst hsz
  have hD := hD0.self (sz := s.heap.size)
  generalize hAe : va_A (WXJ ox pl ru sh sp sl gr re pr ga rp bo fa gpl gin bbe bdi oq cP cI cL de) s.heap.size = A at hD hG ⊢
  have hA : ∀ q : Nat, s.heap.size ≤ q → A q := fun q h => by rw [← hAe]; exact Or.inr h
  have hS : va_S A s.heap s.heap [] := va_S.rf
  have hP : va_P (dC, dI) vwCl [(ox, .inr (13, [.ref pl, .ref ru, .ref sh, .ref sp, .ref sl, .ref gr, .ref re, .ref pr, .ref ga, .ref rp, .ref bo, .int 0])), (pl, .inr (1, [.int 0, .ref de, .int 0])), (ru, .inr (1, [.int 0, .ref de, .int 0])), (sh, .inr (1, [.int 0, .ref de, .int 0])), (sp, .inl (cP, 6, .inr (.inr (.inr (.inr (fun _ => none)))))), (ga, .inr (5, [.ref gpl, .ref gin, .int (-1), .int 0, .int 112, .int 0])), (bo, .inr (2, [.ref fa, .ref bbe, .ref bdi, .int 0, .int 0])), (fa, .inl (cI, 96, .inl (fun _ => 0))), (oq, .inl (cL, 1, .inr (.inl (fun _ => 0))))] s.heap := hP
  have hD : va_D A [(ox, .inr (13, [.ref pl, .ref ru, .ref sh, .ref sp, .ref sl, .ref gr, .ref re, .ref pr, .ref ga, .ref rp, .ref bo, .int 0])), (pl, .inr (1, [.int 0, .ref de, .int 0])), (ru, .inr (1, [.int 0, .ref de, .int 0])), (sh, .inr (1, [.int 0, .ref de, .int 0])), (sp, .inl (cP, 6, .inr (.inr (.inr (.inr (fun _ => none)))))), (ga, .inr (5, [.ref gpl, .ref gin, .int (-1), .int 0, .int 112, .int 0])), (bo, .inr (2, [.ref fa, .ref bbe, .ref bdi, .int 0, .int 0])), (fa, .inl (cI, 96, .inl (fun _ => 0))), (oq, .inl (cL, 1, .inr (.inl (fun _ => 0))))] := hD
  have hl := lv_entry ([.ref ox, .int a1, .ref oq]) (n := 4) (Nat.le_of_ble_eq_true rfl)
  rw [lg_entry_eq]
  generalize (lg_sl ([.ref ox, .int a1, .ref oq]) ++ List.replicate (4 - (lg_sl ([.ref ox, .int a1, .ref oq])).length) Slot.unset).toArray = ls at hl ⊢
  have hl : lv_has ls 4 [(0, .ref ox), (1, .int a1), (2, .ref oq)] := hl
  refine lv_aload_n hx hb dL_softLocks_0 rfl (lv_at hl 2 rfl) ?_
  refine lv_iconst (v := 0) hx hb dL_softLocks_1 (by decide) ?_
  refine lv_aload_n hx hb dL_softLocks_2 rfl (lv_at hl 0 rfl) ?_
  refine lv_iload_n hx hb dL_softLocks_3 rfl (lv_at hl 1 rfl) ?_
  have hPc := hP.sub (ws' := [(ox, .inr (13, [.ref pl, .ref ru, .ref sh, .ref sp, .ref sl, .ref gr, .ref re, .ref pr, .ref ga, .ref rp, .ref bo, .int 0])), (pl, .inr (1, [.int 0, .ref de, .int 0])), (ru, .inr (1, [.int 0, .ref de, .int 0])), (sh, .inr (1, [.int 0, .ref de, .int 0])), (sp, .inl (cP, 6, .inr (.inr (.inr (.inr (fun _ => none)))))), (ga, .inr (5, [.ref gpl, .ref gin, .int (-1), .int 0, .int 112, .int 0])), (bo, .inr (2, [.ref fa, .ref bbe, .ref bdi, .int 0, .int 0])), (fa, .inl (cI, 96, .inl (fun _ => 0)))]) [0, 1, 2, 3, 4, 5, 6, 7] rfl
  have hDc := hD.sub (ws' := [(ox, .inr (13, [.ref pl, .ref ru, .ref sh, .ref sp, .ref sl, .ref gr, .ref re, .ref pr, .ref ga, .ref rp, .ref bo, .int 0])), (pl, .inr (1, [.int 0, .ref de, .int 0])), (ru, .inr (1, [.int 0, .ref de, .int 0])), (sh, .inr (1, [.int 0, .ref de, .int 0])), (sp, .inl (cP, 6, .inr (.inr (.inr (.inr (fun _ => none)))))), (ga, .inr (5, [.ref gpl, .ref gin, .int (-1), .int 0, .int 112, .int 0])), (bo, .inr (2, [.ref fa, .ref bbe, .ref bdi, .int 0, .int 0])), (fa, .inl (cI, 96, .inl (fun _ => 0)))]) [0, 1, 2, 3, 4, 5, 6, 7] (by decide) rfl
  have hKc := hK.sub (tys' := [(cP, .object "Levelsmith$Player"), (cI, .int)]) [0, 1] rfl
  have hFc := va_free (wc := [(ox, .inr (13, [.ref pl, .ref ru, .ref sh, .ref sp, .ref sl, .ref gr, .ref re, .ref pr, .ref ga, .ref rp, .ref bo, .int 0])), (pl, .inr (1, [.int 0, .ref de, .int 0])), (ru, .inr (1, [.int 0, .ref de, .int 0])), (sh, .inr (1, [.int 0, .ref de, .int 0])), (sp, .inl (cP, 6, .inr (.inr (.inr (.inr (fun _ => none)))))), (ga, .inr (5, [.ref gpl, .ref gin, .int (-1), .int 0, .int 112, .int 0])), (bo, .inr (2, [.ref fa, .ref bbe, .ref bdi, .int 0, .int 0])), (fa, .inl (cI, 96, .inl (fun _ => 0)))]) hD hS hA [0, 1, 2, 3, 4, 5, 6, 7] rfl
  refine vx_calli (vx_runV (As := [.int a1]) (rest := [.int 0, .ref oq]) ⟨hx, hb, hml, hown, ht⟩ (c_X11_softLocks l hlt dC dI de (ox) (pl) (ru) (sh) (sp) (sl) (gr) (re) (pr) (ga) (rp) (bo) (fa) (gpl) (gin) (bbe) (bdi) (cP) (cI) (a1) s.heap.size) (cwV 1 ht (gWV (wr_41 _ (List.mem_of_getElem? (i := 3) rfl)) (wr_41 _ (List.mem_of_getElem? (i := 4) rfl)) (wr_41 _ (List.mem_of_getElem? (i := 5) rfl)) (wr_1 _ (List.mem_of_getElem? (i := 2) rfl)) (wr_41 _ (List.mem_of_getElem? (i := 6) rfl))) rfl rfl rfl (by decide +kernel) ⟨Nat.le_of_ble_eq_true rfl, Nat.le_of_ble_eq_true rfl⟩) ⟨PW_blind, va_recv hKc hPc (ci := 13) (q0 := 0) rfl rfl, PW_call hPc hDc hKc hS hG hFc⟩ rfl rfl hl.1 rfl (lv_room (Nat.le_of_ble_eq_true rfl)) dL_softLocks_4 ⟨Nat.le_of_ble_eq_true rfl, Nat.le_of_ble_eq_true rfl⟩) hS (fun q _ h => hFc q h) hFc (fun q _ h => hFc q h) (fun E ce q9 u t H1 locs1 ht9 hvm9 _ hR9 hz9 hk9 hS9 hc9 hv9 hcl9 => ?_) (fun r_4 u t H1 locs ht9 hvm hw hB hz1 hk1 hS => False.elim hw)
  obtain ⟨hP, hD⟩ := va_join (wr := [(oq, .inl (cL, 1, .inr (.inl (fun _ => 0))))]) (w1 := []) hP hD [0, 1, 2, 3, 4, 5, 6, 7] [8] rfl rfl (by decide) (by decide) hk9 hFc (va_P_nil (dC, dI) vwCl H1) (va_D_nil _)
  have hK := hK.sub (tys' := [(cL, .long)]) [2] rfl
  have hS := hS9
  obtain rfl := hR9
  refine vx_catch (own := RL) (name := "java/lang/IndexOutOfBoundsException") hown [] ⟨0, 9, 12, 21⟩ [] htab (fun z hz => nomatch hz) (by decide) (by decide) (ht _ (wr_18 _ (List.mem_of_getElem? (i := 12) rfl))) (va_Nw.use rfl (hG.2.2.2.1 _ (List.mem_of_getElem? (i := 0) rfl))) hc9 hv9 hcl9 ?_
  refine lv_astore_n (lv' := [(3, .ref q9), (0, .ref ox), (1, .int a1), (2, .ref oq)]) hx hb dL_softLocks_12 rfl hl (by decide) rfl (fun ls hl => ?_)
  refine lv_iconst (v := 1) hx hb dL_softLocks_13 (by decide) ?_
  have hP9 := hP.sub (ws' := []) [] rfl
  have hD9 := hD.sub (ws' := []) [] (by decide) rfl
  have hK9 := hK.sub (tys' := []) [] rfl
  exact vx_ret (W.iret (v := 1) hx hb hr (fun t htt hW => have ht := htt; ⟨⟨1, (), rfl, rfl, QW_of ht hW hP9 hK9 hD9⟩, hS.F ht⟩) hS.2.2 dL_softLocks_14)
set_option maxHeartbeats 4000000 in
set_option maxRecDepth 100000 in
theorem c_L_softLockAt (l : Launch) (hlt : l.stackTraces = false) (dC : Nat → ClassId) (dI : Nat → Nat → Nat) (de : Nat) (ox : Nat) (pl : Nat) (ru : Nat) (sh : Nat) (sp : Nat) (sl : Nat) (gr : Nat) (re : Nat) (pr : Nat) (ga : Nat) (rp : Nat) (bo : Nat) (fa : Nat) (gpl : Nat) (gin : Nat) (bbe : Nat) (bdi : Nat) (cP : ClassId) (cI : ClassId) (oq : Nat) (cL : ClassId) (a1 : Int32) (a2 : Int32) (sz : Nat) : vx_Met l yL_softLockAt (.codeWith yL_softLockAt cL_softLockAt 5 (some .int) [(0, 10, 13, 21), (0, 10, 17, 13), (0, 10, 21, 57)] :: wsL_law) { frames := 8, cells := 1, slots := 6, locals := 134 } (va_Pc [.ref ox, .int a1, .int a2, .ref oq] (PW dC dI de [(cP, .object "Levelsmith$Player"), (cI, .int), (cL, .long)] (WXJ ox pl ru sh sp sl gr re pr ga rp bo fa gpl gin bbe bdi oq cP cI cL de) sz)) (va_Qi (fun (r : Int32) (u : Unit) => r = 1) (fun (_ : Unit) (t : State) => QW dC dI [] [] (va_A (WXJ ox pl ru sh sp sl gr re pr ga rp bo fa gpl gin bbe bdi oq cP cI cL de) sz) t) (va_A (WXJ ox pl ru sh sp sl gr re pr ga rp bo fa gpl gin bbe bdi oq cP cI cL de) sz)) (XX (fun E => False) (va_A (WXJ ox pl ru sh sp sl gr re pr ga rp bo fa gpl gin bbe bdi oq cP cI cL de) sz)) 1 6 (va_A (WXJ ox pl ru sh sp sl gr re pr ga rp bo fa gpl gin bbe bdi oq cP cI cL de) sz) := by
  refine vx_ofWH (cc := cL_softLockAt) (maxL := 5) (ret := (some .int)) (by decide) rfl ?_
  intro p e s m args below meth c s₁ B hml hv
  obtain ⟨rfl, hsz, hP, hK, hD0, hG⟩ := hv
  have hx := B.exec
  have hb := B.bytes
  have hr := B.returns
  have hts := atoms_spec (ws := .codeWith yL_softLockAt cL_softLockAt 5 (some .int) [(0, 10, 13, 21), (0, 10, 17, 13), (0, 10, 21, 57)] :: wsL_law) B.pre
  have ht : ∀ w ∈ wsL_law, w.before _ s = true := fun w h => hts w (List.mem_cons_of_mem _ h)
  have hown : s.vm.findClass RL = some m.cls := findClass_of_methodNamed B.named
  have hlocks := B.notSynchronized
  have htab : c.exceptionTable.toList = tableOf [(0, 10, 13, 21), (0, 10, 17, 13), (0, 10, 21, 57)] := vx_table (x := yL_softLockAt) B (hts _ List.mem_cons_self)
  subst hsz
  have hD := hD0.self (sz := s.heap.size)
  generalize hAe : va_A (WXJ ox pl ru sh sp sl gr re pr ga rp bo fa gpl gin bbe bdi oq cP cI cL de) s.heap.size = A at hD hG ⊢
  have hA : ∀ q : Nat, s.heap.size ≤ q → A q := fun q h => by rw [← hAe]; exact Or.inr h
  have hS : va_S A s.heap s.heap [] := va_S.rf
  have hP : va_P (dC, dI) vwCl [(ox, .inr (13, [.ref pl, .ref ru, .ref sh, .ref sp, .ref sl, .ref gr, .ref re, .ref pr, .ref ga, .ref rp, .ref bo, .int 0])), (pl, .inr (1, [.int 0, .ref de, .int 0])), (ru, .inr (1, [.int 0, .ref de, .int 0])), (sh, .inr (1, [.int 0, .ref de, .int 0])), (sp, .inl (cP, 6, .inr (.inr (.inr (.inr (fun _ => none)))))), (ga, .inr (5, [.ref gpl, .ref gin, .int (-1), .int 0, .int 112, .int 0])), (bo, .inr (2, [.ref fa, .ref bbe, .ref bdi, .int 0, .int 0])), (fa, .inl (cI, 96, .inl (fun _ => 0))), (oq, .inl (cL, 1, .inr (.inl (fun _ => 0))))] s.heap := hP
  have hD : va_D A [(ox, .inr (13, [.ref pl, .ref ru, .ref sh, .ref sp, .ref sl, .ref gr, .ref re, .ref pr, .ref ga, .ref rp, .ref bo, .int 0])), (pl, .inr (1, [.int 0, .ref de, .int 0])), (ru, .inr (1, [.int 0, .ref de, .int 0])), (sh, .inr (1, [.int 0, .ref de, .int 0])), (sp, .inl (cP, 6, .inr (.inr (.inr (.inr (fun _ => none)))))), (ga, .inr (5, [.ref gpl, .ref gin, .int (-1), .int 0, .int 112, .int 0])), (bo, .inr (2, [.ref fa, .ref bbe, .ref bdi, .int 0, .int 0])), (fa, .inl (cI, 96, .inl (fun _ => 0))), (oq, .inl (cL, 1, .inr (.inl (fun _ => 0))))] := hD
  have hl := lv_entry ([.ref ox, .int a1, .int a2, .ref oq]) (n := 5) (Nat.le_of_ble_eq_true rfl)
  rw [lg_entry_eq]
  generalize (lg_sl ([.ref ox, .int a1, .int a2, .ref oq]) ++ List.replicate (5 - (lg_sl ([.ref ox, .int a1, .int a2, .ref oq])).length) Slot.unset).toArray = ls at hl ⊢
  have hl : lv_has ls 5 [(0, .ref ox), (1, .int a1), (2, .int a2), (3, .ref oq)] := hl
  refine lv_aload_n hx hb dL_softLockAt_0 rfl (lv_at hl 3 rfl) ?_
  refine lv_iconst (v := 0) hx hb dL_softLockAt_1 (by decide) ?_
  refine lv_aload_n hx hb dL_softLockAt_2 rfl (lv_at hl 0 rfl) ?_
  refine lv_iload_n hx hb dL_softLockAt_3 rfl (lv_at hl 1 rfl) ?_
  refine lv_iload_n hx hb dL_softLockAt_4 rfl (lv_at hl 2 rfl) ?_
  have hPc := hP.sub (ws' := [(ox, .inr (13, [.ref pl, .ref ru, .ref sh, .ref sp, .ref sl, .ref gr, .ref re, .ref pr, .ref ga, .ref rp, .ref bo, .int 0])), (pl, .inr (1, [.int 0, .ref de, .int 0])), (ru, .inr (1, [.int 0, .ref de, .int 0])), (sh, .inr (1, [.int 0, .ref de, .int 0])), (sp, .inl (cP, 6, .inr (.inr (.inr (.inr (fun _ => none)))))), (ga, .inr (5, [.ref gpl, .ref gin, .int (-1), .int 0, .int 112, .int 0])), (bo, .inr (2, [.ref fa, .ref bbe, .ref bdi, .int 0, .int 0])), (fa, .inl (cI, 96, .inl (fun _ => 0)))]) [0, 1, 2, 3, 4, 5, 6, 7] rfl
  have hDc := hD.sub (ws' := [(ox, .inr (13, [.ref pl, .ref ru, .ref sh, .ref sp, .ref sl, .ref gr, .ref re, .ref pr, .ref ga, .ref rp, .ref bo, .int 0])), (pl, .inr (1, [.int 0, .ref de, .int 0])), (ru, .inr (1, [.int 0, .ref de, .int 0])), (sh, .inr (1, [.int 0, .ref de, .int 0])), (sp, .inl (cP, 6, .inr (.inr (.inr (.inr (fun _ => none)))))), (ga, .inr (5, [.ref gpl, .ref gin, .int (-1), .int 0, .int 112, .int 0])), (bo, .inr (2, [.ref fa, .ref bbe, .ref bdi, .int 0, .int 0])), (fa, .inl (cI, 96, .inl (fun _ => 0)))]) [0, 1, 2, 3, 4, 5, 6, 7] (by decide) rfl
  have hKc := hK.sub (tys' := [(cP, .object "Levelsmith$Player"), (cI, .int)]) [0, 1] rfl
  have hFc := va_free (wc := [(ox, .inr (13, [.ref pl, .ref ru, .ref sh, .ref sp, .ref sl, .ref gr, .ref re, .ref pr, .ref ga, .ref rp, .ref bo, .int 0])), (pl, .inr (1, [.int 0, .ref de, .int 0])), (ru, .inr (1, [.int 0, .ref de, .int 0])), (sh, .inr (1, [.int 0, .ref de, .int 0])), (sp, .inl (cP, 6, .inr (.inr (.inr (.inr (fun _ => none)))))), (ga, .inr (5, [.ref gpl, .ref gin, .int (-1), .int 0, .int 112, .int 0])), (bo, .inr (2, [.ref fa, .ref bbe, .ref bdi, .int 0, .int 0])), (fa, .inl (cI, 96, .inl (fun _ => 0)))]) hD hS hA [0, 1, 2, 3, 4, 5, 6, 7] rfl
  refine vx_calli (vx_runV (As := [.int a1, .int a2]) (rest := [.int 0, .ref oq]) ⟨hx, hb, hml, hown, ht⟩ (c_X11_softLockAt l hlt dC dI de (ox) (pl) (ru) (sh) (sp) (sl) (gr) (re) (pr) (ga) (rp) (bo) (fa) (gpl) (gin) (bbe) (bdi) (cP) (cI) (a1) (a2) s.heap.size) (cwV 2 ht (gWV (wr_43 _ (List.mem_of_getElem? (i := 7) rfl)) (wr_43 _ (List.mem_of_getElem? (i := 8) rfl)) (wr_43 _ (List.mem_of_getElem? (i := 9) rfl)) (wr_1 _ (List.mem_of_getElem? (i := 2) rfl)) (wr_43 _ (List.mem_of_getElem? (i := 10) rfl))) rfl rfl rfl (by decide +kernel) ⟨Nat.le_of_ble_eq_true rfl, Nat.le_of_ble_eq_true rfl⟩) ⟨PW_blind, va_recv hKc hPc (ci := 13) (q0 := 0) rfl rfl, PW_call hPc hDc hKc hS hG hFc⟩ rfl rfl hl.1 rfl (lv_room (Nat.le_of_ble_eq_true rfl)) dL_softLockAt_5 ⟨Nat.le_of_ble_eq_true rfl, Nat.le_of_ble_eq_true rfl⟩) hS (fun q _ h => hFc q h) hFc (fun q _ h => hFc q h) (fun E ce q9 u t H1 locs1 ht9 hvm9 _ hR9 hz9 hk9 hS9 hc9 hv9 hcl9 => ?_) (fun r_5 u t H1 locs ht9 hvm hw hB hz1 hk1 hS => False.elim hw)
  obtain ⟨hP, hD⟩ := va_join (wr := [(oq, .inl (cL, 1, .inr (.inl (fun _ => 0))))]) (w1 := []) hP hD [0, 1, 2, 3, 4, 5, 6, 7] [8] rfl rfl (by decide) (by decide) hk9 hFc (va_P_nil (dC, dI) vwCl H1) (va_D_nil _)
  have hK := hK.sub (tys' := [(cL, .long)]) [2] rfl
  have hS := hS9
  obtain rfl := hR9
  refine vx_catch (own := RL) (name := "java/lang/IndexOutOfBoundsException") hown [] ⟨0, 10, 13, 21⟩ [⟨0, 10, 17, 13⟩, ⟨0, 10, 21, 57⟩] htab (fun z hz => nomatch hz) (by decide) (by decide) (ht _ (wr_18 _ (List.mem_of_getElem? (i := 12) rfl))) (va_Nw.use rfl (hG.2.2.2.1 _ (List.mem_of_getElem? (i := 0) rfl))) hc9 hv9 hcl9 ?_
  refine lv_astore (lv' := [(4, .ref q9), (0, .ref ox), (1, .int a1), (2, .int a2), (3, .ref oq)]) hx hb dL_softLockAt_13 hl (by decide) rfl (fun ls hl => ?_)
  refine lv_iconst (v := 1) hx hb dL_softLockAt_15 (by decide) ?_
  have hP9 := hP.sub (ws' := []) [] rfl
  have hD9 := hD.sub (ws' := []) [] (by decide) rfl
  have hK9 := hK.sub (tys' := []) [] rfl
  exact vx_ret (W.iret (v := 1) hx hb hr (fun t htt hW => have ht := htt; ⟨⟨1, (), rfl, rfl, QW_of ht hW hP9 hK9 hD9⟩, hS.F ht⟩) hS.2.2 dL_softLockAt_16)
set_option maxHeartbeats 4000000 in
set_option maxRecDepth 100000 in
theorem c_L_ways (l : Launch) (hlt : l.stackTraces = false) (dC : Nat → ClassId) (dI : Nat → Nat → Nat) (de : Nat) (ox : Nat) (pl : Nat) (ru : Nat) (sh : Nat) (sp : Nat) (sl : Nat) (gr : Nat) (re : Nat) (pr : Nat) (ga : Nat) (rp : Nat) (bo : Nat) (fa : Nat) (gpl : Nat) (gin : Nat) (bbe : Nat) (bdi : Nat) (cP : ClassId) (cI : ClassId) (oq : Nat) (cL : ClassId) (a1 : Int32) (sz : Nat) : vx_Met l yL_ways (.codeWith yL_ways cL_ways 4 (some .int) [(0, 9, 12, 21)] :: wsL_law) { frames := 9, cells := 1, slots := 6, locals := 154 } (va_Pc [.ref ox, .int a1, .ref oq] (PW dC dI de [(cP, .object "Levelsmith$Player"), (cI, .int), (cL, .long)] (WXJ ox pl ru sh sp sl gr re pr ga rp bo fa gpl gin bbe bdi oq cP cI cL de) sz)) (va_Qi (fun (r : Int32) (u : Unit) => r = 1) (fun (_ : Unit) (t : State) => QW dC dI [] [] (va_A (WXJ ox pl ru sh sp sl gr re pr ga rp bo fa gpl gin bbe bdi oq cP cI cL de) sz) t) (va_A (WXJ ox pl ru sh sp sl gr re pr ga rp bo fa gpl gin bbe bdi oq cP cI cL de) sz)) (XX (fun E => False) (va_A (WXJ ox pl ru sh sp sl gr re pr ga rp bo fa gpl gin bbe bdi oq cP cI cL de) sz)) 1 6 (va_A (WXJ ox pl ru sh sp sl gr re pr ga rp bo fa gpl gin bbe bdi oq cP cI cL de) sz) := by
  refine vx_ofWH (cc := cL_ways) (maxL := 4) (ret := (some .int)) (by decide) rfl ?_
  intro p e s m args below meth c s₁ B hml hv
  obtain ⟨rfl, hsz, hP, hK, hD0, hG⟩ := hv
  have hx := B.exec
  have hb := B.bytes
  have hr := B.returns
  have hts := atoms_spec (ws := .codeWith yL_ways cL_ways 4 (some .int) [(0, 9, 12, 21)] :: wsL_law) B.pre
  have ht : ∀ w ∈ wsL_law, w.before _ s = true := fun w h => hts w (List.mem_cons_of_mem _ h)
  have hown : s.vm.findClass RL = some m.cls := findClass_of_methodNamed B.named
  have hlocks := B.notSynchronized
  have htab : c.exceptionTable.toList = tableOf [(0, 9, 12, 21)] := vx_table (x := yL_ways) B (hts _ List.mem_cons_self)
  subst hsz
  have hD := hD0.self (sz := s.heap.size)
  generalize hAe : va_A (WXJ ox pl ru sh sp sl gr re pr ga rp bo fa gpl gin bbe bdi oq cP cI cL de) s.heap.size = A at hD hG ⊢
  have hA : ∀ q : Nat, s.heap.size ≤ q → A q := fun q h => by rw [← hAe]; exact Or.inr h
  have hS : va_S A s.heap s.heap [] := va_S.rf
  have hP : va_P (dC, dI) vwCl [(ox, .inr (13, [.ref pl, .ref ru, .ref sh, .ref sp, .ref sl, .ref gr, .ref re, .ref pr, .ref ga, .ref rp, .ref bo, .int 0])), (pl, .inr (1, [.int 0, .ref de, .int 0])), (ru, .inr (1, [.int 0, .ref de, .int 0])), (sh, .inr (1, [.int 0, .ref de, .int 0])), (sp, .inl (cP, 6, .inr (.inr (.inr (.inr (fun _ => none)))))), (ga, .inr (5, [.ref gpl, .ref gin, .int (-1), .int 0, .int 112, .int 0])), (bo, .inr (2, [.ref fa, .ref bbe, .ref bdi, .int 0, .int 0])), (fa, .inl (cI, 96, .inl (fun _ => 0))), (oq, .inl (cL, 1, .inr (.inl (fun _ => 0))))] s.heap := hP
  have hD : va_D A [(ox, .inr (13, [.ref pl, .ref ru, .ref sh, .ref sp, .ref sl, .ref gr, .ref re, .ref pr, .ref ga, .ref rp, .ref bo, .int 0])), (pl, .inr (1, [.int 0, .ref de, .int 0])), (ru, .inr (1, [.int 0, .ref de, .int 0])), (sh, .inr (1, [.int 0, .ref de, .int 0])), (sp, .inl (cP, 6, .inr (.inr (.inr (.inr (fun _ => none)))))), (ga, .inr (5, [.ref gpl, .ref gin, .int (-1), .int 0, .int 112, .int 0])), (bo, .inr (2, [.ref fa, .ref bbe, .ref bdi, .int 0, .int 0])), (fa, .inl (cI, 96, .inl (fun _ => 0))), (oq, .inl (cL, 1, .inr (.inl (fun _ => 0))))] := hD
  have hl := lv_entry ([.ref ox, .int a1, .ref oq]) (n := 4) (Nat.le_of_ble_eq_true rfl)
  rw [lg_entry_eq]
  generalize (lg_sl ([.ref ox, .int a1, .ref oq]) ++ List.replicate (4 - (lg_sl ([.ref ox, .int a1, .ref oq])).length) Slot.unset).toArray = ls at hl ⊢
  have hl : lv_has ls 4 [(0, .ref ox), (1, .int a1), (2, .ref oq)] := hl
  refine lv_aload_n hx hb dL_ways_0 rfl (lv_at hl 2 rfl) ?_
  refine lv_iconst (v := 0) hx hb dL_ways_1 (by decide) ?_
  refine lv_aload_n hx hb dL_ways_2 rfl (lv_at hl 0 rfl) ?_
  refine lv_iload_n hx hb dL_ways_3 rfl (lv_at hl 1 rfl) ?_
  have hPc := hP.sub (ws' := [(ox, .inr (13, [.ref pl, .ref ru, .ref sh, .ref sp, .ref sl, .ref gr, .ref re, .ref pr, .ref ga, .ref rp, .ref bo, .int 0])), (pl, .inr (1, [.int 0, .ref de, .int 0])), (ru, .inr (1, [.int 0, .ref de, .int 0])), (sh, .inr (1, [.int 0, .ref de, .int 0])), (sp, .inl (cP, 6, .inr (.inr (.inr (.inr (fun _ => none)))))), (ga, .inr (5, [.ref gpl, .ref gin, .int (-1), .int 0, .int 112, .int 0])), (bo, .inr (2, [.ref fa, .ref bbe, .ref bdi, .int 0, .int 0])), (fa, .inl (cI, 96, .inl (fun _ => 0)))]) [0, 1, 2, 3, 4, 5, 6, 7] rfl
  have hDc := hD.sub (ws' := [(ox, .inr (13, [.ref pl, .ref ru, .ref sh, .ref sp, .ref sl, .ref gr, .ref re, .ref pr, .ref ga, .ref rp, .ref bo, .int 0])), (pl, .inr (1, [.int 0, .ref de, .int 0])), (ru, .inr (1, [.int 0, .ref de, .int 0])), (sh, .inr (1, [.int 0, .ref de, .int 0])), (sp, .inl (cP, 6, .inr (.inr (.inr (.inr (fun _ => none)))))), (ga, .inr (5, [.ref gpl, .ref gin, .int (-1), .int 0, .int 112, .int 0])), (bo, .inr (2, [.ref fa, .ref bbe, .ref bdi, .int 0, .int 0])), (fa, .inl (cI, 96, .inl (fun _ => 0)))]) [0, 1, 2, 3, 4, 5, 6, 7] (by decide) rfl
  have hKc := hK.sub (tys' := [(cP, .object "Levelsmith$Player"), (cI, .int)]) [0, 1] rfl
  have hFc := va_free (wc := [(ox, .inr (13, [.ref pl, .ref ru, .ref sh, .ref sp, .ref sl, .ref gr, .ref re, .ref pr, .ref ga, .ref rp, .ref bo, .int 0])), (pl, .inr (1, [.int 0, .ref de, .int 0])), (ru, .inr (1, [.int 0, .ref de, .int 0])), (sh, .inr (1, [.int 0, .ref de, .int 0])), (sp, .inl (cP, 6, .inr (.inr (.inr (.inr (fun _ => none)))))), (ga, .inr (5, [.ref gpl, .ref gin, .int (-1), .int 0, .int 112, .int 0])), (bo, .inr (2, [.ref fa, .ref bbe, .ref bdi, .int 0, .int 0])), (fa, .inl (cI, 96, .inl (fun _ => 0)))]) hD hS hA [0, 1, 2, 3, 4, 5, 6, 7] rfl
  refine vx_calli (vx_runV (As := [.int a1]) (rest := [.int 0, .ref oq]) ⟨hx, hb, hml, hown, ht⟩ (c_X11_ways l hlt dC dI de (ox) (pl) (ru) (sh) (sp) (sl) (gr) (re) (pr) (ga) (rp) (bo) (fa) (gpl) (gin) (bbe) (bdi) (cP) (cI) (a1) s.heap.size) (cwV 1 ht (gWV (wr_44 _ (List.mem_of_getElem? (i := 11) rfl)) (wr_44 _ (List.mem_of_getElem? (i := 12) rfl)) (wr_44 _ (List.mem_of_getElem? (i := 13) rfl)) (wr_1 _ (List.mem_of_getElem? (i := 2) rfl)) (wr_44 _ (List.mem_of_getElem? (i := 14) rfl))) rfl rfl rfl (by decide +kernel) ⟨Nat.le_of_ble_eq_true rfl, Nat.le_of_ble_eq_true rfl⟩) ⟨PW_blind, va_recv hKc hPc (ci := 13) (q0 := 0) rfl rfl, PW_call hPc hDc hKc hS hG hFc⟩ rfl rfl hl.1 rfl (lv_room (Nat.le_of_ble_eq_true rfl)) dL_ways_4 ⟨Nat.le_of_ble_eq_true rfl, Nat.le_of_ble_eq_true rfl⟩) hS (fun q _ h => hFc q h) hFc (fun q _ h => hFc q h) (fun E ce q9 u t H1 locs1 ht9 hvm9 _ hR9 hz9 hk9 hS9 hc9 hv9 hcl9 => ?_) (fun r_4 u t H1 locs ht9 hvm hw hB hz1 hk1 hS => False.elim hw)
  obtain ⟨hP, hD⟩ := va_join (wr := [(oq, .inl (cL, 1, .inr (.inl (fun _ => 0))))]) (w1 := []) hP hD [0, 1, 2, 3, 4, 5, 6, 7] [8] rfl rfl (by decide) (by decide) hk9 hFc (va_P_nil (dC, dI) vwCl H1) (va_D_nil _)
  have hK := hK.sub (tys' := [(cL, .long)]) [2] rfl
  have hS := hS9
  obtain rfl := hR9
  refine vx_catch (own := RL) (name := "java/lang/IndexOutOfBoundsException") hown [] ⟨0, 9, 12, 21⟩ [] htab (fun z hz => nomatch hz) (by decide) (by decide) (ht _ (wr_18 _ (List.mem_of_getElem? (i := 12) rfl))) (va_Nw.use rfl (hG.2.2.2.1 _ (List.mem_of_getElem? (i := 0) rfl))) hc9 hv9 hcl9 ?_
  refine lv_astore_n (lv' := [(3, .ref q9), (0, .ref ox), (1, .int a1), (2, .ref oq)]) hx hb dL_ways_12 rfl hl (by decide) rfl (fun ls hl => ?_)
  refine lv_iconst (v := 1) hx hb dL_ways_13 (by decide) ?_
  have hP9 := hP.sub (ws' := []) [] rfl
  have hD9 := hD.sub (ws' := []) [] (by decide) rfl
  have hK9 := hK.sub (tys' := []) [] rfl
  exact vx_ret (W.iret (v := 1) hx hb hr (fun t htt hW => have ht := htt; ⟨⟨1, (), rfl, rfl, QW_of ht hW hP9 hK9 hD9⟩, hS.F ht⟩) hS.2.2 dL_ways_14)
set_option maxHeartbeats 4000000 in
set_option maxRecDepth 100000 in
theorem c_L_isNeeded (l : Launch) (hlt : l.stackTraces = false) (dC : Nat → ClassId) (dI : Nat → Nat → Nat) (de : Nat) (ox : Nat) (pl : Nat) (ru : Nat) (sh : Nat) (sp : Nat) (sl : Nat) (gr : Nat) (re : Nat) (pr : Nat) (ga : Nat) (rp : Nat) (bo : Nat) (fa : Nat) (gpl : Nat) (gin : Nat) (bbe : Nat) (bdi : Nat) (cP : ClassId) (cI : ClassId) (oq : Nat) (cL : ClassId) (a1 : Int32) (a2 : Int32) (sz : Nat) : vx_Met l yL_isNeeded (.codeWith yL_isNeeded cL_isNeeded 5 (some .int) [(0, 17, 20, 21), (0, 17, 24, 13), (0, 17, 28, 57)] :: wsL_law) { frames := 8, cells := 1, slots := 6, locals := 134 } (va_Pc [.ref ox, .int a1, .int a2, .ref oq] (PW dC dI de [(cP, .object "Levelsmith$Player"), (cI, .int), (cL, .long)] (WXJ ox pl ru sh sp sl gr re pr ga rp bo fa gpl gin bbe bdi oq cP cI cL de) sz)) (va_Qi (fun (r : Int32) (u : Unit) => r = 1) (fun (_ : Unit) (t : State) => QW dC dI [] [] (va_A (WXJ ox pl ru sh sp sl gr re pr ga rp bo fa gpl gin bbe bdi oq cP cI cL de) sz) t) (va_A (WXJ ox pl ru sh sp sl gr re pr ga rp bo fa gpl gin bbe bdi oq cP cI cL de) sz)) (XX (fun E => False) (va_A (WXJ ox pl ru sh sp sl gr re pr ga rp bo fa gpl gin bbe bdi oq cP cI cL de) sz)) 1 6 (va_A (WXJ ox pl ru sh sp sl gr re pr ga rp bo fa gpl gin bbe bdi oq cP cI cL de) sz) := by
  refine vx_ofWH (cc := cL_isNeeded) (maxL := 5) (ret := (some .int)) (by decide) rfl ?_
  intro p e s m args below meth c s₁ B hml hv
  obtain ⟨rfl, hsz, hP, hK, hD0, hG⟩ := hv
  have hx := B.exec
  have hb := B.bytes
  have hr := B.returns
  have hts := atoms_spec (ws := .codeWith yL_isNeeded cL_isNeeded 5 (some .int) [(0, 17, 20, 21), (0, 17, 24, 13), (0, 17, 28, 57)] :: wsL_law) B.pre
  have ht : ∀ w ∈ wsL_law, w.before _ s = true := fun w h => hts w (List.mem_cons_of_mem _ h)
  have hown : s.vm.findClass RL = some m.cls := findClass_of_methodNamed B.named
  have hlocks := B.notSynchronized
  have htab : c.exceptionTable.toList = tableOf [(0, 17, 20, 21), (0, 17, 24, 13), (0, 17, 28, 57)] := vx_table (x := yL_isNeeded) B (hts _ List.mem_cons_self)
  subst hsz
  have hD := hD0.self (sz := s.heap.size)
  generalize hAe : va_A (WXJ ox pl ru sh sp sl gr re pr ga rp bo fa gpl gin bbe bdi oq cP cI cL de) s.heap.size = A at hD hG ⊢
  have hA : ∀ q : Nat, s.heap.size ≤ q → A q := fun q h => by rw [← hAe]; exact Or.inr h
  have hS : va_S A s.heap s.heap [] := va_S.rf
  have hP : va_P (dC, dI) vwCl [(ox, .inr (13, [.ref pl, .ref ru, .ref sh, .ref sp, .ref sl, .ref gr, .ref re, .ref pr, .ref ga, .ref rp, .ref bo, .int 0])), (pl, .inr (1, [.int 0, .ref de, .int 0])), (ru, .inr (1, [.int 0, .ref de, .int 0])), (sh, .inr (1, [.int 0, .ref de, .int 0])), (sp, .inl (cP, 6, .inr (.inr (.inr (.inr (fun _ => none)))))), (ga, .inr (5, [.ref gpl, .ref gin, .int (-1), .int 0, .int 112, .int 0])), (bo, .inr (2, [.ref fa, .ref bbe, .ref bdi, .int 0, .int 0])), (fa, .inl (cI, 96, .inl (fun _ => 0))), (oq, .inl (cL, 1, .inr (.inl (fun _ => 0))))] s.heap := hP
  have hD : va_D A [(ox, .inr (13, [.ref pl, .ref ru, .ref sh, .ref sp, .ref sl, .ref gr, .ref re, .ref pr, .ref ga, .ref rp, .ref bo, .int 0])), (pl, .inr (1, [.int 0, .ref de, .int 0])), (ru, .inr (1, [.int 0, .ref de, .int 0])), (sh, .inr (1, [.int 0, .ref de, .int 0])), (sp, .inl (cP, 6, .inr (.inr (.inr (.inr (fun _ => none)))))), (ga, .inr (5, [.ref gpl, .ref gin, .int (-1), .int 0, .int 112, .int 0])), (bo, .inr (2, [.ref fa, .ref bbe, .ref bdi, .int 0, .int 0])), (fa, .inl (cI, 96, .inl (fun _ => 0))), (oq, .inl (cL, 1, .inr (.inl (fun _ => 0))))] := hD
  have hl := lv_entry ([.ref ox, .int a1, .int a2, .ref oq]) (n := 5) (Nat.le_of_ble_eq_true rfl)
  rw [lg_entry_eq]
  generalize (lg_sl ([.ref ox, .int a1, .int a2, .ref oq]) ++ List.replicate (5 - (lg_sl ([.ref ox, .int a1, .int a2, .ref oq])).length) Slot.unset).toArray = ls at hl ⊢
  have hl : lv_has ls 5 [(0, .ref ox), (1, .int a1), (2, .int a2), (3, .ref oq)] := hl
  refine lv_aload_n hx hb dL_isNeeded_0 rfl (lv_at hl 3 rfl) ?_
  refine lv_iconst (v := 0) hx hb dL_isNeeded_1 (by decide) ?_
  refine lv_aload_n hx hb dL_isNeeded_2 rfl (lv_at hl 0 rfl) ?_
  refine lv_iload_n hx hb dL_isNeeded_3 rfl (lv_at hl 1 rfl) ?_
  refine lv_iload_n hx hb dL_isNeeded_4 rfl (lv_at hl 2 rfl) ?_
  have hPc := hP.sub (ws' := [(ox, .inr (13, [.ref pl, .ref ru, .ref sh, .ref sp, .ref sl, .ref gr, .ref re, .ref pr, .ref ga, .ref rp, .ref bo, .int 0])), (pl, .inr (1, [.int 0, .ref de, .int 0])), (ru, .inr (1, [.int 0, .ref de, .int 0])), (sh, .inr (1, [.int 0, .ref de, .int 0])), (sp, .inl (cP, 6, .inr (.inr (.inr (.inr (fun _ => none)))))), (ga, .inr (5, [.ref gpl, .ref gin, .int (-1), .int 0, .int 112, .int 0])), (bo, .inr (2, [.ref fa, .ref bbe, .ref bdi, .int 0, .int 0])), (fa, .inl (cI, 96, .inl (fun _ => 0)))]) [0, 1, 2, 3, 4, 5, 6, 7] rfl
  have hDc := hD.sub (ws' := [(ox, .inr (13, [.ref pl, .ref ru, .ref sh, .ref sp, .ref sl, .ref gr, .ref re, .ref pr, .ref ga, .ref rp, .ref bo, .int 0])), (pl, .inr (1, [.int 0, .ref de, .int 0])), (ru, .inr (1, [.int 0, .ref de, .int 0])), (sh, .inr (1, [.int 0, .ref de, .int 0])), (sp, .inl (cP, 6, .inr (.inr (.inr (.inr (fun _ => none)))))), (ga, .inr (5, [.ref gpl, .ref gin, .int (-1), .int 0, .int 112, .int 0])), (bo, .inr (2, [.ref fa, .ref bbe, .ref bdi, .int 0, .int 0])), (fa, .inl (cI, 96, .inl (fun _ => 0)))]) [0, 1, 2, 3, 4, 5, 6, 7] (by decide) rfl
  have hKc := hK.sub (tys' := [(cP, .object "Levelsmith$Player"), (cI, .int)]) [0, 1] rfl
  have hFc := va_free (wc := [(ox, .inr (13, [.ref pl, .ref ru, .ref sh, .ref sp, .ref sl, .ref gr, .ref re, .ref pr, .ref ga, .ref rp, .ref bo, .int 0])), (pl, .inr (1, [.int 0, .ref de, .int 0])), (ru, .inr (1, [.int 0, .ref de, .int 0])), (sh, .inr (1, [.int 0, .ref de, .int 0])), (sp, .inl (cP, 6, .inr (.inr (.inr (.inr (fun _ => none)))))), (ga, .inr (5, [.ref gpl, .ref gin, .int (-1), .int 0, .int 112, .int 0])), (bo, .inr (2, [.ref fa, .ref bbe, .ref bdi, .int 0, .int 0])), (fa, .inl (cI, 96, .inl (fun _ => 0)))]) hD hS hA [0, 1, 2, 3, 4, 5, 6, 7] rfl
  refine vx_calli (vx_runV (As := [.int a1, .int a2]) (rest := [.int 0, .ref oq]) ⟨hx, hb, hml, hown, ht⟩ (c_X11_isNeeded l hlt dC dI de (ox) (pl) (ru) (sh) (sp) (sl) (gr) (re) (pr) (ga) (rp) (bo) (fa) (gpl) (gin) (bbe) (bdi) (cP) (cI) (a1) (a2) s.heap.size) (cwV 2 ht (gWV (wr_45 _ (List.mem_of_getElem? (i := 10) rfl)) (wr_45 _ (List.mem_of_getElem? (i := 11) rfl)) (wr_45 _ (List.mem_of_getElem? (i := 12) rfl)) (wr_1 _ (List.mem_of_getElem? (i := 2) rfl)) (wr_45 _ (List.mem_of_getElem? (i := 13) rfl))) rfl rfl rfl (by decide +kernel) ⟨Nat.le_of_ble_eq_true rfl, Nat.le_of_ble_eq_true rfl⟩) ⟨PW_blind, va_recv hKc hPc (ci := 13) (q0 := 0) rfl rfl, PW_call hPc hDc hKc hS hG hFc⟩ rfl rfl hl.1 rfl (lv_room (Nat.le_of_ble_eq_true rfl)) dL_isNeeded_5 ⟨Nat.le_of_ble_eq_true rfl, Nat.le_of_ble_eq_true rfl⟩) hS (fun q _ h => hFc q h) hFc (fun q _ h => hFc q h) (fun E ce q9 u t H1 locs1 ht9 hvm9 _ hR9 hz9 hk9 hS9 hc9 hv9 hcl9 => ?_) (fun r_5 u t H1 locs ht9 hvm hw hB hz1 hk1 hS => False.elim hw)
  obtain ⟨hP, hD⟩ := va_join (wr := [(oq, .inl (cL, 1, .inr (.inl (fun _ => 0))))]) (w1 := []) hP hD [0, 1, 2, 3, 4, 5, 6, 7] [8] rfl rfl (by decide) (by decide) hk9 hFc (va_P_nil (dC, dI) vwCl H1) (va_D_nil _)
  have hK := hK.sub (tys' := [(cL, .long)]) [2] rfl
  have hS := hS9
  obtain rfl := hR9
  refine vx_catch (own := RL) (name := "java/lang/IndexOutOfBoundsException") hown [] ⟨0, 17, 20, 21⟩ [⟨0, 17, 24, 13⟩, ⟨0, 17, 28, 57⟩] htab (fun z hz => nomatch hz) (by decide) (by decide) (ht _ (wr_18 _ (List.mem_of_getElem? (i := 12) rfl))) (va_Nw.use rfl (hG.2.2.2.1 _ (List.mem_of_getElem? (i := 0) rfl))) hc9 hv9 hcl9 ?_
  refine lv_astore (lv' := [(4, .ref q9), (0, .ref ox), (1, .int a1), (2, .int a2), (3, .ref oq)]) hx hb dL_isNeeded_20 hl (by decide) rfl (fun ls hl => ?_)
  refine lv_iconst (v := 1) hx hb dL_isNeeded_22 (by decide) ?_
  have hP9 := hP.sub (ws' := []) [] rfl
  have hD9 := hD.sub (ws' := []) [] (by decide) rfl
  have hK9 := hK.sub (tys' := []) [] rfl
  exact vx_ret (W.iret (v := 1) hx hb hr (fun t htt hW => have ht := htt; ⟨⟨1, (), rfl, rfl, QW_of ht hW hP9 hK9 hD9⟩, hS.F ht⟩) hS.2.2 dL_isNeeded_23)
set_option maxHeartbeats 4000000 in
set_option maxRecDepth 100000 in
theorem c_L_isWinnableWith (l : Launch) (hlt : l.stackTraces = false) (dC : Nat → ClassId) (dI : Nat → Nat → Nat) (de : Nat) (ox : Nat) (pl : Nat) (ru : Nat) (sh : Nat) (sp : Nat) (sl : Nat) (gr : Nat) (re : Nat) (pr : Nat) (ga : Nat) (rp : Nat) (bo : Nat) (fa : Nat) (gpl : Nat) (gin : Nat) (bbe : Nat) (bdi : Nat) (cP : ClassId) (cI : ClassId) (oq : Nat) (cL : ClassId) (a1 : Int32) (a2 : Int32) (sz : Nat) : vx_Met l yL_isWinnableWith (.codeWith yL_isWinnableWith cL_isWinnableWith 5 (some .int) [(0, 17, 20, 21), (0, 17, 24, 13)] :: wsL_law) { frames := 8, cells := 1, slots := 6, locals := 134 } (va_Pc [.ref ox, .int a1, .int a2, .ref oq] (PW dC dI de [(cP, .object "Levelsmith$Player"), (cI, .int), (cL, .long)] (WXJ ox pl ru sh sp sl gr re pr ga rp bo fa gpl gin bbe bdi oq cP cI cL de) sz)) (va_Qi (fun (r : Int32) (u : Unit) => r = 1) (fun (_ : Unit) (t : State) => QW dC dI [] [] (va_A (WXJ ox pl ru sh sp sl gr re pr ga rp bo fa gpl gin bbe bdi oq cP cI cL de) sz) t) (va_A (WXJ ox pl ru sh sp sl gr re pr ga rp bo fa gpl gin bbe bdi oq cP cI cL de) sz)) (XX (fun E => False) (va_A (WXJ ox pl ru sh sp sl gr re pr ga rp bo fa gpl gin bbe bdi oq cP cI cL de) sz)) 1 6 (va_A (WXJ ox pl ru sh sp sl gr re pr ga rp bo fa gpl gin bbe bdi oq cP cI cL de) sz) := by
  refine vx_ofWH (cc := cL_isWinnableWith) (maxL := 5) (ret := (some .int)) (by decide) rfl ?_
  intro p e s m args below meth c s₁ B hml hv
  obtain ⟨rfl, hsz, hP, hK, hD0, hG⟩ := hv
  have hx := B.exec
  have hb := B.bytes
  have hr := B.returns
  have hts := atoms_spec (ws := .codeWith yL_isWinnableWith cL_isWinnableWith 5 (some .int) [(0, 17, 20, 21), (0, 17, 24, 13)] :: wsL_law) B.pre
  have ht : ∀ w ∈ wsL_law, w.before _ s = true := fun w h => hts w (List.mem_cons_of_mem _ h)
  have hown : s.vm.findClass RL = some m.cls := findClass_of_methodNamed B.named
  have hlocks := B.notSynchronized
  have htab : c.exceptionTable.toList = tableOf [(0, 17, 20, 21), (0, 17, 24, 13)] := vx_table (x := yL_isWinnableWith) B (hts _ List.mem_cons_self)
  subst hsz
  have hD := hD0.self (sz := s.heap.size)
  generalize hAe : va_A (WXJ ox pl ru sh sp sl gr re pr ga rp bo fa gpl gin bbe bdi oq cP cI cL de) s.heap.size = A at hD hG ⊢
  have hA : ∀ q : Nat, s.heap.size ≤ q → A q := fun q h => by rw [← hAe]; exact Or.inr h
  have hS : va_S A s.heap s.heap [] := va_S.rf
  have hP : va_P (dC, dI) vwCl [(ox, .inr (13, [.ref pl, .ref ru, .ref sh, .ref sp, .ref sl, .ref gr, .ref re, .ref pr, .ref ga, .ref rp, .ref bo, .int 0])), (pl, .inr (1, [.int 0, .ref de, .int 0])), (ru, .inr (1, [.int 0, .ref de, .int 0])), (sh, .inr (1, [.int 0, .ref de, .int 0])), (sp, .inl (cP, 6, .inr (.inr (.inr (.inr (fun _ => none)))))), (ga, .inr (5, [.ref gpl, .ref gin, .int (-1), .int 0, .int 112, .int 0])), (bo, .inr (2, [.ref fa, .ref bbe, .ref bdi, .int 0, .int 0])), (fa, .inl (cI, 96, .inl (fun _ => 0))), (oq, .inl (cL, 1, .inr (.inl (fun _ => 0))))] s.heap := hP
  have hD : va_D A [(ox, .inr (13, [.ref pl, .ref ru, .ref sh, .ref sp, .ref sl, .ref gr, .ref re, .ref pr, .ref ga, .ref rp, .ref bo, .int 0])), (pl, .inr (1, [.int 0, .ref de, .int 0])), (ru, .inr (1, [.int 0, .ref de, .int 0])), (sh, .inr (1, [.int 0, .ref de, .int 0])), (sp, .inl (cP, 6, .inr (.inr (.inr (.inr (fun _ => none)))))), (ga, .inr (5, [.ref gpl, .ref gin, .int (-1), .int 0, .int 112, .int 0])), (bo, .inr (2, [.ref fa, .ref bbe, .ref bdi, .int 0, .int 0])), (fa, .inl (cI, 96, .inl (fun _ => 0))), (oq, .inl (cL, 1, .inr (.inl (fun _ => 0))))] := hD
  have hl := lv_entry ([.ref ox, .int a1, .int a2, .ref oq]) (n := 5) (Nat.le_of_ble_eq_true rfl)
  rw [lg_entry_eq]
  generalize (lg_sl ([.ref ox, .int a1, .int a2, .ref oq]) ++ List.replicate (5 - (lg_sl ([.ref ox, .int a1, .int a2, .ref oq])).length) Slot.unset).toArray = ls at hl ⊢
  have hl : lv_has ls 5 [(0, .ref ox), (1, .int a1), (2, .int a2), (3, .ref oq)] := hl
  refine lv_aload_n hx hb dL_isWinnableWith_0 rfl (lv_at hl 3 rfl) ?_
  refine lv_iconst (v := 0) hx hb dL_isWinnableWith_1 (by decide) ?_
  refine lv_aload_n hx hb dL_isWinnableWith_2 rfl (lv_at hl 0 rfl) ?_
  refine lv_iload_n hx hb dL_isWinnableWith_3 rfl (lv_at hl 1 rfl) ?_
  refine lv_iload_n hx hb dL_isWinnableWith_4 rfl (lv_at hl 2 rfl) ?_
  have hPc := hP.sub (ws' := [(ox, .inr (13, [.ref pl, .ref ru, .ref sh, .ref sp, .ref sl, .ref gr, .ref re, .ref pr, .ref ga, .ref rp, .ref bo, .int 0])), (pl, .inr (1, [.int 0, .ref de, .int 0])), (ru, .inr (1, [.int 0, .ref de, .int 0])), (sh, .inr (1, [.int 0, .ref de, .int 0])), (sp, .inl (cP, 6, .inr (.inr (.inr (.inr (fun _ => none)))))), (ga, .inr (5, [.ref gpl, .ref gin, .int (-1), .int 0, .int 112, .int 0])), (bo, .inr (2, [.ref fa, .ref bbe, .ref bdi, .int 0, .int 0])), (fa, .inl (cI, 96, .inl (fun _ => 0)))]) [0, 1, 2, 3, 4, 5, 6, 7] rfl
  have hDc := hD.sub (ws' := [(ox, .inr (13, [.ref pl, .ref ru, .ref sh, .ref sp, .ref sl, .ref gr, .ref re, .ref pr, .ref ga, .ref rp, .ref bo, .int 0])), (pl, .inr (1, [.int 0, .ref de, .int 0])), (ru, .inr (1, [.int 0, .ref de, .int 0])), (sh, .inr (1, [.int 0, .ref de, .int 0])), (sp, .inl (cP, 6, .inr (.inr (.inr (.inr (fun _ => none)))))), (ga, .inr (5, [.ref gpl, .ref gin, .int (-1), .int 0, .int 112, .int 0])), (bo, .inr (2, [.ref fa, .ref bbe, .ref bdi, .int 0, .int 0])), (fa, .inl (cI, 96, .inl (fun _ => 0)))]) [0, 1, 2, 3, 4, 5, 6, 7] (by decide) rfl
  have hKc := hK.sub (tys' := [(cP, .object "Levelsmith$Player"), (cI, .int)]) [0, 1] rfl
  have hFc := va_free (wc := [(ox, .inr (13, [.ref pl, .ref ru, .ref sh, .ref sp, .ref sl, .ref gr, .ref re, .ref pr, .ref ga, .ref rp, .ref bo, .int 0])), (pl, .inr (1, [.int 0, .ref de, .int 0])), (ru, .inr (1, [.int 0, .ref de, .int 0])), (sh, .inr (1, [.int 0, .ref de, .int 0])), (sp, .inl (cP, 6, .inr (.inr (.inr (.inr (fun _ => none)))))), (ga, .inr (5, [.ref gpl, .ref gin, .int (-1), .int 0, .int 112, .int 0])), (bo, .inr (2, [.ref fa, .ref bbe, .ref bdi, .int 0, .int 0])), (fa, .inl (cI, 96, .inl (fun _ => 0)))]) hD hS hA [0, 1, 2, 3, 4, 5, 6, 7] rfl
  refine vx_calli (vx_runV (As := [.int a1, .int a2]) (rest := [.int 0, .ref oq]) ⟨hx, hb, hml, hown, ht⟩ (c_X11_isWinnableWith l hlt dC dI de (ox) (pl) (ru) (sh) (sp) (sl) (gr) (re) (pr) (ga) (rp) (bo) (fa) (gpl) (gin) (bbe) (bdi) (cP) (cI) (a1) (a2) s.heap.size) (cwV 2 ht (gWV (wr_47 _ (List.mem_of_getElem? (i := 17) rfl)) (wr_47 _ (List.mem_of_getElem? (i := 18) rfl)) (wr_47 _ (List.mem_of_getElem? (i := 19) rfl)) (wr_1 _ (List.mem_of_getElem? (i := 2) rfl)) (wr_47 _ (List.mem_of_getElem? (i := 20) rfl))) rfl rfl rfl (by decide +kernel) ⟨Nat.le_of_ble_eq_true rfl, Nat.le_of_ble_eq_true rfl⟩) ⟨PW_blind, va_recv hKc hPc (ci := 13) (q0 := 0) rfl rfl, PW_call hPc hDc hKc hS hG hFc⟩ rfl rfl hl.1 rfl (lv_room (Nat.le_of_ble_eq_true rfl)) dL_isWinnableWith_5 ⟨Nat.le_of_ble_eq_true rfl, Nat.le_of_ble_eq_true rfl⟩) hS (fun q _ h => hFc q h) hFc (fun q _ h => hFc q h) (fun E ce q9 u t H1 locs1 ht9 hvm9 _ hR9 hz9 hk9 hS9 hc9 hv9 hcl9 => ?_) (fun r_5 u t H1 locs ht9 hvm hw hB hz1 hk1 hS => False.elim hw)
  obtain ⟨hP, hD⟩ := va_join (wr := [(oq, .inl (cL, 1, .inr (.inl (fun _ => 0))))]) (w1 := []) hP hD [0, 1, 2, 3, 4, 5, 6, 7] [8] rfl rfl (by decide) (by decide) hk9 hFc (va_P_nil (dC, dI) vwCl H1) (va_D_nil _)
  have hK := hK.sub (tys' := [(cL, .long)]) [2] rfl
  have hS := hS9
  obtain rfl := hR9
  refine vx_catch (own := RL) (name := "java/lang/IndexOutOfBoundsException") hown [] ⟨0, 17, 20, 21⟩ [⟨0, 17, 24, 13⟩] htab (fun z hz => nomatch hz) (by decide) (by decide) (ht _ (wr_18 _ (List.mem_of_getElem? (i := 12) rfl))) (va_Nw.use rfl (hG.2.2.2.1 _ (List.mem_of_getElem? (i := 0) rfl))) hc9 hv9 hcl9 ?_
  refine lv_astore (lv' := [(4, .ref q9), (0, .ref ox), (1, .int a1), (2, .int a2), (3, .ref oq)]) hx hb dL_isWinnableWith_20 hl (by decide) rfl (fun ls hl => ?_)
  refine lv_iconst (v := 1) hx hb dL_isWinnableWith_22 (by decide) ?_
  have hP9 := hP.sub (ws' := []) [] rfl
  have hD9 := hD.sub (ws' := []) [] (by decide) rfl
  have hK9 := hK.sub (tys' := []) [] rfl
  exact vx_ret (W.iret (v := 1) hx hb hr (fun t htt hW => have ht := htt; ⟨⟨1, (), rfl, rfl, QW_of ht hW hP9 hK9 hD9⟩, hS.F ht⟩) hS.2.2 dL_isWinnableWith_23)
set_option maxHeartbeats 4000000 in
set_option maxRecDepth 100000 in
theorem c_L_mend (l : Launch) (hlt : l.stackTraces = false) (dC : Nat → ClassId) (dI : Nat → Nat → Nat) (de : Nat) (ox : Nat) (pl : Nat) (ru : Nat) (sh : Nat) (sp : Nat) (sl : Nat) (gr : Nat) (re : Nat) (pr : Nat) (ga : Nat) (rp : Nat) (bo : Nat) (fa : Nat) (gpl : Nat) (gin : Nat) (bbe : Nat) (bdi : Nat) (cP : ClassId) (cI : ClassId) (oq : Nat) (cL : ClassId) (a1 : Int32) (sz : Nat) : vx_Met l yL_mend (.codeWith yL_mend cL_mend 4 (some .int) [(0, 9, 12, 21), (0, 9, 15, 88)] :: wsL_law) { frames := 8, cells := 1, slots := 6, locals := 133 } (va_Pc [.ref ox, .int a1, .ref oq] (PW dC dI de [(cP, .object "Levelsmith$Player"), (cI, .int), (cL, .long)] (WXJ ox pl ru sh sp sl gr re pr ga rp bo fa gpl gin bbe bdi oq cP cI cL de) sz)) (va_Qi (fun (r : Int32) (u : Unit) => r = 1) (fun (_ : Unit) (t : State) => QW dC dI [] [] (va_A (WXJ ox pl ru sh sp sl gr re pr ga rp bo fa gpl gin bbe bdi oq cP cI cL de) sz) t) (va_A (WXJ ox pl ru sh sp sl gr re pr ga rp bo fa gpl gin bbe bdi oq cP cI cL de) sz)) (XX (fun E => False) (va_A (WXJ ox pl ru sh sp sl gr re pr ga rp bo fa gpl gin bbe bdi oq cP cI cL de) sz)) 1 6 (va_A (WXJ ox pl ru sh sp sl gr re pr ga rp bo fa gpl gin bbe bdi oq cP cI cL de) sz) := by
  refine vx_ofWH (cc := cL_mend) (maxL := 4) (ret := (some .int)) (by decide) rfl ?_
  intro p e s m args below meth c s₁ B hml hv
  obtain ⟨rfl, hsz, hP, hK, hD0, hG⟩ := hv
  have hx := B.exec
  have hb := B.bytes
  have hr := B.returns
  have hts := atoms_spec (ws := .codeWith yL_mend cL_mend 4 (some .int) [(0, 9, 12, 21), (0, 9, 15, 88)] :: wsL_law) B.pre
  have ht : ∀ w ∈ wsL_law, w.before _ s = true := fun w h => hts w (List.mem_cons_of_mem _ h)
  have hown : s.vm.findClass RL = some m.cls := findClass_of_methodNamed B.named
  have hlocks := B.notSynchronized
  have htab : c.exceptionTable.toList = tableOf [(0, 9, 12, 21), (0, 9, 15, 88)] := vx_table (x := yL_mend) B (hts _ List.mem_cons_self)
  subst hsz
  have hD := hD0.self (sz := s.heap.size)
  generalize hAe : va_A (WXJ ox pl ru sh sp sl gr re pr ga rp bo fa gpl gin bbe bdi oq cP cI cL de) s.heap.size = A at hD hG ⊢
  have hA : ∀ q : Nat, s.heap.size ≤ q → A q := fun q h => by rw [← hAe]; exact Or.inr h
  have hS : va_S A s.heap s.heap [] := va_S.rf
  have hP : va_P (dC, dI) vwCl [(ox, .inr (13, [.ref pl, .ref ru, .ref sh, .ref sp, .ref sl, .ref gr, .ref re, .ref pr, .ref ga, .ref rp, .ref bo, .int 0])), (pl, .inr (1, [.int 0, .ref de, .int 0])), (ru, .inr (1, [.int 0, .ref de, .int 0])), (sh, .inr (1, [.int 0, .ref de, .int 0])), (sp, .inl (cP, 6, .inr (.inr (.inr (.inr (fun _ => none)))))), (ga, .inr (5, [.ref gpl, .ref gin, .int (-1), .int 0, .int 112, .int 0])), (bo, .inr (2, [.ref fa, .ref bbe, .ref bdi, .int 0, .int 0])), (fa, .inl (cI, 96, .inl (fun _ => 0))), (oq, .inl (cL, 1, .inr (.inl (fun _ => 0))))] s.heap := hP
  have hD : va_D A [(ox, .inr (13, [.ref pl, .ref ru, .ref sh, .ref sp, .ref sl, .ref gr, .ref re, .ref pr, .ref ga, .ref rp, .ref bo, .int 0])), (pl, .inr (1, [.int 0, .ref de, .int 0])), (ru, .inr (1, [.int 0, .ref de, .int 0])), (sh, .inr (1, [.int 0, .ref de, .int 0])), (sp, .inl (cP, 6, .inr (.inr (.inr (.inr (fun _ => none)))))), (ga, .inr (5, [.ref gpl, .ref gin, .int (-1), .int 0, .int 112, .int 0])), (bo, .inr (2, [.ref fa, .ref bbe, .ref bdi, .int 0, .int 0])), (fa, .inl (cI, 96, .inl (fun _ => 0))), (oq, .inl (cL, 1, .inr (.inl (fun _ => 0))))] := hD
  have hl := lv_entry ([.ref ox, .int a1, .ref oq]) (n := 4) (Nat.le_of_ble_eq_true rfl)
  rw [lg_entry_eq]
  generalize (lg_sl ([.ref ox, .int a1, .ref oq]) ++ List.replicate (4 - (lg_sl ([.ref ox, .int a1, .ref oq])).length) Slot.unset).toArray = ls at hl ⊢
  have hl : lv_has ls 4 [(0, .ref ox), (1, .int a1), (2, .ref oq)] := hl
  refine lv_aload_n hx hb dL_mend_0 rfl (lv_at hl 2 rfl) ?_
  refine lv_iconst (v := 0) hx hb dL_mend_1 (by decide) ?_
  refine lv_aload_n hx hb dL_mend_2 rfl (lv_at hl 0 rfl) ?_
  refine lv_iload_n hx hb dL_mend_3 rfl (lv_at hl 1 rfl) ?_
  have hPc := hP.sub (ws' := [(ox, .inr (13, [.ref pl, .ref ru, .ref sh, .ref sp, .ref sl, .ref gr, .ref re, .ref pr, .ref ga, .ref rp, .ref bo, .int 0])), (pl, .inr (1, [.int 0, .ref de, .int 0])), (ru, .inr (1, [.int 0, .ref de, .int 0])), (sh, .inr (1, [.int 0, .ref de, .int 0])), (sp, .inl (cP, 6, .inr (.inr (.inr (.inr (fun _ => none)))))), (ga, .inr (5, [.ref gpl, .ref gin, .int (-1), .int 0, .int 112, .int 0])), (bo, .inr (2, [.ref fa, .ref bbe, .ref bdi, .int 0, .int 0])), (fa, .inl (cI, 96, .inl (fun _ => 0)))]) [0, 1, 2, 3, 4, 5, 6, 7] rfl
  have hDc := hD.sub (ws' := [(ox, .inr (13, [.ref pl, .ref ru, .ref sh, .ref sp, .ref sl, .ref gr, .ref re, .ref pr, .ref ga, .ref rp, .ref bo, .int 0])), (pl, .inr (1, [.int 0, .ref de, .int 0])), (ru, .inr (1, [.int 0, .ref de, .int 0])), (sh, .inr (1, [.int 0, .ref de, .int 0])), (sp, .inl (cP, 6, .inr (.inr (.inr (.inr (fun _ => none)))))), (ga, .inr (5, [.ref gpl, .ref gin, .int (-1), .int 0, .int 112, .int 0])), (bo, .inr (2, [.ref fa, .ref bbe, .ref bdi, .int 0, .int 0])), (fa, .inl (cI, 96, .inl (fun _ => 0)))]) [0, 1, 2, 3, 4, 5, 6, 7] (by decide) rfl
  have hKc := hK.sub (tys' := [(cP, .object "Levelsmith$Player"), (cI, .int)]) [0, 1] rfl
  have hFc := va_free (wc := [(ox, .inr (13, [.ref pl, .ref ru, .ref sh, .ref sp, .ref sl, .ref gr, .ref re, .ref pr, .ref ga, .ref rp, .ref bo, .int 0])), (pl, .inr (1, [.int 0, .ref de, .int 0])), (ru, .inr (1, [.int 0, .ref de, .int 0])), (sh, .inr (1, [.int 0, .ref de, .int 0])), (sp, .inl (cP, 6, .inr (.inr (.inr (.inr (fun _ => none)))))), (ga, .inr (5, [.ref gpl, .ref gin, .int (-1), .int 0, .int 112, .int 0])), (bo, .inr (2, [.ref fa, .ref bbe, .ref bdi, .int 0, .int 0])), (fa, .inl (cI, 96, .inl (fun _ => 0)))]) hD hS hA [0, 1, 2, 3, 4, 5, 6, 7] rfl
  refine vx_calli (vx_runV (As := [.int a1]) (rest := [.int 0, .ref oq]) ⟨hx, hb, hml, hown, ht⟩ (c_X11_mend l hlt dC dI de (ox) (pl) (ru) (sh) (sp) (sl) (gr) (re) (pr) (ga) (rp) (bo) (fa) (gpl) (gin) (bbe) (bdi) (cP) (cI) (a1) s.heap.size) (cwV 1 ht (gWV (wr_48 _ (List.mem_of_getElem? (i := 11) rfl)) (wr_48 _ (List.mem_of_getElem? (i := 12) rfl)) (wr_48 _ (List.mem_of_getElem? (i := 13) rfl)) (wr_1 _ (List.mem_of_getElem? (i := 2) rfl)) (wr_48 _ (List.mem_of_getElem? (i := 14) rfl))) rfl rfl rfl (by decide +kernel) ⟨Nat.le_of_ble_eq_true rfl, Nat.le_of_ble_eq_true rfl⟩) ⟨PW_blind, va_recv hKc hPc (ci := 13) (q0 := 0) rfl rfl, PW_call hPc hDc hKc hS hG hFc⟩ rfl rfl hl.1 rfl (lv_room (Nat.le_of_ble_eq_true rfl)) dL_mend_4 ⟨Nat.le_of_ble_eq_true rfl, Nat.le_of_ble_eq_true rfl⟩) hS (fun q _ h => hFc q h) hFc (fun q _ h => hFc q h) (fun E ce q9 u t H1 locs1 ht9 hvm9 _ hR9 hz9 hk9 hS9 hc9 hv9 hcl9 => ?_) (fun r_4 u t H1 locs ht9 hvm hw hB hz1 hk1 hS => False.elim hw)
  obtain ⟨hP, hD⟩ := va_join (wr := [(oq, .inl (cL, 1, .inr (.inl (fun _ => 0))))]) (w1 := []) hP hD [0, 1, 2, 3, 4, 5, 6, 7] [8] rfl rfl (by decide) (by decide) hk9 hFc (va_P_nil (dC, dI) vwCl H1) (va_D_nil _)
  have hK := hK.sub (tys' := [(cL, .long)]) [2] rfl
  have hS := hS9
  obtain rfl := hR9
  refine vx_catch (own := RL) (name := "java/lang/IndexOutOfBoundsException") hown [] ⟨0, 9, 12, 21⟩ [⟨0, 9, 15, 88⟩] htab (fun z hz => nomatch hz) (by decide) (by decide) (ht _ (wr_18 _ (List.mem_of_getElem? (i := 12) rfl))) (va_Nw.use rfl (hG.2.2.2.1 _ (List.mem_of_getElem? (i := 0) rfl))) hc9 hv9 hcl9 ?_
  refine lv_astore_n (lv' := [(3, .ref q9), (0, .ref ox), (1, .int a1), (2, .ref oq)]) hx hb dL_mend_12 rfl hl (by decide) rfl (fun ls hl => ?_)
  refine lv_iconst (v := 1) hx hb dL_mend_13 (by decide) ?_
  have hP9 := hP.sub (ws' := []) [] rfl
  have hD9 := hD.sub (ws' := []) [] (by decide) rfl
  have hK9 := hK.sub (tys' := []) [] rfl
  exact vx_ret (W.iret (v := 1) hx hb hr (fun t htt hW => have ht := htt; ⟨⟨1, (), rfl, rfl, QW_of ht hW hP9 hK9 hD9⟩, hS.F ht⟩) hS.2.2 dL_mend_14)
set_option maxHeartbeats 4000000 in
set_option maxRecDepth 100000 in
theorem c_L_mendAt (l : Launch) (hlt : l.stackTraces = false) (dC : Nat → ClassId) (dI : Nat → Nat → Nat) (de : Nat) (ox : Nat) (pl : Nat) (ru : Nat) (sh : Nat) (sp : Nat) (sl : Nat) (gr : Nat) (re : Nat) (pr : Nat) (ga : Nat) (rp : Nat) (bo : Nat) (fa : Nat) (gpl : Nat) (gin : Nat) (bbe : Nat) (bdi : Nat) (cP : ClassId) (cI : ClassId) (oq : Nat) (cL : ClassId) (a1 : Int32) (a2 : Int32) (sz : Nat) : vx_Met l yL_mendAt (.codeWith yL_mendAt cL_mendAt 5 (some .int) [(0, 10, 13, 21), (0, 10, 17, 13), (0, 10, 21, 57)] :: wsL_law) { frames := 8, cells := 1, slots := 6, locals := 134 } (va_Pc [.ref ox, .int a1, .int a2, .ref oq] (PW dC dI de [(cP, .object "Levelsmith$Player"), (cI, .int), (cL, .long)] (WXJ ox pl ru sh sp sl gr re pr ga rp bo fa gpl gin bbe bdi oq cP cI cL de) sz)) (va_Qi (fun (r : Int32) (u : Unit) => r = 1) (fun (_ : Unit) (t : State) => QW dC dI [] [] (va_A (WXJ ox pl ru sh sp sl gr re pr ga rp bo fa gpl gin bbe bdi oq cP cI cL de) sz) t) (va_A (WXJ ox pl ru sh sp sl gr re pr ga rp bo fa gpl gin bbe bdi oq cP cI cL de) sz)) (XX (fun E => False) (va_A (WXJ ox pl ru sh sp sl gr re pr ga rp bo fa gpl gin bbe bdi oq cP cI cL de) sz)) 1 6 (va_A (WXJ ox pl ru sh sp sl gr re pr ga rp bo fa gpl gin bbe bdi oq cP cI cL de) sz) := by
  refine vx_ofWH (cc := cL_mendAt) (maxL := 5) (ret := (some .int)) (by decide) rfl ?_
  intro p e s m args below meth c s₁ B hml hv
  obtain ⟨rfl, hsz, hP, hK, hD0, hG⟩ := hv
  have hx := B.exec
  have hb := B.bytes
  have hr := B.returns
  have hts := atoms_spec (ws := .codeWith yL_mendAt cL_mendAt 5 (some .int) [(0, 10, 13, 21), (0, 10, 17, 13), (0, 10, 21, 57)] :: wsL_law) B.pre
  have ht : ∀ w ∈ wsL_law, w.before _ s = true := fun w h => hts w (List.mem_cons_of_mem _ h)
  have hown : s.vm.findClass RL = some m.cls := findClass_of_methodNamed B.named
  have hlocks := B.notSynchronized
  have htab : c.exceptionTable.toList = tableOf [(0, 10, 13, 21), (0, 10, 17, 13), (0, 10, 21, 57)] := vx_table (x := yL_mendAt) B (hts _ List.mem_cons_self)
  subst hsz
  have hD := hD0.self (sz := s.heap.size)
  generalize hAe : va_A (WXJ ox pl ru sh sp sl gr re pr ga rp bo fa gpl gin bbe bdi oq cP cI cL de) s.heap.size = A at hD hG ⊢
  have hA : ∀ q : Nat, s.heap.size ≤ q → A q := fun q h => by rw [← hAe]; exact Or.inr h
  have hS : va_S A s.heap s.heap [] := va_S.rf
  have hP : va_P (dC, dI) vwCl [(ox, .inr (13, [.ref pl, .ref ru, .ref sh, .ref sp, .ref sl, .ref gr, .ref re, .ref pr, .ref ga, .ref rp, .ref bo, .int 0])), (pl, .inr (1, [.int 0, .ref de, .int 0])), (ru, .inr (1, [.int 0, .ref de, .int 0])), (sh, .inr (1, [.int 0, .ref de, .int 0])), (sp, .inl (cP, 6, .inr (.inr (.inr (.inr (fun _ => none)))))), (ga, .inr (5, [.ref gpl, .ref gin, .int (-1), .int 0, .int 112, .int 0])), (bo, .inr (2, [.ref fa, .ref bbe, .ref bdi, .int 0, .int 0])), (fa, .inl (cI, 96, .inl (fun _ => 0))), (oq, .inl (cL, 1, .inr (.inl (fun _ => 0))))] s.heap := hP
  have hD : va_D A [(ox, .inr (13, [.ref pl, .ref ru, .ref sh, .ref sp, .ref sl, .ref gr, .ref re, .ref pr, .ref ga, .ref rp, .ref bo, .int 0])), (pl, .inr (1, [.int 0, .ref de, .int 0])), (ru, .inr (1, [.int 0, .ref de, .int 0])), (sh, .inr (1, [.int 0, .ref de, .int 0])), (sp, .inl (cP, 6, .inr (.inr (.inr (.inr (fun _ => none)))))), (ga, .inr (5, [.ref gpl, .ref gin, .int (-1), .int 0, .int 112, .int 0])), (bo, .inr (2, [.ref fa, .ref bbe, .ref bdi, .int 0, .int 0])), (fa, .inl (cI, 96, .inl (fun _ => 0))), (oq, .inl (cL, 1, .inr (.inl (fun _ => 0))))] := hD
  have hl := lv_entry ([.ref ox, .int a1, .int a2, .ref oq]) (n := 5) (Nat.le_of_ble_eq_true rfl)
  rw [lg_entry_eq]
  generalize (lg_sl ([.ref ox, .int a1, .int a2, .ref oq]) ++ List.replicate (5 - (lg_sl ([.ref ox, .int a1, .int a2, .ref oq])).length) Slot.unset).toArray = ls at hl ⊢
  have hl : lv_has ls 5 [(0, .ref ox), (1, .int a1), (2, .int a2), (3, .ref oq)] := hl
  refine lv_aload_n hx hb dL_mendAt_0 rfl (lv_at hl 3 rfl) ?_
  refine lv_iconst (v := 0) hx hb dL_mendAt_1 (by decide) ?_
  refine lv_aload_n hx hb dL_mendAt_2 rfl (lv_at hl 0 rfl) ?_
  refine lv_iload_n hx hb dL_mendAt_3 rfl (lv_at hl 1 rfl) ?_
  refine lv_iload_n hx hb dL_mendAt_4 rfl (lv_at hl 2 rfl) ?_
  have hPc := hP.sub (ws' := [(ox, .inr (13, [.ref pl, .ref ru, .ref sh, .ref sp, .ref sl, .ref gr, .ref re, .ref pr, .ref ga, .ref rp, .ref bo, .int 0])), (pl, .inr (1, [.int 0, .ref de, .int 0])), (ru, .inr (1, [.int 0, .ref de, .int 0])), (sh, .inr (1, [.int 0, .ref de, .int 0])), (sp, .inl (cP, 6, .inr (.inr (.inr (.inr (fun _ => none)))))), (ga, .inr (5, [.ref gpl, .ref gin, .int (-1), .int 0, .int 112, .int 0])), (bo, .inr (2, [.ref fa, .ref bbe, .ref bdi, .int 0, .int 0])), (fa, .inl (cI, 96, .inl (fun _ => 0)))]) [0, 1, 2, 3, 4, 5, 6, 7] rfl
  have hDc := hD.sub (ws' := [(ox, .inr (13, [.ref pl, .ref ru, .ref sh, .ref sp, .ref sl, .ref gr, .ref re, .ref pr, .ref ga, .ref rp, .ref bo, .int 0])), (pl, .inr (1, [.int 0, .ref de, .int 0])), (ru, .inr (1, [.int 0, .ref de, .int 0])), (sh, .inr (1, [.int 0, .ref de, .int 0])), (sp, .inl (cP, 6, .inr (.inr (.inr (.inr (fun _ => none)))))), (ga, .inr (5, [.ref gpl, .ref gin, .int (-1), .int 0, .int 112, .int 0])), (bo, .inr (2, [.ref fa, .ref bbe, .ref bdi, .int 0, .int 0])), (fa, .inl (cI, 96, .inl (fun _ => 0)))]) [0, 1, 2, 3, 4, 5, 6, 7] (by decide) rfl
  have hKc := hK.sub (tys' := [(cP, .object "Levelsmith$Player"), (cI, .int)]) [0, 1] rfl
  have hFc := va_free (wc := [(ox, .inr (13, [.ref pl, .ref ru, .ref sh, .ref sp, .ref sl, .ref gr, .ref re, .ref pr, .ref ga, .ref rp, .ref bo, .int 0])), (pl, .inr (1, [.int 0, .ref de, .int 0])), (ru, .inr (1, [.int 0, .ref de, .int 0])), (sh, .inr (1, [.int 0, .ref de, .int 0])), (sp, .inl (cP, 6, .inr (.inr (.inr (.inr (fun _ => none)))))), (ga, .inr (5, [.ref gpl, .ref gin, .int (-1), .int 0, .int 112, .int 0])), (bo, .inr (2, [.ref fa, .ref bbe, .ref bdi, .int 0, .int 0])), (fa, .inl (cI, 96, .inl (fun _ => 0)))]) hD hS hA [0, 1, 2, 3, 4, 5, 6, 7] rfl
  refine vx_calli (vx_runV (As := [.int a1, .int a2]) (rest := [.int 0, .ref oq]) ⟨hx, hb, hml, hown, ht⟩ (c_X11_mendAt l hlt dC dI de (ox) (pl) (ru) (sh) (sp) (sl) (gr) (re) (pr) (ga) (rp) (bo) (fa) (gpl) (gin) (bbe) (bdi) (cP) (cI) (a1) (a2) s.heap.size) (cwV 2 ht (gWV (wr_50 _ (List.mem_of_getElem? (i := 3) rfl)) (wr_50 _ (List.mem_of_getElem? (i := 4) rfl)) (wr_50 _ (List.mem_of_getElem? (i := 5) rfl)) (wr_1 _ (List.mem_of_getElem? (i := 2) rfl)) (wr_50 _ (List.mem_of_getElem? (i := 6) rfl))) rfl rfl rfl (by decide +kernel) ⟨Nat.le_of_ble_eq_true rfl, Nat.le_of_ble_eq_true rfl⟩) ⟨PW_blind, va_recv hKc hPc (ci := 13) (q0 := 0) rfl rfl, PW_call hPc hDc hKc hS hG hFc⟩ rfl rfl hl.1 rfl (lv_room (Nat.le_of_ble_eq_true rfl)) dL_mendAt_5 ⟨Nat.le_of_ble_eq_true rfl, Nat.le_of_ble_eq_true rfl⟩) hS (fun q _ h => hFc q h) hFc (fun q _ h => hFc q h) (fun E ce q9 u t H1 locs1 ht9 hvm9 _ hR9 hz9 hk9 hS9 hc9 hv9 hcl9 => ?_) (fun r_5 u t H1 locs ht9 hvm hw hB hz1 hk1 hS => False.elim hw)
  obtain ⟨hP, hD⟩ := va_join (wr := [(oq, .inl (cL, 1, .inr (.inl (fun _ => 0))))]) (w1 := []) hP hD [0, 1, 2, 3, 4, 5, 6, 7] [8] rfl rfl (by decide) (by decide) hk9 hFc (va_P_nil (dC, dI) vwCl H1) (va_D_nil _)
  have hK := hK.sub (tys' := [(cL, .long)]) [2] rfl
  have hS := hS9
  obtain rfl := hR9
  refine vx_catch (own := RL) (name := "java/lang/IndexOutOfBoundsException") hown [] ⟨0, 10, 13, 21⟩ [⟨0, 10, 17, 13⟩, ⟨0, 10, 21, 57⟩] htab (fun z hz => nomatch hz) (by decide) (by decide) (ht _ (wr_18 _ (List.mem_of_getElem? (i := 12) rfl))) (va_Nw.use rfl (hG.2.2.2.1 _ (List.mem_of_getElem? (i := 0) rfl))) hc9 hv9 hcl9 ?_
  refine lv_astore (lv' := [(4, .ref q9), (0, .ref ox), (1, .int a1), (2, .int a2), (3, .ref oq)]) hx hb dL_mendAt_13 hl (by decide) rfl (fun ls hl => ?_)
  refine lv_iconst (v := 1) hx hb dL_mendAt_15 (by decide) ?_
  have hP9 := hP.sub (ws' := []) [] rfl
  have hD9 := hD.sub (ws' := []) [] (by decide) rfl
  have hK9 := hK.sub (tys' := []) [] rfl
  exact vx_ret (W.iret (v := 1) hx hb hr (fun t htt hW => have ht := htt; ⟨⟨1, (), rfl, rfl, QW_of ht hW hP9 hK9 hD9⟩, hS.F ht⟩) hS.2.2 dL_mendAt_16)
set_option maxHeartbeats 4000000 in
set_option maxRecDepth 100000 in
theorem c_L_rests (l : Launch) (hlt : l.stackTraces = false) (dC : Nat → ClassId) (dI : Nat → Nat → Nat) (de : Nat) (ox : Nat) (pl : Nat) (ru : Nat) (sh : Nat) (sp : Nat) (sl : Nat) (gr : Nat) (re : Nat) (pr : Nat) (ga : Nat) (rp : Nat) (bo : Nat) (fa : Nat) (gpl : Nat) (gin : Nat) (bbe : Nat) (bdi : Nat) (cP : ClassId) (cI : ClassId) (oq : Nat) (cL : ClassId) (a1 : Int32) (sz : Nat) : vx_Met l yL_rests (.codeWith yL_rests cL_rests 4 (some .int) [(0, 9, 12, 21), (0, 9, 15, 57)] :: wsL_law) { frames := 8, cells := 1, slots := 6, locals := 133 } (va_Pc [.ref ox, .int a1, .ref oq] (PW dC dI de [(cP, .object "Levelsmith$Player"), (cI, .int), (cL, .long)] (WXJ ox pl ru sh sp sl gr re pr ga rp bo fa gpl gin bbe bdi oq cP cI cL de) sz)) (va_Qi (fun (r : Int32) (u : Unit) => r = 1) (fun (_ : Unit) (t : State) => QW dC dI [] [] (va_A (WXJ ox pl ru sh sp sl gr re pr ga rp bo fa gpl gin bbe bdi oq cP cI cL de) sz) t) (va_A (WXJ ox pl ru sh sp sl gr re pr ga rp bo fa gpl gin bbe bdi oq cP cI cL de) sz)) (XX (fun E => False) (va_A (WXJ ox pl ru sh sp sl gr re pr ga rp bo fa gpl gin bbe bdi oq cP cI cL de) sz)) 1 6 (va_A (WXJ ox pl ru sh sp sl gr re pr ga rp bo fa gpl gin bbe bdi oq cP cI cL de) sz) := by
  refine vx_ofWH (cc := cL_rests) (maxL := 4) (ret := (some .int)) (by decide) rfl ?_
  intro p e s m args below meth c s₁ B hml hv
  obtain ⟨rfl, hsz, hP, hK, hD0, hG⟩ := hv
  have hx := B.exec
  have hb := B.bytes
  have hr := B.returns
  have hts := atoms_spec (ws := .codeWith yL_rests cL_rests 4 (some .int) [(0, 9, 12, 21), (0, 9, 15, 57)] :: wsL_law) B.pre
  have ht : ∀ w ∈ wsL_law, w.before _ s = true := fun w h => hts w (List.mem_cons_of_mem _ h)
  have hown : s.vm.findClass RL = some m.cls := findClass_of_methodNamed B.named
  have hlocks := B.notSynchronized
  have htab : c.exceptionTable.toList = tableOf [(0, 9, 12, 21), (0, 9, 15, 57)] := vx_table (x := yL_rests) B (hts _ List.mem_cons_self)
  subst hsz
  have hD := hD0.self (sz := s.heap.size)
  generalize hAe : va_A (WXJ ox pl ru sh sp sl gr re pr ga rp bo fa gpl gin bbe bdi oq cP cI cL de) s.heap.size = A at hD hG ⊢
  have hA : ∀ q : Nat, s.heap.size ≤ q → A q := fun q h => by rw [← hAe]; exact Or.inr h
  have hS : va_S A s.heap s.heap [] := va_S.rf
  have hP : va_P (dC, dI) vwCl [(ox, .inr (13, [.ref pl, .ref ru, .ref sh, .ref sp, .ref sl, .ref gr, .ref re, .ref pr, .ref ga, .ref rp, .ref bo, .int 0])), (pl, .inr (1, [.int 0, .ref de, .int 0])), (ru, .inr (1, [.int 0, .ref de, .int 0])), (sh, .inr (1, [.int 0, .ref de, .int 0])), (sp, .inl (cP, 6, .inr (.inr (.inr (.inr (fun _ => none)))))), (ga, .inr (5, [.ref gpl, .ref gin, .int (-1), .int 0, .int 112, .int 0])), (bo, .inr (2, [.ref fa, .ref bbe, .ref bdi, .int 0, .int 0])), (fa, .inl (cI, 96, .inl (fun _ => 0))), (oq, .inl (cL, 1, .inr (.inl (fun _ => 0))))] s.heap := hP
  have hD : va_D A [(ox, .inr (13, [.ref pl, .ref ru, .ref sh, .ref sp, .ref sl, .ref gr, .ref re, .ref pr, .ref ga, .ref rp, .ref bo, .int 0])), (pl, .inr (1, [.int 0, .ref de, .int 0])), (ru, .inr (1, [.int 0, .ref de, .int 0])), (sh, .inr (1, [.int 0, .ref de, .int 0])), (sp, .inl (cP, 6, .inr (.inr (.inr (.inr (fun _ => none)))))), (ga, .inr (5, [.ref gpl, .ref gin, .int (-1), .int 0, .int 112, .int 0])), (bo, .inr (2, [.ref fa, .ref bbe, .ref bdi, .int 0, .int 0])), (fa, .inl (cI, 96, .inl (fun _ => 0))), (oq, .inl (cL, 1, .inr (.inl (fun _ => 0))))] := hD
  have hl := lv_entry ([.ref ox, .int a1, .ref oq]) (n := 4) (Nat.le_of_ble_eq_true rfl)
  rw [lg_entry_eq]
  generalize (lg_sl ([.ref ox, .int a1, .ref oq]) ++ List.replicate (4 - (lg_sl ([.ref ox, .int a1, .ref oq])).length) Slot.unset).toArray = ls at hl ⊢
  have hl : lv_has ls 4 [(0, .ref ox), (1, .int a1), (2, .ref oq)] := hl
  refine lv_aload_n hx hb dL_rests_0 rfl (lv_at hl 2 rfl) ?_
  refine lv_iconst (v := 0) hx hb dL_rests_1 (by decide) ?_
  refine lv_aload_n hx hb dL_rests_2 rfl (lv_at hl 0 rfl) ?_
  refine lv_iload_n hx hb dL_rests_3 rfl (lv_at hl 1 rfl) ?_
  have hPc := hP.sub (ws' := [(ox, .inr (13, [.ref pl, .ref ru, .ref sh, .ref sp, .ref sl, .ref gr, .ref re, .ref pr, .ref ga, .ref rp, .ref bo, .int 0])), (pl, .inr (1, [.int 0, .ref de, .int 0])), (ru, .inr (1, [.int 0, .ref de, .int 0])), (sh, .inr (1, [.int 0, .ref de, .int 0])), (sp, .inl (cP, 6, .inr (.inr (.inr (.inr (fun _ => none)))))), (ga, .inr (5, [.ref gpl, .ref gin, .int (-1), .int 0, .int 112, .int 0])), (bo, .inr (2, [.ref fa, .ref bbe, .ref bdi, .int 0, .int 0])), (fa, .inl (cI, 96, .inl (fun _ => 0)))]) [0, 1, 2, 3, 4, 5, 6, 7] rfl
  have hDc := hD.sub (ws' := [(ox, .inr (13, [.ref pl, .ref ru, .ref sh, .ref sp, .ref sl, .ref gr, .ref re, .ref pr, .ref ga, .ref rp, .ref bo, .int 0])), (pl, .inr (1, [.int 0, .ref de, .int 0])), (ru, .inr (1, [.int 0, .ref de, .int 0])), (sh, .inr (1, [.int 0, .ref de, .int 0])), (sp, .inl (cP, 6, .inr (.inr (.inr (.inr (fun _ => none)))))), (ga, .inr (5, [.ref gpl, .ref gin, .int (-1), .int 0, .int 112, .int 0])), (bo, .inr (2, [.ref fa, .ref bbe, .ref bdi, .int 0, .int 0])), (fa, .inl (cI, 96, .inl (fun _ => 0)))]) [0, 1, 2, 3, 4, 5, 6, 7] (by decide) rfl
  have hKc := hK.sub (tys' := [(cP, .object "Levelsmith$Player"), (cI, .int)]) [0, 1] rfl
  have hFc := va_free (wc := [(ox, .inr (13, [.ref pl, .ref ru, .ref sh, .ref sp, .ref sl, .ref gr, .ref re, .ref pr, .ref ga, .ref rp, .ref bo, .int 0])), (pl, .inr (1, [.int 0, .ref de, .int 0])), (ru, .inr (1, [.int 0, .ref de, .int 0])), (sh, .inr (1, [.int 0, .ref de, .int 0])), (sp, .inl (cP, 6, .inr (.inr (.inr (.inr (fun _ => none)))))), (ga, .inr (5, [.ref gpl, .ref gin, .int (-1), .int 0, .int 112, .int 0])), (bo, .inr (2, [.ref fa, .ref bbe, .ref bdi, .int 0, .int 0])), (fa, .inl (cI, 96, .inl (fun _ => 0)))]) hD hS hA [0, 1, 2, 3, 4, 5, 6, 7] rfl
  refine vx_calli (vx_runV (As := [.int a1]) (rest := [.int 0, .ref oq]) ⟨hx, hb, hml, hown, ht⟩ (c_X11_rests l hlt dC dI de (ox) (pl) (ru) (sh) (sp) (sl) (gr) (re) (pr) (ga) (rp) (bo) (fa) (gpl) (gin) (bbe) (bdi) (cP) (cI) (a1) s.heap.size) (cwV 1 ht (gWV (wr_50 _ (List.mem_of_getElem? (i := 14) rfl)) (wr_50 _ (List.mem_of_getElem? (i := 15) rfl)) (wr_50 _ (List.mem_of_getElem? (i := 16) rfl)) (wr_1 _ (List.mem_of_getElem? (i := 2) rfl)) (wr_50 _ (List.mem_of_getElem? (i := 17) rfl))) rfl rfl rfl (by decide +kernel) ⟨Nat.le_of_ble_eq_true rfl, Nat.le_of_ble_eq_true rfl⟩) ⟨PW_blind, va_recv hKc hPc (ci := 13) (q0 := 0) rfl rfl, PW_call hPc hDc hKc hS hG hFc⟩ rfl rfl hl.1 rfl (lv_room (Nat.le_of_ble_eq_true rfl)) dL_rests_4 ⟨Nat.le_of_ble_eq_true rfl, Nat.le_of_ble_eq_true rfl⟩) hS (fun q _ h => hFc q h) hFc (fun q _ h => hFc q h) (fun E ce q9 u t H1 locs1 ht9 hvm9 _ hR9 hz9 hk9 hS9 hc9 hv9 hcl9 => ?_) (fun r_4 u t H1 locs ht9 hvm hw hB hz1 hk1 hS => False.elim hw)
  obtain ⟨hP, hD⟩ := va_join (wr := [(oq, .inl (cL, 1, .inr (.inl (fun _ => 0))))]) (w1 := []) hP hD [0, 1, 2, 3, 4, 5, 6, 7] [8] rfl rfl (by decide) (by decide) hk9 hFc (va_P_nil (dC, dI) vwCl H1) (va_D_nil _)
  have hK := hK.sub (tys' := [(cL, .long)]) [2] rfl
  have hS := hS9
  obtain rfl := hR9
  refine vx_catch (own := RL) (name := "java/lang/IndexOutOfBoundsException") hown [] ⟨0, 9, 12, 21⟩ [⟨0, 9, 15, 57⟩] htab (fun z hz => nomatch hz) (by decide) (by decide) (ht _ (wr_18 _ (List.mem_of_getElem? (i := 12) rfl))) (va_Nw.use rfl (hG.2.2.2.1 _ (List.mem_of_getElem? (i := 0) rfl))) hc9 hv9 hcl9 ?_
  refine lv_astore_n (lv' := [(3, .ref q9), (0, .ref ox), (1, .int a1), (2, .ref oq)]) hx hb dL_rests_12 rfl hl (by decide) rfl (fun ls hl => ?_)
  refine lv_iconst (v := 1) hx hb dL_rests_13 (by decide) ?_
  have hP9 := hP.sub (ws' := []) [] rfl
  have hD9 := hD.sub (ws' := []) [] (by decide) rfl
  have hK9 := hK.sub (tys' := []) [] rfl
  exact vx_ret (W.iret (v := 1) hx hb hr (fun t htt hW => have ht := htt; ⟨⟨1, (), rfl, rfl, QW_of ht hW hP9 hK9 hD9⟩, hS.F ht⟩) hS.2.2 dL_rests_14)
set_option maxHeartbeats 4000000 in
set_option maxRecDepth 100000 in
theorem c_L_longestAir (l : Launch) (hlt : l.stackTraces = false) (dC : Nat → ClassId) (dI : Nat → Nat → Nat) (de : Nat) (ox : Nat) (pl : Nat) (ru : Nat) (sh : Nat) (sp : Nat) (sl : Nat) (gr : Nat) (re : Nat) (pr : Nat) (ga : Nat) (rp : Nat) (bo : Nat) (fa : Nat) (gpl : Nat) (gin : Nat) (bbe : Nat) (bdi : Nat) (cP : ClassId) (cI : ClassId) (oq : Nat) (cL : ClassId) (a1 : Int32) (sz : Nat) : vx_Met l yL_longestAir (.codeWith yL_longestAir cL_longestAir 4 (some .int) [(0, 9, 12, 21), (0, 9, 15, 57)] :: wsL_law) { frames := 8, cells := 1, slots := 6, locals := 133 } (va_Pc [.ref ox, .int a1, .ref oq] (PW dC dI de [(cP, .object "Levelsmith$Player"), (cI, .int), (cL, .long)] (WXJ ox pl ru sh sp sl gr re pr ga rp bo fa gpl gin bbe bdi oq cP cI cL de) sz)) (va_Qi (fun (r : Int32) (u : Unit) => r = 1) (fun (_ : Unit) (t : State) => QW dC dI [] [] (va_A (WXJ ox pl ru sh sp sl gr re pr ga rp bo fa gpl gin bbe bdi oq cP cI cL de) sz) t) (va_A (WXJ ox pl ru sh sp sl gr re pr ga rp bo fa gpl gin bbe bdi oq cP cI cL de) sz)) (XX (fun E => False) (va_A (WXJ ox pl ru sh sp sl gr re pr ga rp bo fa gpl gin bbe bdi oq cP cI cL de) sz)) 1 6 (va_A (WXJ ox pl ru sh sp sl gr re pr ga rp bo fa gpl gin bbe bdi oq cP cI cL de) sz) := by
  refine vx_ofWH (cc := cL_longestAir) (maxL := 4) (ret := (some .int)) (by decide) rfl ?_
  intro p e s m args below meth c s₁ B hml hv
  obtain ⟨rfl, hsz, hP, hK, hD0, hG⟩ := hv
  have hx := B.exec
  have hb := B.bytes
  have hr := B.returns
  have hts := atoms_spec (ws := .codeWith yL_longestAir cL_longestAir 4 (some .int) [(0, 9, 12, 21), (0, 9, 15, 57)] :: wsL_law) B.pre
  have ht : ∀ w ∈ wsL_law, w.before _ s = true := fun w h => hts w (List.mem_cons_of_mem _ h)
  have hown : s.vm.findClass RL = some m.cls := findClass_of_methodNamed B.named
  have hlocks := B.notSynchronized
  have htab : c.exceptionTable.toList = tableOf [(0, 9, 12, 21), (0, 9, 15, 57)] := vx_table (x := yL_longestAir) B (hts _ List.mem_cons_self)
  subst hsz
  have hD := hD0.self (sz := s.heap.size)
  generalize hAe : va_A (WXJ ox pl ru sh sp sl gr re pr ga rp bo fa gpl gin bbe bdi oq cP cI cL de) s.heap.size = A at hD hG ⊢
  have hA : ∀ q : Nat, s.heap.size ≤ q → A q := fun q h => by rw [← hAe]; exact Or.inr h
  have hS : va_S A s.heap s.heap [] := va_S.rf
  have hP : va_P (dC, dI) vwCl [(ox, .inr (13, [.ref pl, .ref ru, .ref sh, .ref sp, .ref sl, .ref gr, .ref re, .ref pr, .ref ga, .ref rp, .ref bo, .int 0])), (pl, .inr (1, [.int 0, .ref de, .int 0])), (ru, .inr (1, [.int 0, .ref de, .int 0])), (sh, .inr (1, [.int 0, .ref de, .int 0])), (sp, .inl (cP, 6, .inr (.inr (.inr (.inr (fun _ => none)))))), (ga, .inr (5, [.ref gpl, .ref gin, .int (-1), .int 0, .int 112, .int 0])), (bo, .inr (2, [.ref fa, .ref bbe, .ref bdi, .int 0, .int 0])), (fa, .inl (cI, 96, .inl (fun _ => 0))), (oq, .inl (cL, 1, .inr (.inl (fun _ => 0))))] s.heap := hP
  have hD : va_D A [(ox, .inr (13, [.ref pl, .ref ru, .ref sh, .ref sp, .ref sl, .ref gr, .ref re, .ref pr, .ref ga, .ref rp, .ref bo, .int 0])), (pl, .inr (1, [.int 0, .ref de, .int 0])), (ru, .inr (1, [.int 0, .ref de, .int 0])), (sh, .inr (1, [.int 0, .ref de, .int 0])), (sp, .inl (cP, 6, .inr (.inr (.inr (.inr (fun _ => none)))))), (ga, .inr (5, [.ref gpl, .ref gin, .int (-1), .int 0, .int 112, .int 0])), (bo, .inr (2, [.ref fa, .ref bbe, .ref bdi, .int 0, .int 0])), (fa, .inl (cI, 96, .inl (fun _ => 0))), (oq, .inl (cL, 1, .inr (.inl (fun _ => 0))))] := hD
  have hl := lv_entry ([.ref ox, .int a1, .ref oq]) (n := 4) (Nat.le_of_ble_eq_true rfl)
  rw [lg_entry_eq]
  generalize (lg_sl ([.ref ox, .int a1, .ref oq]) ++ List.replicate (4 - (lg_sl ([.ref ox, .int a1, .ref oq])).length) Slot.unset).toArray = ls at hl ⊢
  have hl : lv_has ls 4 [(0, .ref ox), (1, .int a1), (2, .ref oq)] := hl
  refine lv_aload_n hx hb dL_longestAir_0 rfl (lv_at hl 2 rfl) ?_
  refine lv_iconst (v := 0) hx hb dL_longestAir_1 (by decide) ?_
  refine lv_aload_n hx hb dL_longestAir_2 rfl (lv_at hl 0 rfl) ?_
  refine lv_iload_n hx hb dL_longestAir_3 rfl (lv_at hl 1 rfl) ?_
  have hPc := hP.sub (ws' := [(ox, .inr (13, [.ref pl, .ref ru, .ref sh, .ref sp, .ref sl, .ref gr, .ref re, .ref pr, .ref ga, .ref rp, .ref bo, .int 0])), (pl, .inr (1, [.int 0, .ref de, .int 0])), (ru, .inr (1, [.int 0, .ref de, .int 0])), (sh, .inr (1, [.int 0, .ref de, .int 0])), (sp, .inl (cP, 6, .inr (.inr (.inr (.inr (fun _ => none)))))), (ga, .inr (5, [.ref gpl, .ref gin, .int (-1), .int 0, .int 112, .int 0])), (bo, .inr (2, [.ref fa, .ref bbe, .ref bdi, .int 0, .int 0])), (fa, .inl (cI, 96, .inl (fun _ => 0)))]) [0, 1, 2, 3, 4, 5, 6, 7] rfl
  have hDc := hD.sub (ws' := [(ox, .inr (13, [.ref pl, .ref ru, .ref sh, .ref sp, .ref sl, .ref gr, .ref re, .ref pr, .ref ga, .ref rp, .ref bo, .int 0])), (pl, .inr (1, [.int 0, .ref de, .int 0])), (ru, .inr (1, [.int 0, .ref de, .int 0])), (sh, .inr (1, [.int 0, .ref de, .int 0])), (sp, .inl (cP, 6, .inr (.inr (.inr (.inr (fun _ => none)))))), (ga, .inr (5, [.ref gpl, .ref gin, .int (-1), .int 0, .int 112, .int 0])), (bo, .inr (2, [.ref fa, .ref bbe, .ref bdi, .int 0, .int 0])), (fa, .inl (cI, 96, .inl (fun _ => 0)))]) [0, 1, 2, 3, 4, 5, 6, 7] (by decide) rfl
  have hKc := hK.sub (tys' := [(cP, .object "Levelsmith$Player"), (cI, .int)]) [0, 1] rfl
  have hFc := va_free (wc := [(ox, .inr (13, [.ref pl, .ref ru, .ref sh, .ref sp, .ref sl, .ref gr, .ref re, .ref pr, .ref ga, .ref rp, .ref bo, .int 0])), (pl, .inr (1, [.int 0, .ref de, .int 0])), (ru, .inr (1, [.int 0, .ref de, .int 0])), (sh, .inr (1, [.int 0, .ref de, .int 0])), (sp, .inl (cP, 6, .inr (.inr (.inr (.inr (fun _ => none)))))), (ga, .inr (5, [.ref gpl, .ref gin, .int (-1), .int 0, .int 112, .int 0])), (bo, .inr (2, [.ref fa, .ref bbe, .ref bdi, .int 0, .int 0])), (fa, .inl (cI, 96, .inl (fun _ => 0)))]) hD hS hA [0, 1, 2, 3, 4, 5, 6, 7] rfl
  refine vx_calli (vx_runV (As := [.int a1]) (rest := [.int 0, .ref oq]) ⟨hx, hb, hml, hown, ht⟩ (c_X11_longestAir l hlt dC dI de (ox) (pl) (ru) (sh) (sp) (sl) (gr) (re) (pr) (ga) (rp) (bo) (fa) (gpl) (gin) (bbe) (bdi) (cP) (cI) (a1) s.heap.size) (cwV 1 ht (gWV (wr_51 _ (List.mem_of_getElem? (i := 18) rfl)) (wr_51 _ (List.mem_of_getElem? (i := 19) rfl)) (wr_51 _ (List.mem_of_getElem? (i := 20) rfl)) (wr_1 _ (List.mem_of_getElem? (i := 2) rfl)) (wr_51 _ (List.mem_of_getElem? (i := 21) rfl))) rfl rfl rfl (by decide +kernel) ⟨Nat.le_of_ble_eq_true rfl, Nat.le_of_ble_eq_true rfl⟩) ⟨PW_blind, va_recv hKc hPc (ci := 13) (q0 := 0) rfl rfl, PW_call hPc hDc hKc hS hG hFc⟩ rfl rfl hl.1 rfl (lv_room (Nat.le_of_ble_eq_true rfl)) dL_longestAir_4 ⟨Nat.le_of_ble_eq_true rfl, Nat.le_of_ble_eq_true rfl⟩) hS (fun q _ h => hFc q h) hFc (fun q _ h => hFc q h) (fun E ce q9 u t H1 locs1 ht9 hvm9 _ hR9 hz9 hk9 hS9 hc9 hv9 hcl9 => ?_) (fun r_4 u t H1 locs ht9 hvm hw hB hz1 hk1 hS => False.elim hw)
  obtain ⟨hP, hD⟩ := va_join (wr := [(oq, .inl (cL, 1, .inr (.inl (fun _ => 0))))]) (w1 := []) hP hD [0, 1, 2, 3, 4, 5, 6, 7] [8] rfl rfl (by decide) (by decide) hk9 hFc (va_P_nil (dC, dI) vwCl H1) (va_D_nil _)
  have hK := hK.sub (tys' := [(cL, .long)]) [2] rfl
  have hS := hS9
  obtain rfl := hR9
  refine vx_catch (own := RL) (name := "java/lang/IndexOutOfBoundsException") hown [] ⟨0, 9, 12, 21⟩ [⟨0, 9, 15, 57⟩] htab (fun z hz => nomatch hz) (by decide) (by decide) (ht _ (wr_18 _ (List.mem_of_getElem? (i := 12) rfl))) (va_Nw.use rfl (hG.2.2.2.1 _ (List.mem_of_getElem? (i := 0) rfl))) hc9 hv9 hcl9 ?_
  refine lv_astore_n (lv' := [(3, .ref q9), (0, .ref ox), (1, .int a1), (2, .ref oq)]) hx hb dL_longestAir_12 rfl hl (by decide) rfl (fun ls hl => ?_)
  refine lv_iconst (v := 1) hx hb dL_longestAir_13 (by decide) ?_
  have hP9 := hP.sub (ws' := []) [] rfl
  have hD9 := hD.sub (ws' := []) [] (by decide) rfl
  have hK9 := hK.sub (tys' := []) [] rfl
  exact vx_ret (W.iret (v := 1) hx hb hr (fun t htt hW => have ht := htt; ⟨⟨1, (), rfl, rfl, QW_of ht hW hP9 hK9 hD9⟩, hS.F ht⟩) hS.2.2 dL_longestAir_14)
set_option maxHeartbeats 4000000 in
set_option maxRecDepth 100000 in
theorem c_L_play (l : Launch) (hlt : l.stackTraces = false) (dC : Nat → ClassId) (dI : Nat → Nat → Nat) (de : Nat) (ox : Nat) (pl : Nat) (ru : Nat) (sh : Nat) (sp : Nat) (sl : Nat) (gr : Nat) (re : Nat) (pr : Nat) (ga : Nat) (rp : Nat) (bo : Nat) (fa : Nat) (gpl : Nat) (gin : Nat) (bbe : Nat) (bdi : Nat) (cP : ClassId) (cI : ClassId) (oq : Nat) (cL : ClassId) (a1 : Int32) (sz : Nat) : vx_Met l yL_play (.codeWith yL_play cL_play 4 (some .int) [(0, 9, 12, 21)] :: wsL_law) { frames := 8, cells := 1, slots := 6, locals := 133 } (va_Pc [.ref ox, .int a1, .ref oq] (PW dC dI de [(cP, .object "Levelsmith$Player"), (cI, .int), (cL, .long)] (WXJ ox pl ru sh sp sl gr re pr ga rp bo fa gpl gin bbe bdi oq cP cI cL de) sz)) (va_Qi (fun (r : Int32) (u : Unit) => r = 1) (fun (_ : Unit) (t : State) => QW dC dI [] [] (va_A (WXJ ox pl ru sh sp sl gr re pr ga rp bo fa gpl gin bbe bdi oq cP cI cL de) sz) t) (va_A (WXJ ox pl ru sh sp sl gr re pr ga rp bo fa gpl gin bbe bdi oq cP cI cL de) sz)) (XX (fun E => False) (va_A (WXJ ox pl ru sh sp sl gr re pr ga rp bo fa gpl gin bbe bdi oq cP cI cL de) sz)) 1 6 (va_A (WXJ ox pl ru sh sp sl gr re pr ga rp bo fa gpl gin bbe bdi oq cP cI cL de) sz) := by
  refine vx_ofWH (cc := cL_play) (maxL := 4) (ret := (some .int)) (by decide) rfl ?_
  intro p e s m args below meth c s₁ B hml hv
  obtain ⟨rfl, hsz, hP, hK, hD0, hG⟩ := hv
  have hx := B.exec
  have hb := B.bytes
  have hr := B.returns
  have hts := atoms_spec (ws := .codeWith yL_play cL_play 4 (some .int) [(0, 9, 12, 21)] :: wsL_law) B.pre
  have ht : ∀ w ∈ wsL_law, w.before _ s = true := fun w h => hts w (List.mem_cons_of_mem _ h)
  have hown : s.vm.findClass RL = some m.cls := findClass_of_methodNamed B.named
  have hlocks := B.notSynchronized
  have htab : c.exceptionTable.toList = tableOf [(0, 9, 12, 21)] := vx_table (x := yL_play) B (hts _ List.mem_cons_self)
  subst hsz
  have hD := hD0.self (sz := s.heap.size)
  generalize hAe : va_A (WXJ ox pl ru sh sp sl gr re pr ga rp bo fa gpl gin bbe bdi oq cP cI cL de) s.heap.size = A at hD hG ⊢
  have hA : ∀ q : Nat, s.heap.size ≤ q → A q := fun q h => by rw [← hAe]; exact Or.inr h
  have hS : va_S A s.heap s.heap [] := va_S.rf
  have hP : va_P (dC, dI) vwCl [(ox, .inr (13, [.ref pl, .ref ru, .ref sh, .ref sp, .ref sl, .ref gr, .ref re, .ref pr, .ref ga, .ref rp, .ref bo, .int 0])), (pl, .inr (1, [.int 0, .ref de, .int 0])), (ru, .inr (1, [.int 0, .ref de, .int 0])), (sh, .inr (1, [.int 0, .ref de, .int 0])), (sp, .inl (cP, 6, .inr (.inr (.inr (.inr (fun _ => none)))))), (ga, .inr (5, [.ref gpl, .ref gin, .int (-1), .int 0, .int 112, .int 0])), (bo, .inr (2, [.ref fa, .ref bbe, .ref bdi, .int 0, .int 0])), (fa, .inl (cI, 96, .inl (fun _ => 0))), (oq, .inl (cL, 1, .inr (.inl (fun _ => 0))))] s.heap := hP
  have hD : va_D A [(ox, .inr (13, [.ref pl, .ref ru, .ref sh, .ref sp, .ref sl, .ref gr, .ref re, .ref pr, .ref ga, .ref rp, .ref bo, .int 0])), (pl, .inr (1, [.int 0, .ref de, .int 0])), (ru, .inr (1, [.int 0, .ref de, .int 0])), (sh, .inr (1, [.int 0, .ref de, .int 0])), (sp, .inl (cP, 6, .inr (.inr (.inr (.inr (fun _ => none)))))), (ga, .inr (5, [.ref gpl, .ref gin, .int (-1), .int 0, .int 112, .int 0])), (bo, .inr (2, [.ref fa, .ref bbe, .ref bdi, .int 0, .int 0])), (fa, .inl (cI, 96, .inl (fun _ => 0))), (oq, .inl (cL, 1, .inr (.inl (fun _ => 0))))] := hD
  have hl := lv_entry ([.ref ox, .int a1, .ref oq]) (n := 4) (Nat.le_of_ble_eq_true rfl)
  rw [lg_entry_eq]
  generalize (lg_sl ([.ref ox, .int a1, .ref oq]) ++ List.replicate (4 - (lg_sl ([.ref ox, .int a1, .ref oq])).length) Slot.unset).toArray = ls at hl ⊢
  have hl : lv_has ls 4 [(0, .ref ox), (1, .int a1), (2, .ref oq)] := hl
  refine lv_aload_n hx hb dL_play_0 rfl (lv_at hl 2 rfl) ?_
  refine lv_iconst (v := 0) hx hb dL_play_1 (by decide) ?_
  refine lv_aload_n hx hb dL_play_2 rfl (lv_at hl 0 rfl) ?_
  refine lv_iload_n hx hb dL_play_3 rfl (lv_at hl 1 rfl) ?_
  have hPc := hP.sub (ws' := [(ox, .inr (13, [.ref pl, .ref ru, .ref sh, .ref sp, .ref sl, .ref gr, .ref re, .ref pr, .ref ga, .ref rp, .ref bo, .int 0])), (pl, .inr (1, [.int 0, .ref de, .int 0])), (ru, .inr (1, [.int 0, .ref de, .int 0])), (sh, .inr (1, [.int 0, .ref de, .int 0])), (sp, .inl (cP, 6, .inr (.inr (.inr (.inr (fun _ => none)))))), (ga, .inr (5, [.ref gpl, .ref gin, .int (-1), .int 0, .int 112, .int 0])), (bo, .inr (2, [.ref fa, .ref bbe, .ref bdi, .int 0, .int 0])), (fa, .inl (cI, 96, .inl (fun _ => 0)))]) [0, 1, 2, 3, 4, 5, 6, 7] rfl
  have hDc := hD.sub (ws' := [(ox, .inr (13, [.ref pl, .ref ru, .ref sh, .ref sp, .ref sl, .ref gr, .ref re, .ref pr, .ref ga, .ref rp, .ref bo, .int 0])), (pl, .inr (1, [.int 0, .ref de, .int 0])), (ru, .inr (1, [.int 0, .ref de, .int 0])), (sh, .inr (1, [.int 0, .ref de, .int 0])), (sp, .inl (cP, 6, .inr (.inr (.inr (.inr (fun _ => none)))))), (ga, .inr (5, [.ref gpl, .ref gin, .int (-1), .int 0, .int 112, .int 0])), (bo, .inr (2, [.ref fa, .ref bbe, .ref bdi, .int 0, .int 0])), (fa, .inl (cI, 96, .inl (fun _ => 0)))]) [0, 1, 2, 3, 4, 5, 6, 7] (by decide) rfl
  have hKc := hK.sub (tys' := [(cP, .object "Levelsmith$Player"), (cI, .int)]) [0, 1] rfl
  have hFc := va_free (wc := [(ox, .inr (13, [.ref pl, .ref ru, .ref sh, .ref sp, .ref sl, .ref gr, .ref re, .ref pr, .ref ga, .ref rp, .ref bo, .int 0])), (pl, .inr (1, [.int 0, .ref de, .int 0])), (ru, .inr (1, [.int 0, .ref de, .int 0])), (sh, .inr (1, [.int 0, .ref de, .int 0])), (sp, .inl (cP, 6, .inr (.inr (.inr (.inr (fun _ => none)))))), (ga, .inr (5, [.ref gpl, .ref gin, .int (-1), .int 0, .int 112, .int 0])), (bo, .inr (2, [.ref fa, .ref bbe, .ref bdi, .int 0, .int 0])), (fa, .inl (cI, 96, .inl (fun _ => 0)))]) hD hS hA [0, 1, 2, 3, 4, 5, 6, 7] rfl
  refine vx_calli (vx_runV (As := [.int a1]) (rest := [.int 0, .ref oq]) ⟨hx, hb, hml, hown, ht⟩ (c_X11_play l hlt dC dI de (ox) (pl) (ru) (sh) (sp) (sl) (gr) (re) (pr) (ga) (rp) (bo) (fa) (gpl) (gin) (bbe) (bdi) (cP) (cI) (a1) s.heap.size) (cwV 1 ht (gWV (wr_52 _ (List.mem_of_getElem? (i := 10) rfl)) (wr_52 _ (List.mem_of_getElem? (i := 11) rfl)) (wr_52 _ (List.mem_of_getElem? (i := 12) rfl)) (wr_1 _ (List.mem_of_getElem? (i := 2) rfl)) (wr_52 _ (List.mem_of_getElem? (i := 13) rfl))) rfl rfl rfl (by decide +kernel) ⟨Nat.le_of_ble_eq_true rfl, Nat.le_of_ble_eq_true rfl⟩) ⟨PW_blind, va_recv hKc hPc (ci := 13) (q0 := 0) rfl rfl, PW_call hPc hDc hKc hS hG hFc⟩ rfl rfl hl.1 rfl (lv_room (Nat.le_of_ble_eq_true rfl)) dL_play_4 ⟨Nat.le_of_ble_eq_true rfl, Nat.le_of_ble_eq_true rfl⟩) hS (fun q _ h => hFc q h) hFc (fun q _ h => hFc q h) (fun E ce q9 u t H1 locs1 ht9 hvm9 _ hR9 hz9 hk9 hS9 hc9 hv9 hcl9 => ?_) (fun r_4 u t H1 locs ht9 hvm hw hB hz1 hk1 hS => False.elim hw)
  obtain ⟨hP, hD⟩ := va_join (wr := [(oq, .inl (cL, 1, .inr (.inl (fun _ => 0))))]) (w1 := []) hP hD [0, 1, 2, 3, 4, 5, 6, 7] [8] rfl rfl (by decide) (by decide) hk9 hFc (va_P_nil (dC, dI) vwCl H1) (va_D_nil _)
  have hK := hK.sub (tys' := [(cL, .long)]) [2] rfl
  have hS := hS9
  obtain rfl := hR9
  refine vx_catch (own := RL) (name := "java/lang/IndexOutOfBoundsException") hown [] ⟨0, 9, 12, 21⟩ [] htab (fun z hz => nomatch hz) (by decide) (by decide) (ht _ (wr_18 _ (List.mem_of_getElem? (i := 12) rfl))) (va_Nw.use rfl (hG.2.2.2.1 _ (List.mem_of_getElem? (i := 0) rfl))) hc9 hv9 hcl9 ?_
  refine lv_astore_n (lv' := [(3, .ref q9), (0, .ref ox), (1, .int a1), (2, .ref oq)]) hx hb dL_play_12 rfl hl (by decide) rfl (fun ls hl => ?_)
  refine lv_iconst (v := 1) hx hb dL_play_13 (by decide) ?_
  have hP9 := hP.sub (ws' := []) [] rfl
  have hD9 := hD.sub (ws' := []) [] (by decide) rfl
  have hK9 := hK.sub (tys' := []) [] rfl
  exact vx_ret (W.iret (v := 1) hx hb hr (fun t htt hW => have ht := htt; ⟨⟨1, (), rfl, rfl, QW_of ht hW hP9 hK9 hD9⟩, hS.F ht⟩) hS.2.2 dL_play_14)
set_option maxHeartbeats 4000000 in
set_option maxRecDepth 100000 in
theorem c_L_length (l : Launch) (hlt : l.stackTraces = false) (dC : Nat → ClassId) (dI : Nat → Nat → Nat) (de : Nat) (ox : Nat) (pl : Nat) (ru : Nat) (sh : Nat) (sp : Nat) (sl : Nat) (gr : Nat) (re : Nat) (pr : Nat) (ga : Nat) (rp : Nat) (bo : Nat) (fa : Nat) (gpl : Nat) (gin : Nat) (bbe : Nat) (bdi : Nat) (cP : ClassId) (cI : ClassId) (oq : Nat) (cL : ClassId) (a1 : Int32) (sz : Nat) : vx_Met l yL_length (.codeWith yL_length cL_length 4 (some .int) [(0, 9, 12, 21)] :: wsL_law) { frames := 8, cells := 1, slots := 6, locals := 132 } (va_Pc [.ref ox, .int a1, .ref oq] (PW dC dI de [(cP, .object "Levelsmith$Player"), (cI, .int), (cL, .long)] (WXJ ox pl ru sh sp sl gr re pr ga rp bo fa gpl gin bbe bdi oq cP cI cL de) sz)) (va_Qi (fun (r : Int32) (u : Unit) => r = 1) (fun (_ : Unit) (t : State) => QW dC dI [] [] (va_A (WXJ ox pl ru sh sp sl gr re pr ga rp bo fa gpl gin bbe bdi oq cP cI cL de) sz) t) (va_A (WXJ ox pl ru sh sp sl gr re pr ga rp bo fa gpl gin bbe bdi oq cP cI cL de) sz)) (XX (fun E => False) (va_A (WXJ ox pl ru sh sp sl gr re pr ga rp bo fa gpl gin bbe bdi oq cP cI cL de) sz)) 1 6 (va_A (WXJ ox pl ru sh sp sl gr re pr ga rp bo fa gpl gin bbe bdi oq cP cI cL de) sz) := by
  refine vx_ofWH (cc := cL_length) (maxL := 4) (ret := (some .int)) (by decide) rfl ?_
  intro p e s m args below meth c s₁ B hml hv
  obtain ⟨rfl, hsz, hP, hK, hD0, hG⟩ := hv
  have hx := B.exec
  have hb := B.bytes
  have hr := B.returns
  have hts := atoms_spec (ws := .codeWith yL_length cL_length 4 (some .int) [(0, 9, 12, 21)] :: wsL_law) B.pre
  have ht : ∀ w ∈ wsL_law, w.before _ s = true := fun w h => hts w (List.mem_cons_of_mem _ h)
  have hown : s.vm.findClass RL = some m.cls := findClass_of_methodNamed B.named
  have hlocks := B.notSynchronized
  have htab : c.exceptionTable.toList = tableOf [(0, 9, 12, 21)] := vx_table (x := yL_length) B (hts _ List.mem_cons_self)
  subst hsz
  have hD := hD0.self (sz := s.heap.size)
  generalize hAe : va_A (WXJ ox pl ru sh sp sl gr re pr ga rp bo fa gpl gin bbe bdi oq cP cI cL de) s.heap.size = A at hD hG ⊢
  have hA : ∀ q : Nat, s.heap.size ≤ q → A q := fun q h => by rw [← hAe]; exact Or.inr h
  have hS : va_S A s.heap s.heap [] := va_S.rf
  have hP : va_P (dC, dI) vwCl [(ox, .inr (13, [.ref pl, .ref ru, .ref sh, .ref sp, .ref sl, .ref gr, .ref re, .ref pr, .ref ga, .ref rp, .ref bo, .int 0])), (pl, .inr (1, [.int 0, .ref de, .int 0])), (ru, .inr (1, [.int 0, .ref de, .int 0])), (sh, .inr (1, [.int 0, .ref de, .int 0])), (sp, .inl (cP, 6, .inr (.inr (.inr (.inr (fun _ => none)))))), (ga, .inr (5, [.ref gpl, .ref gin, .int (-1), .int 0, .int 112, .int 0])), (bo, .inr (2, [.ref fa, .ref bbe, .ref bdi, .int 0, .int 0])), (fa, .inl (cI, 96, .inl (fun _ => 0))), (oq, .inl (cL, 1, .inr (.inl (fun _ => 0))))] s.heap := hP
  have hD : va_D A [(ox, .inr (13, [.ref pl, .ref ru, .ref sh, .ref sp, .ref sl, .ref gr, .ref re, .ref pr, .ref ga, .ref rp, .ref bo, .int 0])), (pl, .inr (1, [.int 0, .ref de, .int 0])), (ru, .inr (1, [.int 0, .ref de, .int 0])), (sh, .inr (1, [.int 0, .ref de, .int 0])), (sp, .inl (cP, 6, .inr (.inr (.inr (.inr (fun _ => none)))))), (ga, .inr (5, [.ref gpl, .ref gin, .int (-1), .int 0, .int 112, .int 0])), (bo, .inr (2, [.ref fa, .ref bbe, .ref bdi, .int 0, .int 0])), (fa, .inl (cI, 96, .inl (fun _ => 0))), (oq, .inl (cL, 1, .inr (.inl (fun _ => 0))))] := hD
  have hl := lv_entry ([.ref ox, .int a1, .ref oq]) (n := 4) (Nat.le_of_ble_eq_true rfl)
  rw [lg_entry_eq]
  generalize (lg_sl ([.ref ox, .int a1, .ref oq]) ++ List.replicate (4 - (lg_sl ([.ref ox, .int a1, .ref oq])).length) Slot.unset).toArray = ls at hl ⊢
  have hl : lv_has ls 4 [(0, .ref ox), (1, .int a1), (2, .ref oq)] := hl
  refine lv_aload_n hx hb dL_length_0 rfl (lv_at hl 2 rfl) ?_
  refine lv_iconst (v := 0) hx hb dL_length_1 (by decide) ?_
  refine lv_aload_n hx hb dL_length_2 rfl (lv_at hl 0 rfl) ?_
  refine lv_iload_n hx hb dL_length_3 rfl (lv_at hl 1 rfl) ?_
  have hPc := hP.sub (ws' := [(ox, .inr (13, [.ref pl, .ref ru, .ref sh, .ref sp, .ref sl, .ref gr, .ref re, .ref pr, .ref ga, .ref rp, .ref bo, .int 0])), (pl, .inr (1, [.int 0, .ref de, .int 0])), (ru, .inr (1, [.int 0, .ref de, .int 0])), (sh, .inr (1, [.int 0, .ref de, .int 0])), (sp, .inl (cP, 6, .inr (.inr (.inr (.inr (fun _ => none)))))), (ga, .inr (5, [.ref gpl, .ref gin, .int (-1), .int 0, .int 112, .int 0])), (bo, .inr (2, [.ref fa, .ref bbe, .ref bdi, .int 0, .int 0])), (fa, .inl (cI, 96, .inl (fun _ => 0)))]) [0, 1, 2, 3, 4, 5, 6, 7] rfl
  have hDc := hD.sub (ws' := [(ox, .inr (13, [.ref pl, .ref ru, .ref sh, .ref sp, .ref sl, .ref gr, .ref re, .ref pr, .ref ga, .ref rp, .ref bo, .int 0])), (pl, .inr (1, [.int 0, .ref de, .int 0])), (ru, .inr (1, [.int 0, .ref de, .int 0])), (sh, .inr (1, [.int 0, .ref de, .int 0])), (sp, .inl (cP, 6, .inr (.inr (.inr (.inr (fun _ => none)))))), (ga, .inr (5, [.ref gpl, .ref gin, .int (-1), .int 0, .int 112, .int 0])), (bo, .inr (2, [.ref fa, .ref bbe, .ref bdi, .int 0, .int 0])), (fa, .inl (cI, 96, .inl (fun _ => 0)))]) [0, 1, 2, 3, 4, 5, 6, 7] (by decide) rfl
  have hKc := hK.sub (tys' := [(cP, .object "Levelsmith$Player"), (cI, .int)]) [0, 1] rfl
  have hFc := va_free (wc := [(ox, .inr (13, [.ref pl, .ref ru, .ref sh, .ref sp, .ref sl, .ref gr, .ref re, .ref pr, .ref ga, .ref rp, .ref bo, .int 0])), (pl, .inr (1, [.int 0, .ref de, .int 0])), (ru, .inr (1, [.int 0, .ref de, .int 0])), (sh, .inr (1, [.int 0, .ref de, .int 0])), (sp, .inl (cP, 6, .inr (.inr (.inr (.inr (fun _ => none)))))), (ga, .inr (5, [.ref gpl, .ref gin, .int (-1), .int 0, .int 112, .int 0])), (bo, .inr (2, [.ref fa, .ref bbe, .ref bdi, .int 0, .int 0])), (fa, .inl (cI, 96, .inl (fun _ => 0)))]) hD hS hA [0, 1, 2, 3, 4, 5, 6, 7] rfl
  refine vx_calli (vx_runV (As := [.int a1]) (rest := [.int 0, .ref oq]) ⟨hx, hb, hml, hown, ht⟩ (c_X11_length l hlt dC dI de (ox) (pl) (ru) (sh) (sp) (sl) (gr) (re) (pr) (ga) (rp) (bo) (fa) (gpl) (gin) (bbe) (bdi) (cP) (cI) (a1) s.heap.size) (cwV 1 ht (gWV (wr_59 _ (List.mem_of_getElem? (i := 9) rfl)) (wr_59 _ (List.mem_of_getElem? (i := 10) rfl)) (wr_59 _ (List.mem_of_getElem? (i := 11) rfl)) (wr_1 _ (List.mem_of_getElem? (i := 2) rfl)) (wr_59 _ (List.mem_of_getElem? (i := 12) rfl))) rfl rfl rfl (by decide +kernel) ⟨Nat.le_of_ble_eq_true rfl, Nat.le_of_ble_eq_true rfl⟩) ⟨PW_blind, va_recv hKc hPc (ci := 13) (q0 := 0) rfl rfl, PW_call hPc hDc hKc hS hG hFc⟩ rfl rfl hl.1 rfl (lv_room (Nat.le_of_ble_eq_true rfl)) dL_length_4 ⟨Nat.le_of_ble_eq_true rfl, Nat.le_of_ble_eq_true rfl⟩) hS (fun q _ h => hFc q h) hFc (fun q _ h => hFc q h) (fun E ce q9 u t H1 locs1 ht9 hvm9 _ hR9 hz9 hk9 hS9 hc9 hv9 hcl9 => ?_) (fun r_4 u t H1 locs ht9 hvm hw hB hz1 hk1 hS => False.elim hw)
  obtain ⟨hP, hD⟩ := va_join (wr := [(oq, .inl (cL, 1, .inr (.inl (fun _ => 0))))]) (w1 := []) hP hD [0, 1, 2, 3, 4, 5, 6, 7] [8] rfl rfl (by decide) (by decide) hk9 hFc (va_P_nil (dC, dI) vwCl H1) (va_D_nil _)
  have hK := hK.sub (tys' := [(cL, .long)]) [2] rfl
  have hS := hS9
  obtain rfl := hR9
  refine vx_catch (own := RL) (name := "java/lang/IndexOutOfBoundsException") hown [] ⟨0, 9, 12, 21⟩ [] htab (fun z hz => nomatch hz) (by decide) (by decide) (ht _ (wr_18 _ (List.mem_of_getElem? (i := 12) rfl))) (va_Nw.use rfl (hG.2.2.2.1 _ (List.mem_of_getElem? (i := 0) rfl))) hc9 hv9 hcl9 ?_
  refine lv_astore_n (lv' := [(3, .ref q9), (0, .ref ox), (1, .int a1), (2, .ref oq)]) hx hb dL_length_12 rfl hl (by decide) rfl (fun ls hl => ?_)
  refine lv_iconst (v := 1) hx hb dL_length_13 (by decide) ?_
  have hP9 := hP.sub (ws' := []) [] rfl
  have hD9 := hD.sub (ws' := []) [] (by decide) rfl
  have hK9 := hK.sub (tys' := []) [] rfl
  exact vx_ret (W.iret (v := 1) hx hb hr (fun t htt hW => have ht := htt; ⟨⟨1, (), rfl, rfl, QW_of ht hW hP9 hK9 hD9⟩, hS.F ht⟩) hS.2.2 dL_length_14)
set_option maxHeartbeats 4000000 in
set_option maxRecDepth 100000 in
theorem c_L_replay (l : Launch) (hlt : l.stackTraces = false) (dC : Nat → ClassId) (dI : Nat → Nat → Nat) (de : Nat) (ox : Nat) (pl : Nat) (ru : Nat) (sh : Nat) (sp : Nat) (sl : Nat) (gr : Nat) (re : Nat) (pr : Nat) (ga : Nat) (rp : Nat) (bo : Nat) (fa : Nat) (gpl : Nat) (gin : Nat) (bbe : Nat) (bdi : Nat) (cP : ClassId) (cI : ClassId) (oq : Nat) (cL : ClassId) (a1 : Int32) (sz : Nat) : vx_Met l yL_replay (.codeWith yL_replay cL_replay 4 (some .int) [(0, 9, 12, 21)] :: wsL_law) { frames := 8, cells := 1, slots := 6, locals := 133 } (va_Pc [.ref ox, .int a1, .ref oq] (PW dC dI de [(cP, .object "Levelsmith$Player"), (cI, .int), (cL, .long)] (WXJ ox pl ru sh sp sl gr re pr ga rp bo fa gpl gin bbe bdi oq cP cI cL de) sz)) (va_Qi (fun (r : Int32) (u : Unit) => r = 1) (fun (_ : Unit) (t : State) => QW dC dI [] [] (va_A (WXJ ox pl ru sh sp sl gr re pr ga rp bo fa gpl gin bbe bdi oq cP cI cL de) sz) t) (va_A (WXJ ox pl ru sh sp sl gr re pr ga rp bo fa gpl gin bbe bdi oq cP cI cL de) sz)) (XX (fun E => False) (va_A (WXJ ox pl ru sh sp sl gr re pr ga rp bo fa gpl gin bbe bdi oq cP cI cL de) sz)) 1 6 (va_A (WXJ ox pl ru sh sp sl gr re pr ga rp bo fa gpl gin bbe bdi oq cP cI cL de) sz) := by
  refine vx_ofWH (cc := cL_replay) (maxL := 4) (ret := (some .int)) (by decide) rfl ?_
  intro p e s m args below meth c s₁ B hml hv
  obtain ⟨rfl, hsz, hP, hK, hD0, hG⟩ := hv
  have hx := B.exec
  have hb := B.bytes
  have hr := B.returns
  have hts := atoms_spec (ws := .codeWith yL_replay cL_replay 4 (some .int) [(0, 9, 12, 21)] :: wsL_law) B.pre
  have ht : ∀ w ∈ wsL_law, w.before _ s = true := fun w h => hts w (List.mem_cons_of_mem _ h)
  have hown : s.vm.findClass RL = some m.cls := findClass_of_methodNamed B.named
  have hlocks := B.notSynchronized
  have htab : c.exceptionTable.toList = tableOf [(0, 9, 12, 21)] := vx_table (x := yL_replay) B (hts _ List.mem_cons_self)
  subst hsz
  have hD := hD0.self (sz := s.heap.size)
  generalize hAe : va_A (WXJ ox pl ru sh sp sl gr re pr ga rp bo fa gpl gin bbe bdi oq cP cI cL de) s.heap.size = A at hD hG ⊢
  have hA : ∀ q : Nat, s.heap.size ≤ q → A q := fun q h => by rw [← hAe]; exact Or.inr h
  have hS : va_S A s.heap s.heap [] := va_S.rf
  have hP : va_P (dC, dI) vwCl [(ox, .inr (13, [.ref pl, .ref ru, .ref sh, .ref sp, .ref sl, .ref gr, .ref re, .ref pr, .ref ga, .ref rp, .ref bo, .int 0])), (pl, .inr (1, [.int 0, .ref de, .int 0])), (ru, .inr (1, [.int 0, .ref de, .int 0])), (sh, .inr (1, [.int 0, .ref de, .int 0])), (sp, .inl (cP, 6, .inr (.inr (.inr (.inr (fun _ => none)))))), (ga, .inr (5, [.ref gpl, .ref gin, .int (-1), .int 0, .int 112, .int 0])), (bo, .inr (2, [.ref fa, .ref bbe, .ref bdi, .int 0, .int 0])), (fa, .inl (cI, 96, .inl (fun _ => 0))), (oq, .inl (cL, 1, .inr (.inl (fun _ => 0))))] s.heap := hP
  have hD : va_D A [(ox, .inr (13, [.ref pl, .ref ru, .ref sh, .ref sp, .ref sl, .ref gr, .ref re, .ref pr, .ref ga, .ref rp, .ref bo, .int 0])), (pl, .inr (1, [.int 0, .ref de, .int 0])), (ru, .inr (1, [.int 0, .ref de, .int 0])), (sh, .inr (1, [.int 0, .ref de, .int 0])), (sp, .inl (cP, 6, .inr (.inr (.inr (.inr (fun _ => none)))))), (ga, .inr (5, [.ref gpl, .ref gin, .int (-1), .int 0, .int 112, .int 0])), (bo, .inr (2, [.ref fa, .ref bbe, .ref bdi, .int 0, .int 0])), (fa, .inl (cI, 96, .inl (fun _ => 0))), (oq, .inl (cL, 1, .inr (.inl (fun _ => 0))))] := hD
  have hl := lv_entry ([.ref ox, .int a1, .ref oq]) (n := 4) (Nat.le_of_ble_eq_true rfl)
  rw [lg_entry_eq]
  generalize (lg_sl ([.ref ox, .int a1, .ref oq]) ++ List.replicate (4 - (lg_sl ([.ref ox, .int a1, .ref oq])).length) Slot.unset).toArray = ls at hl ⊢
  have hl : lv_has ls 4 [(0, .ref ox), (1, .int a1), (2, .ref oq)] := hl
  refine lv_aload_n hx hb dL_replay_0 rfl (lv_at hl 2 rfl) ?_
  refine lv_iconst (v := 0) hx hb dL_replay_1 (by decide) ?_
  refine lv_aload_n hx hb dL_replay_2 rfl (lv_at hl 0 rfl) ?_
  refine lv_iload_n hx hb dL_replay_3 rfl (lv_at hl 1 rfl) ?_
  have hPc := hP.sub (ws' := [(ox, .inr (13, [.ref pl, .ref ru, .ref sh, .ref sp, .ref sl, .ref gr, .ref re, .ref pr, .ref ga, .ref rp, .ref bo, .int 0])), (pl, .inr (1, [.int 0, .ref de, .int 0])), (ru, .inr (1, [.int 0, .ref de, .int 0])), (sh, .inr (1, [.int 0, .ref de, .int 0])), (sp, .inl (cP, 6, .inr (.inr (.inr (.inr (fun _ => none)))))), (ga, .inr (5, [.ref gpl, .ref gin, .int (-1), .int 0, .int 112, .int 0])), (bo, .inr (2, [.ref fa, .ref bbe, .ref bdi, .int 0, .int 0])), (fa, .inl (cI, 96, .inl (fun _ => 0)))]) [0, 1, 2, 3, 4, 5, 6, 7] rfl
  have hDc := hD.sub (ws' := [(ox, .inr (13, [.ref pl, .ref ru, .ref sh, .ref sp, .ref sl, .ref gr, .ref re, .ref pr, .ref ga, .ref rp, .ref bo, .int 0])), (pl, .inr (1, [.int 0, .ref de, .int 0])), (ru, .inr (1, [.int 0, .ref de, .int 0])), (sh, .inr (1, [.int 0, .ref de, .int 0])), (sp, .inl (cP, 6, .inr (.inr (.inr (.inr (fun _ => none)))))), (ga, .inr (5, [.ref gpl, .ref gin, .int (-1), .int 0, .int 112, .int 0])), (bo, .inr (2, [.ref fa, .ref bbe, .ref bdi, .int 0, .int 0])), (fa, .inl (cI, 96, .inl (fun _ => 0)))]) [0, 1, 2, 3, 4, 5, 6, 7] (by decide) rfl
  have hKc := hK.sub (tys' := [(cP, .object "Levelsmith$Player"), (cI, .int)]) [0, 1] rfl
  have hFc := va_free (wc := [(ox, .inr (13, [.ref pl, .ref ru, .ref sh, .ref sp, .ref sl, .ref gr, .ref re, .ref pr, .ref ga, .ref rp, .ref bo, .int 0])), (pl, .inr (1, [.int 0, .ref de, .int 0])), (ru, .inr (1, [.int 0, .ref de, .int 0])), (sh, .inr (1, [.int 0, .ref de, .int 0])), (sp, .inl (cP, 6, .inr (.inr (.inr (.inr (fun _ => none)))))), (ga, .inr (5, [.ref gpl, .ref gin, .int (-1), .int 0, .int 112, .int 0])), (bo, .inr (2, [.ref fa, .ref bbe, .ref bdi, .int 0, .int 0])), (fa, .inl (cI, 96, .inl (fun _ => 0)))]) hD hS hA [0, 1, 2, 3, 4, 5, 6, 7] rfl
  refine vx_calli (vx_runV (As := [.int a1]) (rest := [.int 0, .ref oq]) ⟨hx, hb, hml, hown, ht⟩ (c_X11_replay l hlt dC dI de (ox) (pl) (ru) (sh) (sp) (sl) (gr) (re) (pr) (ga) (rp) (bo) (fa) (gpl) (gin) (bbe) (bdi) (cP) (cI) (a1) s.heap.size) (cwV 1 ht (gWV (wr_60 _ (List.mem_of_getElem? (i := 6) rfl)) (wr_60 _ (List.mem_of_getElem? (i := 7) rfl)) (wr_60 _ (List.mem_of_getElem? (i := 8) rfl)) (wr_1 _ (List.mem_of_getElem? (i := 2) rfl)) (wr_60 _ (List.mem_of_getElem? (i := 9) rfl))) rfl rfl rfl (by decide +kernel) ⟨Nat.le_of_ble_eq_true rfl, Nat.le_of_ble_eq_true rfl⟩) ⟨PW_blind, va_recv hKc hPc (ci := 13) (q0 := 0) rfl rfl, PW_call hPc hDc hKc hS hG hFc⟩ rfl rfl hl.1 rfl (lv_room (Nat.le_of_ble_eq_true rfl)) dL_replay_4 ⟨Nat.le_of_ble_eq_true rfl, Nat.le_of_ble_eq_true rfl⟩) hS (fun q _ h => hFc q h) hFc (fun q _ h => hFc q h) (fun E ce q9 u t H1 locs1 ht9 hvm9 _ hR9 hz9 hk9 hS9 hc9 hv9 hcl9 => ?_) (fun r_4 u t H1 locs ht9 hvm hw hB hz1 hk1 hS => False.elim hw)
  obtain ⟨hP, hD⟩ := va_join (wr := [(oq, .inl (cL, 1, .inr (.inl (fun _ => 0))))]) (w1 := []) hP hD [0, 1, 2, 3, 4, 5, 6, 7] [8] rfl rfl (by decide) (by decide) hk9 hFc (va_P_nil (dC, dI) vwCl H1) (va_D_nil _)
  have hK := hK.sub (tys' := [(cL, .long)]) [2] rfl
  have hS := hS9
  obtain rfl := hR9
  refine vx_catch (own := RL) (name := "java/lang/IndexOutOfBoundsException") hown [] ⟨0, 9, 12, 21⟩ [] htab (fun z hz => nomatch hz) (by decide) (by decide) (ht _ (wr_18 _ (List.mem_of_getElem? (i := 12) rfl))) (va_Nw.use rfl (hG.2.2.2.1 _ (List.mem_of_getElem? (i := 0) rfl))) hc9 hv9 hcl9 ?_
  refine lv_astore_n (lv' := [(3, .ref q9), (0, .ref ox), (1, .int a1), (2, .ref oq)]) hx hb dL_replay_12 rfl hl (by decide) rfl (fun ls hl => ?_)
  refine lv_iconst (v := 1) hx hb dL_replay_13 (by decide) ?_
  have hP9 := hP.sub (ws' := []) [] rfl
  have hD9 := hD.sub (ws' := []) [] (by decide) rfl
  have hK9 := hK.sub (tys' := []) [] rfl
  exact vx_ret (W.iret (v := 1) hx hb hr (fun t htt hW => have ht := htt; ⟨⟨1, (), rfl, rfl, QW_of ht hW hP9 hK9 hD9⟩, hS.F ht⟩) hS.2.2 dL_replay_14)
set_option maxHeartbeats 4000000 in
set_option maxRecDepth 100000 in
theorem c_L_isTrue (l : Launch) (hlt : l.stackTraces = false) (dC : Nat → ClassId) (dI : Nat → Nat → Nat) (de : Nat) (ox : Nat) (pl : Nat) (ru : Nat) (sh : Nat) (sp : Nat) (sl : Nat) (gr : Nat) (re : Nat) (pr : Nat) (ga : Nat) (rp : Nat) (bo : Nat) (fa : Nat) (gpl : Nat) (gin : Nat) (bbe : Nat) (bdi : Nat) (cP : ClassId) (cI : ClassId) (oq : Nat) (cL : ClassId) (a1 : Int32) (sz : Nat) : vx_Met l yL_isTrue (.codeWith yL_isTrue cL_isTrue 4 (some .int) [(0, 16, 19, 21)] :: wsL_law) { frames := 8, cells := 1, slots := 6, locals := 133 } (va_Pc [.ref ox, .int a1, .ref oq] (PW dC dI de [(cP, .object "Levelsmith$Player"), (cI, .int), (cL, .long)] (WXJ ox pl ru sh sp sl gr re pr ga rp bo fa gpl gin bbe bdi oq cP cI cL de) sz)) (va_Qi (fun (r : Int32) (u : Unit) => r = 1) (fun (_ : Unit) (t : State) => QW dC dI [] [] (va_A (WXJ ox pl ru sh sp sl gr re pr ga rp bo fa gpl gin bbe bdi oq cP cI cL de) sz) t) (va_A (WXJ ox pl ru sh sp sl gr re pr ga rp bo fa gpl gin bbe bdi oq cP cI cL de) sz)) (XX (fun E => False) (va_A (WXJ ox pl ru sh sp sl gr re pr ga rp bo fa gpl gin bbe bdi oq cP cI cL de) sz)) 1 6 (va_A (WXJ ox pl ru sh sp sl gr re pr ga rp bo fa gpl gin bbe bdi oq cP cI cL de) sz) := by
  refine vx_ofWH (cc := cL_isTrue) (maxL := 4) (ret := (some .int)) (by decide) rfl ?_
  intro p e s m args below meth c s₁ B hml hv
  obtain ⟨rfl, hsz, hP, hK, hD0, hG⟩ := hv
  have hx := B.exec
  have hb := B.bytes
  have hr := B.returns
  have hts := atoms_spec (ws := .codeWith yL_isTrue cL_isTrue 4 (some .int) [(0, 16, 19, 21)] :: wsL_law) B.pre
  have ht : ∀ w ∈ wsL_law, w.before _ s = true := fun w h => hts w (List.mem_cons_of_mem _ h)
  have hown : s.vm.findClass RL = some m.cls := findClass_of_methodNamed B.named
  have hlocks := B.notSynchronized
  have htab : c.exceptionTable.toList = tableOf [(0, 16, 19, 21)] := vx_table (x := yL_isTrue) B (hts _ List.mem_cons_self)
  subst hsz
  have hD := hD0.self (sz := s.heap.size)
  generalize hAe : va_A (WXJ ox pl ru sh sp sl gr re pr ga rp bo fa gpl gin bbe bdi oq cP cI cL de) s.heap.size = A at hD hG ⊢
  have hA : ∀ q : Nat, s.heap.size ≤ q → A q := fun q h => by rw [← hAe]; exact Or.inr h
  have hS : va_S A s.heap s.heap [] := va_S.rf
  have hP : va_P (dC, dI) vwCl [(ox, .inr (13, [.ref pl, .ref ru, .ref sh, .ref sp, .ref sl, .ref gr, .ref re, .ref pr, .ref ga, .ref rp, .ref bo, .int 0])), (pl, .inr (1, [.int 0, .ref de, .int 0])), (ru, .inr (1, [.int 0, .ref de, .int 0])), (sh, .inr (1, [.int 0, .ref de, .int 0])), (sp, .inl (cP, 6, .inr (.inr (.inr (.inr (fun _ => none)))))), (ga, .inr (5, [.ref gpl, .ref gin, .int (-1), .int 0, .int 112, .int 0])), (bo, .inr (2, [.ref fa, .ref bbe, .ref bdi, .int 0, .int 0])), (fa, .inl (cI, 96, .inl (fun _ => 0))), (oq, .inl (cL, 1, .inr (.inl (fun _ => 0))))] s.heap := hP
  have hD : va_D A [(ox, .inr (13, [.ref pl, .ref ru, .ref sh, .ref sp, .ref sl, .ref gr, .ref re, .ref pr, .ref ga, .ref rp, .ref bo, .int 0])), (pl, .inr (1, [.int 0, .ref de, .int 0])), (ru, .inr (1, [.int 0, .ref de, .int 0])), (sh, .inr (1, [.int 0, .ref de, .int 0])), (sp, .inl (cP, 6, .inr (.inr (.inr (.inr (fun _ => none)))))), (ga, .inr (5, [.ref gpl, .ref gin, .int (-1), .int 0, .int 112, .int 0])), (bo, .inr (2, [.ref fa, .ref bbe, .ref bdi, .int 0, .int 0])), (fa, .inl (cI, 96, .inl (fun _ => 0))), (oq, .inl (cL, 1, .inr (.inl (fun _ => 0))))] := hD
  have hl := lv_entry ([.ref ox, .int a1, .ref oq]) (n := 4) (Nat.le_of_ble_eq_true rfl)
  rw [lg_entry_eq]
  generalize (lg_sl ([.ref ox, .int a1, .ref oq]) ++ List.replicate (4 - (lg_sl ([.ref ox, .int a1, .ref oq])).length) Slot.unset).toArray = ls at hl ⊢
  have hl : lv_has ls 4 [(0, .ref ox), (1, .int a1), (2, .ref oq)] := hl
  refine lv_aload_n hx hb dL_isTrue_0 rfl (lv_at hl 2 rfl) ?_
  refine lv_iconst (v := 0) hx hb dL_isTrue_1 (by decide) ?_
  refine lv_aload_n hx hb dL_isTrue_2 rfl (lv_at hl 0 rfl) ?_
  refine lv_iload_n hx hb dL_isTrue_3 rfl (lv_at hl 1 rfl) ?_
  have hPc := hP.sub (ws' := [(ox, .inr (13, [.ref pl, .ref ru, .ref sh, .ref sp, .ref sl, .ref gr, .ref re, .ref pr, .ref ga, .ref rp, .ref bo, .int 0])), (pl, .inr (1, [.int 0, .ref de, .int 0])), (ru, .inr (1, [.int 0, .ref de, .int 0])), (sh, .inr (1, [.int 0, .ref de, .int 0])), (sp, .inl (cP, 6, .inr (.inr (.inr (.inr (fun _ => none)))))), (ga, .inr (5, [.ref gpl, .ref gin, .int (-1), .int 0, .int 112, .int 0])), (bo, .inr (2, [.ref fa, .ref bbe, .ref bdi, .int 0, .int 0])), (fa, .inl (cI, 96, .inl (fun _ => 0)))]) [0, 1, 2, 3, 4, 5, 6, 7] rfl
  have hDc := hD.sub (ws' := [(ox, .inr (13, [.ref pl, .ref ru, .ref sh, .ref sp, .ref sl, .ref gr, .ref re, .ref pr, .ref ga, .ref rp, .ref bo, .int 0])), (pl, .inr (1, [.int 0, .ref de, .int 0])), (ru, .inr (1, [.int 0, .ref de, .int 0])), (sh, .inr (1, [.int 0, .ref de, .int 0])), (sp, .inl (cP, 6, .inr (.inr (.inr (.inr (fun _ => none)))))), (ga, .inr (5, [.ref gpl, .ref gin, .int (-1), .int 0, .int 112, .int 0])), (bo, .inr (2, [.ref fa, .ref bbe, .ref bdi, .int 0, .int 0])), (fa, .inl (cI, 96, .inl (fun _ => 0)))]) [0, 1, 2, 3, 4, 5, 6, 7] (by decide) rfl
  have hKc := hK.sub (tys' := [(cP, .object "Levelsmith$Player"), (cI, .int)]) [0, 1] rfl
  have hFc := va_free (wc := [(ox, .inr (13, [.ref pl, .ref ru, .ref sh, .ref sp, .ref sl, .ref gr, .ref re, .ref pr, .ref ga, .ref rp, .ref bo, .int 0])), (pl, .inr (1, [.int 0, .ref de, .int 0])), (ru, .inr (1, [.int 0, .ref de, .int 0])), (sh, .inr (1, [.int 0, .ref de, .int 0])), (sp, .inl (cP, 6, .inr (.inr (.inr (.inr (fun _ => none)))))), (ga, .inr (5, [.ref gpl, .ref gin, .int (-1), .int 0, .int 112, .int 0])), (bo, .inr (2, [.ref fa, .ref bbe, .ref bdi, .int 0, .int 0])), (fa, .inl (cI, 96, .inl (fun _ => 0)))]) hD hS hA [0, 1, 2, 3, 4, 5, 6, 7] rfl
  refine vx_calli (vx_runV (As := [.int a1]) (rest := [.int 0, .ref oq]) ⟨hx, hb, hml, hown, ht⟩ (c_X11_isTrue l hlt dC dI de (ox) (pl) (ru) (sh) (sp) (sl) (gr) (re) (pr) (ga) (rp) (bo) (fa) (gpl) (gin) (bbe) (bdi) (cP) (cI) (a1) s.heap.size) (cwV 1 ht (gWV (wr_61 _ (List.mem_of_getElem? (i := 7) rfl)) (wr_61 _ (List.mem_of_getElem? (i := 8) rfl)) (wr_61 _ (List.mem_of_getElem? (i := 9) rfl)) (wr_1 _ (List.mem_of_getElem? (i := 2) rfl)) (wr_61 _ (List.mem_of_getElem? (i := 10) rfl))) rfl rfl rfl (by decide +kernel) ⟨Nat.le_of_ble_eq_true rfl, Nat.le_of_ble_eq_true rfl⟩) ⟨PW_blind, va_recv hKc hPc (ci := 13) (q0 := 0) rfl rfl, PW_call hPc hDc hKc hS hG hFc⟩ rfl rfl hl.1 rfl (lv_room (Nat.le_of_ble_eq_true rfl)) dL_isTrue_4 ⟨Nat.le_of_ble_eq_true rfl, Nat.le_of_ble_eq_true rfl⟩) hS (fun q _ h => hFc q h) hFc (fun q _ h => hFc q h) (fun E ce q9 u t H1 locs1 ht9 hvm9 _ hR9 hz9 hk9 hS9 hc9 hv9 hcl9 => ?_) (fun r_4 u t H1 locs ht9 hvm hw hB hz1 hk1 hS => False.elim hw)
  obtain ⟨hP, hD⟩ := va_join (wr := [(oq, .inl (cL, 1, .inr (.inl (fun _ => 0))))]) (w1 := []) hP hD [0, 1, 2, 3, 4, 5, 6, 7] [8] rfl rfl (by decide) (by decide) hk9 hFc (va_P_nil (dC, dI) vwCl H1) (va_D_nil _)
  have hK := hK.sub (tys' := [(cL, .long)]) [2] rfl
  have hS := hS9
  obtain rfl := hR9
  refine vx_catch (own := RL) (name := "java/lang/IndexOutOfBoundsException") hown [] ⟨0, 16, 19, 21⟩ [] htab (fun z hz => nomatch hz) (by decide) (by decide) (ht _ (wr_18 _ (List.mem_of_getElem? (i := 12) rfl))) (va_Nw.use rfl (hG.2.2.2.1 _ (List.mem_of_getElem? (i := 0) rfl))) hc9 hv9 hcl9 ?_
  refine lv_astore_n (lv' := [(3, .ref q9), (0, .ref ox), (1, .int a1), (2, .ref oq)]) hx hb dL_isTrue_19 rfl hl (by decide) rfl (fun ls hl => ?_)
  refine lv_iconst (v := 1) hx hb dL_isTrue_20 (by decide) ?_
  have hP9 := hP.sub (ws' := []) [] rfl
  have hD9 := hD.sub (ws' := []) [] (by decide) rfl
  have hK9 := hK.sub (tys' := []) [] rfl
  exact vx_ret (W.iret (v := 1) hx hb hr (fun t htt hW => have ht := htt; ⟨⟨1, (), rfl, rfl, QW_of ht hW hP9 hK9 hD9⟩, hS.F ht⟩) hS.2.2 dL_isTrue_21)
set_option maxHeartbeats 4000000 in
set_option maxRecDepth 100000 in
theorem c_L_isPatched (l : Launch) (hlt : l.stackTraces = false) (dC : Nat → ClassId) (dI : Nat → Nat → Nat) (de : Nat) (ox : Nat) (pl : Nat) (ru : Nat) (sh : Nat) (sp : Nat) (sl : Nat) (gr : Nat) (re : Nat) (pr : Nat) (ga : Nat) (rp : Nat) (bo : Nat) (fa : Nat) (gpl : Nat) (gin : Nat) (bbe : Nat) (bdi : Nat) (cP : ClassId) (cI : ClassId) (oq : Nat) (cL : ClassId) (a1 : Int32) (sz : Nat) : vx_Met l yL_isPatched (.codeWith yL_isPatched cL_isPatched 4 (some .int) [(0, 16, 19, 21)] :: wsL_law) { frames := 8, cells := 1, slots := 6, locals := 133 } (va_Pc [.ref ox, .int a1, .ref oq] (PW dC dI de [(cP, .object "Levelsmith$Player"), (cI, .int), (cL, .long)] (WXJ ox pl ru sh sp sl gr re pr ga rp bo fa gpl gin bbe bdi oq cP cI cL de) sz)) (va_Qi (fun (r : Int32) (u : Unit) => r = 1) (fun (_ : Unit) (t : State) => QW dC dI [] [] (va_A (WXJ ox pl ru sh sp sl gr re pr ga rp bo fa gpl gin bbe bdi oq cP cI cL de) sz) t) (va_A (WXJ ox pl ru sh sp sl gr re pr ga rp bo fa gpl gin bbe bdi oq cP cI cL de) sz)) (XX (fun E => False) (va_A (WXJ ox pl ru sh sp sl gr re pr ga rp bo fa gpl gin bbe bdi oq cP cI cL de) sz)) 1 6 (va_A (WXJ ox pl ru sh sp sl gr re pr ga rp bo fa gpl gin bbe bdi oq cP cI cL de) sz) := by
  refine vx_ofWH (cc := cL_isPatched) (maxL := 4) (ret := (some .int)) (by decide) rfl ?_
  intro p e s m args below meth c s₁ B hml hv
  obtain ⟨rfl, hsz, hP, hK, hD0, hG⟩ := hv
  have hx := B.exec
  have hb := B.bytes
  have hr := B.returns
  have hts := atoms_spec (ws := .codeWith yL_isPatched cL_isPatched 4 (some .int) [(0, 16, 19, 21)] :: wsL_law) B.pre
  have ht : ∀ w ∈ wsL_law, w.before _ s = true := fun w h => hts w (List.mem_cons_of_mem _ h)
  have hown : s.vm.findClass RL = some m.cls := findClass_of_methodNamed B.named
  have hlocks := B.notSynchronized
  have htab : c.exceptionTable.toList = tableOf [(0, 16, 19, 21)] := vx_table (x := yL_isPatched) B (hts _ List.mem_cons_self)
  subst hsz
  have hD := hD0.self (sz := s.heap.size)
  generalize hAe : va_A (WXJ ox pl ru sh sp sl gr re pr ga rp bo fa gpl gin bbe bdi oq cP cI cL de) s.heap.size = A at hD hG ⊢
  have hA : ∀ q : Nat, s.heap.size ≤ q → A q := fun q h => by rw [← hAe]; exact Or.inr h
  have hS : va_S A s.heap s.heap [] := va_S.rf
  have hP : va_P (dC, dI) vwCl [(ox, .inr (13, [.ref pl, .ref ru, .ref sh, .ref sp, .ref sl, .ref gr, .ref re, .ref pr, .ref ga, .ref rp, .ref bo, .int 0])), (pl, .inr (1, [.int 0, .ref de, .int 0])), (ru, .inr (1, [.int 0, .ref de, .int 0])), (sh, .inr (1, [.int 0, .ref de, .int 0])), (sp, .inl (cP, 6, .inr (.inr (.inr (.inr (fun _ => none)))))), (ga, .inr (5, [.ref gpl, .ref gin, .int (-1), .int 0, .int 112, .int 0])), (bo, .inr (2, [.ref fa, .ref bbe, .ref bdi, .int 0, .int 0])), (fa, .inl (cI, 96, .inl (fun _ => 0))), (oq, .inl (cL, 1, .inr (.inl (fun _ => 0))))] s.heap := hP
  have hD : va_D A [(ox, .inr (13, [.ref pl, .ref ru, .ref sh, .ref sp, .ref sl, .ref gr, .ref re, .ref pr, .ref ga, .ref rp, .ref bo, .int 0])), (pl, .inr (1, [.int 0, .ref de, .int 0])), (ru, .inr (1, [.int 0, .ref de, .int 0])), (sh, .inr (1, [.int 0, .ref de, .int 0])), (sp, .inl (cP, 6, .inr (.inr (.inr (.inr (fun _ => none)))))), (ga, .inr (5, [.ref gpl, .ref gin, .int (-1), .int 0, .int 112, .int 0])), (bo, .inr (2, [.ref fa, .ref bbe, .ref bdi, .int 0, .int 0])), (fa, .inl (cI, 96, .inl (fun _ => 0))), (oq, .inl (cL, 1, .inr (.inl (fun _ => 0))))] := hD
  have hl := lv_entry ([.ref ox, .int a1, .ref oq]) (n := 4) (Nat.le_of_ble_eq_true rfl)
  rw [lg_entry_eq]
  generalize (lg_sl ([.ref ox, .int a1, .ref oq]) ++ List.replicate (4 - (lg_sl ([.ref ox, .int a1, .ref oq])).length) Slot.unset).toArray = ls at hl ⊢
  have hl : lv_has ls 4 [(0, .ref ox), (1, .int a1), (2, .ref oq)] := hl
  refine lv_aload_n hx hb dL_isPatched_0 rfl (lv_at hl 2 rfl) ?_
  refine lv_iconst (v := 0) hx hb dL_isPatched_1 (by decide) ?_
  refine lv_aload_n hx hb dL_isPatched_2 rfl (lv_at hl 0 rfl) ?_
  refine lv_iload_n hx hb dL_isPatched_3 rfl (lv_at hl 1 rfl) ?_
  have hPc := hP.sub (ws' := [(ox, .inr (13, [.ref pl, .ref ru, .ref sh, .ref sp, .ref sl, .ref gr, .ref re, .ref pr, .ref ga, .ref rp, .ref bo, .int 0])), (pl, .inr (1, [.int 0, .ref de, .int 0])), (ru, .inr (1, [.int 0, .ref de, .int 0])), (sh, .inr (1, [.int 0, .ref de, .int 0])), (sp, .inl (cP, 6, .inr (.inr (.inr (.inr (fun _ => none)))))), (ga, .inr (5, [.ref gpl, .ref gin, .int (-1), .int 0, .int 112, .int 0])), (bo, .inr (2, [.ref fa, .ref bbe, .ref bdi, .int 0, .int 0])), (fa, .inl (cI, 96, .inl (fun _ => 0)))]) [0, 1, 2, 3, 4, 5, 6, 7] rfl
  have hDc := hD.sub (ws' := [(ox, .inr (13, [.ref pl, .ref ru, .ref sh, .ref sp, .ref sl, .ref gr, .ref re, .ref pr, .ref ga, .ref rp, .ref bo, .int 0])), (pl, .inr (1, [.int 0, .ref de, .int 0])), (ru, .inr (1, [.int 0, .ref de, .int 0])), (sh, .inr (1, [.int 0, .ref de, .int 0])), (sp, .inl (cP, 6, .inr (.inr (.inr (.inr (fun _ => none)))))), (ga, .inr (5, [.ref gpl, .ref gin, .int (-1), .int 0, .int 112, .int 0])), (bo, .inr (2, [.ref fa, .ref bbe, .ref bdi, .int 0, .int 0])), (fa, .inl (cI, 96, .inl (fun _ => 0)))]) [0, 1, 2, 3, 4, 5, 6, 7] (by decide) rfl
  have hKc := hK.sub (tys' := [(cP, .object "Levelsmith$Player"), (cI, .int)]) [0, 1] rfl
  have hFc := va_free (wc := [(ox, .inr (13, [.ref pl, .ref ru, .ref sh, .ref sp, .ref sl, .ref gr, .ref re, .ref pr, .ref ga, .ref rp, .ref bo, .int 0])), (pl, .inr (1, [.int 0, .ref de, .int 0])), (ru, .inr (1, [.int 0, .ref de, .int 0])), (sh, .inr (1, [.int 0, .ref de, .int 0])), (sp, .inl (cP, 6, .inr (.inr (.inr (.inr (fun _ => none)))))), (ga, .inr (5, [.ref gpl, .ref gin, .int (-1), .int 0, .int 112, .int 0])), (bo, .inr (2, [.ref fa, .ref bbe, .ref bdi, .int 0, .int 0])), (fa, .inl (cI, 96, .inl (fun _ => 0)))]) hD hS hA [0, 1, 2, 3, 4, 5, 6, 7] rfl
  refine vx_calli (vx_runV (As := [.int a1]) (rest := [.int 0, .ref oq]) ⟨hx, hb, hml, hown, ht⟩ (c_X11_isPatched l hlt dC dI de (ox) (pl) (ru) (sh) (sp) (sl) (gr) (re) (pr) (ga) (rp) (bo) (fa) (gpl) (gin) (bbe) (bdi) (cP) (cI) (a1) s.heap.size) (cwV 1 ht (gWV (wr_61 _ (List.mem_of_getElem? (i := 18) rfl)) (wr_61 _ (List.mem_of_getElem? (i := 19) rfl)) (wr_61 _ (List.mem_of_getElem? (i := 20) rfl)) (wr_1 _ (List.mem_of_getElem? (i := 2) rfl)) (wr_61 _ (List.mem_of_getElem? (i := 21) rfl))) rfl rfl rfl (by decide +kernel) ⟨Nat.le_of_ble_eq_true rfl, Nat.le_of_ble_eq_true rfl⟩) ⟨PW_blind, va_recv hKc hPc (ci := 13) (q0 := 0) rfl rfl, PW_call hPc hDc hKc hS hG hFc⟩ rfl rfl hl.1 rfl (lv_room (Nat.le_of_ble_eq_true rfl)) dL_isPatched_4 ⟨Nat.le_of_ble_eq_true rfl, Nat.le_of_ble_eq_true rfl⟩) hS (fun q _ h => hFc q h) hFc (fun q _ h => hFc q h) (fun E ce q9 u t H1 locs1 ht9 hvm9 _ hR9 hz9 hk9 hS9 hc9 hv9 hcl9 => ?_) (fun r_4 u t H1 locs ht9 hvm hw hB hz1 hk1 hS => False.elim hw)
  obtain ⟨hP, hD⟩ := va_join (wr := [(oq, .inl (cL, 1, .inr (.inl (fun _ => 0))))]) (w1 := []) hP hD [0, 1, 2, 3, 4, 5, 6, 7] [8] rfl rfl (by decide) (by decide) hk9 hFc (va_P_nil (dC, dI) vwCl H1) (va_D_nil _)
  have hK := hK.sub (tys' := [(cL, .long)]) [2] rfl
  have hS := hS9
  obtain rfl := hR9
  refine vx_catch (own := RL) (name := "java/lang/IndexOutOfBoundsException") hown [] ⟨0, 16, 19, 21⟩ [] htab (fun z hz => nomatch hz) (by decide) (by decide) (ht _ (wr_18 _ (List.mem_of_getElem? (i := 12) rfl))) (va_Nw.use rfl (hG.2.2.2.1 _ (List.mem_of_getElem? (i := 0) rfl))) hc9 hv9 hcl9 ?_
  refine lv_astore_n (lv' := [(3, .ref q9), (0, .ref ox), (1, .int a1), (2, .ref oq)]) hx hb dL_isPatched_19 rfl hl (by decide) rfl (fun ls hl => ?_)
  refine lv_iconst (v := 1) hx hb dL_isPatched_20 (by decide) ?_
  have hP9 := hP.sub (ws' := []) [] rfl
  have hD9 := hD.sub (ws' := []) [] (by decide) rfl
  have hK9 := hK.sub (tys' := []) [] rfl
  exact vx_ret (W.iret (v := 1) hx hb hr (fun t htt hW => have ht := htt; ⟨⟨1, (), rfl, rfl, QW_of ht hW hP9 hK9 hD9⟩, hS.F ht⟩) hS.2.2 dL_isPatched_21)
set_option maxHeartbeats 4000000 in
set_option maxRecDepth 100000 in
theorem c_L_ghost (l : Launch) (hlt : l.stackTraces = false) (dC : Nat → ClassId) (dI : Nat → Nat → Nat) (de : Nat) (ox : Nat) (pl : Nat) (ru : Nat) (sh : Nat) (sp : Nat) (sl : Nat) (gr : Nat) (re : Nat) (pr : Nat) (ga : Nat) (rp : Nat) (bo : Nat) (fa : Nat) (gpl : Nat) (gin : Nat) (bbe : Nat) (bdi : Nat) (cP : ClassId) (cI : ClassId) (oq : Nat) (cL : ClassId) (a1 : Int32) (a2 : Int32) (a3 : Int32) (sz : Nat) : vx_Met l yL_ghost (.codeWith yL_ghost cL_ghost 6 (some .int) [(0, 12, 15, 21), (0, 12, 19, 13), (0, 12, 23, 57)] :: wsL_law) { frames := 8, cells := 1, slots := 6, locals := 135 } (va_Pc [.ref ox, .int a1, .int a2, .int a3, .ref oq] (PW dC dI de [(cP, .object "Levelsmith$Player"), (cI, .int), (cL, .long)] (WXJ ox pl ru sh sp sl gr re pr ga rp bo fa gpl gin bbe bdi oq cP cI cL de) sz)) (va_Qi (fun (r : Int32) (u : Unit) => r = 1) (fun (_ : Unit) (t : State) => QW dC dI [] [] (va_A (WXJ ox pl ru sh sp sl gr re pr ga rp bo fa gpl gin bbe bdi oq cP cI cL de) sz) t) (va_A (WXJ ox pl ru sh sp sl gr re pr ga rp bo fa gpl gin bbe bdi oq cP cI cL de) sz)) (XX (fun E => False) (va_A (WXJ ox pl ru sh sp sl gr re pr ga rp bo fa gpl gin bbe bdi oq cP cI cL de) sz)) 1 6 (va_A (WXJ ox pl ru sh sp sl gr re pr ga rp bo fa gpl gin bbe bdi oq cP cI cL de) sz) := by
  refine vx_ofWH (cc := cL_ghost) (maxL := 6) (ret := (some .int)) (by decide) rfl ?_
  intro p e s m args below meth c s₁ B hml hv
  obtain ⟨rfl, hsz, hP, hK, hD0, hG⟩ := hv
  have hx := B.exec
  have hb := B.bytes
  have hr := B.returns
  have hts := atoms_spec (ws := .codeWith yL_ghost cL_ghost 6 (some .int) [(0, 12, 15, 21), (0, 12, 19, 13), (0, 12, 23, 57)] :: wsL_law) B.pre
  have ht : ∀ w ∈ wsL_law, w.before _ s = true := fun w h => hts w (List.mem_cons_of_mem _ h)
  have hown : s.vm.findClass RL = some m.cls := findClass_of_methodNamed B.named
  have hlocks := B.notSynchronized
  have htab : c.exceptionTable.toList = tableOf [(0, 12, 15, 21), (0, 12, 19, 13), (0, 12, 23, 57)] := vx_table (x := yL_ghost) B (hts _ List.mem_cons_self)
  subst hsz
  have hD := hD0.self (sz := s.heap.size)
  generalize hAe : va_A (WXJ ox pl ru sh sp sl gr re pr ga rp bo fa gpl gin bbe bdi oq cP cI cL de) s.heap.size = A at hD hG ⊢
  have hA : ∀ q : Nat, s.heap.size ≤ q → A q := fun q h => by rw [← hAe]; exact Or.inr h
  have hS : va_S A s.heap s.heap [] := va_S.rf
  have hP : va_P (dC, dI) vwCl [(ox, .inr (13, [.ref pl, .ref ru, .ref sh, .ref sp, .ref sl, .ref gr, .ref re, .ref pr, .ref ga, .ref rp, .ref bo, .int 0])), (pl, .inr (1, [.int 0, .ref de, .int 0])), (ru, .inr (1, [.int 0, .ref de, .int 0])), (sh, .inr (1, [.int 0, .ref de, .int 0])), (sp, .inl (cP, 6, .inr (.inr (.inr (.inr (fun _ => none)))))), (ga, .inr (5, [.ref gpl, .ref gin, .int (-1), .int 0, .int 112, .int 0])), (bo, .inr (2, [.ref fa, .ref bbe, .ref bdi, .int 0, .int 0])), (fa, .inl (cI, 96, .inl (fun _ => 0))), (oq, .inl (cL, 1, .inr (.inl (fun _ => 0))))] s.heap := hP
  have hD : va_D A [(ox, .inr (13, [.ref pl, .ref ru, .ref sh, .ref sp, .ref sl, .ref gr, .ref re, .ref pr, .ref ga, .ref rp, .ref bo, .int 0])), (pl, .inr (1, [.int 0, .ref de, .int 0])), (ru, .inr (1, [.int 0, .ref de, .int 0])), (sh, .inr (1, [.int 0, .ref de, .int 0])), (sp, .inl (cP, 6, .inr (.inr (.inr (.inr (fun _ => none)))))), (ga, .inr (5, [.ref gpl, .ref gin, .int (-1), .int 0, .int 112, .int 0])), (bo, .inr (2, [.ref fa, .ref bbe, .ref bdi, .int 0, .int 0])), (fa, .inl (cI, 96, .inl (fun _ => 0))), (oq, .inl (cL, 1, .inr (.inl (fun _ => 0))))] := hD
  have hl := lv_entry ([.ref ox, .int a1, .int a2, .int a3, .ref oq]) (n := 6) (Nat.le_of_ble_eq_true rfl)
  rw [lg_entry_eq]
  generalize (lg_sl ([.ref ox, .int a1, .int a2, .int a3, .ref oq]) ++ List.replicate (6 - (lg_sl ([.ref ox, .int a1, .int a2, .int a3, .ref oq])).length) Slot.unset).toArray = ls at hl ⊢
  have hl : lv_has ls 6 [(0, .ref ox), (1, .int a1), (2, .int a2), (3, .int a3), (4, .ref oq)] := hl
  refine lv_aload hx hb dL_ghost_0 (lv_at hl 4 rfl) ?_
  refine lv_iconst (v := 0) hx hb dL_ghost_2 (by decide) ?_
  refine lv_aload_n hx hb dL_ghost_3 rfl (lv_at hl 0 rfl) ?_
  refine lv_iload_n hx hb dL_ghost_4 rfl (lv_at hl 1 rfl) ?_
  refine lv_iload_n hx hb dL_ghost_5 rfl (lv_at hl 2 rfl) ?_
  refine lv_iload_n hx hb dL_ghost_6 rfl (lv_at hl 3 rfl) ?_
  have hPc := hP.sub (ws' := [(ox, .inr (13, [.ref pl, .ref ru, .ref sh, .ref sp, .ref sl, .ref gr, .ref re, .ref pr, .ref ga, .ref rp, .ref bo, .int 0])), (pl, .inr (1, [.int 0, .ref de, .int 0])), (ru, .inr (1, [.int 0, .ref de, .int 0])), (sh, .inr (1, [.int 0, .ref de, .int 0])), (sp, .inl (cP, 6, .inr (.inr (.inr (.inr (fun _ => none)))))), (ga, .inr (5, [.ref gpl, .ref gin, .int (-1), .int 0, .int 112, .int 0])), (bo, .inr (2, [.ref fa, .ref bbe, .ref bdi, .int 0, .int 0])), (fa, .inl (cI, 96, .inl (fun _ => 0)))]) [0, 1, 2, 3, 4, 5, 6, 7] rfl
  have hDc := hD.sub (ws' := [(ox, .inr (13, [.ref pl, .ref ru, .ref sh, .ref sp, .ref sl, .ref gr, .ref re, .ref pr, .ref ga, .ref rp, .ref bo, .int 0])), (pl, .inr (1, [.int 0, .ref de, .int 0])), (ru, .inr (1, [.int 0, .ref de, .int 0])), (sh, .inr (1, [.int 0, .ref de, .int 0])), (sp, .inl (cP, 6, .inr (.inr (.inr (.inr (fun _ => none)))))), (ga, .inr (5, [.ref gpl, .ref gin, .int (-1), .int 0, .int 112, .int 0])), (bo, .inr (2, [.ref fa, .ref bbe, .ref bdi, .int 0, .int 0])), (fa, .inl (cI, 96, .inl (fun _ => 0)))]) [0, 1, 2, 3, 4, 5, 6, 7] (by decide) rfl
  have hKc := hK.sub (tys' := [(cP, .object "Levelsmith$Player"), (cI, .int)]) [0, 1] rfl
  have hFc := va_free (wc := [(ox, .inr (13, [.ref pl, .ref ru, .ref sh, .ref sp, .ref sl, .ref gr, .ref re, .ref pr, .ref ga, .ref rp, .ref bo, .int 0])), (pl, .inr (1, [.int 0, .ref de, .int 0])), (ru, .inr (1, [.int 0, .ref de, .int 0])), (sh, .inr (1, [.int 0, .ref de, .int 0])), (sp, .inl (cP, 6, .inr (.inr (.inr (.inr (fun _ => none)))))), (ga, .inr (5, [.ref gpl, .ref gin, .int (-1), .int 0, .int 112, .int 0])), (bo, .inr (2, [.ref fa, .ref bbe, .ref bdi, .int 0, .int 0])), (fa, .inl (cI, 96, .inl (fun _ => 0)))]) hD hS hA [0, 1, 2, 3, 4, 5, 6, 7] rfl
  refine vx_calli (vx_runV (As := [.int a1, .int a2, .int a3]) (rest := [.int 0, .ref oq]) ⟨hx, hb, hml, hown, ht⟩ (c_X11_ghost l hlt dC dI de (ox) (pl) (ru) (sh) (sp) (sl) (gr) (re) (pr) (ga) (rp) (bo) (fa) (gpl) (gin) (bbe) (bdi) (cP) (cI) (a1) (a2) (a3) s.heap.size) (cwV 3 ht (gWV (wr_62 _ (List.mem_of_getElem? (i := 5) rfl)) (wr_62 _ (List.mem_of_getElem? (i := 6) rfl)) (wr_62 _ (List.mem_of_getElem? (i := 7) rfl)) (wr_1 _ (List.mem_of_getElem? (i := 2) rfl)) (wr_62 _ (List.mem_of_getElem? (i := 8) rfl))) rfl rfl rfl (by decide +kernel) ⟨Nat.le_of_ble_eq_true rfl, Nat.le_of_ble_eq_true rfl⟩) ⟨PW_blind, va_recv hKc hPc (ci := 13) (q0 := 0) rfl rfl, PW_call hPc hDc hKc hS hG hFc⟩ rfl rfl hl.1 rfl (lv_room (Nat.le_of_ble_eq_true rfl)) dL_ghost_7 ⟨Nat.le_of_ble_eq_true rfl, Nat.le_of_ble_eq_true rfl⟩) hS (fun q _ h => hFc q h) hFc (fun q _ h => hFc q h) (fun E ce q9 u t H1 locs1 ht9 hvm9 _ hR9 hz9 hk9 hS9 hc9 hv9 hcl9 => ?_) (fun r_7 u t H1 locs ht9 hvm hw hB hz1 hk1 hS => False.elim hw)
  obtain ⟨hP, hD⟩ := va_join (wr := [(oq, .inl (cL, 1, .inr (.inl (fun _ => 0))))]) (w1 := []) hP hD [0, 1, 2, 3, 4, 5, 6, 7] [8] rfl rfl (by decide) (by decide) hk9 hFc (va_P_nil (dC, dI) vwCl H1) (va_D_nil _)
  have hK := hK.sub (tys' := [(cL, .long)]) [2] rfl
  have hS := hS9
  obtain rfl := hR9
  refine vx_catch (own := RL) (name := "java/lang/IndexOutOfBoundsException") hown [] ⟨0, 12, 15, 21⟩ [⟨0, 12, 19, 13⟩, ⟨0, 12, 23, 57⟩] htab (fun z hz => nomatch hz) (by decide) (by decide) (ht _ (wr_18 _ (List.mem_of_getElem? (i := 12) rfl))) (va_Nw.use rfl (hG.2.2.2.1 _ (List.mem_of_getElem? (i := 0) rfl))) hc9 hv9 hcl9 ?_
  refine lv_astore (lv' := [(5, .ref q9), (0, .ref ox), (1, .int a1), (2, .int a2), (3, .int a3), (4, .ref oq)]) hx hb dL_ghost_15 hl (by decide) rfl (fun ls hl => ?_)
  refine lv_iconst (v := 1) hx hb dL_ghost_17 (by decide) ?_
  have hP9 := hP.sub (ws' := []) [] rfl
  have hD9 := hD.sub (ws' := []) [] (by decide) rfl
  have hK9 := hK.sub (tys' := []) [] rfl
  exact vx_ret (W.iret (v := 1) hx hb hr (fun t htt hW => have ht := htt; ⟨⟨1, (), rfl, rfl, QW_of ht hW hP9 hK9 hD9⟩, hS.F ht⟩) hS.2.2 dL_ghost_18)
set_option maxHeartbeats 4000000 in
set_option maxRecDepth 100000 in
theorem c_L_bot (l : Launch) (hlt : l.stackTraces = false) (dC : Nat → ClassId) (dI : Nat → Nat → Nat) (de : Nat) (ox : Nat) (pl : Nat) (ru : Nat) (sh : Nat) (sp : Nat) (sl : Nat) (gr : Nat) (re : Nat) (pr : Nat) (ga : Nat) (rp : Nat) (bo : Nat) (fa : Nat) (gpl : Nat) (gin : Nat) (bbe : Nat) (bdi : Nat) (cP : ClassId) (cI : ClassId) (oq : Nat) (cL : ClassId) (a1 : Int32) (a2 : Int32) (a3 : Int32) (a4 : Int32) (a5 : Int32) (sz : Nat) : vx_Met l yL_bot (.codeWith yL_bot cL_bot 8 (some .int) [(0, 16, 19, 21), (0, 16, 23, 13), (0, 16, 27, 57)] :: wsL_law) { frames := 8, cells := 1, slots := 6, locals := 139 } (va_Pc [.ref ox, .int a1, .int a2, .int a3, .int a4, .int a5, .ref oq] (PW dC dI de [(cP, .object "Levelsmith$Player"), (cI, .int), (cL, .long)] (WXJ ox pl ru sh sp sl gr re pr ga rp bo fa gpl gin bbe bdi oq cP cI cL de) sz)) (va_Qi (fun (r : Int32) (u : Unit) => r = 1) (fun (_ : Unit) (t : State) => QW dC dI [] [] (va_A (WXJ ox pl ru sh sp sl gr re pr ga rp bo fa gpl gin bbe bdi oq cP cI cL de) sz) t) (va_A (WXJ ox pl ru sh sp sl gr re pr ga rp bo fa gpl gin bbe bdi oq cP cI cL de) sz)) (XX (fun E => False) (va_A (WXJ ox pl ru sh sp sl gr re pr ga rp bo fa gpl gin bbe bdi oq cP cI cL de) sz)) 1 6 (va_A (WXJ ox pl ru sh sp sl gr re pr ga rp bo fa gpl gin bbe bdi oq cP cI cL de) sz) := by
  refine vx_ofWH (cc := cL_bot) (maxL := 8) (ret := (some .int)) (by decide) rfl ?_
  intro p e s m args below meth c s₁ B hml hv
  obtain ⟨rfl, hsz, hP, hK, hD0, hG⟩ := hv
  have hx := B.exec
  have hb := B.bytes
  have hr := B.returns
  have hts := atoms_spec (ws := .codeWith yL_bot cL_bot 8 (some .int) [(0, 16, 19, 21), (0, 16, 23, 13), (0, 16, 27, 57)] :: wsL_law) B.pre
  have ht : ∀ w ∈ wsL_law, w.before _ s = true := fun w h => hts w (List.mem_cons_of_mem _ h)
  have hown : s.vm.findClass RL = some m.cls := findClass_of_methodNamed B.named
  have hlocks := B.notSynchronized
  have htab : c.exceptionTable.toList = tableOf [(0, 16, 19, 21), (0, 16, 23, 13), (0, 16, 27, 57)] := vx_table (x := yL_bot) B (hts _ List.mem_cons_self)
  subst hsz
  have hD := hD0.self (sz := s.heap.size)
  generalize hAe : va_A (WXJ ox pl ru sh sp sl gr re pr ga rp bo fa gpl gin bbe bdi oq cP cI cL de) s.heap.size = A at hD hG ⊢
  have hA : ∀ q : Nat, s.heap.size ≤ q → A q := fun q h => by rw [← hAe]; exact Or.inr h
  have hS : va_S A s.heap s.heap [] := va_S.rf
  have hP : va_P (dC, dI) vwCl [(ox, .inr (13, [.ref pl, .ref ru, .ref sh, .ref sp, .ref sl, .ref gr, .ref re, .ref pr, .ref ga, .ref rp, .ref bo, .int 0])), (pl, .inr (1, [.int 0, .ref de, .int 0])), (ru, .inr (1, [.int 0, .ref de, .int 0])), (sh, .inr (1, [.int 0, .ref de, .int 0])), (sp, .inl (cP, 6, .inr (.inr (.inr (.inr (fun _ => none)))))), (ga, .inr (5, [.ref gpl, .ref gin, .int (-1), .int 0, .int 112, .int 0])), (bo, .inr (2, [.ref fa, .ref bbe, .ref bdi, .int 0, .int 0])), (fa, .inl (cI, 96, .inl (fun _ => 0))), (oq, .inl (cL, 1, .inr (.inl (fun _ => 0))))] s.heap := hP
  have hD : va_D A [(ox, .inr (13, [.ref pl, .ref ru, .ref sh, .ref sp, .ref sl, .ref gr, .ref re, .ref pr, .ref ga, .ref rp, .ref bo, .int 0])), (pl, .inr (1, [.int 0, .ref de, .int 0])), (ru, .inr (1, [.int 0, .ref de, .int 0])), (sh, .inr (1, [.int 0, .ref de, .int 0])), (sp, .inl (cP, 6, .inr (.inr (.inr (.inr (fun _ => none)))))), (ga, .inr (5, [.ref gpl, .ref gin, .int (-1), .int 0, .int 112, .int 0])), (bo, .inr (2, [.ref fa, .ref bbe, .ref bdi, .int 0, .int 0])), (fa, .inl (cI, 96, .inl (fun _ => 0))), (oq, .inl (cL, 1, .inr (.inl (fun _ => 0))))] := hD
  have hl := lv_entry ([.ref ox, .int a1, .int a2, .int a3, .int a4, .int a5, .ref oq]) (n := 8) (Nat.le_of_ble_eq_true rfl)
  rw [lg_entry_eq]
  generalize (lg_sl ([.ref ox, .int a1, .int a2, .int a3, .int a4, .int a5, .ref oq]) ++ List.replicate (8 - (lg_sl ([.ref ox, .int a1, .int a2, .int a3, .int a4, .int a5, .ref oq])).length) Slot.unset).toArray = ls at hl ⊢
  have hl : lv_has ls 8 [(0, .ref ox), (1, .int a1), (2, .int a2), (3, .int a3), (4, .int a4), (5, .int a5), (6, .ref oq)] := hl
  refine lv_aload hx hb dL_bot_0 (lv_at hl 6 rfl) ?_
  refine lv_iconst (v := 0) hx hb dL_bot_2 (by decide) ?_
  refine lv_aload_n hx hb dL_bot_3 rfl (lv_at hl 0 rfl) ?_
  refine lv_iload_n hx hb dL_bot_4 rfl (lv_at hl 1 rfl) ?_
  refine lv_iload_n hx hb dL_bot_5 rfl (lv_at hl 2 rfl) ?_
  refine lv_iload_n hx hb dL_bot_6 rfl (lv_at hl 3 rfl) ?_
  refine lv_iload hx hb dL_bot_7 (lv_at hl 4 rfl) ?_
  refine lv_iload hx hb dL_bot_9 (lv_at hl 5 rfl) ?_
  have hPc := hP.sub (ws' := [(ox, .inr (13, [.ref pl, .ref ru, .ref sh, .ref sp, .ref sl, .ref gr, .ref re, .ref pr, .ref ga, .ref rp, .ref bo, .int 0])), (pl, .inr (1, [.int 0, .ref de, .int 0])), (ru, .inr (1, [.int 0, .ref de, .int 0])), (sh, .inr (1, [.int 0, .ref de, .int 0])), (sp, .inl (cP, 6, .inr (.inr (.inr (.inr (fun _ => none)))))), (ga, .inr (5, [.ref gpl, .ref gin, .int (-1), .int 0, .int 112, .int 0])), (bo, .inr (2, [.ref fa, .ref bbe, .ref bdi, .int 0, .int 0])), (fa, .inl (cI, 96, .inl (fun _ => 0)))]) [0, 1, 2, 3, 4, 5, 6, 7] rfl
  have hDc := hD.sub (ws' := [(ox, .inr (13, [.ref pl, .ref ru, .ref sh, .ref sp, .ref sl, .ref gr, .ref re, .ref pr, .ref ga, .ref rp, .ref bo, .int 0])), (pl, .inr (1, [.int 0, .ref de, .int 0])), (ru, .inr (1, [.int 0, .ref de, .int 0])), (sh, .inr (1, [.int 0, .ref de, .int 0])), (sp, .inl (cP, 6, .inr (.inr (.inr (.inr (fun _ => none)))))), (ga, .inr (5, [.ref gpl, .ref gin, .int (-1), .int 0, .int 112, .int 0])), (bo, .inr (2, [.ref fa, .ref bbe, .ref bdi, .int 0, .int 0])), (fa, .inl (cI, 96, .inl (fun _ => 0)))]) [0, 1, 2, 3, 4, 5, 6, 7] (by decide) rfl
  have hKc := hK.sub (tys' := [(cP, .object "Levelsmith$Player"), (cI, .int)]) [0, 1] rfl
  have hFc := va_free (wc := [(ox, .inr (13, [.ref pl, .ref ru, .ref sh, .ref sp, .ref sl, .ref gr, .ref re, .ref pr, .ref ga, .ref rp, .ref bo, .int 0])), (pl, .inr (1, [.int 0, .ref de, .int 0])), (ru, .inr (1, [.int 0, .ref de, .int 0])), (sh, .inr (1, [.int 0, .ref de, .int 0])), (sp, .inl (cP, 6, .inr (.inr (.inr (.inr (fun _ => none)))))), (ga, .inr (5, [.ref gpl, .ref gin, .int (-1), .int 0, .int 112, .int 0])), (bo, .inr (2, [.ref fa, .ref bbe, .ref bdi, .int 0, .int 0])), (fa, .inl (cI, 96, .inl (fun _ => 0)))]) hD hS hA [0, 1, 2, 3, 4, 5, 6, 7] rfl
  refine vx_calli (vx_runV (As := [.int a1, .int a2, .int a3, .int a4, .int a5]) (rest := [.int 0, .ref oq]) ⟨hx, hb, hml, hown, ht⟩ (c_X11_bot l hlt dC dI de (ox) (pl) (ru) (sh) (sp) (sl) (gr) (re) (pr) (ga) (rp) (bo) (fa) (gpl) (gin) (bbe) (bdi) (cP) (cI) (a1) (a2) (a3) (a4) (a5) s.heap.size) (cwV 5 ht (gWV (wr_62 _ (List.mem_of_getElem? (i := 16) rfl)) (wr_62 _ (List.mem_of_getElem? (i := 17) rfl)) (wr_62 _ (List.mem_of_getElem? (i := 18) rfl)) (wr_1 _ (List.mem_of_getElem? (i := 2) rfl)) (wr_62 _ (List.mem_of_getElem? (i := 19) rfl))) rfl rfl rfl (by decide +kernel) ⟨Nat.le_of_ble_eq_true rfl, Nat.le_of_ble_eq_true rfl⟩) ⟨PW_blind, va_recv hKc hPc (ci := 13) (q0 := 0) rfl rfl, PW_call hPc hDc hKc hS hG hFc⟩ rfl rfl hl.1 rfl (lv_room (Nat.le_of_ble_eq_true rfl)) dL_bot_11 ⟨Nat.le_of_ble_eq_true rfl, Nat.le_of_ble_eq_true rfl⟩) hS (fun q _ h => hFc q h) hFc (fun q _ h => hFc q h) (fun E ce q9 u t H1 locs1 ht9 hvm9 _ hR9 hz9 hk9 hS9 hc9 hv9 hcl9 => ?_) (fun r_11 u t H1 locs ht9 hvm hw hB hz1 hk1 hS => False.elim hw)
  obtain ⟨hP, hD⟩ := va_join (wr := [(oq, .inl (cL, 1, .inr (.inl (fun _ => 0))))]) (w1 := []) hP hD [0, 1, 2, 3, 4, 5, 6, 7] [8] rfl rfl (by decide) (by decide) hk9 hFc (va_P_nil (dC, dI) vwCl H1) (va_D_nil _)
  have hK := hK.sub (tys' := [(cL, .long)]) [2] rfl
  have hS := hS9
  obtain rfl := hR9
  refine vx_catch (own := RL) (name := "java/lang/IndexOutOfBoundsException") hown [] ⟨0, 16, 19, 21⟩ [⟨0, 16, 23, 13⟩, ⟨0, 16, 27, 57⟩] htab (fun z hz => nomatch hz) (by decide) (by decide) (ht _ (wr_18 _ (List.mem_of_getElem? (i := 12) rfl))) (va_Nw.use rfl (hG.2.2.2.1 _ (List.mem_of_getElem? (i := 0) rfl))) hc9 hv9 hcl9 ?_
  refine lv_astore (lv' := [(7, .ref q9), (0, .ref ox), (1, .int a1), (2, .int a2), (3, .int a3), (4, .int a4), (5, .int a5), (6, .ref oq)]) hx hb dL_bot_19 hl (by decide) rfl (fun ls hl => ?_)
  refine lv_iconst (v := 1) hx hb dL_bot_21 (by decide) ?_
  have hP9 := hP.sub (ws' := []) [] rfl
  have hD9 := hD.sub (ws' := []) [] (by decide) rfl
  have hK9 := hK.sub (tys' := []) [] rfl
  exact vx_ret (W.iret (v := 1) hx hb hr (fun t htt hW => have ht := htt; ⟨⟨1, (), rfl, rfl, QW_of ht hW hP9 hK9 hD9⟩, hS.F ht⟩) hS.2.2 dL_bot_22)
set_option maxHeartbeats 4000000 in
set_option maxRecDepth 100000 in
theorem c_L_publish (l : Launch) (hlt : l.stackTraces = false) (dC : Nat → ClassId) (dI : Nat → Nat → Nat) (de : Nat) (ox : Nat) (pl : Nat) (ru : Nat) (sh : Nat) (sp : Nat) (sl : Nat) (gr : Nat) (re : Nat) (pr : Nat) (ga : Nat) (rp : Nat) (bo : Nat) (fa : Nat) (gpl : Nat) (gin : Nat) (bbe : Nat) (bdi : Nat) (cP : ClassId) (cI : ClassId) (oq : Nat) (cL : ClassId) (a1 : Int32) (a2 : Int32) (a3 : Int32) (sz : Nat) : vx_Met l yL_publish (.codeWith yL_publish cL_publish 6 (some .int) [(0, 12, 15, 21), (0, 12, 19, 13), (0, 12, 23, 88)] :: wsL_law) { frames := 8, cells := 1, slots := 6, locals := 136 } (va_Pc [.ref ox, .int a1, .int a2, .int a3, .ref oq] (PW dC dI de [(cP, .object "Levelsmith$Player"), (cI, .int), (cL, .long)] (WXJ ox pl ru sh sp sl gr re pr ga rp bo fa gpl gin bbe bdi oq cP cI cL de) sz)) (va_Qi (fun (r : Int32) (u : Unit) => r = 1) (fun (_ : Unit) (t : State) => QW dC dI [] [] (va_A (WXJ ox pl ru sh sp sl gr re pr ga rp bo fa gpl gin bbe bdi oq cP cI cL de) sz) t) (va_A (WXJ ox pl ru sh sp sl gr re pr ga rp bo fa gpl gin bbe bdi oq cP cI cL de) sz)) (XX (fun E => False) (va_A (WXJ ox pl ru sh sp sl gr re pr ga rp bo fa gpl gin bbe bdi oq cP cI cL de) sz)) 1 6 (va_A (WXJ ox pl ru sh sp sl gr re pr ga rp bo fa gpl gin bbe bdi oq cP cI cL de) sz) := by
  refine vx_ofWH (cc := cL_publish) (maxL := 6) (ret := (some .int)) (by decide) rfl ?_
  intro p e s m args below meth c s₁ B hml hv
  obtain ⟨rfl, hsz, hP, hK, hD0, hG⟩ := hv
  have hx := B.exec
  have hb := B.bytes
  have hr := B.returns
  have hts := atoms_spec (ws := .codeWith yL_publish cL_publish 6 (some .int) [(0, 12, 15, 21), (0, 12, 19, 13), (0, 12, 23, 88)] :: wsL_law) B.pre
  have ht : ∀ w ∈ wsL_law, w.before _ s = true := fun w h => hts w (List.mem_cons_of_mem _ h)
  have hown : s.vm.findClass RL = some m.cls := findClass_of_methodNamed B.named
  have hlocks := B.notSynchronized
  have htab : c.exceptionTable.toList = tableOf [(0, 12, 15, 21), (0, 12, 19, 13), (0, 12, 23, 88)] := vx_table (x := yL_publish) B (hts _ List.mem_cons_self)
  subst hsz
  have hD := hD0.self (sz := s.heap.size)
  generalize hAe : va_A (WXJ ox pl ru sh sp sl gr re pr ga rp bo fa gpl gin bbe bdi oq cP cI cL de) s.heap.size = A at hD hG ⊢
  have hA : ∀ q : Nat, s.heap.size ≤ q → A q := fun q h => by rw [← hAe]; exact Or.inr h
  have hS : va_S A s.heap s.heap [] := va_S.rf
  have hP : va_P (dC, dI) vwCl [(ox, .inr (13, [.ref pl, .ref ru, .ref sh, .ref sp, .ref sl, .ref gr, .ref re, .ref pr, .ref ga, .ref rp, .ref bo, .int 0])), (pl, .inr (1, [.int 0, .ref de, .int 0])), (ru, .inr (1, [.int 0, .ref de, .int 0])), (sh, .inr (1, [.int 0, .ref de, .int 0])), (sp, .inl (cP, 6, .inr (.inr (.inr (.inr (fun _ => none)))))), (ga, .inr (5, [.ref gpl, .ref gin, .int (-1), .int 0, .int 112, .int 0])), (bo, .inr (2, [.ref fa, .ref bbe, .ref bdi, .int 0, .int 0])), (fa, .inl (cI, 96, .inl (fun _ => 0))), (oq, .inl (cL, 1, .inr (.inl (fun _ => 0))))] s.heap := hP
  have hD : va_D A [(ox, .inr (13, [.ref pl, .ref ru, .ref sh, .ref sp, .ref sl, .ref gr, .ref re, .ref pr, .ref ga, .ref rp, .ref bo, .int 0])), (pl, .inr (1, [.int 0, .ref de, .int 0])), (ru, .inr (1, [.int 0, .ref de, .int 0])), (sh, .inr (1, [.int 0, .ref de, .int 0])), (sp, .inl (cP, 6, .inr (.inr (.inr (.inr (fun _ => none)))))), (ga, .inr (5, [.ref gpl, .ref gin, .int (-1), .int 0, .int 112, .int 0])), (bo, .inr (2, [.ref fa, .ref bbe, .ref bdi, .int 0, .int 0])), (fa, .inl (cI, 96, .inl (fun _ => 0))), (oq, .inl (cL, 1, .inr (.inl (fun _ => 0))))] := hD
  have hl := lv_entry ([.ref ox, .int a1, .int a2, .int a3, .ref oq]) (n := 6) (Nat.le_of_ble_eq_true rfl)
  rw [lg_entry_eq]
  generalize (lg_sl ([.ref ox, .int a1, .int a2, .int a3, .ref oq]) ++ List.replicate (6 - (lg_sl ([.ref ox, .int a1, .int a2, .int a3, .ref oq])).length) Slot.unset).toArray = ls at hl ⊢
  have hl : lv_has ls 6 [(0, .ref ox), (1, .int a1), (2, .int a2), (3, .int a3), (4, .ref oq)] := hl
  refine lv_aload hx hb dL_publish_0 (lv_at hl 4 rfl) ?_
  refine lv_iconst (v := 0) hx hb dL_publish_2 (by decide) ?_
  refine lv_aload_n hx hb dL_publish_3 rfl (lv_at hl 0 rfl) ?_
  refine lv_iload_n hx hb dL_publish_4 rfl (lv_at hl 1 rfl) ?_
  refine lv_iload_n hx hb dL_publish_5 rfl (lv_at hl 2 rfl) ?_
  refine lv_iload_n hx hb dL_publish_6 rfl (lv_at hl 3 rfl) ?_
  have hPc := hP.sub (ws' := [(ox, .inr (13, [.ref pl, .ref ru, .ref sh, .ref sp, .ref sl, .ref gr, .ref re, .ref pr, .ref ga, .ref rp, .ref bo, .int 0])), (pl, .inr (1, [.int 0, .ref de, .int 0])), (ru, .inr (1, [.int 0, .ref de, .int 0])), (sh, .inr (1, [.int 0, .ref de, .int 0])), (sp, .inl (cP, 6, .inr (.inr (.inr (.inr (fun _ => none)))))), (ga, .inr (5, [.ref gpl, .ref gin, .int (-1), .int 0, .int 112, .int 0])), (bo, .inr (2, [.ref fa, .ref bbe, .ref bdi, .int 0, .int 0])), (fa, .inl (cI, 96, .inl (fun _ => 0)))]) [0, 1, 2, 3, 4, 5, 6, 7] rfl
  have hDc := hD.sub (ws' := [(ox, .inr (13, [.ref pl, .ref ru, .ref sh, .ref sp, .ref sl, .ref gr, .ref re, .ref pr, .ref ga, .ref rp, .ref bo, .int 0])), (pl, .inr (1, [.int 0, .ref de, .int 0])), (ru, .inr (1, [.int 0, .ref de, .int 0])), (sh, .inr (1, [.int 0, .ref de, .int 0])), (sp, .inl (cP, 6, .inr (.inr (.inr (.inr (fun _ => none)))))), (ga, .inr (5, [.ref gpl, .ref gin, .int (-1), .int 0, .int 112, .int 0])), (bo, .inr (2, [.ref fa, .ref bbe, .ref bdi, .int 0, .int 0])), (fa, .inl (cI, 96, .inl (fun _ => 0)))]) [0, 1, 2, 3, 4, 5, 6, 7] (by decide) rfl
  have hKc := hK.sub (tys' := [(cP, .object "Levelsmith$Player"), (cI, .int)]) [0, 1] rfl
  have hFc := va_free (wc := [(ox, .inr (13, [.ref pl, .ref ru, .ref sh, .ref sp, .ref sl, .ref gr, .ref re, .ref pr, .ref ga, .ref rp, .ref bo, .int 0])), (pl, .inr (1, [.int 0, .ref de, .int 0])), (ru, .inr (1, [.int 0, .ref de, .int 0])), (sh, .inr (1, [.int 0, .ref de, .int 0])), (sp, .inl (cP, 6, .inr (.inr (.inr (.inr (fun _ => none)))))), (ga, .inr (5, [.ref gpl, .ref gin, .int (-1), .int 0, .int 112, .int 0])), (bo, .inr (2, [.ref fa, .ref bbe, .ref bdi, .int 0, .int 0])), (fa, .inl (cI, 96, .inl (fun _ => 0)))]) hD hS hA [0, 1, 2, 3, 4, 5, 6, 7] rfl
  refine vx_calli (vx_runV (As := [.int a1, .int a2, .int a3]) (rest := [.int 0, .ref oq]) ⟨hx, hb, hml, hown, ht⟩ (c_X11_publish l hlt dC dI de (ox) (pl) (ru) (sh) (sp) (sl) (gr) (re) (pr) (ga) (rp) (bo) (fa) (gpl) (gin) (bbe) (bdi) (cP) (cI) (a1) (a2) (a3) s.heap.size) (cwV 3 ht (gWV (wr_65 _ (List.mem_of_getElem? (i := 13) rfl)) (wr_65 _ (List.mem_of_getElem? (i := 14) rfl)) (wr_65 _ (List.mem_of_getElem? (i := 15) rfl)) (wr_1 _ (List.mem_of_getElem? (i := 2) rfl)) (wr_65 _ (List.mem_of_getElem? (i := 16) rfl))) rfl rfl rfl (by decide +kernel) ⟨Nat.le_of_ble_eq_true rfl, Nat.le_of_ble_eq_true rfl⟩) ⟨PW_blind, va_recv hKc hPc (ci := 13) (q0 := 0) rfl rfl, PW_call hPc hDc hKc hS hG hFc⟩ rfl rfl hl.1 rfl (lv_room (Nat.le_of_ble_eq_true rfl)) dL_publish_7 ⟨Nat.le_of_ble_eq_true rfl, Nat.le_of_ble_eq_true rfl⟩) hS (fun q _ h => hFc q h) hFc (fun q _ h => hFc q h) (fun E ce q9 u t H1 locs1 ht9 hvm9 _ hR9 hz9 hk9 hS9 hc9 hv9 hcl9 => ?_) (fun r_7 u t H1 locs ht9 hvm hw hB hz1 hk1 hS => False.elim hw)
  obtain ⟨hP, hD⟩ := va_join (wr := [(oq, .inl (cL, 1, .inr (.inl (fun _ => 0))))]) (w1 := []) hP hD [0, 1, 2, 3, 4, 5, 6, 7] [8] rfl rfl (by decide) (by decide) hk9 hFc (va_P_nil (dC, dI) vwCl H1) (va_D_nil _)
  have hK := hK.sub (tys' := [(cL, .long)]) [2] rfl
  have hS := hS9
  obtain rfl := hR9
  refine vx_catch (own := RL) (name := "java/lang/IndexOutOfBoundsException") hown [] ⟨0, 12, 15, 21⟩ [⟨0, 12, 19, 13⟩, ⟨0, 12, 23, 88⟩] htab (fun z hz => nomatch hz) (by decide) (by decide) (ht _ (wr_18 _ (List.mem_of_getElem? (i := 12) rfl))) (va_Nw.use rfl (hG.2.2.2.1 _ (List.mem_of_getElem? (i := 0) rfl))) hc9 hv9 hcl9 ?_
  refine lv_astore (lv' := [(5, .ref q9), (0, .ref ox), (1, .int a1), (2, .int a2), (3, .int a3), (4, .ref oq)]) hx hb dL_publish_15 hl (by decide) rfl (fun ls hl => ?_)
  refine lv_iconst (v := 1) hx hb dL_publish_17 (by decide) ?_
  have hP9 := hP.sub (ws' := []) [] rfl
  have hD9 := hD.sub (ws' := []) [] (by decide) rfl
  have hK9 := hK.sub (tys' := []) [] rfl
  exact vx_ret (W.iret (v := 1) hx hb hr (fun t htt hW => have ht := htt; ⟨⟨1, (), rfl, rfl, QW_of ht hW hP9 hK9 hD9⟩, hS.F ht⟩) hS.2.2 dL_publish_18)
set_option maxHeartbeats 4000000 in
set_option maxRecDepth 100000 in
theorem c_L_isStolen (l : Launch) (hlt : l.stackTraces = false) (dC : Nat → ClassId) (dI : Nat → Nat → Nat) (de : Nat) (ox : Nat) (pl : Nat) (ru : Nat) (sh : Nat) (sp : Nat) (sl : Nat) (gr : Nat) (re : Nat) (pr : Nat) (ga : Nat) (rp : Nat) (bo : Nat) (fa : Nat) (gpl : Nat) (gin : Nat) (bbe : Nat) (bdi : Nat) (cP : ClassId) (cI : ClassId) (oq : Nat) (cL : ClassId) (a1 : Int32) (a2 : Int32) (sz : Nat) : vx_Met l yL_isStolen (.codeWith yL_isStolen cL_isStolen 5 (some .int) [(0, 17, 20, 21), (0, 17, 24, 13)] :: wsL_law) { frames := 8, cells := 1, slots := 6, locals := 135 } (va_Pc [.ref ox, .int a1, .int a2, .ref oq] (PW dC dI de [(cP, .object "Levelsmith$Player"), (cI, .int), (cL, .long)] (WXJ ox pl ru sh sp sl gr re pr ga rp bo fa gpl gin bbe bdi oq cP cI cL de) sz)) (va_Qi (fun (r : Int32) (u : Unit) => r = 1) (fun (_ : Unit) (t : State) => QW dC dI [] [] (va_A (WXJ ox pl ru sh sp sl gr re pr ga rp bo fa gpl gin bbe bdi oq cP cI cL de) sz) t) (va_A (WXJ ox pl ru sh sp sl gr re pr ga rp bo fa gpl gin bbe bdi oq cP cI cL de) sz)) (XX (fun E => False) (va_A (WXJ ox pl ru sh sp sl gr re pr ga rp bo fa gpl gin bbe bdi oq cP cI cL de) sz)) 1 6 (va_A (WXJ ox pl ru sh sp sl gr re pr ga rp bo fa gpl gin bbe bdi oq cP cI cL de) sz) := by
  refine vx_ofWH (cc := cL_isStolen) (maxL := 5) (ret := (some .int)) (by decide) rfl ?_
  intro p e s m args below meth c s₁ B hml hv
  obtain ⟨rfl, hsz, hP, hK, hD0, hG⟩ := hv
  have hx := B.exec
  have hb := B.bytes
  have hr := B.returns
  have hts := atoms_spec (ws := .codeWith yL_isStolen cL_isStolen 5 (some .int) [(0, 17, 20, 21), (0, 17, 24, 13)] :: wsL_law) B.pre
  have ht : ∀ w ∈ wsL_law, w.before _ s = true := fun w h => hts w (List.mem_cons_of_mem _ h)
  have hown : s.vm.findClass RL = some m.cls := findClass_of_methodNamed B.named
  have hlocks := B.notSynchronized
  have htab : c.exceptionTable.toList = tableOf [(0, 17, 20, 21), (0, 17, 24, 13)] := vx_table (x := yL_isStolen) B (hts _ List.mem_cons_self)
  subst hsz
  have hD := hD0.self (sz := s.heap.size)
  generalize hAe : va_A (WXJ ox pl ru sh sp sl gr re pr ga rp bo fa gpl gin bbe bdi oq cP cI cL de) s.heap.size = A at hD hG ⊢
  have hA : ∀ q : Nat, s.heap.size ≤ q → A q := fun q h => by rw [← hAe]; exact Or.inr h
  have hS : va_S A s.heap s.heap [] := va_S.rf
  have hP : va_P (dC, dI) vwCl [(ox, .inr (13, [.ref pl, .ref ru, .ref sh, .ref sp, .ref sl, .ref gr, .ref re, .ref pr, .ref ga, .ref rp, .ref bo, .int 0])), (pl, .inr (1, [.int 0, .ref de, .int 0])), (ru, .inr (1, [.int 0, .ref de, .int 0])), (sh, .inr (1, [.int 0, .ref de, .int 0])), (sp, .inl (cP, 6, .inr (.inr (.inr (.inr (fun _ => none)))))), (ga, .inr (5, [.ref gpl, .ref gin, .int (-1), .int 0, .int 112, .int 0])), (bo, .inr (2, [.ref fa, .ref bbe, .ref bdi, .int 0, .int 0])), (fa, .inl (cI, 96, .inl (fun _ => 0))), (oq, .inl (cL, 1, .inr (.inl (fun _ => 0))))] s.heap := hP
  have hD : va_D A [(ox, .inr (13, [.ref pl, .ref ru, .ref sh, .ref sp, .ref sl, .ref gr, .ref re, .ref pr, .ref ga, .ref rp, .ref bo, .int 0])), (pl, .inr (1, [.int 0, .ref de, .int 0])), (ru, .inr (1, [.int 0, .ref de, .int 0])), (sh, .inr (1, [.int 0, .ref de, .int 0])), (sp, .inl (cP, 6, .inr (.inr (.inr (.inr (fun _ => none)))))), (ga, .inr (5, [.ref gpl, .ref gin, .int (-1), .int 0, .int 112, .int 0])), (bo, .inr (2, [.ref fa, .ref bbe, .ref bdi, .int 0, .int 0])), (fa, .inl (cI, 96, .inl (fun _ => 0))), (oq, .inl (cL, 1, .inr (.inl (fun _ => 0))))] := hD
  have hl := lv_entry ([.ref ox, .int a1, .int a2, .ref oq]) (n := 5) (Nat.le_of_ble_eq_true rfl)
  rw [lg_entry_eq]
  generalize (lg_sl ([.ref ox, .int a1, .int a2, .ref oq]) ++ List.replicate (5 - (lg_sl ([.ref ox, .int a1, .int a2, .ref oq])).length) Slot.unset).toArray = ls at hl ⊢
  have hl : lv_has ls 5 [(0, .ref ox), (1, .int a1), (2, .int a2), (3, .ref oq)] := hl
  refine lv_aload_n hx hb dL_isStolen_0 rfl (lv_at hl 3 rfl) ?_
  refine lv_iconst (v := 0) hx hb dL_isStolen_1 (by decide) ?_
  refine lv_aload_n hx hb dL_isStolen_2 rfl (lv_at hl 0 rfl) ?_
  refine lv_iload_n hx hb dL_isStolen_3 rfl (lv_at hl 1 rfl) ?_
  refine lv_iload_n hx hb dL_isStolen_4 rfl (lv_at hl 2 rfl) ?_
  have hPc := hP.sub (ws' := [(ox, .inr (13, [.ref pl, .ref ru, .ref sh, .ref sp, .ref sl, .ref gr, .ref re, .ref pr, .ref ga, .ref rp, .ref bo, .int 0])), (pl, .inr (1, [.int 0, .ref de, .int 0])), (ru, .inr (1, [.int 0, .ref de, .int 0])), (sh, .inr (1, [.int 0, .ref de, .int 0])), (sp, .inl (cP, 6, .inr (.inr (.inr (.inr (fun _ => none)))))), (ga, .inr (5, [.ref gpl, .ref gin, .int (-1), .int 0, .int 112, .int 0])), (bo, .inr (2, [.ref fa, .ref bbe, .ref bdi, .int 0, .int 0])), (fa, .inl (cI, 96, .inl (fun _ => 0)))]) [0, 1, 2, 3, 4, 5, 6, 7] rfl
  have hDc := hD.sub (ws' := [(ox, .inr (13, [.ref pl, .ref ru, .ref sh, .ref sp, .ref sl, .ref gr, .ref re, .ref pr, .ref ga, .ref rp, .ref bo, .int 0])), (pl, .inr (1, [.int 0, .ref de, .int 0])), (ru, .inr (1, [.int 0, .ref de, .int 0])), (sh, .inr (1, [.int 0, .ref de, .int 0])), (sp, .inl (cP, 6, .inr (.inr (.inr (.inr (fun _ => none)))))), (ga, .inr (5, [.ref gpl, .ref gin, .int (-1), .int 0, .int 112, .int 0])), (bo, .inr (2, [.ref fa, .ref bbe, .ref bdi, .int 0, .int 0])), (fa, .inl (cI, 96, .inl (fun _ => 0)))]) [0, 1, 2, 3, 4, 5, 6, 7] (by decide) rfl
  have hKc := hK.sub (tys' := [(cP, .object "Levelsmith$Player"), (cI, .int)]) [0, 1] rfl
  have hFc := va_free (wc := [(ox, .inr (13, [.ref pl, .ref ru, .ref sh, .ref sp, .ref sl, .ref gr, .ref re, .ref pr, .ref ga, .ref rp, .ref bo, .int 0])), (pl, .inr (1, [.int 0, .ref de, .int 0])), (ru, .inr (1, [.int 0, .ref de, .int 0])), (sh, .inr (1, [.int 0, .ref de, .int 0])), (sp, .inl (cP, 6, .inr (.inr (.inr (.inr (fun _ => none)))))), (ga, .inr (5, [.ref gpl, .ref gin, .int (-1), .int 0, .int 112, .int 0])), (bo, .inr (2, [.ref fa, .ref bbe, .ref bdi, .int 0, .int 0])), (fa, .inl (cI, 96, .inl (fun _ => 0)))]) hD hS hA [0, 1, 2, 3, 4, 5, 6, 7] rfl
  refine vx_calli (vx_runV (As := [.int a1, .int a2]) (rest := [.int 0, .ref oq]) ⟨hx, hb, hml, hown, ht⟩ (c_X11_isStolen l hlt dC dI de (ox) (pl) (ru) (sh) (sp) (sl) (gr) (re) (pr) (ga) (rp) (bo) (fa) (gpl) (gin) (bbe) (bdi) (cP) (cI) (a1) (a2) s.heap.size) (cwV 2 ht (gWV (wr_68 _ (List.mem_of_getElem? (i := 21) rfl)) (wr_68 _ (List.mem_of_getElem? (i := 22) rfl)) (wr_68 _ (List.mem_of_getElem? (i := 23) rfl)) (wr_1 _ (List.mem_of_getElem? (i := 2) rfl)) (wr_69 _ (List.mem_of_getElem? (i := 0) rfl))) rfl rfl rfl (by decide +kernel) ⟨Nat.le_of_ble_eq_true rfl, Nat.le_of_ble_eq_true rfl⟩) ⟨PW_blind, va_recv hKc hPc (ci := 13) (q0 := 0) rfl rfl, PW_call hPc hDc hKc hS hG hFc⟩ rfl rfl hl.1 rfl (lv_room (Nat.le_of_ble_eq_true rfl)) dL_isStolen_5 ⟨Nat.le_of_ble_eq_true rfl, Nat.le_of_ble_eq_true rfl⟩) hS (fun q _ h => hFc q h) hFc (fun q _ h => hFc q h) (fun E ce q9 u t H1 locs1 ht9 hvm9 _ hR9 hz9 hk9 hS9 hc9 hv9 hcl9 => ?_) (fun r_5 u t H1 locs ht9 hvm hw hB hz1 hk1 hS => False.elim hw)
  obtain ⟨hP, hD⟩ := va_join (wr := [(oq, .inl (cL, 1, .inr (.inl (fun _ => 0))))]) (w1 := []) hP hD [0, 1, 2, 3, 4, 5, 6, 7] [8] rfl rfl (by decide) (by decide) hk9 hFc (va_P_nil (dC, dI) vwCl H1) (va_D_nil _)
  have hK := hK.sub (tys' := [(cL, .long)]) [2] rfl
  have hS := hS9
  obtain rfl := hR9
  refine vx_catch (own := RL) (name := "java/lang/IndexOutOfBoundsException") hown [] ⟨0, 17, 20, 21⟩ [⟨0, 17, 24, 13⟩] htab (fun z hz => nomatch hz) (by decide) (by decide) (ht _ (wr_18 _ (List.mem_of_getElem? (i := 12) rfl))) (va_Nw.use rfl (hG.2.2.2.1 _ (List.mem_of_getElem? (i := 0) rfl))) hc9 hv9 hcl9 ?_
  refine lv_astore (lv' := [(4, .ref q9), (0, .ref ox), (1, .int a1), (2, .int a2), (3, .ref oq)]) hx hb dL_isStolen_20 hl (by decide) rfl (fun ls hl => ?_)
  refine lv_iconst (v := 1) hx hb dL_isStolen_22 (by decide) ?_
  have hP9 := hP.sub (ws' := []) [] rfl
  have hD9 := hD.sub (ws' := []) [] (by decide) rfl
  have hK9 := hK.sub (tys' := []) [] rfl
  exact vx_ret (W.iret (v := 1) hx hb hr (fun t htt hW => have ht := htt; ⟨⟨1, (), rfl, rfl, QW_of ht hW hP9 hK9 hD9⟩, hS.F ht⟩) hS.2.2 dL_isStolen_23)
set_option maxHeartbeats 4000000 in
set_option maxRecDepth 100000 in
theorem c_L_checksum (l : Launch) (hlt : l.stackTraces = false) (dC : Nat → ClassId) (dI : Nat → Nat → Nat) (de : Nat) (ox : Nat) (pl : Nat) (ru : Nat) (sh : Nat) (sp : Nat) (sl : Nat) (gr : Nat) (re : Nat) (pr : Nat) (ga : Nat) (rp : Nat) (bo : Nat) (fa : Nat) (gpl : Nat) (gin : Nat) (bbe : Nat) (bdi : Nat) (cP : ClassId) (cI : ClassId) (oq : Nat) (cL : ClassId) (a1 : Int32) (sz : Nat) : vx_Met l yL_checksum (.codeWith yL_checksum cL_checksum 4 (some .int) [(0, 8, 11, 21)] :: wsL_law) { frames := 8, cells := 1, slots := 6, locals := 132 } (va_Pc [.ref ox, .int a1, .ref oq] (PW dC dI de [(cP, .object "Levelsmith$Player"), (cI, .int), (cL, .long)] (WXJ ox pl ru sh sp sl gr re pr ga rp bo fa gpl gin bbe bdi oq cP cI cL de) sz)) (va_Qi (fun (r : Int32) (u : Unit) => r = 1) (fun (_ : Unit) (t : State) => QW dC dI [] [] (va_A (WXJ ox pl ru sh sp sl gr re pr ga rp bo fa gpl gin bbe bdi oq cP cI cL de) sz) t) (va_A (WXJ ox pl ru sh sp sl gr re pr ga rp bo fa gpl gin bbe bdi oq cP cI cL de) sz)) (XX (fun E => False) (va_A (WXJ ox pl ru sh sp sl gr re pr ga rp bo fa gpl gin bbe bdi oq cP cI cL de) sz)) 1 6 (va_A (WXJ ox pl ru sh sp sl gr re pr ga rp bo fa gpl gin bbe bdi oq cP cI cL de) sz) := by
  refine vx_ofWH (cc := cL_checksum) (maxL := 4) (ret := (some .int)) (by decide) rfl ?_
  intro p e s m args below meth c s₁ B hml hv
  obtain ⟨rfl, hsz, hP, hK, hD0, hG⟩ := hv
  have hx := B.exec
  have hb := B.bytes
  have hr := B.returns
  have hts := atoms_spec (ws := .codeWith yL_checksum cL_checksum 4 (some .int) [(0, 8, 11, 21)] :: wsL_law) B.pre
  have ht : ∀ w ∈ wsL_law, w.before _ s = true := fun w h => hts w (List.mem_cons_of_mem _ h)
  have hown : s.vm.findClass RL = some m.cls := findClass_of_methodNamed B.named
  have hlocks := B.notSynchronized
  have htab : c.exceptionTable.toList = tableOf [(0, 8, 11, 21)] := vx_table (x := yL_checksum) B (hts _ List.mem_cons_self)
  subst hsz
  have hD := hD0.self (sz := s.heap.size)
  generalize hAe : va_A (WXJ ox pl ru sh sp sl gr re pr ga rp bo fa gpl gin bbe bdi oq cP cI cL de) s.heap.size = A at hD hG ⊢
  have hA : ∀ q : Nat, s.heap.size ≤ q → A q := fun q h => by rw [← hAe]; exact Or.inr h
  have hS : va_S A s.heap s.heap [] := va_S.rf
  have hP : va_P (dC, dI) vwCl [(ox, .inr (13, [.ref pl, .ref ru, .ref sh, .ref sp, .ref sl, .ref gr, .ref re, .ref pr, .ref ga, .ref rp, .ref bo, .int 0])), (pl, .inr (1, [.int 0, .ref de, .int 0])), (ru, .inr (1, [.int 0, .ref de, .int 0])), (sh, .inr (1, [.int 0, .ref de, .int 0])), (sp, .inl (cP, 6, .inr (.inr (.inr (.inr (fun _ => none)))))), (ga, .inr (5, [.ref gpl, .ref gin, .int (-1), .int 0, .int 112, .int 0])), (bo, .inr (2, [.ref fa, .ref bbe, .ref bdi, .int 0, .int 0])), (fa, .inl (cI, 96, .inl (fun _ => 0))), (oq, .inl (cL, 1, .inr (.inl (fun _ => 0))))] s.heap := hP
  have hD : va_D A [(ox, .inr (13, [.ref pl, .ref ru, .ref sh, .ref sp, .ref sl, .ref gr, .ref re, .ref pr, .ref ga, .ref rp, .ref bo, .int 0])), (pl, .inr (1, [.int 0, .ref de, .int 0])), (ru, .inr (1, [.int 0, .ref de, .int 0])), (sh, .inr (1, [.int 0, .ref de, .int 0])), (sp, .inl (cP, 6, .inr (.inr (.inr (.inr (fun _ => none)))))), (ga, .inr (5, [.ref gpl, .ref gin, .int (-1), .int 0, .int 112, .int 0])), (bo, .inr (2, [.ref fa, .ref bbe, .ref bdi, .int 0, .int 0])), (fa, .inl (cI, 96, .inl (fun _ => 0))), (oq, .inl (cL, 1, .inr (.inl (fun _ => 0))))] := hD
  have hl := lv_entry ([.ref ox, .int a1, .ref oq]) (n := 4) (Nat.le_of_ble_eq_true rfl)
  rw [lg_entry_eq]
  generalize (lg_sl ([.ref ox, .int a1, .ref oq]) ++ List.replicate (4 - (lg_sl ([.ref ox, .int a1, .ref oq])).length) Slot.unset).toArray = ls at hl ⊢
  have hl : lv_has ls 4 [(0, .ref ox), (1, .int a1), (2, .ref oq)] := hl
  refine lv_aload_n hx hb dL_checksum_0 rfl (lv_at hl 2 rfl) ?_
  refine lv_iconst (v := 0) hx hb dL_checksum_1 (by decide) ?_
  refine lv_aload_n hx hb dL_checksum_2 rfl (lv_at hl 0 rfl) ?_
  refine lv_iload_n hx hb dL_checksum_3 rfl (lv_at hl 1 rfl) ?_
  have hPc := hP.sub (ws' := [(ox, .inr (13, [.ref pl, .ref ru, .ref sh, .ref sp, .ref sl, .ref gr, .ref re, .ref pr, .ref ga, .ref rp, .ref bo, .int 0])), (pl, .inr (1, [.int 0, .ref de, .int 0])), (ru, .inr (1, [.int 0, .ref de, .int 0])), (sh, .inr (1, [.int 0, .ref de, .int 0])), (sp, .inl (cP, 6, .inr (.inr (.inr (.inr (fun _ => none)))))), (ga, .inr (5, [.ref gpl, .ref gin, .int (-1), .int 0, .int 112, .int 0])), (bo, .inr (2, [.ref fa, .ref bbe, .ref bdi, .int 0, .int 0])), (fa, .inl (cI, 96, .inl (fun _ => 0)))]) [0, 1, 2, 3, 4, 5, 6, 7] rfl
  have hDc := hD.sub (ws' := [(ox, .inr (13, [.ref pl, .ref ru, .ref sh, .ref sp, .ref sl, .ref gr, .ref re, .ref pr, .ref ga, .ref rp, .ref bo, .int 0])), (pl, .inr (1, [.int 0, .ref de, .int 0])), (ru, .inr (1, [.int 0, .ref de, .int 0])), (sh, .inr (1, [.int 0, .ref de, .int 0])), (sp, .inl (cP, 6, .inr (.inr (.inr (.inr (fun _ => none)))))), (ga, .inr (5, [.ref gpl, .ref gin, .int (-1), .int 0, .int 112, .int 0])), (bo, .inr (2, [.ref fa, .ref bbe, .ref bdi, .int 0, .int 0])), (fa, .inl (cI, 96, .inl (fun _ => 0)))]) [0, 1, 2, 3, 4, 5, 6, 7] (by decide) rfl
  have hKc := hK.sub (tys' := [(cP, .object "Levelsmith$Player"), (cI, .int)]) [0, 1] rfl
  have hFc := va_free (wc := [(ox, .inr (13, [.ref pl, .ref ru, .ref sh, .ref sp, .ref sl, .ref gr, .ref re, .ref pr, .ref ga, .ref rp, .ref bo, .int 0])), (pl, .inr (1, [.int 0, .ref de, .int 0])), (ru, .inr (1, [.int 0, .ref de, .int 0])), (sh, .inr (1, [.int 0, .ref de, .int 0])), (sp, .inl (cP, 6, .inr (.inr (.inr (.inr (fun _ => none)))))), (ga, .inr (5, [.ref gpl, .ref gin, .int (-1), .int 0, .int 112, .int 0])), (bo, .inr (2, [.ref fa, .ref bbe, .ref bdi, .int 0, .int 0])), (fa, .inl (cI, 96, .inl (fun _ => 0)))]) hD hS hA [0, 1, 2, 3, 4, 5, 6, 7] rfl
  refine vx_calll (vx_runV (As := [.int a1]) (rest := [.int 0, .ref oq]) ⟨hx, hb, hml, hown, ht⟩ (c_X11_checksum l hlt dC dI de (ox) (pl) (ru) (sh) (sp) (sl) (gr) (re) (pr) (ga) (rp) (bo) (fa) (gpl) (gin) (bbe) (bdi) (cP) (cI) (a1) s.heap.size) (cwV 1 ht (gWV (wr_69 _ (List.mem_of_getElem? (i := 16) rfl)) (wr_69 _ (List.mem_of_getElem? (i := 17) rfl)) (wr_69 _ (List.mem_of_getElem? (i := 18) rfl)) (wr_1 _ (List.mem_of_getElem? (i := 2) rfl)) (wr_69 _ (List.mem_of_getElem? (i := 19) rfl))) rfl rfl rfl (by decide +kernel) ⟨Nat.le_of_ble_eq_true rfl, Nat.le_of_ble_eq_true rfl⟩) ⟨PW_blind, va_recv hKc hPc (ci := 13) (q0 := 0) rfl rfl, PW_call hPc hDc hKc hS hG hFc⟩ rfl rfl hl.1 rfl (lv_room (Nat.le_of_ble_eq_true rfl)) dL_checksum_4 ⟨Nat.le_of_ble_eq_true rfl, Nat.le_of_ble_eq_true rfl⟩) hS (fun q _ h => hFc q h) hFc (fun q _ h => hFc q h) (fun E ce q9 u t H1 locs1 ht9 hvm9 _ hR9 hz9 hk9 hS9 hc9 hv9 hcl9 => ?_) (fun r_4 u t H1 locs ht9 hvm hw hB hz1 hk1 hS => False.elim hw)
  obtain ⟨hP, hD⟩ := va_join (wr := [(oq, .inl (cL, 1, .inr (.inl (fun _ => 0))))]) (w1 := []) hP hD [0, 1, 2, 3, 4, 5, 6, 7] [8] rfl rfl (by decide) (by decide) hk9 hFc (va_P_nil (dC, dI) vwCl H1) (va_D_nil _)
  have hK := hK.sub (tys' := [(cL, .long)]) [2] rfl
  have hS := hS9
  obtain rfl := hR9
  refine vx_catch (own := RL) (name := "java/lang/IndexOutOfBoundsException") hown [] ⟨0, 8, 11, 21⟩ [] htab (fun z hz => nomatch hz) (by decide) (by decide) (ht _ (wr_18 _ (List.mem_of_getElem? (i := 12) rfl))) (va_Nw.use rfl (hG.2.2.2.1 _ (List.mem_of_getElem? (i := 0) rfl))) hc9 hv9 hcl9 ?_
  refine lv_astore_n (lv' := [(3, .ref q9), (0, .ref ox), (1, .int a1), (2, .ref oq)]) hx hb dL_checksum_11 rfl hl (by decide) rfl (fun ls hl => ?_)
  refine lv_iconst (v := 1) hx hb dL_checksum_12 (by decide) ?_
  have hP9 := hP.sub (ws' := []) [] rfl
  have hD9 := hD.sub (ws' := []) [] (by decide) rfl
  have hK9 := hK.sub (tys' := []) [] rfl
  exact vx_ret (W.iret (v := 1) hx hb hr (fun t htt hW => have ht := htt; ⟨⟨1, (), rfl, rfl, QW_of ht hW hP9 hK9 hD9⟩, hS.F ht⟩) hS.2.2 dL_checksum_13)
set_option maxHeartbeats 4000000 in
set_option maxRecDepth 100000 in
theorem c_L_stuckShare (l : Launch) (hlt : l.stackTraces = false) (dC : Nat → ClassId) (dI : Nat → Nat → Nat) (de : Nat) (ox : Nat) (pl : Nat) (ru : Nat) (sh : Nat) (sp : Nat) (sl : Nat) (gr : Nat) (re : Nat) (pr : Nat) (ga : Nat) (rp : Nat) (bo : Nat) (fa : Nat) (gpl : Nat) (gin : Nat) (bbe : Nat) (bdi : Nat) (cP : ClassId) (cI : ClassId) (oq : Nat) (cL : ClassId) (a1 : Int32) (sz : Nat) : vx_Met l yL_stuckShare (.codeWith yL_stuckShare cL_stuckShare 4 (some .int) [(0, 9, 12, 21)] :: wsL_law) { frames := 10, cells := 1, slots := 6, locals := 178 } (va_Pc [.ref ox, .int a1, .ref oq] (PW dC dI de [(cP, .object "Levelsmith$Player"), (cI, .int), (cL, .double)] (WXD ox pl ru sh sp sl gr re pr ga rp bo fa gpl gin bbe bdi oq cP cI cL de) sz)) (va_Qi (fun (r : Int32) (u : Unit) => r = 1) (fun (_ : Unit) (t : State) => QW dC dI [] [] (va_A (WXD ox pl ru sh sp sl gr re pr ga rp bo fa gpl gin bbe bdi oq cP cI cL de) sz) t) (va_A (WXD ox pl ru sh sp sl gr re pr ga rp bo fa gpl gin bbe bdi oq cP cI cL de) sz)) (XX (fun E => False) (va_A (WXD ox pl ru sh sp sl gr re pr ga rp bo fa gpl gin bbe bdi oq cP cI cL de) sz)) 1 6 (va_A (WXD ox pl ru sh sp sl gr re pr ga rp bo fa gpl gin bbe bdi oq cP cI cL de) sz) := by
  refine vx_ofWH (cc := cL_stuckShare) (maxL := 4) (ret := (some .int)) (by decide) rfl ?_
  intro p e s m args below meth c s₁ B hml hv
  obtain ⟨rfl, hsz, hP, hK, hD0, hG⟩ := hv
  have hx := B.exec
  have hb := B.bytes
  have hr := B.returns
  have hts := atoms_spec (ws := .codeWith yL_stuckShare cL_stuckShare 4 (some .int) [(0, 9, 12, 21)] :: wsL_law) B.pre
  have ht : ∀ w ∈ wsL_law, w.before _ s = true := fun w h => hts w (List.mem_cons_of_mem _ h)
  have hown : s.vm.findClass RL = some m.cls := findClass_of_methodNamed B.named
  have hlocks := B.notSynchronized
  have htab : c.exceptionTable.toList = tableOf [(0, 9, 12, 21)] := vx_table (x := yL_stuckShare) B (hts _ List.mem_cons_self)
  subst hsz
  have hD := hD0.self (sz := s.heap.size)
  generalize hAe : va_A (WXD ox pl ru sh sp sl gr re pr ga rp bo fa gpl gin bbe bdi oq cP cI cL de) s.heap.size = A at hD hG ⊢
  have hA : ∀ q : Nat, s.heap.size ≤ q → A q := fun q h => by rw [← hAe]; exact Or.inr h
  have hS : va_S A s.heap s.heap [] := va_S.rf
  have hP : va_P (dC, dI) vwCl [(ox, .inr (13, [.ref pl, .ref ru, .ref sh, .ref sp, .ref sl, .ref gr, .ref re, .ref pr, .ref ga, .ref rp, .ref bo, .int 0])), (pl, .inr (1, [.int 0, .ref de, .int 0])), (ru, .inr (1, [.int 0, .ref de, .int 0])), (sh, .inr (1, [.int 0, .ref de, .int 0])), (sp, .inl (cP, 6, .inr (.inr (.inr (.inr (fun _ => none)))))), (ga, .inr (5, [.ref gpl, .ref gin, .int (-1), .int 0, .int 112, .int 0])), (bo, .inr (2, [.ref fa, .ref bbe, .ref bdi, .int 0, .int 0])), (fa, .inl (cI, 96, .inl (fun _ => 0))), (oq, .inl (cL, 1, .inr (.inr (.inr (.inl (fun _ => 0))))))] s.heap := hP
  have hD : va_D A [(ox, .inr (13, [.ref pl, .ref ru, .ref sh, .ref sp, .ref sl, .ref gr, .ref re, .ref pr, .ref ga, .ref rp, .ref bo, .int 0])), (pl, .inr (1, [.int 0, .ref de, .int 0])), (ru, .inr (1, [.int 0, .ref de, .int 0])), (sh, .inr (1, [.int 0, .ref de, .int 0])), (sp, .inl (cP, 6, .inr (.inr (.inr (.inr (fun _ => none)))))), (ga, .inr (5, [.ref gpl, .ref gin, .int (-1), .int 0, .int 112, .int 0])), (bo, .inr (2, [.ref fa, .ref bbe, .ref bdi, .int 0, .int 0])), (fa, .inl (cI, 96, .inl (fun _ => 0))), (oq, .inl (cL, 1, .inr (.inr (.inr (.inl (fun _ => 0))))))] := hD
  have hl := lv_entry ([.ref ox, .int a1, .ref oq]) (n := 4) (Nat.le_of_ble_eq_true rfl)
  rw [lg_entry_eq]
  generalize (lg_sl ([.ref ox, .int a1, .ref oq]) ++ List.replicate (4 - (lg_sl ([.ref ox, .int a1, .ref oq])).length) Slot.unset).toArray = ls at hl ⊢
  have hl : lv_has ls 4 [(0, .ref ox), (1, .int a1), (2, .ref oq)] := hl
  refine lv_aload_n hx hb dL_stuckShare_0 rfl (lv_at hl 2 rfl) ?_
  refine lv_iconst (v := 0) hx hb dL_stuckShare_1 (by decide) ?_
  refine lv_aload_n hx hb dL_stuckShare_2 rfl (lv_at hl 0 rfl) ?_
  refine lv_iload_n hx hb dL_stuckShare_3 rfl (lv_at hl 1 rfl) ?_
  have hPc := hP.sub (ws' := [(ox, .inr (13, [.ref pl, .ref ru, .ref sh, .ref sp, .ref sl, .ref gr, .ref re, .ref pr, .ref ga, .ref rp, .ref bo, .int 0])), (pl, .inr (1, [.int 0, .ref de, .int 0])), (ru, .inr (1, [.int 0, .ref de, .int 0])), (sh, .inr (1, [.int 0, .ref de, .int 0])), (sp, .inl (cP, 6, .inr (.inr (.inr (.inr (fun _ => none)))))), (ga, .inr (5, [.ref gpl, .ref gin, .int (-1), .int 0, .int 112, .int 0])), (bo, .inr (2, [.ref fa, .ref bbe, .ref bdi, .int 0, .int 0])), (fa, .inl (cI, 96, .inl (fun _ => 0)))]) [0, 1, 2, 3, 4, 5, 6, 7] rfl
  have hDc := hD.sub (ws' := [(ox, .inr (13, [.ref pl, .ref ru, .ref sh, .ref sp, .ref sl, .ref gr, .ref re, .ref pr, .ref ga, .ref rp, .ref bo, .int 0])), (pl, .inr (1, [.int 0, .ref de, .int 0])), (ru, .inr (1, [.int 0, .ref de, .int 0])), (sh, .inr (1, [.int 0, .ref de, .int 0])), (sp, .inl (cP, 6, .inr (.inr (.inr (.inr (fun _ => none)))))), (ga, .inr (5, [.ref gpl, .ref gin, .int (-1), .int 0, .int 112, .int 0])), (bo, .inr (2, [.ref fa, .ref bbe, .ref bdi, .int 0, .int 0])), (fa, .inl (cI, 96, .inl (fun _ => 0)))]) [0, 1, 2, 3, 4, 5, 6, 7] (by decide) rfl
  have hKc := hK.sub (tys' := [(cP, .object "Levelsmith$Player"), (cI, .int)]) [0, 1] rfl
  have hFc := va_free (wc := [(ox, .inr (13, [.ref pl, .ref ru, .ref sh, .ref sp, .ref sl, .ref gr, .ref re, .ref pr, .ref ga, .ref rp, .ref bo, .int 0])), (pl, .inr (1, [.int 0, .ref de, .int 0])), (ru, .inr (1, [.int 0, .ref de, .int 0])), (sh, .inr (1, [.int 0, .ref de, .int 0])), (sp, .inl (cP, 6, .inr (.inr (.inr (.inr (fun _ => none)))))), (ga, .inr (5, [.ref gpl, .ref gin, .int (-1), .int 0, .int 112, .int 0])), (bo, .inr (2, [.ref fa, .ref bbe, .ref bdi, .int 0, .int 0])), (fa, .inl (cI, 96, .inl (fun _ => 0)))]) hD hS hA [0, 1, 2, 3, 4, 5, 6, 7] rfl
  refine vx_callf (vx_runV (As := [.int a1]) (rest := [.int 0, .ref oq]) ⟨hx, hb, hml, hown, ht⟩ (c_X11_stuckShare l hlt dC dI de (ox) (pl) (ru) (sh) (sp) (sl) (gr) (re) (pr) (ga) (rp) (bo) (fa) (gpl) (gin) (bbe) (bdi) (cP) (cI) (a1) s.heap.size) (cwV 1 ht (gWV (wr_70 _ (List.mem_of_getElem? (i := 13) rfl)) (wr_70 _ (List.mem_of_getElem? (i := 14) rfl)) (wr_70 _ (List.mem_of_getElem? (i := 15) rfl)) (wr_1 _ (List.mem_of_getElem? (i := 2) rfl)) (wr_70 _ (List.mem_of_getElem? (i := 16) rfl))) rfl rfl rfl (by decide +kernel) ⟨Nat.le_of_ble_eq_true rfl, Nat.le_of_ble_eq_true rfl⟩) ⟨PW_blind, va_recv hKc hPc (ci := 13) (q0 := 0) rfl rfl, PW_call hPc hDc hKc hS hG hFc⟩ rfl rfl hl.1 rfl (lv_room (Nat.le_of_ble_eq_true rfl)) dL_stuckShare_4 ⟨Nat.le_of_ble_eq_true rfl, Nat.le_of_ble_eq_true rfl⟩) hS (fun q _ h => hFc q h) hFc (fun q _ h => hFc q h) (fun E ce q9 u t H1 locs1 ht9 hvm9 _ hR9 hz9 hk9 hS9 hc9 hv9 hcl9 => ?_) (fun r_4 u t H1 locs ht9 hvm hw hB hz1 hk1 hS => False.elim hw)
  obtain ⟨hP, hD⟩ := va_join (wr := [(oq, .inl (cL, 1, .inr (.inr (.inr (.inl (fun _ => 0))))))]) (w1 := []) hP hD [0, 1, 2, 3, 4, 5, 6, 7] [8] rfl rfl (by decide) (by decide) hk9 hFc (va_P_nil (dC, dI) vwCl H1) (va_D_nil _)
  have hK := hK.sub (tys' := [(cL, .double)]) [2] rfl
  have hS := hS9
  obtain rfl := hR9
  refine vx_catch (own := RL) (name := "java/lang/IndexOutOfBoundsException") hown [] ⟨0, 9, 12, 21⟩ [] htab (fun z hz => nomatch hz) (by decide) (by decide) (ht _ (wr_18 _ (List.mem_of_getElem? (i := 12) rfl))) (va_Nw.use rfl (hG.2.2.2.1 _ (List.mem_of_getElem? (i := 0) rfl))) hc9 hv9 hcl9 ?_
  refine lv_astore_n (lv' := [(3, .ref q9), (0, .ref ox), (1, .int a1), (2, .ref oq)]) hx hb dL_stuckShare_12 rfl hl (by decide) rfl (fun ls hl => ?_)
  refine lv_iconst (v := 1) hx hb dL_stuckShare_13 (by decide) ?_
  have hP9 := hP.sub (ws' := []) [] rfl
  have hD9 := hD.sub (ws' := []) [] (by decide) rfl
  have hK9 := hK.sub (tys' := []) [] rfl
  exact vx_ret (W.iret (v := 1) hx hb hr (fun t htt hW => have ht := htt; ⟨⟨1, (), rfl, rfl, QW_of ht hW hP9 hK9 hD9⟩, hS.F ht⟩) hS.2.2 dL_stuckShare_14)
set_option maxHeartbeats 4000000 in
set_option maxRecDepth 100000 in
theorem c_L_meanLeft (l : Launch) (hlt : l.stackTraces = false) (dC : Nat → ClassId) (dI : Nat → Nat → Nat) (de : Nat) (ox : Nat) (pl : Nat) (ru : Nat) (sh : Nat) (sp : Nat) (sl : Nat) (gr : Nat) (re : Nat) (pr : Nat) (ga : Nat) (rp : Nat) (bo : Nat) (fa : Nat) (gpl : Nat) (gin : Nat) (bbe : Nat) (bdi : Nat) (cP : ClassId) (cI : ClassId) (oq : Nat) (cL : ClassId) (a1 : Int32) (sz : Nat) : vx_Met l yL_meanLeft (.codeWith yL_meanLeft cL_meanLeft 4 (some .int) [(0, 8, 11, 21), (0, 8, 14, 57)] :: wsL_law) { frames := 10, cells := 1, slots := 6, locals := 178 } (va_Pc [.ref ox, .int a1, .ref oq] (PW dC dI de [(cP, .object "Levelsmith$Player"), (cI, .int), (cL, .double)] (WXD ox pl ru sh sp sl gr re pr ga rp bo fa gpl gin bbe bdi oq cP cI cL de) sz)) (va_Qi (fun (r : Int32) (u : Unit) => r = 1) (fun (_ : Unit) (t : State) => QW dC dI [] [] (va_A (WXD ox pl ru sh sp sl gr re pr ga rp bo fa gpl gin bbe bdi oq cP cI cL de) sz) t) (va_A (WXD ox pl ru sh sp sl gr re pr ga rp bo fa gpl gin bbe bdi oq cP cI cL de) sz)) (XX (fun E => False) (va_A (WXD ox pl ru sh sp sl gr re pr ga rp bo fa gpl gin bbe bdi oq cP cI cL de) sz)) 1 6 (va_A (WXD ox pl ru sh sp sl gr re pr ga rp bo fa gpl gin bbe bdi oq cP cI cL de) sz) := by
  refine vx_ofWH (cc := cL_meanLeft) (maxL := 4) (ret := (some .int)) (by decide) rfl ?_
  intro p e s m args below meth c s₁ B hml hv
  obtain ⟨rfl, hsz, hP, hK, hD0, hG⟩ := hv
  have hx := B.exec
  have hb := B.bytes
  have hr := B.returns
  have hts := atoms_spec (ws := .codeWith yL_meanLeft cL_meanLeft 4 (some .int) [(0, 8, 11, 21), (0, 8, 14, 57)] :: wsL_law) B.pre
  have ht : ∀ w ∈ wsL_law, w.before _ s = true := fun w h => hts w (List.mem_cons_of_mem _ h)
  have hown : s.vm.findClass RL = some m.cls := findClass_of_methodNamed B.named
  have hlocks := B.notSynchronized
  have htab : c.exceptionTable.toList = tableOf [(0, 8, 11, 21), (0, 8, 14, 57)] := vx_table (x := yL_meanLeft) B (hts _ List.mem_cons_self)
  subst hsz
  have hD := hD0.self (sz := s.heap.size)
  generalize hAe : va_A (WXD ox pl ru sh sp sl gr re pr ga rp bo fa gpl gin bbe bdi oq cP cI cL de) s.heap.size = A at hD hG ⊢
  have hA : ∀ q : Nat, s.heap.size ≤ q → A q := fun q h => by rw [← hAe]; exact Or.inr h
  have hS : va_S A s.heap s.heap [] := va_S.rf
  have hP : va_P (dC, dI) vwCl [(ox, .inr (13, [.ref pl, .ref ru, .ref sh, .ref sp, .ref sl, .ref gr, .ref re, .ref pr, .ref ga, .ref rp, .ref bo, .int 0])), (pl, .inr (1, [.int 0, .ref de, .int 0])), (ru, .inr (1, [.int 0, .ref de, .int 0])), (sh, .inr (1, [.int 0, .ref de, .int 0])), (sp, .inl (cP, 6, .inr (.inr (.inr (.inr (fun _ => none)))))), (ga, .inr (5, [.ref gpl, .ref gin, .int (-1), .int 0, .int 112, .int 0])), (bo, .inr (2, [.ref fa, .ref bbe, .ref bdi, .int 0, .int 0])), (fa, .inl (cI, 96, .inl (fun _ => 0))), (oq, .inl (cL, 1, .inr (.inr (.inr (.inl (fun _ => 0))))))] s.heap := hP
  have hD : va_D A [(ox, .inr (13, [.ref pl, .ref ru, .ref sh, .ref sp, .ref sl, .ref gr, .ref re, .ref pr, .ref ga, .ref rp, .ref bo, .int 0])), (pl, .inr (1, [.int 0, .ref de, .int 0])), (ru, .inr (1, [.int 0, .ref de, .int 0])), (sh, .inr (1, [.int 0, .ref de, .int 0])), (sp, .inl (cP, 6, .inr (.inr (.inr (.inr (fun _ => none)))))), (ga, .inr (5, [.ref gpl, .ref gin, .int (-1), .int 0, .int 112, .int 0])), (bo, .inr (2, [.ref fa, .ref bbe, .ref bdi, .int 0, .int 0])), (fa, .inl (cI, 96, .inl (fun _ => 0))), (oq, .inl (cL, 1, .inr (.inr (.inr (.inl (fun _ => 0))))))] := hD
  have hl := lv_entry ([.ref ox, .int a1, .ref oq]) (n := 4) (Nat.le_of_ble_eq_true rfl)
  rw [lg_entry_eq]
  generalize (lg_sl ([.ref ox, .int a1, .ref oq]) ++ List.replicate (4 - (lg_sl ([.ref ox, .int a1, .ref oq])).length) Slot.unset).toArray = ls at hl ⊢
  have hl : lv_has ls 4 [(0, .ref ox), (1, .int a1), (2, .ref oq)] := hl
  refine lv_aload_n hx hb dL_meanLeft_0 rfl (lv_at hl 2 rfl) ?_
  refine lv_iconst (v := 0) hx hb dL_meanLeft_1 (by decide) ?_
  refine lv_aload_n hx hb dL_meanLeft_2 rfl (lv_at hl 0 rfl) ?_
  refine lv_iload_n hx hb dL_meanLeft_3 rfl (lv_at hl 1 rfl) ?_
  have hPc := hP.sub (ws' := [(ox, .inr (13, [.ref pl, .ref ru, .ref sh, .ref sp, .ref sl, .ref gr, .ref re, .ref pr, .ref ga, .ref rp, .ref bo, .int 0])), (pl, .inr (1, [.int 0, .ref de, .int 0])), (ru, .inr (1, [.int 0, .ref de, .int 0])), (sh, .inr (1, [.int 0, .ref de, .int 0])), (sp, .inl (cP, 6, .inr (.inr (.inr (.inr (fun _ => none)))))), (ga, .inr (5, [.ref gpl, .ref gin, .int (-1), .int 0, .int 112, .int 0])), (bo, .inr (2, [.ref fa, .ref bbe, .ref bdi, .int 0, .int 0])), (fa, .inl (cI, 96, .inl (fun _ => 0)))]) [0, 1, 2, 3, 4, 5, 6, 7] rfl
  have hDc := hD.sub (ws' := [(ox, .inr (13, [.ref pl, .ref ru, .ref sh, .ref sp, .ref sl, .ref gr, .ref re, .ref pr, .ref ga, .ref rp, .ref bo, .int 0])), (pl, .inr (1, [.int 0, .ref de, .int 0])), (ru, .inr (1, [.int 0, .ref de, .int 0])), (sh, .inr (1, [.int 0, .ref de, .int 0])), (sp, .inl (cP, 6, .inr (.inr (.inr (.inr (fun _ => none)))))), (ga, .inr (5, [.ref gpl, .ref gin, .int (-1), .int 0, .int 112, .int 0])), (bo, .inr (2, [.ref fa, .ref bbe, .ref bdi, .int 0, .int 0])), (fa, .inl (cI, 96, .inl (fun _ => 0)))]) [0, 1, 2, 3, 4, 5, 6, 7] (by decide) rfl
  have hKc := hK.sub (tys' := [(cP, .object "Levelsmith$Player"), (cI, .int)]) [0, 1] rfl
  have hFc := va_free (wc := [(ox, .inr (13, [.ref pl, .ref ru, .ref sh, .ref sp, .ref sl, .ref gr, .ref re, .ref pr, .ref ga, .ref rp, .ref bo, .int 0])), (pl, .inr (1, [.int 0, .ref de, .int 0])), (ru, .inr (1, [.int 0, .ref de, .int 0])), (sh, .inr (1, [.int 0, .ref de, .int 0])), (sp, .inl (cP, 6, .inr (.inr (.inr (.inr (fun _ => none)))))), (ga, .inr (5, [.ref gpl, .ref gin, .int (-1), .int 0, .int 112, .int 0])), (bo, .inr (2, [.ref fa, .ref bbe, .ref bdi, .int 0, .int 0])), (fa, .inl (cI, 96, .inl (fun _ => 0)))]) hD hS hA [0, 1, 2, 3, 4, 5, 6, 7] rfl
  refine vx_calld (vx_runV (As := [.int a1]) (rest := [.int 0, .ref oq]) ⟨hx, hb, hml, hown, ht⟩ (c_X11_meanLeft l hlt dC dI de (ox) (pl) (ru) (sh) (sp) (sl) (gr) (re) (pr) (ga) (rp) (bo) (fa) (gpl) (gin) (bbe) (bdi) (cP) (cI) (a1) s.heap.size) (cwV 1 ht (gWV (wr_71 _ (List.mem_of_getElem? (i := 0) rfl)) (wr_71 _ (List.mem_of_getElem? (i := 1) rfl)) (wr_71 _ (List.mem_of_getElem? (i := 2) rfl)) (wr_1 _ (List.mem_of_getElem? (i := 2) rfl)) (wr_71 _ (List.mem_of_getElem? (i := 3) rfl))) rfl rfl rfl (by decide +kernel) ⟨Nat.le_of_ble_eq_true rfl, Nat.le_of_ble_eq_true rfl⟩) ⟨PW_blind, va_recv hKc hPc (ci := 13) (q0 := 0) rfl rfl, PW_call hPc hDc hKc hS hG hFc⟩ rfl rfl hl.1 rfl (lv_room (Nat.le_of_ble_eq_true rfl)) dL_meanLeft_4 ⟨Nat.le_of_ble_eq_true rfl, Nat.le_of_ble_eq_true rfl⟩) hS (fun q _ h => hFc q h) hFc (fun q _ h => hFc q h) (fun E ce q9 u t H1 locs1 ht9 hvm9 _ hR9 hz9 hk9 hS9 hc9 hv9 hcl9 => ?_) (fun r_4 u t H1 locs ht9 hvm hw hB hz1 hk1 hS => False.elim hw)
  obtain ⟨hP, hD⟩ := va_join (wr := [(oq, .inl (cL, 1, .inr (.inr (.inr (.inl (fun _ => 0))))))]) (w1 := []) hP hD [0, 1, 2, 3, 4, 5, 6, 7] [8] rfl rfl (by decide) (by decide) hk9 hFc (va_P_nil (dC, dI) vwCl H1) (va_D_nil _)
  have hK := hK.sub (tys' := [(cL, .double)]) [2] rfl
  have hS := hS9
  obtain rfl := hR9
  refine vx_catch (own := RL) (name := "java/lang/IndexOutOfBoundsException") hown [] ⟨0, 8, 11, 21⟩ [⟨0, 8, 14, 57⟩] htab (fun z hz => nomatch hz) (by decide) (by decide) (ht _ (wr_18 _ (List.mem_of_getElem? (i := 12) rfl))) (va_Nw.use rfl (hG.2.2.2.1 _ (List.mem_of_getElem? (i := 0) rfl))) hc9 hv9 hcl9 ?_
  refine lv_astore_n (lv' := [(3, .ref q9), (0, .ref ox), (1, .int a1), (2, .ref oq)]) hx hb dL_meanLeft_11 rfl hl (by decide) rfl (fun ls hl => ?_)
  refine lv_iconst (v := 1) hx hb dL_meanLeft_12 (by decide) ?_
  have hP9 := hP.sub (ws' := []) [] rfl
  have hD9 := hD.sub (ws' := []) [] (by decide) rfl
  have hK9 := hK.sub (tys' := []) [] rfl
  exact vx_ret (W.iret (v := 1) hx hb hr (fun t htt hW => have ht := htt; ⟨⟨1, (), rfl, rfl, QW_of ht hW hP9 hK9 hD9⟩, hS.F ht⟩) hS.2.2 dL_meanLeft_13)
set_option maxHeartbeats 4000000 in
set_option maxRecDepth 100000 in
theorem c_L_makerAt (l : Launch) (hlt : l.stackTraces = false) (dC : Nat → ClassId) (dI : Nat → Nat → Nat) (de : Nat) (ox : Nat) (pl : Nat) (ru : Nat) (sh : Nat) (sp : Nat) (sl : Nat) (gr : Nat) (re : Nat) (pr : Nat) (ga : Nat) (rp : Nat) (bo : Nat) (fa : Nat) (gpl : Nat) (gin : Nat) (bbe : Nat) (bdi : Nat) (cP : ClassId) (cI : ClassId) (oq : Nat) (cL : ClassId) (a1 : Int32) (sz : Nat) : vx_Met l yL_makerAt (.codeWith yL_makerAt cL_makerAt 4 (some .int) [(0, 9, 12, 21)] :: wsL_law) { frames := 7, cells := 1, slots := 6, locals := 114 } (va_Pc [.ref ox, .int a1, .ref oq] (PW dC dI de [(cP, .object "Levelsmith$Player"), (cI, .int), (cL, .long)] (WXJ ox pl ru sh sp sl gr re pr ga rp bo fa gpl gin bbe bdi oq cP cI cL de) sz)) (va_Qi (fun (r : Int32) (u : Unit) => r = 1) (fun (_ : Unit) (t : State) => QW dC dI [] [] (va_A (WXJ ox pl ru sh sp sl gr re pr ga rp bo fa gpl gin bbe bdi oq cP cI cL de) sz) t) (va_A (WXJ ox pl ru sh sp sl gr re pr ga rp bo fa gpl gin bbe bdi oq cP cI cL de) sz)) (XX (fun E => False) (va_A (WXJ ox pl ru sh sp sl gr re pr ga rp bo fa gpl gin bbe bdi oq cP cI cL de) sz)) 1 6 (va_A (WXJ ox pl ru sh sp sl gr re pr ga rp bo fa gpl gin bbe bdi oq cP cI cL de) sz) := by
  refine vx_ofWH (cc := cL_makerAt) (maxL := 4) (ret := (some .int)) (by decide) rfl ?_
  intro p e s m args below meth c s₁ B hml hv
  obtain ⟨rfl, hsz, hP, hK, hD0, hG⟩ := hv
  have hx := B.exec
  have hb := B.bytes
  have hr := B.returns
  have hts := atoms_spec (ws := .codeWith yL_makerAt cL_makerAt 4 (some .int) [(0, 9, 12, 21)] :: wsL_law) B.pre
  have ht : ∀ w ∈ wsL_law, w.before _ s = true := fun w h => hts w (List.mem_cons_of_mem _ h)
  have hown : s.vm.findClass RL = some m.cls := findClass_of_methodNamed B.named
  have hlocks := B.notSynchronized
  have htab : c.exceptionTable.toList = tableOf [(0, 9, 12, 21)] := vx_table (x := yL_makerAt) B (hts _ List.mem_cons_self)
  subst hsz
  have hD := hD0.self (sz := s.heap.size)
  generalize hAe : va_A (WXJ ox pl ru sh sp sl gr re pr ga rp bo fa gpl gin bbe bdi oq cP cI cL de) s.heap.size = A at hD hG ⊢
  have hA : ∀ q : Nat, s.heap.size ≤ q → A q := fun q h => by rw [← hAe]; exact Or.inr h
  have hS : va_S A s.heap s.heap [] := va_S.rf
  have hP : va_P (dC, dI) vwCl [(ox, .inr (13, [.ref pl, .ref ru, .ref sh, .ref sp, .ref sl, .ref gr, .ref re, .ref pr, .ref ga, .ref rp, .ref bo, .int 0])), (pl, .inr (1, [.int 0, .ref de, .int 0])), (ru, .inr (1, [.int 0, .ref de, .int 0])), (sh, .inr (1, [.int 0, .ref de, .int 0])), (sp, .inl (cP, 6, .inr (.inr (.inr (.inr (fun _ => none)))))), (ga, .inr (5, [.ref gpl, .ref gin, .int (-1), .int 0, .int 112, .int 0])), (bo, .inr (2, [.ref fa, .ref bbe, .ref bdi, .int 0, .int 0])), (fa, .inl (cI, 96, .inl (fun _ => 0))), (oq, .inl (cL, 1, .inr (.inl (fun _ => 0))))] s.heap := hP
  have hD : va_D A [(ox, .inr (13, [.ref pl, .ref ru, .ref sh, .ref sp, .ref sl, .ref gr, .ref re, .ref pr, .ref ga, .ref rp, .ref bo, .int 0])), (pl, .inr (1, [.int 0, .ref de, .int 0])), (ru, .inr (1, [.int 0, .ref de, .int 0])), (sh, .inr (1, [.int 0, .ref de, .int 0])), (sp, .inl (cP, 6, .inr (.inr (.inr (.inr (fun _ => none)))))), (ga, .inr (5, [.ref gpl, .ref gin, .int (-1), .int 0, .int 112, .int 0])), (bo, .inr (2, [.ref fa, .ref bbe, .ref bdi, .int 0, .int 0])), (fa, .inl (cI, 96, .inl (fun _ => 0))), (oq, .inl (cL, 1, .inr (.inl (fun _ => 0))))] := hD
  have hl := lv_entry ([.ref ox, .int a1, .ref oq]) (n := 4) (Nat.le_of_ble_eq_true rfl)
  rw [lg_entry_eq]
  generalize (lg_sl ([.ref ox, .int a1, .ref oq]) ++ List.replicate (4 - (lg_sl ([.ref ox, .int a1, .ref oq])).length) Slot.unset).toArray = ls at hl ⊢
  have hl : lv_has ls 4 [(0, .ref ox), (1, .int a1), (2, .ref oq)] := hl
  refine lv_aload_n hx hb dL_makerAt_0 rfl (lv_at hl 2 rfl) ?_
  refine lv_iconst (v := 0) hx hb dL_makerAt_1 (by decide) ?_
  refine lv_aload_n hx hb dL_makerAt_2 rfl (lv_at hl 0 rfl) ?_
  refine lv_iload_n hx hb dL_makerAt_3 rfl (lv_at hl 1 rfl) ?_
  have hPc := hP.sub (ws' := [(ox, .inr (13, [.ref pl, .ref ru, .ref sh, .ref sp, .ref sl, .ref gr, .ref re, .ref pr, .ref ga, .ref rp, .ref bo, .int 0])), (pl, .inr (1, [.int 0, .ref de, .int 0])), (ru, .inr (1, [.int 0, .ref de, .int 0])), (sh, .inr (1, [.int 0, .ref de, .int 0])), (sp, .inl (cP, 6, .inr (.inr (.inr (.inr (fun _ => none)))))), (ga, .inr (5, [.ref gpl, .ref gin, .int (-1), .int 0, .int 112, .int 0])), (bo, .inr (2, [.ref fa, .ref bbe, .ref bdi, .int 0, .int 0])), (fa, .inl (cI, 96, .inl (fun _ => 0)))]) [0, 1, 2, 3, 4, 5, 6, 7] rfl
  have hDc := hD.sub (ws' := [(ox, .inr (13, [.ref pl, .ref ru, .ref sh, .ref sp, .ref sl, .ref gr, .ref re, .ref pr, .ref ga, .ref rp, .ref bo, .int 0])), (pl, .inr (1, [.int 0, .ref de, .int 0])), (ru, .inr (1, [.int 0, .ref de, .int 0])), (sh, .inr (1, [.int 0, .ref de, .int 0])), (sp, .inl (cP, 6, .inr (.inr (.inr (.inr (fun _ => none)))))), (ga, .inr (5, [.ref gpl, .ref gin, .int (-1), .int 0, .int 112, .int 0])), (bo, .inr (2, [.ref fa, .ref bbe, .ref bdi, .int 0, .int 0])), (fa, .inl (cI, 96, .inl (fun _ => 0)))]) [0, 1, 2, 3, 4, 5, 6, 7] (by decide) rfl
  have hKc := hK.sub (tys' := [(cP, .object "Levelsmith$Player"), (cI, .int)]) [0, 1] rfl
  have hFc := va_free (wc := [(ox, .inr (13, [.ref pl, .ref ru, .ref sh, .ref sp, .ref sl, .ref gr, .ref re, .ref pr, .ref ga, .ref rp, .ref bo, .int 0])), (pl, .inr (1, [.int 0, .ref de, .int 0])), (ru, .inr (1, [.int 0, .ref de, .int 0])), (sh, .inr (1, [.int 0, .ref de, .int 0])), (sp, .inl (cP, 6, .inr (.inr (.inr (.inr (fun _ => none)))))), (ga, .inr (5, [.ref gpl, .ref gin, .int (-1), .int 0, .int 112, .int 0])), (bo, .inr (2, [.ref fa, .ref bbe, .ref bdi, .int 0, .int 0])), (fa, .inl (cI, 96, .inl (fun _ => 0)))]) hD hS hA [0, 1, 2, 3, 4, 5, 6, 7] rfl
  refine vx_calli (vx_runV (As := [.int a1]) (rest := [.int 0, .ref oq]) ⟨hx, hb, hml, hown, ht⟩ (c_X11_makerAt l hlt dC dI de (ox) (pl) (ru) (sh) (sp) (sl) (gr) (re) (pr) (ga) (rp) (bo) (fa) (gpl) (gin) (bbe) (bdi) (cP) (cI) (a1) s.heap.size) (cwV 1 ht (gWV (wr_68 _ (List.mem_of_getElem? (i := 6) rfl)) (wr_68 _ (List.mem_of_getElem? (i := 7) rfl)) (wr_68 _ (List.mem_of_getElem? (i := 8) rfl)) (wr_1 _ (List.mem_of_getElem? (i := 2) rfl)) (wr_68 _ (List.mem_of_getElem? (i := 9) rfl))) rfl rfl rfl (by decide +kernel) ⟨Nat.le_of_ble_eq_true rfl, Nat.le_of_ble_eq_true rfl⟩) ⟨PW_blind, va_recv hKc hPc (ci := 13) (q0 := 0) rfl rfl, PW_call hPc hDc hKc hS hG hFc⟩ rfl rfl hl.1 rfl (lv_room (Nat.le_of_ble_eq_true rfl)) dL_makerAt_4 ⟨Nat.le_of_ble_eq_true rfl, Nat.le_of_ble_eq_true rfl⟩) hS (fun q _ h => hFc q h) hFc (fun q _ h => hFc q h) (fun E ce q9 u t H1 locs1 ht9 hvm9 _ hR9 hz9 hk9 hS9 hc9 hv9 hcl9 => ?_) (fun r_4 u t H1 locs ht9 hvm hw hB hz1 hk1 hS => False.elim hw)
  obtain ⟨hP, hD⟩ := va_join (wr := [(oq, .inl (cL, 1, .inr (.inl (fun _ => 0))))]) (w1 := []) hP hD [0, 1, 2, 3, 4, 5, 6, 7] [8] rfl rfl (by decide) (by decide) hk9 hFc (va_P_nil (dC, dI) vwCl H1) (va_D_nil _)
  have hK := hK.sub (tys' := [(cL, .long)]) [2] rfl
  have hS := hS9
  obtain rfl := hR9
  refine vx_catch (own := RL) (name := "java/lang/IndexOutOfBoundsException") hown [] ⟨0, 9, 12, 21⟩ [] htab (fun z hz => nomatch hz) (by decide) (by decide) (ht _ (wr_18 _ (List.mem_of_getElem? (i := 12) rfl))) (va_Nw.use rfl (hG.2.2.2.1 _ (List.mem_of_getElem? (i := 0) rfl))) hc9 hv9 hcl9 ?_
  refine lv_astore_n (lv' := [(3, .ref q9), (0, .ref ox), (1, .int a1), (2, .ref oq)]) hx hb dL_makerAt_12 rfl hl (by decide) rfl (fun ls hl => ?_)
  refine lv_iconst (v := 1) hx hb dL_makerAt_13 (by decide) ?_
  have hP9 := hP.sub (ws' := []) [] rfl
  have hD9 := hD.sub (ws' := []) [] (by decide) rfl
  have hK9 := hK.sub (tys' := []) [] rfl
  exact vx_ret (W.iret (v := 1) hx hb hr (fun t htt hW => have ht := htt; ⟨⟨1, (), rfl, rfl, QW_of ht hW hP9 hK9 hD9⟩, hS.F ht⟩) hS.2.2 dL_makerAt_14)
set_option maxHeartbeats 4000000 in
set_option maxRecDepth 100000 in
theorem c_L_keep (l : Launch) (hlt : l.stackTraces = false) (dC : Nat → ClassId) (dI : Nat → Nat → Nat) (de : Nat) (ox : Nat) (pl : Nat) (ru : Nat) (sh : Nat) (sp : Nat) (sl : Nat) (gr : Nat) (re : Nat) (pr : Nat) (ga : Nat) (rp : Nat) (bo : Nat) (fa : Nat) (gpl : Nat) (gin : Nat) (bbe : Nat) (bdi : Nat) (cP : ClassId) (cI : ClassId) (oq : Nat) (cL : ClassId) (sz : Nat) : vx_Met l yL_keep (.codeWith yL_keep cL_keep 3 (some .int) [(0, 8, 11, 88), (0, 8, 14, 15)] :: wsL_law) { frames := 7, cells := 1, slots := 6, locals := 111 } (va_Pc [.ref ox, .ref oq] (PW dC dI de [(cP, .object "Levelsmith$Player"), (cI, .int), (cL, .long)] (WXJ ox pl ru sh sp sl gr re pr ga rp bo fa gpl gin bbe bdi oq cP cI cL de) sz)) (va_Qi (fun (r : Int32) (u : Unit) => r = 1) (fun (_ : Unit) (t : State) => QW dC dI [] [] (va_A (WXJ ox pl ru sh sp sl gr re pr ga rp bo fa gpl gin bbe bdi oq cP cI cL de) sz) t) (va_A (WXJ ox pl ru sh sp sl gr re pr ga rp bo fa gpl gin bbe bdi oq cP cI cL de) sz)) (XX (fun E => False) (va_A (WXJ ox pl ru sh sp sl gr re pr ga rp bo fa gpl gin bbe bdi oq cP cI cL de) sz)) 1 6 (va_A (WXJ ox pl ru sh sp sl gr re pr ga rp bo fa gpl gin bbe bdi oq cP cI cL de) sz) := by
  refine vx_ofWH (cc := cL_keep) (maxL := 3) (ret := (some .int)) (by decide) rfl ?_
  intro p e s m args below meth c s₁ B hml hv
  obtain ⟨rfl, hsz, hP, hK, hD0, hG⟩ := hv
  have hx := B.exec
  have hb := B.bytes
  have hr := B.returns
  have hts := atoms_spec (ws := .codeWith yL_keep cL_keep 3 (some .int) [(0, 8, 11, 88), (0, 8, 14, 15)] :: wsL_law) B.pre
  have ht : ∀ w ∈ wsL_law, w.before _ s = true := fun w h => hts w (List.mem_cons_of_mem _ h)
  have hown : s.vm.findClass RL = some m.cls := findClass_of_methodNamed B.named
  have hlocks := B.notSynchronized
  have htab : c.exceptionTable.toList = tableOf [(0, 8, 11, 88), (0, 8, 14, 15)] := vx_table (x := yL_keep) B (hts _ List.mem_cons_self)
  subst hsz
  have hD := hD0.self (sz := s.heap.size)
  generalize hAe : va_A (WXJ ox pl ru sh sp sl gr re pr ga rp bo fa gpl gin bbe bdi oq cP cI cL de) s.heap.size = A at hD hG ⊢
  have hA : ∀ q : Nat, s.heap.size ≤ q → A q := fun q h => by rw [← hAe]; exact Or.inr h
  have hS : va_S A s.heap s.heap [] := va_S.rf
  have hP : va_P (dC, dI) vwCl [(ox, .inr (13, [.ref pl, .ref ru, .ref sh, .ref sp, .ref sl, .ref gr, .ref re, .ref pr, .ref ga, .ref rp, .ref bo, .int 0])), (pl, .inr (1, [.int 0, .ref de, .int 0])), (ru, .inr (1, [.int 0, .ref de, .int 0])), (sh, .inr (1, [.int 0, .ref de, .int 0])), (sp, .inl (cP, 6, .inr (.inr (.inr (.inr (fun _ => none)))))), (ga, .inr (5, [.ref gpl, .ref gin, .int (-1), .int 0, .int 112, .int 0])), (bo, .inr (2, [.ref fa, .ref bbe, .ref bdi, .int 0, .int 0])), (fa, .inl (cI, 96, .inl (fun _ => 0))), (oq, .inl (cL, 1, .inr (.inl (fun _ => 0))))] s.heap := hP
  have hD : va_D A [(ox, .inr (13, [.ref pl, .ref ru, .ref sh, .ref sp, .ref sl, .ref gr, .ref re, .ref pr, .ref ga, .ref rp, .ref bo, .int 0])), (pl, .inr (1, [.int 0, .ref de, .int 0])), (ru, .inr (1, [.int 0, .ref de, .int 0])), (sh, .inr (1, [.int 0, .ref de, .int 0])), (sp, .inl (cP, 6, .inr (.inr (.inr (.inr (fun _ => none)))))), (ga, .inr (5, [.ref gpl, .ref gin, .int (-1), .int 0, .int 112, .int 0])), (bo, .inr (2, [.ref fa, .ref bbe, .ref bdi, .int 0, .int 0])), (fa, .inl (cI, 96, .inl (fun _ => 0))), (oq, .inl (cL, 1, .inr (.inl (fun _ => 0))))] := hD
  have hl := lv_entry ([.ref ox, .ref oq]) (n := 3) (Nat.le_of_ble_eq_true rfl)
  rw [lg_entry_eq]
  generalize (lg_sl ([.ref ox, .ref oq]) ++ List.replicate (3 - (lg_sl ([.ref ox, .ref oq])).length) Slot.unset).toArray = ls at hl ⊢
  have hl : lv_has ls 3 [(0, .ref ox), (1, .ref oq)] := hl
  refine lv_aload_n hx hb dL_keep_0 rfl (lv_at hl 1 rfl) ?_
  refine lv_iconst (v := 0) hx hb dL_keep_1 (by decide) ?_
  refine lv_aload_n hx hb dL_keep_2 rfl (lv_at hl 0 rfl) ?_
  have hPc := hP.sub (ws' := [(ox, .inr (13, [.ref pl, .ref ru, .ref sh, .ref sp, .ref sl, .ref gr, .ref re, .ref pr, .ref ga, .ref rp, .ref bo, .int 0])), (pl, .inr (1, [.int 0, .ref de, .int 0])), (ru, .inr (1, [.int 0, .ref de, .int 0])), (sh, .inr (1, [.int 0, .ref de, .int 0])), (sp, .inl (cP, 6, .inr (.inr (.inr (.inr (fun _ => none)))))), (ga, .inr (5, [.ref gpl, .ref gin, .int (-1), .int 0, .int 112, .int 0])), (bo, .inr (2, [.ref fa, .ref bbe, .ref bdi, .int 0, .int 0])), (fa, .inl (cI, 96, .inl (fun _ => 0)))]) [0, 1, 2, 3, 4, 5, 6, 7] rfl
  have hDc := hD.sub (ws' := [(ox, .inr (13, [.ref pl, .ref ru, .ref sh, .ref sp, .ref sl, .ref gr, .ref re, .ref pr, .ref ga, .ref rp, .ref bo, .int 0])), (pl, .inr (1, [.int 0, .ref de, .int 0])), (ru, .inr (1, [.int 0, .ref de, .int 0])), (sh, .inr (1, [.int 0, .ref de, .int 0])), (sp, .inl (cP, 6, .inr (.inr (.inr (.inr (fun _ => none)))))), (ga, .inr (5, [.ref gpl, .ref gin, .int (-1), .int 0, .int 112, .int 0])), (bo, .inr (2, [.ref fa, .ref bbe, .ref bdi, .int 0, .int 0])), (fa, .inl (cI, 96, .inl (fun _ => 0)))]) [0, 1, 2, 3, 4, 5, 6, 7] (by decide) rfl
  have hKc := hK.sub (tys' := [(cP, .object "Levelsmith$Player"), (cI, .int)]) [0, 1] rfl
  have hFc := va_free (wc := [(ox, .inr (13, [.ref pl, .ref ru, .ref sh, .ref sp, .ref sl, .ref gr, .ref re, .ref pr, .ref ga, .ref rp, .ref bo, .int 0])), (pl, .inr (1, [.int 0, .ref de, .int 0])), (ru, .inr (1, [.int 0, .ref de, .int 0])), (sh, .inr (1, [.int 0, .ref de, .int 0])), (sp, .inl (cP, 6, .inr (.inr (.inr (.inr (fun _ => none)))))), (ga, .inr (5, [.ref gpl, .ref gin, .int (-1), .int 0, .int 112, .int 0])), (bo, .inr (2, [.ref fa, .ref bbe, .ref bdi, .int 0, .int 0])), (fa, .inl (cI, 96, .inl (fun _ => 0)))]) hD hS hA [0, 1, 2, 3, 4, 5, 6, 7] rfl
  refine vx_calli (vx_runV (As := []) (rest := [.int 0, .ref oq]) ⟨hx, hb, hml, hown, ht⟩ (c_X11_keep l hlt dC dI de (ox) (pl) (ru) (sh) (sp) (sl) (gr) (re) (pr) (ga) (rp) (bo) (fa) (gpl) (gin) (bbe) (bdi) (cP) (cI) s.heap.size) (cwV 0 ht (gWV (wr_57 _ (List.mem_of_getElem? (i := 2) rfl)) (wr_57 _ (List.mem_of_getElem? (i := 3) rfl)) (wr_57 _ (List.mem_of_getElem? (i := 4) rfl)) (wr_1 _ (List.mem_of_getElem? (i := 2) rfl)) (wr_57 _ (List.mem_of_getElem? (i := 5) rfl))) rfl rfl rfl (by decide +kernel) ⟨Nat.le_of_ble_eq_true rfl, Nat.le_of_ble_eq_true rfl⟩) ⟨PW_blind, va_recv hKc hPc (ci := 13) (q0 := 0) rfl rfl, PW_call hPc hDc hKc hS hG hFc⟩ rfl rfl hl.1 rfl (lv_room (Nat.le_of_ble_eq_true rfl)) dL_keep_3 ⟨Nat.le_of_ble_eq_true rfl, Nat.le_of_ble_eq_true rfl⟩) hS (fun q _ h => hFc q h) hFc (fun q _ h => hFc q h) (fun E ce q9 u t H1 locs1 ht9 hvm9 _ hR9 hz9 hk9 hS9 hc9 hv9 hcl9 => ?_) (fun r_3 u t H1 locs ht9 hvm hw hB hz1 hk1 hS => False.elim hw)
  obtain ⟨hP, hD⟩ := va_join (wr := [(oq, .inl (cL, 1, .inr (.inl (fun _ => 0))))]) (w1 := []) hP hD [0, 1, 2, 3, 4, 5, 6, 7] [8] rfl rfl (by decide) (by decide) hk9 hFc (va_P_nil (dC, dI) vwCl H1) (va_D_nil _)
  have hK := hK.sub (tys' := [(cL, .long)]) [2] rfl
  have hS := hS9
  obtain rfl := hR9
  refine vx_catch (own := RL) (name := "java/lang/UnsupportedOperationException") hown [] ⟨0, 8, 11, 88⟩ [⟨0, 8, 14, 15⟩] htab (fun z hz => nomatch hz) (by decide) (by decide) (ht _ (wr_48 _ (List.mem_of_getElem? (i := 10) rfl))) (va_Nw.use rfl (hG.2.2.2.1 _ (List.mem_of_getElem? (i := 4) rfl))) hc9 hv9 hcl9 ?_
  refine lv_astore_n (lv' := [(2, .ref q9), (0, .ref ox), (1, .ref oq)]) hx hb dL_keep_11 rfl hl (by decide) rfl (fun ls hl => ?_)
  refine lv_iconst (v := 1) hx hb dL_keep_12 (by decide) ?_
  have hP9 := hP.sub (ws' := []) [] rfl
  have hD9 := hD.sub (ws' := []) [] (by decide) rfl
  have hK9 := hK.sub (tys' := []) [] rfl
  exact vx_ret (W.iret (v := 1) hx hb hr (fun t htt hW => have ht := htt; ⟨⟨1, (), rfl, rfl, QW_of ht hW hP9 hK9 hD9⟩, hS.F ht⟩) hS.2.2 dL_keep_13)
set_option maxHeartbeats 4000000 in
set_option maxRecDepth 100000 in
theorem c_L_input (l : Launch) (hlt : l.stackTraces = false) (dC : Nat → ClassId) (dI : Nat → Nat → Nat) (de : Nat) (ox : Nat) (pl : Nat) (ru : Nat) (sh : Nat) (sp : Nat) (sl : Nat) (gr : Nat) (re : Nat) (pr : Nat) (ga : Nat) (rp : Nat) (bo : Nat) (fa : Nat) (gpl : Nat) (gin : Nat) (bbe : Nat) (bdi : Nat) (cP : ClassId) (cI : ClassId) (oq : Nat) (cL : ClassId) (a1 : Int32) (sz : Nat) : vx_Met l yL_input (.codeWith yL_input cL_input 4 (some .int) [(0, 9, 12, 13), (0, 9, 15, 15)] :: wsL_law) { frames := 8, cells := 1, slots := 6, locals := 132 } (va_Pc [.ref ox, .int a1, .ref oq] (PW dC dI de [(cP, .object "Levelsmith$Player"), (cI, .int), (cL, .long)] (WXJ ox pl ru sh sp sl gr re pr ga rp bo fa gpl gin bbe bdi oq cP cI cL de) sz)) (va_Qi (fun (r : Int32) (u : Unit) => (r = 1 ∧ (a1 < 0 ∨ ¬ a1 < 6)) ∨ (r = 2 ∧ ¬ a1 < 0 ∧ a1 < 6)) (fun (_ : Unit) (t : State) => QW dC dI [] [] (va_A (WXJ ox pl ru sh sp sl gr re pr ga rp bo fa gpl gin bbe bdi oq cP cI cL de) sz) t) (va_A (WXJ ox pl ru sh sp sl gr re pr ga rp bo fa gpl gin bbe bdi oq cP cI cL de) sz)) (XX (fun E => False) (va_A (WXJ ox pl ru sh sp sl gr re pr ga rp bo fa gpl gin bbe bdi oq cP cI cL de) sz)) 1 6 (va_A (WXJ ox pl ru sh sp sl gr re pr ga rp bo fa gpl gin bbe bdi oq cP cI cL de) sz) := by
  refine vx_ofWH (cc := cL_input) (maxL := 4) (ret := (some .int)) (by decide) rfl ?_
  intro p e s m args below meth c s₁ B hml hv
  obtain ⟨rfl, hsz, hP, hK, hD0, hG⟩ := hv
  have hx := B.exec
  have hb := B.bytes
  have hr := B.returns
  have hts := atoms_spec (ws := .codeWith yL_input cL_input 4 (some .int) [(0, 9, 12, 13), (0, 9, 15, 15)] :: wsL_law) B.pre
  have ht : ∀ w ∈ wsL_law, w.before _ s = true := fun w h => hts w (List.mem_cons_of_mem _ h)
  have hown : s.vm.findClass RL = some m.cls := findClass_of_methodNamed B.named
  have hlocks := B.notSynchronized
  have htab : c.exceptionTable.toList = tableOf [(0, 9, 12, 13), (0, 9, 15, 15)] := vx_table (x := yL_input) B (hts _ List.mem_cons_self)
  subst hsz
  have hD := hD0.self (sz := s.heap.size)
  generalize hAe : va_A (WXJ ox pl ru sh sp sl gr re pr ga rp bo fa gpl gin bbe bdi oq cP cI cL de) s.heap.size = A at hD hG ⊢
  have hA : ∀ q : Nat, s.heap.size ≤ q → A q := fun q h => by rw [← hAe]; exact Or.inr h
  have hS : va_S A s.heap s.heap [] := va_S.rf
  have hP : va_P (dC, dI) vwCl [(ox, .inr (13, [.ref pl, .ref ru, .ref sh, .ref sp, .ref sl, .ref gr, .ref re, .ref pr, .ref ga, .ref rp, .ref bo, .int 0])), (pl, .inr (1, [.int 0, .ref de, .int 0])), (ru, .inr (1, [.int 0, .ref de, .int 0])), (sh, .inr (1, [.int 0, .ref de, .int 0])), (sp, .inl (cP, 6, .inr (.inr (.inr (.inr (fun _ => none)))))), (ga, .inr (5, [.ref gpl, .ref gin, .int (-1), .int 0, .int 112, .int 0])), (bo, .inr (2, [.ref fa, .ref bbe, .ref bdi, .int 0, .int 0])), (fa, .inl (cI, 96, .inl (fun _ => 0))), (oq, .inl (cL, 1, .inr (.inl (fun _ => 0))))] s.heap := hP
  have hD : va_D A [(ox, .inr (13, [.ref pl, .ref ru, .ref sh, .ref sp, .ref sl, .ref gr, .ref re, .ref pr, .ref ga, .ref rp, .ref bo, .int 0])), (pl, .inr (1, [.int 0, .ref de, .int 0])), (ru, .inr (1, [.int 0, .ref de, .int 0])), (sh, .inr (1, [.int 0, .ref de, .int 0])), (sp, .inl (cP, 6, .inr (.inr (.inr (.inr (fun _ => none)))))), (ga, .inr (5, [.ref gpl, .ref gin, .int (-1), .int 0, .int 112, .int 0])), (bo, .inr (2, [.ref fa, .ref bbe, .ref bdi, .int 0, .int 0])), (fa, .inl (cI, 96, .inl (fun _ => 0))), (oq, .inl (cL, 1, .inr (.inl (fun _ => 0))))] := hD
  have hl := lv_entry ([.ref ox, .int a1, .ref oq]) (n := 4) (Nat.le_of_ble_eq_true rfl)
  rw [lg_entry_eq]
  generalize (lg_sl ([.ref ox, .int a1, .ref oq]) ++ List.replicate (4 - (lg_sl ([.ref ox, .int a1, .ref oq])).length) Slot.unset).toArray = ls at hl ⊢
  have hl : lv_has ls 4 [(0, .ref ox), (1, .int a1), (2, .ref oq)] := hl
  refine lv_aload_n hx hb dL_input_0 rfl (lv_at hl 2 rfl) ?_
  refine lv_iconst (v := 0) hx hb dL_input_1 (by decide) ?_
  refine lv_aload_n hx hb dL_input_2 rfl (lv_at hl 0 rfl) ?_
  refine lv_iload_n hx hb dL_input_3 rfl (lv_at hl 1 rfl) ?_
  have hPc := hP.sub (ws' := [(ox, .inr (13, [.ref pl, .ref ru, .ref sh, .ref sp, .ref sl, .ref gr, .ref re, .ref pr, .ref ga, .ref rp, .ref bo, .int 0])), (pl, .inr (1, [.int 0, .ref de, .int 0])), (ru, .inr (1, [.int 0, .ref de, .int 0])), (sh, .inr (1, [.int 0, .ref de, .int 0])), (sp, .inl (cP, 6, .inr (.inr (.inr (.inr (fun _ => none)))))), (ga, .inr (5, [.ref gpl, .ref gin, .int (-1), .int 0, .int 112, .int 0])), (bo, .inr (2, [.ref fa, .ref bbe, .ref bdi, .int 0, .int 0])), (fa, .inl (cI, 96, .inl (fun _ => 0)))]) [0, 1, 2, 3, 4, 5, 6, 7] rfl
  have hDc := hD.sub (ws' := [(ox, .inr (13, [.ref pl, .ref ru, .ref sh, .ref sp, .ref sl, .ref gr, .ref re, .ref pr, .ref ga, .ref rp, .ref bo, .int 0])), (pl, .inr (1, [.int 0, .ref de, .int 0])), (ru, .inr (1, [.int 0, .ref de, .int 0])), (sh, .inr (1, [.int 0, .ref de, .int 0])), (sp, .inl (cP, 6, .inr (.inr (.inr (.inr (fun _ => none)))))), (ga, .inr (5, [.ref gpl, .ref gin, .int (-1), .int 0, .int 112, .int 0])), (bo, .inr (2, [.ref fa, .ref bbe, .ref bdi, .int 0, .int 0])), (fa, .inl (cI, 96, .inl (fun _ => 0)))]) [0, 1, 2, 3, 4, 5, 6, 7] (by decide) rfl
  have hKc := hK.sub (tys' := [(cP, .object "Levelsmith$Player"), (cI, .int)]) [0, 1] rfl
  have hFc := va_free (wc := [(ox, .inr (13, [.ref pl, .ref ru, .ref sh, .ref sp, .ref sl, .ref gr, .ref re, .ref pr, .ref ga, .ref rp, .ref bo, .int 0])), (pl, .inr (1, [.int 0, .ref de, .int 0])), (ru, .inr (1, [.int 0, .ref de, .int 0])), (sh, .inr (1, [.int 0, .ref de, .int 0])), (sp, .inl (cP, 6, .inr (.inr (.inr (.inr (fun _ => none)))))), (ga, .inr (5, [.ref gpl, .ref gin, .int (-1), .int 0, .int 112, .int 0])), (bo, .inr (2, [.ref fa, .ref bbe, .ref bdi, .int 0, .int 0])), (fa, .inl (cI, 96, .inl (fun _ => 0)))]) hD hS hA [0, 1, 2, 3, 4, 5, 6, 7] rfl
  refine vx_calli (vx_runV (As := [.int a1]) (rest := [.int 0, .ref oq]) ⟨hx, hb, hml, hown, ht⟩ (c_X11_input l hlt dC dI de (ox) (pl) (ru) (sh) (sp) (sl) (gr) (re) (pr) (ga) (rp) (bo) (fa) (gpl) (gin) (bbe) (bdi) (cP) (cI) (a1) s.heap.size) (cwV 1 ht (gWV (wr_53 _ (List.mem_of_getElem? (i := 6) rfl)) (wr_53 _ (List.mem_of_getElem? (i := 7) rfl)) (wr_53 _ (List.mem_of_getElem? (i := 8) rfl)) (wr_1 _ (List.mem_of_getElem? (i := 2) rfl)) (wr_53 _ (List.mem_of_getElem? (i := 9) rfl))) rfl rfl rfl (by decide +kernel) ⟨Nat.le_of_ble_eq_true rfl, Nat.le_of_ble_eq_true rfl⟩) ⟨PW_blind, va_recv hKc hPc (ci := 13) (q0 := 0) rfl rfl, PW_call hPc hDc hKc hS hG hFc⟩ rfl rfl hl.1 rfl (lv_room (Nat.le_of_ble_eq_true rfl)) dL_input_4 ⟨Nat.le_of_ble_eq_true rfl, Nat.le_of_ble_eq_true rfl⟩) hS (fun q _ h => hFc q h) hFc (fun q _ h => hFc q h) (fun E ce q9 u t H1 locs1 ht9 hvm9 _ hR9 hz9 hk9 hS9 hc9 hv9 hcl9 => ?_) (fun r_4 u t H1 locs ht9 hvm hw hB hz1 hk1 hS => False.elim hw)
  obtain ⟨hP, hD⟩ := va_join (wr := [(oq, .inl (cL, 1, .inr (.inl (fun _ => 0))))]) (w1 := []) hP hD [0, 1, 2, 3, 4, 5, 6, 7] [8] rfl rfl (by decide) (by decide) hk9 hFc (va_P_nil (dC, dI) vwCl H1) (va_D_nil _)
  have hK := hK.sub (tys' := [(cL, .long)]) [2] rfl
  have hS := hS9
  rcases hR9 with ⟨rfl, m_4⟩ | ⟨rfl, m_4⟩
  · refine vx_catch (own := RL) (name := "java/lang/IllegalArgumentException") hown [] ⟨0, 9, 12, 13⟩ [⟨0, 9, 15, 15⟩] htab (fun z hz => nomatch hz) (by decide) (by decide) (ht _ (wr_9 _ (List.mem_of_getElem? (i := 15) rfl))) (va_Nw.use rfl (hG.2.2.2.1 _ (List.mem_of_getElem? (i := 1) rfl))) hc9 hv9 hcl9 ?_
    refine lv_astore_n (lv' := [(3, .ref q9), (0, .ref ox), (1, .int a1), (2, .ref oq)]) hx hb dL_input_12 rfl hl (by decide) rfl (fun ls hl => ?_)
    refine lv_iconst (v := 1) hx hb dL_input_13 (by decide) ?_
    have hP9 := hP.sub (ws' := []) [] rfl
    have hD9 := hD.sub (ws' := []) [] (by decide) rfl
    have hK9 := hK.sub (tys' := []) [] rfl
    exact vx_ret (W.iret (v := 1) hx hb hr (fun t htt hW => have ht := htt; ⟨⟨1, (), rfl, (Or.inl ⟨rfl, m_4⟩), QW_of ht hW hP9 hK9 hD9⟩, hS.F ht⟩) hS.2.2 dL_input_14)
  · refine vx_catch (own := RL) (name := "java/lang/IllegalStateException") hown [⟨0, 9, 12, 13⟩] ⟨0, 9, 15, 15⟩ [] htab (fun z hz => by obtain rfl := List.mem_singleton.mp hz; exact Or.inr ⟨by decide, _, (ht _ (wr_9 _ (List.mem_of_getElem? (i := 15) rfl))), hG.2.2.2.2.1 _ (List.mem_of_getElem? (i := 0) rfl)⟩) (by decide) (by decide) (ht _ (wr_9 _ (List.mem_of_getElem? (i := 16) rfl))) (va_Nw.use rfl (hG.2.2.2.1 _ (List.mem_of_getElem? (i := 2) rfl))) hc9 hv9 hcl9 ?_
    refine lv_astore_n (lv' := [(3, .ref q9), (0, .ref ox), (1, .int a1), (2, .ref oq)]) hx hb dL_input_15 rfl hl (by decide) rfl (fun ls hl => ?_)
    refine lv_iconst (v := 2) hx hb dL_input_16 (by decide) ?_
    have hP9 := hP.sub (ws' := []) [] rfl
    have hD9 := hD.sub (ws' := []) [] (by decide) rfl
    have hK9 := hK.sub (tys' := []) [] rfl
    exact vx_ret (W.iret (v := 2) hx hb hr (fun t htt hW => have ht := htt; ⟨⟨2, (), rfl, (Or.inr ⟨rfl, m_4⟩), QW_of ht hW hP9 hK9 hD9⟩, hS.F ht⟩) hS.2.2 dL_input_17)
set_option maxHeartbeats 4000000 in
set_option maxRecDepth 100000 in
theorem c_L_told (l : Launch) (hlt : l.stackTraces = false) (dC : Nat → ClassId) (dI : Nat → Nat → Nat) (de : Nat) (ox : Nat) (pl : Nat) (ru : Nat) (sh : Nat) (sp : Nat) (sl : Nat) (gr : Nat) (re : Nat) (pr : Nat) (ga : Nat) (rp : Nat) (bo : Nat) (fa : Nat) (gpl : Nat) (gin : Nat) (bbe : Nat) (bdi : Nat) (cP : ClassId) (cI : ClassId) (oq : Nat) (cL : ClassId) (a1 : Int32) (sz : Nat) : vx_Met l yL_told (.codeWith yL_told cL_told 4 (some .int) [(0, 9, 12, 13), (0, 9, 15, 15)] :: wsL_law) { frames := 8, cells := 1, slots := 6, locals := 131 } (va_Pc [.ref ox, .int a1, .ref oq] (PW dC dI de [(cP, .object "Levelsmith$Player"), (cI, .int), (cL, .long)] (WXJ ox pl ru sh sp sl gr re pr ga rp bo fa gpl gin bbe bdi oq cP cI cL de) sz)) (va_Qi (fun (r : Int32) (u : Unit) => (r = 1 ∧ ¬ (a1 = 120 ∨ a1 = 121 ∨ a1 = 97 ∨ a1 = 115 ∨ a1 = 106 ∨ a1 = 102)) ∨ (r = 2 ∧ (a1 = 120 ∨ a1 = 121 ∨ a1 = 97 ∨ a1 = 115 ∨ a1 = 106 ∨ a1 = 102))) (fun (_ : Unit) (t : State) => QW dC dI [] [] (va_A (WXJ ox pl ru sh sp sl gr re pr ga rp bo fa gpl gin bbe bdi oq cP cI cL de) sz) t) (va_A (WXJ ox pl ru sh sp sl gr re pr ga rp bo fa gpl gin bbe bdi oq cP cI cL de) sz)) (XX (fun E => False) (va_A (WXJ ox pl ru sh sp sl gr re pr ga rp bo fa gpl gin bbe bdi oq cP cI cL de) sz)) 1 6 (va_A (WXJ ox pl ru sh sp sl gr re pr ga rp bo fa gpl gin bbe bdi oq cP cI cL de) sz) := by
  refine vx_ofWH (cc := cL_told) (maxL := 4) (ret := (some .int)) (by decide) rfl ?_
  intro p e s m args below meth c s₁ B hml hv
  obtain ⟨rfl, hsz, hP, hK, hD0, hG⟩ := hv
  have hx := B.exec
  have hb := B.bytes
  have hr := B.returns
  have hts := atoms_spec (ws := .codeWith yL_told cL_told 4 (some .int) [(0, 9, 12, 13), (0, 9, 15, 15)] :: wsL_law) B.pre
  have ht : ∀ w ∈ wsL_law, w.before _ s = true := fun w h => hts w (List.mem_cons_of_mem _ h)
  have hown : s.vm.findClass RL = some m.cls := findClass_of_methodNamed B.named
  have hlocks := B.notSynchronized
  have htab : c.exceptionTable.toList = tableOf [(0, 9, 12, 13), (0, 9, 15, 15)] := vx_table (x := yL_told) B (hts _ List.mem_cons_self)
  subst hsz
  have hD := hD0.self (sz := s.heap.size)
  generalize hAe : va_A (WXJ ox pl ru sh sp sl gr re pr ga rp bo fa gpl gin bbe bdi oq cP cI cL de) s.heap.size = A at hD hG ⊢
  have hA : ∀ q : Nat, s.heap.size ≤ q → A q := fun q h => by rw [← hAe]; exact Or.inr h
  have hS : va_S A s.heap s.heap [] := va_S.rf
  have hP : va_P (dC, dI) vwCl [(ox, .inr (13, [.ref pl, .ref ru, .ref sh, .ref sp, .ref sl, .ref gr, .ref re, .ref pr, .ref ga, .ref rp, .ref bo, .int 0])), (pl, .inr (1, [.int 0, .ref de, .int 0])), (ru, .inr (1, [.int 0, .ref de, .int 0])), (sh, .inr (1, [.int 0, .ref de, .int 0])), (sp, .inl (cP, 6, .inr (.inr (.inr (.inr (fun _ => none)))))), (ga, .inr (5, [.ref gpl, .ref gin, .int (-1), .int 0, .int 112, .int 0])), (bo, .inr (2, [.ref fa, .ref bbe, .ref bdi, .int 0, .int 0])), (fa, .inl (cI, 96, .inl (fun _ => 0))), (oq, .inl (cL, 1, .inr (.inl (fun _ => 0))))] s.heap := hP
  have hD : va_D A [(ox, .inr (13, [.ref pl, .ref ru, .ref sh, .ref sp, .ref sl, .ref gr, .ref re, .ref pr, .ref ga, .ref rp, .ref bo, .int 0])), (pl, .inr (1, [.int 0, .ref de, .int 0])), (ru, .inr (1, [.int 0, .ref de, .int 0])), (sh, .inr (1, [.int 0, .ref de, .int 0])), (sp, .inl (cP, 6, .inr (.inr (.inr (.inr (fun _ => none)))))), (ga, .inr (5, [.ref gpl, .ref gin, .int (-1), .int 0, .int 112, .int 0])), (bo, .inr (2, [.ref fa, .ref bbe, .ref bdi, .int 0, .int 0])), (fa, .inl (cI, 96, .inl (fun _ => 0))), (oq, .inl (cL, 1, .inr (.inl (fun _ => 0))))] := hD
  have hl := lv_entry ([.ref ox, .int a1, .ref oq]) (n := 4) (Nat.le_of_ble_eq_true rfl)
  rw [lg_entry_eq]
  generalize (lg_sl ([.ref ox, .int a1, .ref oq]) ++ List.replicate (4 - (lg_sl ([.ref ox, .int a1, .ref oq])).length) Slot.unset).toArray = ls at hl ⊢
  have hl : lv_has ls 4 [(0, .ref ox), (1, .int a1), (2, .ref oq)] := hl
  refine lv_aload_n hx hb dL_told_0 rfl (lv_at hl 2 rfl) ?_
  refine lv_iconst (v := 0) hx hb dL_told_1 (by decide) ?_
  refine lv_aload_n hx hb dL_told_2 rfl (lv_at hl 0 rfl) ?_
  refine lv_iload_n hx hb dL_told_3 rfl (lv_at hl 1 rfl) ?_
  have hPc := hP.sub (ws' := [(ox, .inr (13, [.ref pl, .ref ru, .ref sh, .ref sp, .ref sl, .ref gr, .ref re, .ref pr, .ref ga, .ref rp, .ref bo, .int 0])), (pl, .inr (1, [.int 0, .ref de, .int 0])), (ru, .inr (1, [.int 0, .ref de, .int 0])), (sh, .inr (1, [.int 0, .ref de, .int 0])), (sp, .inl (cP, 6, .inr (.inr (.inr (.inr (fun _ => none)))))), (ga, .inr (5, [.ref gpl, .ref gin, .int (-1), .int 0, .int 112, .int 0])), (bo, .inr (2, [.ref fa, .ref bbe, .ref bdi, .int 0, .int 0])), (fa, .inl (cI, 96, .inl (fun _ => 0)))]) [0, 1, 2, 3, 4, 5, 6, 7] rfl
  have hDc := hD.sub (ws' := [(ox, .inr (13, [.ref pl, .ref ru, .ref sh, .ref sp, .ref sl, .ref gr, .ref re, .ref pr, .ref ga, .ref rp, .ref bo, .int 0])), (pl, .inr (1, [.int 0, .ref de, .int 0])), (ru, .inr (1, [.int 0, .ref de, .int 0])), (sh, .inr (1, [.int 0, .ref de, .int 0])), (sp, .inl (cP, 6, .inr (.inr (.inr (.inr (fun _ => none)))))), (ga, .inr (5, [.ref gpl, .ref gin, .int (-1), .int 0, .int 112, .int 0])), (bo, .inr (2, [.ref fa, .ref bbe, .ref bdi, .int 0, .int 0])), (fa, .inl (cI, 96, .inl (fun _ => 0)))]) [0, 1, 2, 3, 4, 5, 6, 7] (by decide) rfl
  have hKc := hK.sub (tys' := [(cP, .object "Levelsmith$Player"), (cI, .int)]) [0, 1] rfl
  have hFc := va_free (wc := [(ox, .inr (13, [.ref pl, .ref ru, .ref sh, .ref sp, .ref sl, .ref gr, .ref re, .ref pr, .ref ga, .ref rp, .ref bo, .int 0])), (pl, .inr (1, [.int 0, .ref de, .int 0])), (ru, .inr (1, [.int 0, .ref de, .int 0])), (sh, .inr (1, [.int 0, .ref de, .int 0])), (sp, .inl (cP, 6, .inr (.inr (.inr (.inr (fun _ => none)))))), (ga, .inr (5, [.ref gpl, .ref gin, .int (-1), .int 0, .int 112, .int 0])), (bo, .inr (2, [.ref fa, .ref bbe, .ref bdi, .int 0, .int 0])), (fa, .inl (cI, 96, .inl (fun _ => 0)))]) hD hS hA [0, 1, 2, 3, 4, 5, 6, 7] rfl
  refine vx_calli (vx_runV (As := [.int a1]) (rest := [.int 0, .ref oq]) ⟨hx, hb, hml, hown, ht⟩ (c_X11_told l hlt dC dI de (ox) (pl) (ru) (sh) (sp) (sl) (gr) (re) (pr) (ga) (rp) (bo) (fa) (gpl) (gin) (bbe) (bdi) (cP) (cI) (a1) s.heap.size) (cwV 1 ht (gWV (wr_54 _ (List.mem_of_getElem? (i := 10) rfl)) (wr_54 _ (List.mem_of_getElem? (i := 11) rfl)) (wr_54 _ (List.mem_of_getElem? (i := 12) rfl)) (wr_1 _ (List.mem_of_getElem? (i := 2) rfl)) (wr_54 _ (List.mem_of_getElem? (i := 13) rfl))) rfl rfl rfl (by decide +kernel) ⟨Nat.le_of_ble_eq_true rfl, Nat.le_of_ble_eq_true rfl⟩) ⟨PW_blind, va_recv hKc hPc (ci := 13) (q0 := 0) rfl rfl, PW_call hPc hDc hKc hS hG hFc⟩ rfl rfl hl.1 rfl (lv_room (Nat.le_of_ble_eq_true rfl)) dL_told_4 ⟨Nat.le_of_ble_eq_true rfl, Nat.le_of_ble_eq_true rfl⟩) hS (fun q _ h => hFc q h) hFc (fun q _ h => hFc q h) (fun E ce q9 u t H1 locs1 ht9 hvm9 _ hR9 hz9 hk9 hS9 hc9 hv9 hcl9 => ?_) (fun r_4 u t H1 locs ht9 hvm hw hB hz1 hk1 hS => False.elim hw)
  obtain ⟨hP, hD⟩ := va_join (wr := [(oq, .inl (cL, 1, .inr (.inl (fun _ => 0))))]) (w1 := []) hP hD [0, 1, 2, 3, 4, 5, 6, 7] [8] rfl rfl (by decide) (by decide) hk9 hFc (va_P_nil (dC, dI) vwCl H1) (va_D_nil _)
  have hK := hK.sub (tys' := [(cL, .long)]) [2] rfl
  have hS := hS9
  rcases hR9 with ⟨rfl, m_4⟩ | ⟨rfl, m_4⟩
  · refine vx_catch (own := RL) (name := "java/lang/IllegalArgumentException") hown [] ⟨0, 9, 12, 13⟩ [⟨0, 9, 15, 15⟩] htab (fun z hz => nomatch hz) (by decide) (by decide) (ht _ (wr_9 _ (List.mem_of_getElem? (i := 15) rfl))) (va_Nw.use rfl (hG.2.2.2.1 _ (List.mem_of_getElem? (i := 1) rfl))) hc9 hv9 hcl9 ?_
    refine lv_astore_n (lv' := [(3, .ref q9), (0, .ref ox), (1, .int a1), (2, .ref oq)]) hx hb dL_told_12 rfl hl (by decide) rfl (fun ls hl => ?_)
    refine lv_iconst (v := 1) hx hb dL_told_13 (by decide) ?_
    have hP9 := hP.sub (ws' := []) [] rfl
    have hD9 := hD.sub (ws' := []) [] (by decide) rfl
    have hK9 := hK.sub (tys' := []) [] rfl
    exact vx_ret (W.iret (v := 1) hx hb hr (fun t htt hW => have ht := htt; ⟨⟨1, (), rfl, (Or.inl ⟨rfl, m_4⟩), QW_of ht hW hP9 hK9 hD9⟩, hS.F ht⟩) hS.2.2 dL_told_14)
  · refine vx_catch (own := RL) (name := "java/lang/IllegalStateException") hown [⟨0, 9, 12, 13⟩] ⟨0, 9, 15, 15⟩ [] htab (fun z hz => by obtain rfl := List.mem_singleton.mp hz; exact Or.inr ⟨by decide, _, (ht _ (wr_9 _ (List.mem_of_getElem? (i := 15) rfl))), hG.2.2.2.2.1 _ (List.mem_of_getElem? (i := 0) rfl)⟩) (by decide) (by decide) (ht _ (wr_9 _ (List.mem_of_getElem? (i := 16) rfl))) (va_Nw.use rfl (hG.2.2.2.1 _ (List.mem_of_getElem? (i := 2) rfl))) hc9 hv9 hcl9 ?_
    refine lv_astore_n (lv' := [(3, .ref q9), (0, .ref ox), (1, .int a1), (2, .ref oq)]) hx hb dL_told_15 rfl hl (by decide) rfl (fun ls hl => ?_)
    refine lv_iconst (v := 2) hx hb dL_told_16 (by decide) ?_
    have hP9 := hP.sub (ws' := []) [] rfl
    have hD9 := hD.sub (ws' := []) [] (by decide) rfl
    have hK9 := hK.sub (tys' := []) [] rfl
    exact vx_ret (W.iret (v := 2) hx hb hr (fun t htt hW => have ht := htt; ⟨⟨2, (), rfl, (Or.inr ⟨rfl, m_4⟩), QW_of ht hW hP9 hK9 hD9⟩, hS.F ht⟩) hS.2.2 dL_told_17)
set_option maxHeartbeats 4000000 in
set_option maxRecDepth 100000 in
theorem c_L_save (l : Launch) (hlt : l.stackTraces = false) (dC : Nat → ClassId) (dI : Nat → Nat → Nat) (de : Nat) (ox : Nat) (pl : Nat) (ru : Nat) (sh : Nat) (sp : Nat) (sl : Nat) (gr : Nat) (re : Nat) (pr : Nat) (ga : Nat) (rp : Nat) (bo : Nat) (fa : Nat) (gpl : Nat) (gin : Nat) (bbe : Nat) (bdi : Nat) (cP : ClassId) (cI : ClassId) (oq : Nat) (cL : ClassId) (a1 : Int32) (sz : Nat) : vx_Met l yL_save (.codeWith yL_save cL_save 4 (some .int) [(0, 16, 19, 21), (0, 16, 22, 15)] :: wsL_law) { frames := 8, cells := 2, slots := 12, locals := 133 } (va_Pc [.ref ox, .int a1, .ref oq] (PW dC dI de [(cP, .object "Levelsmith$Player"), (cI, .int), (cL, .long)] (WXJ ox pl ru sh sp sl gr re pr ga rp bo fa gpl gin bbe bdi oq cP cI cL de) sz)) (va_Qi (fun (r : Int32) (u : Unit) => (r = 1 ∧ (a1 < 0 ∨ ¬ a1 < 6)) ∨ (r = 2 ∧ ¬ a1 < 0 ∧ a1 < 6)) (fun (_ : Unit) (t : State) => QW dC dI [] [] (va_A (WXJ ox pl ru sh sp sl gr re pr ga rp bo fa gpl gin bbe bdi oq cP cI cL de) sz) t) (va_A (WXJ ox pl ru sh sp sl gr re pr ga rp bo fa gpl gin bbe bdi oq cP cI cL de) sz)) (XX (fun E => False) (va_A (WXJ ox pl ru sh sp sl gr re pr ga rp bo fa gpl gin bbe bdi oq cP cI cL de) sz)) 2 12 (va_A (WXJ ox pl ru sh sp sl gr re pr ga rp bo fa gpl gin bbe bdi oq cP cI cL de) sz) := by
  refine vx_ofWH (cc := cL_save) (maxL := 4) (ret := (some .int)) (by decide) rfl ?_
  intro p e s m args below meth c s₁ B hml hv
  obtain ⟨rfl, hsz, hP, hK, hD0, hG⟩ := hv
  have hx := B.exec
  have hb := B.bytes
  have hr := B.returns
  have hts := atoms_spec (ws := .codeWith yL_save cL_save 4 (some .int) [(0, 16, 19, 21), (0, 16, 22, 15)] :: wsL_law) B.pre
  have ht : ∀ w ∈ wsL_law, w.before _ s = true := fun w h => hts w (List.mem_cons_of_mem _ h)
  have hown : s.vm.findClass RL = some m.cls := findClass_of_methodNamed B.named
  have hlocks := B.notSynchronized
  have htab : c.exceptionTable.toList = tableOf [(0, 16, 19, 21), (0, 16, 22, 15)] := vx_table (x := yL_save) B (hts _ List.mem_cons_self)
  subst hsz
  have hD := hD0.self (sz := s.heap.size)
  generalize hAe : va_A (WXJ ox pl ru sh sp sl gr re pr ga rp bo fa gpl gin bbe bdi oq cP cI cL de) s.heap.size = A at hD hG ⊢
  have hA : ∀ q : Nat, s.heap.size ≤ q → A q := fun q h => by rw [← hAe]; exact Or.inr h
  have hS : va_S A s.heap s.heap [] := va_S.rf
  have hP : va_P (dC, dI) vwCl [(ox, .inr (13, [.ref pl, .ref ru, .ref sh, .ref sp, .ref sl, .ref gr, .ref re, .ref pr, .ref ga, .ref rp, .ref bo, .int 0])), (pl, .inr (1, [.int 0, .ref de, .int 0])), (ru, .inr (1, [.int 0, .ref de, .int 0])), (sh, .inr (1, [.int 0, .ref de, .int 0])), (sp, .inl (cP, 6, .inr (.inr (.inr (.inr (fun _ => none)))))), (ga, .inr (5, [.ref gpl, .ref gin, .int (-1), .int 0, .int 112, .int 0])), (bo, .inr (2, [.ref fa, .ref bbe, .ref bdi, .int 0, .int 0])), (fa, .inl (cI, 96, .inl (fun _ => 0))), (oq, .inl (cL, 1, .inr (.inl (fun _ => 0))))] s.heap := hP
  have hD : va_D A [(ox, .inr (13, [.ref pl, .ref ru, .ref sh, .ref sp, .ref sl, .ref gr, .ref re, .ref pr, .ref ga, .ref rp, .ref bo, .int 0])), (pl, .inr (1, [.int 0, .ref de, .int 0])), (ru, .inr (1, [.int 0, .ref de, .int 0])), (sh, .inr (1, [.int 0, .ref de, .int 0])), (sp, .inl (cP, 6, .inr (.inr (.inr (.inr (fun _ => none)))))), (ga, .inr (5, [.ref gpl, .ref gin, .int (-1), .int 0, .int 112, .int 0])), (bo, .inr (2, [.ref fa, .ref bbe, .ref bdi, .int 0, .int 0])), (fa, .inl (cI, 96, .inl (fun _ => 0))), (oq, .inl (cL, 1, .inr (.inl (fun _ => 0))))] := hD
  have hl := lv_entry ([.ref ox, .int a1, .ref oq]) (n := 4) (Nat.le_of_ble_eq_true rfl)
  rw [lg_entry_eq]
  generalize (lg_sl ([.ref ox, .int a1, .ref oq]) ++ List.replicate (4 - (lg_sl ([.ref ox, .int a1, .ref oq])).length) Slot.unset).toArray = ls at hl ⊢
  have hl : lv_has ls 4 [(0, .ref ox), (1, .int a1), (2, .ref oq)] := hl
  refine lv_aload_n hx hb dL_save_0 rfl (lv_at hl 2 rfl) ?_
  refine lv_iconst (v := 0) hx hb dL_save_1 (by decide) ?_
  refine lv_aload_n hx hb dL_save_2 rfl (lv_at hl 0 rfl) ?_
  refine lv_iload_n hx hb dL_save_3 rfl (lv_at hl 1 rfl) ?_
  have hPc := hP.sub (ws' := [(ox, .inr (13, [.ref pl, .ref ru, .ref sh, .ref sp, .ref sl, .ref gr, .ref re, .ref pr, .ref ga, .ref rp, .ref bo, .int 0])), (pl, .inr (1, [.int 0, .ref de, .int 0])), (ru, .inr (1, [.int 0, .ref de, .int 0])), (sh, .inr (1, [.int 0, .ref de, .int 0])), (sp, .inl (cP, 6, .inr (.inr (.inr (.inr (fun _ => none)))))), (ga, .inr (5, [.ref gpl, .ref gin, .int (-1), .int 0, .int 112, .int 0])), (bo, .inr (2, [.ref fa, .ref bbe, .ref bdi, .int 0, .int 0])), (fa, .inl (cI, 96, .inl (fun _ => 0)))]) [0, 1, 2, 3, 4, 5, 6, 7] rfl
  have hDc := hD.sub (ws' := [(ox, .inr (13, [.ref pl, .ref ru, .ref sh, .ref sp, .ref sl, .ref gr, .ref re, .ref pr, .ref ga, .ref rp, .ref bo, .int 0])), (pl, .inr (1, [.int 0, .ref de, .int 0])), (ru, .inr (1, [.int 0, .ref de, .int 0])), (sh, .inr (1, [.int 0, .ref de, .int 0])), (sp, .inl (cP, 6, .inr (.inr (.inr (.inr (fun _ => none)))))), (ga, .inr (5, [.ref gpl, .ref gin, .int (-1), .int 0, .int 112, .int 0])), (bo, .inr (2, [.ref fa, .ref bbe, .ref bdi, .int 0, .int 0])), (fa, .inl (cI, 96, .inl (fun _ => 0)))]) [0, 1, 2, 3, 4, 5, 6, 7] (by decide) rfl
  have hKc := hK.sub (tys' := [(cP, .object "Levelsmith$Player"), (cI, .int)]) [0, 1] rfl
  have hFc := va_free (wc := [(ox, .inr (13, [.ref pl, .ref ru, .ref sh, .ref sp, .ref sl, .ref gr, .ref re, .ref pr, .ref ga, .ref rp, .ref bo, .int 0])), (pl, .inr (1, [.int 0, .ref de, .int 0])), (ru, .inr (1, [.int 0, .ref de, .int 0])), (sh, .inr (1, [.int 0, .ref de, .int 0])), (sp, .inl (cP, 6, .inr (.inr (.inr (.inr (fun _ => none)))))), (ga, .inr (5, [.ref gpl, .ref gin, .int (-1), .int 0, .int 112, .int 0])), (bo, .inr (2, [.ref fa, .ref bbe, .ref bdi, .int 0, .int 0])), (fa, .inl (cI, 96, .inl (fun _ => 0)))]) hD hS hA [0, 1, 2, 3, 4, 5, 6, 7] rfl
  refine vx_calli (vx_runV (As := [.int a1]) (rest := [.int 0, .ref oq]) ⟨hx, hb, hml, hown, ht⟩ (c_X11_save l hlt dC dI de (ox) (pl) (ru) (sh) (sp) (sl) (gr) (re) (pr) (ga) (rp) (bo) (fa) (gpl) (gin) (bbe) (bdi) (cP) (cI) (a1) s.heap.size) (cwV 1 ht (gWV (wr_55 _ (List.mem_of_getElem? (i := 11) rfl)) (wr_55 _ (List.mem_of_getElem? (i := 12) rfl)) (wr_55 _ (List.mem_of_getElem? (i := 13) rfl)) (wr_1 _ (List.mem_of_getElem? (i := 2) rfl)) (wr_55 _ (List.mem_of_getElem? (i := 14) rfl))) rfl rfl rfl (by decide +kernel) ⟨Nat.le_of_ble_eq_true rfl, Nat.le_of_ble_eq_true rfl⟩) ⟨PW_blind, va_recv hKc hPc (ci := 13) (q0 := 0) rfl rfl, PW_call hPc hDc hKc hS hG hFc⟩ rfl rfl hl.1 rfl (lv_room (Nat.le_of_ble_eq_true rfl)) dL_save_4 ⟨Nat.le_of_ble_eq_true rfl, Nat.le_of_ble_eq_true rfl⟩) hS (fun q _ h => hFc q h) hFc (fun q _ h => hFc q h) (fun E ce q9 u t H1 locs1 ht9 hvm9 _ hR9 hz9 hk9 hS9 hc9 hv9 hcl9 => ?_) (fun r_4 u t H1 locs ht9 hvm hw hB hz1 hk1 hS => False.elim hw)
  obtain ⟨hP, hD⟩ := va_join (wr := [(oq, .inl (cL, 1, .inr (.inl (fun _ => 0))))]) (w1 := []) hP hD [0, 1, 2, 3, 4, 5, 6, 7] [8] rfl rfl (by decide) (by decide) hk9 hFc (va_P_nil (dC, dI) vwCl H1) (va_D_nil _)
  have hK := hK.sub (tys' := [(cL, .long)]) [2] rfl
  have hS := hS9
  rcases hR9 with ⟨rfl, m_4⟩ | ⟨rfl, m_4⟩
  · refine vx_catch (own := RL) (name := "java/lang/IndexOutOfBoundsException") hown [] ⟨0, 16, 19, 21⟩ [⟨0, 16, 22, 15⟩] htab (fun z hz => nomatch hz) (by decide) (by decide) (ht _ (wr_18 _ (List.mem_of_getElem? (i := 12) rfl))) (va_Nw.use rfl (hG.2.2.2.1 _ (List.mem_of_getElem? (i := 0) rfl))) hc9 hv9 hcl9 ?_
    refine lv_astore_n (lv' := [(3, .ref q9), (0, .ref ox), (1, .int a1), (2, .ref oq)]) hx hb dL_save_19 rfl hl (by decide) rfl (fun ls hl => ?_)
    refine lv_iconst (v := 1) hx hb dL_save_20 (by decide) ?_
    have hP9 := hP.sub (ws' := []) [] rfl
    have hD9 := hD.sub (ws' := []) [] (by decide) rfl
    have hK9 := hK.sub (tys' := []) [] rfl
    exact vx_ret (W.iret (v := 1) hx hb hr (fun t htt hW => have ht := htt; ⟨⟨1, (), rfl, (Or.inl ⟨rfl, m_4⟩), QW_of ht hW hP9 hK9 hD9⟩, hS.F ht⟩) hS.2.2 dL_save_21)
  · refine vx_catch (own := RL) (name := "java/lang/IllegalStateException") hown [⟨0, 16, 19, 21⟩] ⟨0, 16, 22, 15⟩ [] htab (fun z hz => by obtain rfl := List.mem_singleton.mp hz; exact Or.inr ⟨by decide, _, (ht _ (wr_18 _ (List.mem_of_getElem? (i := 12) rfl))), hG.2.2.2.2.1 _ (List.mem_of_getElem? (i := 1) rfl)⟩) (by decide) (by decide) (ht _ (wr_9 _ (List.mem_of_getElem? (i := 16) rfl))) (va_Nw.use rfl (hG.2.2.2.1 _ (List.mem_of_getElem? (i := 2) rfl))) hc9 hv9 hcl9 ?_
    refine lv_astore_n (lv' := [(3, .ref q9), (0, .ref ox), (1, .int a1), (2, .ref oq)]) hx hb dL_save_22 rfl hl (by decide) rfl (fun ls hl => ?_)
    refine lv_iconst (v := 2) hx hb dL_save_23 (by decide) ?_
    have hP9 := hP.sub (ws' := []) [] rfl
    have hD9 := hD.sub (ws' := []) [] (by decide) rfl
    have hK9 := hK.sub (tys' := []) [] rfl
    exact vx_ret (W.iret (v := 2) hx hb hr (fun t htt hW => have ht := htt; ⟨⟨2, (), rfl, (Or.inr ⟨rfl, m_4⟩), QW_of ht hW hP9 hK9 hD9⟩, hS.F ht⟩) hS.2.2 dL_save_24)
set_option maxHeartbeats 4000000 in
set_option maxRecDepth 100000 in
theorem c_L_load (l : Launch) (hlt : l.stackTraces = false) (dC : Nat → ClassId) (dI : Nat → Nat → Nat) (de : Nat) (ox : Nat) (pl : Nat) (ru : Nat) (sh : Nat) (sp : Nat) (sl : Nat) (gr : Nat) (re : Nat) (pr : Nat) (ga : Nat) (rp : Nat) (bo : Nat) (fa : Nat) (gpl : Nat) (gin : Nat) (bbe : Nat) (bdi : Nat) (cP : ClassId) (cI : ClassId) (oq : Nat) (cL : ClassId) (a1 : Int32) (sz : Nat) : vx_Met l yL_load (.codeWith yL_load cL_load 4 (some .int) [(0, 9, 12, 21), (0, 9, 15, 57), (0, 9, 18, 88)] :: wsL_law) { frames := 8, cells := 2, slots := 12, locals := 134 } (va_Pc [.ref ox, .int a1, .ref oq] (PW dC dI de [(cP, .object "Levelsmith$Player"), (cI, .int), (cL, .long)] (WXJ ox pl ru sh sp sl gr re pr ga rp bo fa gpl gin bbe bdi oq cP cI cL de) sz)) (va_Qi (fun (r : Int32) (u : Unit) => (r = 1 ∧ (a1 < 0 ∨ ¬ a1 < 6)) ∨ (r = 2 ∧ ¬ a1 < 0 ∧ a1 < 6)) (fun (_ : Unit) (t : State) => QW dC dI [] [] (va_A (WXJ ox pl ru sh sp sl gr re pr ga rp bo fa gpl gin bbe bdi oq cP cI cL de) sz) t) (va_A (WXJ ox pl ru sh sp sl gr re pr ga rp bo fa gpl gin bbe bdi oq cP cI cL de) sz)) (XX (fun E => False) (va_A (WXJ ox pl ru sh sp sl gr re pr ga rp bo fa gpl gin bbe bdi oq cP cI cL de) sz)) 2 12 (va_A (WXJ ox pl ru sh sp sl gr re pr ga rp bo fa gpl gin bbe bdi oq cP cI cL de) sz) := by
  refine vx_ofWH (cc := cL_load) (maxL := 4) (ret := (some .int)) (by decide) rfl ?_
  intro p e s m args below meth c s₁ B hml hv
  obtain ⟨rfl, hsz, hP, hK, hD0, hG⟩ := hv
  have hx := B.exec
  have hb := B.bytes
  have hr := B.returns
  have hts := atoms_spec (ws := .codeWith yL_load cL_load 4 (some .int) [(0, 9, 12, 21), (0, 9, 15, 57), (0, 9, 18, 88)] :: wsL_law) B.pre
  have ht : ∀ w ∈ wsL_law, w.before _ s = true := fun w h => hts w (List.mem_cons_of_mem _ h)
  have hown : s.vm.findClass RL = some m.cls := findClass_of_methodNamed B.named
  have hlocks := B.notSynchronized
  have htab : c.exceptionTable.toList = tableOf [(0, 9, 12, 21), (0, 9, 15, 57), (0, 9, 18, 88)] := vx_table (x := yL_load) B (hts _ List.mem_cons_self)
  subst hsz
  have hD := hD0.self (sz := s.heap.size)
  generalize hAe : va_A (WXJ ox pl ru sh sp sl gr re pr ga rp bo fa gpl gin bbe bdi oq cP cI cL de) s.heap.size = A at hD hG ⊢
  have hA : ∀ q : Nat, s.heap.size ≤ q → A q := fun q h => by rw [← hAe]; exact Or.inr h
  have hS : va_S A s.heap s.heap [] := va_S.rf
  have hP : va_P (dC, dI) vwCl [(ox, .inr (13, [.ref pl, .ref ru, .ref sh, .ref sp, .ref sl, .ref gr, .ref re, .ref pr, .ref ga, .ref rp, .ref bo, .int 0])), (pl, .inr (1, [.int 0, .ref de, .int 0])), (ru, .inr (1, [.int 0, .ref de, .int 0])), (sh, .inr (1, [.int 0, .ref de, .int 0])), (sp, .inl (cP, 6, .inr (.inr (.inr (.inr (fun _ => none)))))), (ga, .inr (5, [.ref gpl, .ref gin, .int (-1), .int 0, .int 112, .int 0])), (bo, .inr (2, [.ref fa, .ref bbe, .ref bdi, .int 0, .int 0])), (fa, .inl (cI, 96, .inl (fun _ => 0))), (oq, .inl (cL, 1, .inr (.inl (fun _ => 0))))] s.heap := hP
  have hD : va_D A [(ox, .inr (13, [.ref pl, .ref ru, .ref sh, .ref sp, .ref sl, .ref gr, .ref re, .ref pr, .ref ga, .ref rp, .ref bo, .int 0])), (pl, .inr (1, [.int 0, .ref de, .int 0])), (ru, .inr (1, [.int 0, .ref de, .int 0])), (sh, .inr (1, [.int 0, .ref de, .int 0])), (sp, .inl (cP, 6, .inr (.inr (.inr (.inr (fun _ => none)))))), (ga, .inr (5, [.ref gpl, .ref gin, .int (-1), .int 0, .int 112, .int 0])), (bo, .inr (2, [.ref fa, .ref bbe, .ref bdi, .int 0, .int 0])), (fa, .inl (cI, 96, .inl (fun _ => 0))), (oq, .inl (cL, 1, .inr (.inl (fun _ => 0))))] := hD
  have hl := lv_entry ([.ref ox, .int a1, .ref oq]) (n := 4) (Nat.le_of_ble_eq_true rfl)
  rw [lg_entry_eq]
  generalize (lg_sl ([.ref ox, .int a1, .ref oq]) ++ List.replicate (4 - (lg_sl ([.ref ox, .int a1, .ref oq])).length) Slot.unset).toArray = ls at hl ⊢
  have hl : lv_has ls 4 [(0, .ref ox), (1, .int a1), (2, .ref oq)] := hl
  refine lv_aload_n hx hb dL_load_0 rfl (lv_at hl 2 rfl) ?_
  refine lv_iconst (v := 0) hx hb dL_load_1 (by decide) ?_
  refine lv_aload_n hx hb dL_load_2 rfl (lv_at hl 0 rfl) ?_
  refine lv_iload_n hx hb dL_load_3 rfl (lv_at hl 1 rfl) ?_
  have hPc := hP.sub (ws' := [(ox, .inr (13, [.ref pl, .ref ru, .ref sh, .ref sp, .ref sl, .ref gr, .ref re, .ref pr, .ref ga, .ref rp, .ref bo, .int 0])), (pl, .inr (1, [.int 0, .ref de, .int 0])), (ru, .inr (1, [.int 0, .ref de, .int 0])), (sh, .inr (1, [.int 0, .ref de, .int 0])), (sp, .inl (cP, 6, .inr (.inr (.inr (.inr (fun _ => none)))))), (ga, .inr (5, [.ref gpl, .ref gin, .int (-1), .int 0, .int 112, .int 0])), (bo, .inr (2, [.ref fa, .ref bbe, .ref bdi, .int 0, .int 0])), (fa, .inl (cI, 96, .inl (fun _ => 0)))]) [0, 1, 2, 3, 4, 5, 6, 7] rfl
  have hDc := hD.sub (ws' := [(ox, .inr (13, [.ref pl, .ref ru, .ref sh, .ref sp, .ref sl, .ref gr, .ref re, .ref pr, .ref ga, .ref rp, .ref bo, .int 0])), (pl, .inr (1, [.int 0, .ref de, .int 0])), (ru, .inr (1, [.int 0, .ref de, .int 0])), (sh, .inr (1, [.int 0, .ref de, .int 0])), (sp, .inl (cP, 6, .inr (.inr (.inr (.inr (fun _ => none)))))), (ga, .inr (5, [.ref gpl, .ref gin, .int (-1), .int 0, .int 112, .int 0])), (bo, .inr (2, [.ref fa, .ref bbe, .ref bdi, .int 0, .int 0])), (fa, .inl (cI, 96, .inl (fun _ => 0)))]) [0, 1, 2, 3, 4, 5, 6, 7] (by decide) rfl
  have hKc := hK.sub (tys' := [(cP, .object "Levelsmith$Player"), (cI, .int)]) [0, 1] rfl
  have hFc := va_free (wc := [(ox, .inr (13, [.ref pl, .ref ru, .ref sh, .ref sp, .ref sl, .ref gr, .ref re, .ref pr, .ref ga, .ref rp, .ref bo, .int 0])), (pl, .inr (1, [.int 0, .ref de, .int 0])), (ru, .inr (1, [.int 0, .ref de, .int 0])), (sh, .inr (1, [.int 0, .ref de, .int 0])), (sp, .inl (cP, 6, .inr (.inr (.inr (.inr (fun _ => none)))))), (ga, .inr (5, [.ref gpl, .ref gin, .int (-1), .int 0, .int 112, .int 0])), (bo, .inr (2, [.ref fa, .ref bbe, .ref bdi, .int 0, .int 0])), (fa, .inl (cI, 96, .inl (fun _ => 0)))]) hD hS hA [0, 1, 2, 3, 4, 5, 6, 7] rfl
  refine vx_calli (vx_runV (As := [.int a1]) (rest := [.int 0, .ref oq]) ⟨hx, hb, hml, hown, ht⟩ (c_X11_load l hlt dC dI de (ox) (pl) (ru) (sh) (sp) (sl) (gr) (re) (pr) (ga) (rp) (bo) (fa) (gpl) (gin) (bbe) (bdi) (cP) (cI) (a1) s.heap.size) (cwV 1 ht (gWV (wr_56 _ (List.mem_of_getElem? (i := 2) rfl)) (wr_56 _ (List.mem_of_getElem? (i := 3) rfl)) (wr_56 _ (List.mem_of_getElem? (i := 4) rfl)) (wr_1 _ (List.mem_of_getElem? (i := 2) rfl)) (wr_56 _ (List.mem_of_getElem? (i := 5) rfl))) rfl rfl rfl (by decide +kernel) ⟨Nat.le_of_ble_eq_true rfl, Nat.le_of_ble_eq_true rfl⟩) ⟨PW_blind, va_recv hKc hPc (ci := 13) (q0 := 0) rfl rfl, PW_call hPc hDc hKc hS hG hFc⟩ rfl rfl hl.1 rfl (lv_room (Nat.le_of_ble_eq_true rfl)) dL_load_4 ⟨Nat.le_of_ble_eq_true rfl, Nat.le_of_ble_eq_true rfl⟩) hS (fun q _ h => hFc q h) hFc (fun q _ h => hFc q h) (fun E ce q9 u t H1 locs1 ht9 hvm9 _ hR9 hz9 hk9 hS9 hc9 hv9 hcl9 => ?_) (fun r_4 u t H1 locs ht9 hvm hw hB hz1 hk1 hS => False.elim hw)
  obtain ⟨hP, hD⟩ := va_join (wr := [(oq, .inl (cL, 1, .inr (.inl (fun _ => 0))))]) (w1 := []) hP hD [0, 1, 2, 3, 4, 5, 6, 7] [8] rfl rfl (by decide) (by decide) hk9 hFc (va_P_nil (dC, dI) vwCl H1) (va_D_nil _)
  have hK := hK.sub (tys' := [(cL, .long)]) [2] rfl
  have hS := hS9
  rcases hR9 with ⟨rfl, m_4⟩ | ⟨rfl, m_4⟩
  · refine vx_catch (own := RL) (name := "java/lang/IndexOutOfBoundsException") hown [] ⟨0, 9, 12, 21⟩ [⟨0, 9, 15, 57⟩, ⟨0, 9, 18, 88⟩] htab (fun z hz => nomatch hz) (by decide) (by decide) (ht _ (wr_18 _ (List.mem_of_getElem? (i := 12) rfl))) (va_Nw.use rfl (hG.2.2.2.1 _ (List.mem_of_getElem? (i := 0) rfl))) hc9 hv9 hcl9 ?_
    refine lv_astore_n (lv' := [(3, .ref q9), (0, .ref ox), (1, .int a1), (2, .ref oq)]) hx hb dL_load_12 rfl hl (by decide) rfl (fun ls hl => ?_)
    refine lv_iconst (v := 1) hx hb dL_load_13 (by decide) ?_
    have hP9 := hP.sub (ws' := []) [] rfl
    have hD9 := hD.sub (ws' := []) [] (by decide) rfl
    have hK9 := hK.sub (tys' := []) [] rfl
    exact vx_ret (W.iret (v := 1) hx hb hr (fun t htt hW => have ht := htt; ⟨⟨1, (), rfl, (Or.inl ⟨rfl, m_4⟩), QW_of ht hW hP9 hK9 hD9⟩, hS.F ht⟩) hS.2.2 dL_load_14)
  · refine vx_catch (own := RL) (name := "java/util/NoSuchElementException") hown [⟨0, 9, 12, 21⟩] ⟨0, 9, 15, 57⟩ [⟨0, 9, 18, 88⟩] htab (fun z hz => by obtain rfl := List.mem_singleton.mp hz; exact Or.inr ⟨by decide, _, (ht _ (wr_18 _ (List.mem_of_getElem? (i := 12) rfl))), hG.2.2.2.2.1 _ (List.mem_of_getElem? (i := 2) rfl)⟩) (by decide) (by decide) (ht _ (wr_37 _ (List.mem_of_getElem? (i := 17) rfl))) (va_Nw.use rfl (hG.2.2.2.1 _ (List.mem_of_getElem? (i := 3) rfl))) hc9 hv9 hcl9 ?_
    refine lv_astore_n (lv' := [(3, .ref q9), (0, .ref ox), (1, .int a1), (2, .ref oq)]) hx hb dL_load_15 rfl hl (by decide) rfl (fun ls hl => ?_)
    refine lv_iconst (v := 2) hx hb dL_load_16 (by decide) ?_
    have hP9 := hP.sub (ws' := []) [] rfl
    have hD9 := hD.sub (ws' := []) [] (by decide) rfl
    have hK9 := hK.sub (tys' := []) [] rfl
    exact vx_ret (W.iret (v := 2) hx hb hr (fun t htt hW => have ht := htt; ⟨⟨2, (), rfl, (Or.inr ⟨rfl, m_4⟩), QW_of ht hW hP9 hK9 hD9⟩, hS.F ht⟩) hS.2.2 dL_load_17)
set_option maxHeartbeats 4000000 in
set_option maxRecDepth 100000 in
theorem c_L_hardest (l : Launch) (hlt : l.stackTraces = false) (dC : Nat → ClassId) (dI : Nat → Nat → Nat) (de : Nat) (ox : Nat) (pl : Nat) (ru : Nat) (sh : Nat) (sp : Nat) (sl : Nat) (gr : Nat) (re : Nat) (pr : Nat) (ga : Nat) (rp : Nat) (bo : Nat) (fa : Nat) (gpl : Nat) (gin : Nat) (bbe : Nat) (bdi : Nat) (cP : ClassId) (cI : ClassId) (oq : Nat) (cL : ClassId) (a1 : Int32) (sz : Nat) : vx_Met l yL_hardest (.codeWith yL_hardest cL_hardest 4 (some .int) [(0, 9, 12, 13), (0, 9, 15, 57)] :: wsL_law) { frames := 8, cells := 2, slots := 12, locals := 132 } (va_Pc [.ref ox, .int a1, .ref oq] (PW dC dI de [(cP, .object "Levelsmith$Player"), (cI, .int), (cL, .long)] (WXJ ox pl ru sh sp sl gr re pr ga rp bo fa gpl gin bbe bdi oq cP cI cL de) sz)) (va_Qi (fun (r : Int32) (u : Unit) => (r = 1 ∧ ¬ (a1 = 120 ∨ a1 = 121)) ∨ (r = 2 ∧ (a1 = 120 ∨ a1 = 121))) (fun (_ : Unit) (t : State) => QW dC dI [] [] (va_A (WXJ ox pl ru sh sp sl gr re pr ga rp bo fa gpl gin bbe bdi oq cP cI cL de) sz) t) (va_A (WXJ ox pl ru sh sp sl gr re pr ga rp bo fa gpl gin bbe bdi oq cP cI cL de) sz)) (XX (fun E => False) (va_A (WXJ ox pl ru sh sp sl gr re pr ga rp bo fa gpl gin bbe bdi oq cP cI cL de) sz)) 2 12 (va_A (WXJ ox pl ru sh sp sl gr re pr ga rp bo fa gpl gin bbe bdi oq cP cI cL de) sz) := by
  refine vx_ofWH (cc := cL_hardest) (maxL := 4) (ret := (some .int)) (by decide) rfl ?_
  intro p e s m args below meth c s₁ B hml hv
  obtain ⟨rfl, hsz, hP, hK, hD0, hG⟩ := hv
  have hx := B.exec
  have hb := B.bytes
  have hr := B.returns
  have hts := atoms_spec (ws := .codeWith yL_hardest cL_hardest 4 (some .int) [(0, 9, 12, 13), (0, 9, 15, 57)] :: wsL_law) B.pre
  have ht : ∀ w ∈ wsL_law, w.before _ s = true := fun w h => hts w (List.mem_cons_of_mem _ h)
  have hown : s.vm.findClass RL = some m.cls := findClass_of_methodNamed B.named
  have hlocks := B.notSynchronized
  have htab : c.exceptionTable.toList = tableOf [(0, 9, 12, 13), (0, 9, 15, 57)] := vx_table (x := yL_hardest) B (hts _ List.mem_cons_self)
  subst hsz
  have hD := hD0.self (sz := s.heap.size)
  generalize hAe : va_A (WXJ ox pl ru sh sp sl gr re pr ga rp bo fa gpl gin bbe bdi oq cP cI cL de) s.heap.size = A at hD hG ⊢
  have hA : ∀ q : Nat, s.heap.size ≤ q → A q := fun q h => by rw [← hAe]; exact Or.inr h
  have hS : va_S A s.heap s.heap [] := va_S.rf
  have hP : va_P (dC, dI) vwCl [(ox, .inr (13, [.ref pl, .ref ru, .ref sh, .ref sp, .ref sl, .ref gr, .ref re, .ref pr, .ref ga, .ref rp, .ref bo, .int 0])), (pl, .inr (1, [.int 0, .ref de, .int 0])), (ru, .inr (1, [.int 0, .ref de, .int 0])), (sh, .inr (1, [.int 0, .ref de, .int 0])), (sp, .inl (cP, 6, .inr (.inr (.inr (.inr (fun _ => none)))))), (ga, .inr (5, [.ref gpl, .ref gin, .int (-1), .int 0, .int 112, .int 0])), (bo, .inr (2, [.ref fa, .ref bbe, .ref bdi, .int 0, .int 0])), (fa, .inl (cI, 96, .inl (fun _ => 0))), (oq, .inl (cL, 1, .inr (.inl (fun _ => 0))))] s.heap := hP
  have hD : va_D A [(ox, .inr (13, [.ref pl, .ref ru, .ref sh, .ref sp, .ref sl, .ref gr, .ref re, .ref pr, .ref ga, .ref rp, .ref bo, .int 0])), (pl, .inr (1, [.int 0, .ref de, .int 0])), (ru, .inr (1, [.int 0, .ref de, .int 0])), (sh, .inr (1, [.int 0, .ref de, .int 0])), (sp, .inl (cP, 6, .inr (.inr (.inr (.inr (fun _ => none)))))), (ga, .inr (5, [.ref gpl, .ref gin, .int (-1), .int 0, .int 112, .int 0])), (bo, .inr (2, [.ref fa, .ref bbe, .ref bdi, .int 0, .int 0])), (fa, .inl (cI, 96, .inl (fun _ => 0))), (oq, .inl (cL, 1, .inr (.inl (fun _ => 0))))] := hD
  have hl := lv_entry ([.ref ox, .int a1, .ref oq]) (n := 4) (Nat.le_of_ble_eq_true rfl)
  rw [lg_entry_eq]
  generalize (lg_sl ([.ref ox, .int a1, .ref oq]) ++ List.replicate (4 - (lg_sl ([.ref ox, .int a1, .ref oq])).length) Slot.unset).toArray = ls at hl ⊢
  have hl : lv_has ls 4 [(0, .ref ox), (1, .int a1), (2, .ref oq)] := hl
  refine lv_aload_n hx hb dL_hardest_0 rfl (lv_at hl 2 rfl) ?_
  refine lv_iconst (v := 0) hx hb dL_hardest_1 (by decide) ?_
  refine lv_aload_n hx hb dL_hardest_2 rfl (lv_at hl 0 rfl) ?_
  refine lv_iload_n hx hb dL_hardest_3 rfl (lv_at hl 1 rfl) ?_
  have hPc := hP.sub (ws' := [(ox, .inr (13, [.ref pl, .ref ru, .ref sh, .ref sp, .ref sl, .ref gr, .ref re, .ref pr, .ref ga, .ref rp, .ref bo, .int 0])), (pl, .inr (1, [.int 0, .ref de, .int 0])), (ru, .inr (1, [.int 0, .ref de, .int 0])), (sh, .inr (1, [.int 0, .ref de, .int 0])), (sp, .inl (cP, 6, .inr (.inr (.inr (.inr (fun _ => none)))))), (ga, .inr (5, [.ref gpl, .ref gin, .int (-1), .int 0, .int 112, .int 0])), (bo, .inr (2, [.ref fa, .ref bbe, .ref bdi, .int 0, .int 0])), (fa, .inl (cI, 96, .inl (fun _ => 0)))]) [0, 1, 2, 3, 4, 5, 6, 7] rfl
  have hDc := hD.sub (ws' := [(ox, .inr (13, [.ref pl, .ref ru, .ref sh, .ref sp, .ref sl, .ref gr, .ref re, .ref pr, .ref ga, .ref rp, .ref bo, .int 0])), (pl, .inr (1, [.int 0, .ref de, .int 0])), (ru, .inr (1, [.int 0, .ref de, .int 0])), (sh, .inr (1, [.int 0, .ref de, .int 0])), (sp, .inl (cP, 6, .inr (.inr (.inr (.inr (fun _ => none)))))), (ga, .inr (5, [.ref gpl, .ref gin, .int (-1), .int 0, .int 112, .int 0])), (bo, .inr (2, [.ref fa, .ref bbe, .ref bdi, .int 0, .int 0])), (fa, .inl (cI, 96, .inl (fun _ => 0)))]) [0, 1, 2, 3, 4, 5, 6, 7] (by decide) rfl
  have hKc := hK.sub (tys' := [(cP, .object "Levelsmith$Player"), (cI, .int)]) [0, 1] rfl
  have hFc := va_free (wc := [(ox, .inr (13, [.ref pl, .ref ru, .ref sh, .ref sp, .ref sl, .ref gr, .ref re, .ref pr, .ref ga, .ref rp, .ref bo, .int 0])), (pl, .inr (1, [.int 0, .ref de, .int 0])), (ru, .inr (1, [.int 0, .ref de, .int 0])), (sh, .inr (1, [.int 0, .ref de, .int 0])), (sp, .inl (cP, 6, .inr (.inr (.inr (.inr (fun _ => none)))))), (ga, .inr (5, [.ref gpl, .ref gin, .int (-1), .int 0, .int 112, .int 0])), (bo, .inr (2, [.ref fa, .ref bbe, .ref bdi, .int 0, .int 0])), (fa, .inl (cI, 96, .inl (fun _ => 0)))]) hD hS hA [0, 1, 2, 3, 4, 5, 6, 7] rfl
  refine vx_calli (vx_runV (As := [.int a1]) (rest := [.int 0, .ref oq]) ⟨hx, hb, hml, hown, ht⟩ (c_X11_hardest l hlt dC dI de (ox) (pl) (ru) (sh) (sp) (sl) (gr) (re) (pr) (ga) (rp) (bo) (fa) (gpl) (gin) (bbe) (bdi) (cP) (cI) (a1) s.heap.size) (cwV 1 ht (gWV (wr_64 _ (List.mem_of_getElem? (i := 22) rfl)) (wr_64 _ (List.mem_of_getElem? (i := 23) rfl)) (wr_65 _ (List.mem_of_getElem? (i := 0) rfl)) (wr_1 _ (List.mem_of_getElem? (i := 2) rfl)) (wr_65 _ (List.mem_of_getElem? (i := 1) rfl))) rfl rfl rfl (by decide +kernel) ⟨Nat.le_of_ble_eq_true rfl, Nat.le_of_ble_eq_true rfl⟩) ⟨PW_blind, va_recv hKc hPc (ci := 13) (q0 := 0) rfl rfl, PW_call hPc hDc hKc hS hG hFc⟩ rfl rfl hl.1 rfl (lv_room (Nat.le_of_ble_eq_true rfl)) dL_hardest_4 ⟨Nat.le_of_ble_eq_true rfl, Nat.le_of_ble_eq_true rfl⟩) hS (fun q _ h => hFc q h) hFc (fun q _ h => hFc q h) (fun E ce q9 u t H1 locs1 ht9 hvm9 _ hR9 hz9 hk9 hS9 hc9 hv9 hcl9 => ?_) (fun r_4 u t H1 locs ht9 hvm hw hB hz1 hk1 hS => False.elim hw)
  obtain ⟨hP, hD⟩ := va_join (wr := [(oq, .inl (cL, 1, .inr (.inl (fun _ => 0))))]) (w1 := []) hP hD [0, 1, 2, 3, 4, 5, 6, 7] [8] rfl rfl (by decide) (by decide) hk9 hFc (va_P_nil (dC, dI) vwCl H1) (va_D_nil _)
  have hK := hK.sub (tys' := [(cL, .long)]) [2] rfl
  have hS := hS9
  rcases hR9 with ⟨rfl, m_4⟩ | ⟨rfl, m_4⟩
  · refine vx_catch (own := RL) (name := "java/lang/IllegalArgumentException") hown [] ⟨0, 9, 12, 13⟩ [⟨0, 9, 15, 57⟩] htab (fun z hz => nomatch hz) (by decide) (by decide) (ht _ (wr_9 _ (List.mem_of_getElem? (i := 15) rfl))) (va_Nw.use rfl (hG.2.2.2.1 _ (List.mem_of_getElem? (i := 1) rfl))) hc9 hv9 hcl9 ?_
    refine lv_astore_n (lv' := [(3, .ref q9), (0, .ref ox), (1, .int a1), (2, .ref oq)]) hx hb dL_hardest_12 rfl hl (by decide) rfl (fun ls hl => ?_)
    refine lv_iconst (v := 1) hx hb dL_hardest_13 (by decide) ?_
    have hP9 := hP.sub (ws' := []) [] rfl
    have hD9 := hD.sub (ws' := []) [] (by decide) rfl
    have hK9 := hK.sub (tys' := []) [] rfl
    exact vx_ret (W.iret (v := 1) hx hb hr (fun t htt hW => have ht := htt; ⟨⟨1, (), rfl, (Or.inl ⟨rfl, m_4⟩), QW_of ht hW hP9 hK9 hD9⟩, hS.F ht⟩) hS.2.2 dL_hardest_14)
  · refine vx_catch (own := RL) (name := "java/util/NoSuchElementException") hown [⟨0, 9, 12, 13⟩] ⟨0, 9, 15, 57⟩ [] htab (fun z hz => by obtain rfl := List.mem_singleton.mp hz; exact Or.inr ⟨by decide, _, (ht _ (wr_9 _ (List.mem_of_getElem? (i := 15) rfl))), hG.2.2.2.2.1 _ (List.mem_of_getElem? (i := 3) rfl)⟩) (by decide) (by decide) (ht _ (wr_37 _ (List.mem_of_getElem? (i := 17) rfl))) (va_Nw.use rfl (hG.2.2.2.1 _ (List.mem_of_getElem? (i := 3) rfl))) hc9 hv9 hcl9 ?_
    refine lv_astore_n (lv' := [(3, .ref q9), (0, .ref ox), (1, .int a1), (2, .ref oq)]) hx hb dL_hardest_15 rfl hl (by decide) rfl (fun ls hl => ?_)
    refine lv_iconst (v := 2) hx hb dL_hardest_16 (by decide) ?_
    have hP9 := hP.sub (ws' := []) [] rfl
    have hD9 := hD.sub (ws' := []) [] (by decide) rfl
    have hK9 := hK.sub (tys' := []) [] rfl
    exact vx_ret (W.iret (v := 2) hx hb hr (fun t htt hW => have ht := htt; ⟨⟨2, (), rfl, (Or.inr ⟨rfl, m_4⟩), QW_of ht hW hP9 hK9 hD9⟩, hS.F ht⟩) hS.2.2 dL_hardest_17)
set_option maxHeartbeats 4000000 in
set_option maxRecDepth 100000 in
theorem c_L_fell (l : Launch) (hlt : l.stackTraces = false) (dC : Nat → ClassId) (dI : Nat → Nat → Nat) (de : Nat) (ox : Nat) (pl : Nat) (ru : Nat) (sh : Nat) (sp : Nat) (sl : Nat) (gr : Nat) (re : Nat) (pr : Nat) (ga : Nat) (rp : Nat) (bo : Nat) (fa : Nat) (gpl : Nat) (gin : Nat) (bbe : Nat) (bdi : Nat) (cP : ClassId) (cI : ClassId) (oq : Nat) (cL : ClassId) (a1 : Int32) (a2 : Int32) (sz : Nat) : vx_Met l yL_fell (.codeWith yL_fell cL_fell 5 (some .int) [(0, 10, 13, 21)] :: wsL_law) { frames := 7, cells := 1, slots := 6, locals := 112 } (va_Pc [.ref ox, .int a1, .int a2, .ref oq] (PW dC dI de [(cP, .object "Levelsmith$Player"), (cI, .int), (cL, .long)] (WXJ ox pl ru sh sp sl gr re pr ga rp bo fa gpl gin bbe bdi oq cP cI cL de) sz)) (va_Qi (fun (r : Int32) (g2 : Nat → Int64) => (r = 1 ∧ (a1 < 0 ∨ ¬ a1 < 12 ∨ a2 < 0 ∨ ¬ a2 < 8) ∧ g2 0 = 0) ∨ (r = 0 ∧ (¬ a1 < 0 ∧ a1 < 12 ∧ ¬ a2 < 0 ∧ a2 < 8) ∧ g2 0 = 0)) (fun (g2 : Nat → Int64) (t : State) => QW dC dI [(cL, .long)] [(oq, .inl (cL, 1, .inr (.inl (g2))))] (va_A (WXJ ox pl ru sh sp sl gr re pr ga rp bo fa gpl gin bbe bdi oq cP cI cL de) sz) t) (va_A (WXJ ox pl ru sh sp sl gr re pr ga rp bo fa gpl gin bbe bdi oq cP cI cL de) sz)) (XX (fun E => False) (va_A (WXJ ox pl ru sh sp sl gr re pr ga rp bo fa gpl gin bbe bdi oq cP cI cL de) sz)) 1 6 (va_A (WXJ ox pl ru sh sp sl gr re pr ga rp bo fa gpl gin bbe bdi oq cP cI cL de) sz) := by
  refine vx_ofWH (cc := cL_fell) (maxL := 5) (ret := (some .int)) (by decide) rfl ?_
  intro p e s m args below meth c s₁ B hml hv
  obtain ⟨rfl, hsz, hP, hK, hD0, hG⟩ := hv
  have hx := B.exec
  have hb := B.bytes
  have hr := B.returns
  have hts := atoms_spec (ws := .codeWith yL_fell cL_fell 5 (some .int) [(0, 10, 13, 21)] :: wsL_law) B.pre
  have ht : ∀ w ∈ wsL_law, w.before _ s = true := fun w h => hts w (List.mem_cons_of_mem _ h)
  have hown : s.vm.findClass RL = some m.cls := findClass_of_methodNamed B.named
  have hlocks := B.notSynchronized
  have htab : c.exceptionTable.toList = tableOf [(0, 10, 13, 21)] := vx_table (x := yL_fell) B (hts _ List.mem_cons_self)
  subst hsz
  have hD := hD0.self (sz := s.heap.size)
  generalize hAe : va_A (WXJ ox pl ru sh sp sl gr re pr ga rp bo fa gpl gin bbe bdi oq cP cI cL de) s.heap.size = A at hD hG ⊢
  have hA : ∀ q : Nat, s.heap.size ≤ q → A q := fun q h => by rw [← hAe]; exact Or.inr h
  have hS : va_S A s.heap s.heap [] := va_S.rf
  have hP : va_P (dC, dI) vwCl [(ox, .inr (13, [.ref pl, .ref ru, .ref sh, .ref sp, .ref sl, .ref gr, .ref re, .ref pr, .ref ga, .ref rp, .ref bo, .int 0])), (pl, .inr (1, [.int 0, .ref de, .int 0])), (ru, .inr (1, [.int 0, .ref de, .int 0])), (sh, .inr (1, [.int 0, .ref de, .int 0])), (sp, .inl (cP, 6, .inr (.inr (.inr (.inr (fun _ => none)))))), (ga, .inr (5, [.ref gpl, .ref gin, .int (-1), .int 0, .int 112, .int 0])), (bo, .inr (2, [.ref fa, .ref bbe, .ref bdi, .int 0, .int 0])), (fa, .inl (cI, 96, .inl (fun _ => 0))), (oq, .inl (cL, 1, .inr (.inl (fun _ => 0))))] s.heap := hP
  have hD : va_D A [(ox, .inr (13, [.ref pl, .ref ru, .ref sh, .ref sp, .ref sl, .ref gr, .ref re, .ref pr, .ref ga, .ref rp, .ref bo, .int 0])), (pl, .inr (1, [.int 0, .ref de, .int 0])), (ru, .inr (1, [.int 0, .ref de, .int 0])), (sh, .inr (1, [.int 0, .ref de, .int 0])), (sp, .inl (cP, 6, .inr (.inr (.inr (.inr (fun _ => none)))))), (ga, .inr (5, [.ref gpl, .ref gin, .int (-1), .int 0, .int 112, .int 0])), (bo, .inr (2, [.ref fa, .ref bbe, .ref bdi, .int 0, .int 0])), (fa, .inl (cI, 96, .inl (fun _ => 0))), (oq, .inl (cL, 1, .inr (.inl (fun _ => 0))))] := hD
  have hl := lv_entry ([.ref ox, .int a1, .int a2, .ref oq]) (n := 5) (Nat.le_of_ble_eq_true rfl)
  rw [lg_entry_eq]
  generalize (lg_sl ([.ref ox, .int a1, .int a2, .ref oq]) ++ List.replicate (5 - (lg_sl ([.ref ox, .int a1, .int a2, .ref oq])).length) Slot.unset).toArray = ls at hl ⊢
  have hl : lv_has ls 5 [(0, .ref ox), (1, .int a1), (2, .int a2), (3, .ref oq)] := hl
  refine lv_aload_n hx hb dL_fell_0 rfl (lv_at hl 3 rfl) ?_
  refine lv_iconst (v := 0) hx hb dL_fell_1 (by decide) ?_
  refine lv_aload_n hx hb dL_fell_2 rfl (lv_at hl 0 rfl) ?_
  refine lv_iload_n hx hb dL_fell_3 rfl (lv_at hl 1 rfl) ?_
  refine lv_iload_n hx hb dL_fell_4 rfl (lv_at hl 2 rfl) ?_
  have hPc := hP.sub (ws' := [(ox, .inr (13, [.ref pl, .ref ru, .ref sh, .ref sp, .ref sl, .ref gr, .ref re, .ref pr, .ref ga, .ref rp, .ref bo, .int 0])), (pl, .inr (1, [.int 0, .ref de, .int 0])), (ru, .inr (1, [.int 0, .ref de, .int 0])), (sh, .inr (1, [.int 0, .ref de, .int 0])), (sp, .inl (cP, 6, .inr (.inr (.inr (.inr (fun _ => none)))))), (ga, .inr (5, [.ref gpl, .ref gin, .int (-1), .int 0, .int 112, .int 0])), (bo, .inr (2, [.ref fa, .ref bbe, .ref bdi, .int 0, .int 0])), (fa, .inl (cI, 96, .inl (fun _ => 0)))]) [0, 1, 2, 3, 4, 5, 6, 7] rfl
  have hDc := hD.sub (ws' := [(ox, .inr (13, [.ref pl, .ref ru, .ref sh, .ref sp, .ref sl, .ref gr, .ref re, .ref pr, .ref ga, .ref rp, .ref bo, .int 0])), (pl, .inr (1, [.int 0, .ref de, .int 0])), (ru, .inr (1, [.int 0, .ref de, .int 0])), (sh, .inr (1, [.int 0, .ref de, .int 0])), (sp, .inl (cP, 6, .inr (.inr (.inr (.inr (fun _ => none)))))), (ga, .inr (5, [.ref gpl, .ref gin, .int (-1), .int 0, .int 112, .int 0])), (bo, .inr (2, [.ref fa, .ref bbe, .ref bdi, .int 0, .int 0])), (fa, .inl (cI, 96, .inl (fun _ => 0)))]) [0, 1, 2, 3, 4, 5, 6, 7] (by decide) rfl
  have hKc := hK.sub (tys' := [(cP, .object "Levelsmith$Player"), (cI, .int)]) [0, 1] rfl
  have hFc := va_free (wc := [(ox, .inr (13, [.ref pl, .ref ru, .ref sh, .ref sp, .ref sl, .ref gr, .ref re, .ref pr, .ref ga, .ref rp, .ref bo, .int 0])), (pl, .inr (1, [.int 0, .ref de, .int 0])), (ru, .inr (1, [.int 0, .ref de, .int 0])), (sh, .inr (1, [.int 0, .ref de, .int 0])), (sp, .inl (cP, 6, .inr (.inr (.inr (.inr (fun _ => none)))))), (ga, .inr (5, [.ref gpl, .ref gin, .int (-1), .int 0, .int 112, .int 0])), (bo, .inr (2, [.ref fa, .ref bbe, .ref bdi, .int 0, .int 0])), (fa, .inl (cI, 96, .inl (fun _ => 0)))]) hD hS hA [0, 1, 2, 3, 4, 5, 6, 7] rfl
  refine vx_calli (vx_runV (As := [.int a1, .int a2]) (rest := [.int 0, .ref oq]) ⟨hx, hb, hml, hown, ht⟩ (c_X11_fell l hlt dC dI de (ox) (pl) (ru) (sh) (sp) (sl) (gr) (re) (pr) (ga) (rp) (bo) (fa) (gpl) (gin) (bbe) (bdi) (cP) (cI) (a1) (a2) s.heap.size) (cwV 2 ht (gWV (wr_64 _ (List.mem_of_getElem? (i := 10) rfl)) (wr_64 _ (List.mem_of_getElem? (i := 11) rfl)) (wr_64 _ (List.mem_of_getElem? (i := 12) rfl)) (wr_1 _ (List.mem_of_getElem? (i := 2) rfl)) (wr_64 _ (List.mem_of_getElem? (i := 13) rfl))) rfl rfl rfl (by decide +kernel) ⟨Nat.le_of_ble_eq_true rfl, Nat.le_of_ble_eq_true rfl⟩) ⟨PW_blind, va_recv hKc hPc (ci := 13) (q0 := 0) rfl rfl, PW_call hPc hDc hKc hS hG hFc⟩ rfl rfl hl.1 rfl (lv_room (Nat.le_of_ble_eq_true rfl)) dL_fell_5 ⟨Nat.le_of_ble_eq_true rfl, Nat.le_of_ble_eq_true rfl⟩) hS (fun q _ h => hFc q h) hFc (fun q _ h => hFc q h) (fun E ce q9 u t H1 locs1 ht9 hvm9 _ hR9 hz9 hk9 hS9 hc9 hv9 hcl9 => ?_) (fun r_5 u t H1 locs ht9 hvm hw hB hz1 hk1 hS => ?_)
  · obtain ⟨hP, hD⟩ := va_join (wr := [(oq, .inl (cL, 1, .inr (.inl (fun _ => 0))))]) (w1 := []) hP hD [0, 1, 2, 3, 4, 5, 6, 7] [8] rfl rfl (by decide) (by decide) hk9 hFc (va_P_nil (dC, dI) vwCl H1) (va_D_nil _)
    have hK := hK.sub (tys' := [(cL, .long)]) [2] rfl
    have hS := hS9
    obtain ⟨rfl, m_5⟩ := hR9
    refine vx_catch (own := RL) (name := "java/lang/IndexOutOfBoundsException") hown [] ⟨0, 10, 13, 21⟩ [] htab (fun z hz => nomatch hz) (by decide) (by decide) (ht _ (wr_18 _ (List.mem_of_getElem? (i := 12) rfl))) (va_Nw.use rfl (hG.2.2.2.1 _ (List.mem_of_getElem? (i := 0) rfl))) hc9 hv9 hcl9 ?_
    refine lv_astore (lv' := [(4, .ref q9), (0, .ref ox), (1, .int a1), (2, .int a2), (3, .ref oq)]) hx hb dL_fell_13 hl (by decide) rfl (fun ls hl => ?_)
    refine lv_iconst (v := 1) hx hb dL_fell_15 (by decide) ?_
    have hP9 := hP.sub (ws' := [(oq, .inl (cL, 1, .inr (.inl (fun _ => 0))))]) [0] rfl
    have hD9 := hD.sub (ws' := [(oq, .inl (cL, 1, .inr (.inl (fun _ => 0))))]) [0] (by decide) rfl
    have hK9 := hK.sub (tys' := [(cL, .long)]) [0] rfl
    exact vx_ret (W.iret (v := 1) hx hb hr (fun t htt hW => have ht := htt; ⟨⟨1, _, rfl, (Or.inl ⟨rfl, m_5, rfl⟩), QW_of ht hW hP9 hK9 hD9⟩, hS.F ht⟩) hS.2.2 dL_fell_16)
  · obtain ⟨hP1, hK1, hD1⟩ := hB
    rw [ht9] at hP1
    have hK1 := va_K.moved hvm.symm hK1
    obtain ⟨hP, hD⟩ := va_join (wr := [(oq, .inl (cL, 1, .inr (.inl (fun _ => 0))))]) (w1 := [(ox, .inr (13, [.ref pl, .ref ru, .ref sh, .ref sp, .ref sl, .ref gr, .ref re, .ref pr, .ref ga, .ref rp, .ref bo, .int 0])), (pl, .inr (1, [.int 0, .ref de, .int 0])), (ru, .inr (1, [.int 0, .ref de, .int 0])), (sh, .inr (1, [.int 0, .ref de, .int 0])), (sp, .inl (cP, 6, .inr (.inr (.inr (.inr (fun _ => none)))))), (ga, .inr (5, [.ref gpl, .ref gin, .int (-1), .int 0, .int 112, .int 0])), (bo, .inr (2, [.ref fa, .ref bbe, .ref bdi, .int 0, .int 0])), (fa, .inl (cI, 96, .inl (fun _ => 0)))]) hP hD [0, 1, 2, 3, 4, 5, 6, 7] [8] rfl rfl (by decide) (by decide) hk1 hFc hP1 hD1
    have hK := (hK.sub (tys' := [(cL, .long)]) [2] rfl).app hK1
    generalize H1 = H at hP hS ⊢
    replace hP : va_P (dC, dI) vwCl [(oq, .inl (cL, 1, .inr (.inl (fun _ => 0)))), (ox, .inr (13, [.ref pl, .ref ru, .ref sh, .ref sp, .ref sl, .ref gr, .ref re, .ref pr, .ref ga, .ref rp, .ref bo, .int 0])), (pl, .inr (1, [.int 0, .ref de, .int 0])), (ru, .inr (1, [.int 0, .ref de, .int 0])), (sh, .inr (1, [.int 0, .ref de, .int 0])), (sp, .inl (cP, 6, .inr (.inr (.inr (.inr (fun _ => none)))))), (ga, .inr (5, [.ref gpl, .ref gin, .int (-1), .int 0, .int 112, .int 0])), (bo, .inr (2, [.ref fa, .ref bbe, .ref bdi, .int 0, .int 0])), (fa, .inl (cI, 96, .inl (fun _ => 0)))] H := hP
    replace hD : va_D A [(oq, .inl (cL, 1, .inr (.inl (fun _ => 0)))), (ox, .inr (13, [.ref pl, .ref ru, .ref sh, .ref sp, .ref sl, .ref gr, .ref re, .ref pr, .ref ga, .ref rp, .ref bo, .int 0])), (pl, .inr (1, [.int 0, .ref de, .int 0])), (ru, .inr (1, [.int 0, .ref de, .int 0])), (sh, .inr (1, [.int 0, .ref de, .int 0])), (sp, .inl (cP, 6, .inr (.inr (.inr (.inr (fun _ => none)))))), (ga, .inr (5, [.ref gpl, .ref gin, .int (-1), .int 0, .int 112, .int 0])), (bo, .inr (2, [.ref fa, .ref bbe, .ref bdi, .int 0, .int 0])), (fa, .inl (cI, 96, .inl (fun _ => 0)))] := hD
    have hK : va_K (dC, dI) vwCl [(cL, .long), (cP, .object "Levelsmith$Player"), (cI, .int)] s := hK
    refine W.widen (k := 1) (n := 6) (Nat.le_of_ble_eq_true rfl) (Nat.le_of_ble_eq_true rfl) ?_
    obtain ⟨e_5, m_5⟩ := hw
    subst e_5
    refine lv_i2l (v := (0 : Int32).toInt64) hx hb dL_fell_8 rfl ?_
    refine va_last hx hb hK hP hD hS 0 0 rfl rfl (by unfold vp_in; decide) dL_fell_9 (fun H locs hP hD hS => ?_)
    replace hP : va_P (dC, dI) vwCl [(oq, .inl (cL, 1, .inr (.inl (vp_updL (fun _ => 0) (0 : Int32).toNatClampNeg (((0 : Int32).toInt64)))))), (ox, .inr (13, [.ref pl, .ref ru, .ref sh, .ref sp, .ref sl, .ref gr, .ref re, .ref pr, .ref ga, .ref rp, .ref bo, .int 0])), (pl, .inr (1, [.int 0, .ref de, .int 0])), (ru, .inr (1, [.int 0, .ref de, .int 0])), (sh, .inr (1, [.int 0, .ref de, .int 0])), (sp, .inl (cP, 6, .inr (.inr (.inr (.inr (fun _ => none)))))), (ga, .inr (5, [.ref gpl, .ref gin, .int (-1), .int 0, .int 112, .int 0])), (bo, .inr (2, [.ref fa, .ref bbe, .ref bdi, .int 0, .int 0])), (fa, .inl (cI, 96, .inl (fun _ => 0)))] H := hP
    replace hD : va_D A [(oq, .inl (cL, 1, .inr (.inl (vp_updL (fun _ => 0) (0 : Int32).toNatClampNeg (((0 : Int32).toInt64)))))), (ox, .inr (13, [.ref pl, .ref ru, .ref sh, .ref sp, .ref sl, .ref gr, .ref re, .ref pr, .ref ga, .ref rp, .ref bo, .int 0])), (pl, .inr (1, [.int 0, .ref de, .int 0])), (ru, .inr (1, [.int 0, .ref de, .int 0])), (sh, .inr (1, [.int 0, .ref de, .int 0])), (sp, .inl (cP, 6, .inr (.inr (.inr (.inr (fun _ => none)))))), (ga, .inr (5, [.ref gpl, .ref gin, .int (-1), .int 0, .int 112, .int 0])), (bo, .inr (2, [.ref fa, .ref bbe, .ref bdi, .int 0, .int 0])), (fa, .inl (cI, 96, .inl (fun _ => 0)))] := hD
    refine lv_goto (tgt := 17) hx hb dL_fell_10 (by decide) ?_
    refine lv_iconst (v := 0) hx hb dL_fell_17 (by decide) ?_
    have hP9 := hP.sub (ws' := [(oq, .inl (cL, 1, .inr (.inl (vp_updL (fun _ => 0) (0 : Int32).toNatClampNeg (((0 : Int32).toInt64))))))]) [0] rfl
    have hD9 := hD.sub (ws' := [(oq, .inl (cL, 1, .inr (.inl (vp_updL (fun _ => 0) (0 : Int32).toNatClampNeg (((0 : Int32).toInt64))))))]) [0] (by decide) rfl
    have hK9 := hK.sub (tys' := [(cL, .long)]) [0] rfl
    exact vx_ret (W.iret (v := 0) hx hb hr (fun t htt hW => have ht := htt; ⟨⟨0, _, rfl, (Or.inr ⟨rfl, m_5, (by first | rfl | decide)⟩), QW_of ht hW hP9 hK9 hD9⟩, hS.F ht⟩) hS.2.2 dL_fell_18)
set_option maxHeartbeats 4000000 in
set_option maxRecDepth 100000 in
theorem c_L_level (l : Launch) (hlt : l.stackTraces = false) (dC : Nat → ClassId) (dI : Nat → Nat → Nat) (de : Nat) (ox : Nat) (pl : Nat) (ru : Nat) (sh : Nat) (sp : Nat) (sl : Nat) (gr : Nat) (re : Nat) (pr : Nat) (ga : Nat) (rp : Nat) (bo : Nat) (fa : Nat) (gpl : Nat) (gin : Nat) (bbe : Nat) (bdi : Nat) (cP : ClassId) (cI : ClassId) (oq : Nat) (cL : ClassId) (a1 : Int32) (a2 : Int32) (a3 : Int32) (sz : Nat) : vx_Met l yL_level (.codeWith yL_level cL_level 6 (some .int) [(0, 12, 15, 13), (0, 12, 19, 15)] :: wsL_law) { frames := 8, cells := 7, slots := 131, locals := 151 } (va_Pc [.ref ox, .int a1, .int a2, .int a3, .ref oq] (PW dC dI de [(cP, .object "Levelsmith$Player"), (cI, .int), (cL, .long)] (WXJ ox pl ru sh sp sl gr re pr ga rp bo fa gpl gin bbe bdi oq cP cI cL de) sz)) (va_Qi (fun (r : Int32) (g2 : Nat → Int64) => (r = 1 ∧ ¬ VW a1 a2 a3 ∧ g2 0 = 0) ∨ (r = 0 ∧ VW a1 a2 a3 ∧ g2 0 = 0)) (fun (g2 : Nat → Int64) (t : State) => QW dC dI [(cL, .long)] [(oq, .inl (cL, 1, .inr (.inl (g2))))] (va_A (WXJ ox pl ru sh sp sl gr re pr ga rp bo fa gpl gin bbe bdi oq cP cI cL de) sz) t) (va_A (WXJ ox pl ru sh sp sl gr re pr ga rp bo fa gpl gin bbe bdi oq cP cI cL de) sz)) (XX (fun E => False) (va_A (WXJ ox pl ru sh sp sl gr re pr ga rp bo fa gpl gin bbe bdi oq cP cI cL de) sz)) 7 131 (va_A (WXJ ox pl ru sh sp sl gr re pr ga rp bo fa gpl gin bbe bdi oq cP cI cL de) sz) := by
  refine vx_ofWH (cc := cL_level) (maxL := 6) (ret := (some .int)) (by decide) rfl ?_
  intro p e s m args below meth c s₁ B hml hv
  obtain ⟨rfl, hsz, hP, hK, hD0, hG⟩ := hv
  have hx := B.exec
  have hb := B.bytes
  have hr := B.returns
  have hts := atoms_spec (ws := .codeWith yL_level cL_level 6 (some .int) [(0, 12, 15, 13), (0, 12, 19, 15)] :: wsL_law) B.pre
  have ht : ∀ w ∈ wsL_law, w.before _ s = true := fun w h => hts w (List.mem_cons_of_mem _ h)
  have hown : s.vm.findClass RL = some m.cls := findClass_of_methodNamed B.named
  have hlocks := B.notSynchronized
  have htab : c.exceptionTable.toList = tableOf [(0, 12, 15, 13), (0, 12, 19, 15)] := vx_table (x := yL_level) B (hts _ List.mem_cons_self)
  subst hsz
  have hD := hD0.self (sz := s.heap.size)
  generalize hAe : va_A (WXJ ox pl ru sh sp sl gr re pr ga rp bo fa gpl gin bbe bdi oq cP cI cL de) s.heap.size = A at hD hG ⊢
  have hA : ∀ q : Nat, s.heap.size ≤ q → A q := fun q h => by rw [← hAe]; exact Or.inr h
  have hS : va_S A s.heap s.heap [] := va_S.rf
  have hP : va_P (dC, dI) vwCl [(ox, .inr (13, [.ref pl, .ref ru, .ref sh, .ref sp, .ref sl, .ref gr, .ref re, .ref pr, .ref ga, .ref rp, .ref bo, .int 0])), (pl, .inr (1, [.int 0, .ref de, .int 0])), (ru, .inr (1, [.int 0, .ref de, .int 0])), (sh, .inr (1, [.int 0, .ref de, .int 0])), (sp, .inl (cP, 6, .inr (.inr (.inr (.inr (fun _ => none)))))), (ga, .inr (5, [.ref gpl, .ref gin, .int (-1), .int 0, .int 112, .int 0])), (bo, .inr (2, [.ref fa, .ref bbe, .ref bdi, .int 0, .int 0])), (fa, .inl (cI, 96, .inl (fun _ => 0))), (oq, .inl (cL, 1, .inr (.inl (fun _ => 0))))] s.heap := hP
  have hD : va_D A [(ox, .inr (13, [.ref pl, .ref ru, .ref sh, .ref sp, .ref sl, .ref gr, .ref re, .ref pr, .ref ga, .ref rp, .ref bo, .int 0])), (pl, .inr (1, [.int 0, .ref de, .int 0])), (ru, .inr (1, [.int 0, .ref de, .int 0])), (sh, .inr (1, [.int 0, .ref de, .int 0])), (sp, .inl (cP, 6, .inr (.inr (.inr (.inr (fun _ => none)))))), (ga, .inr (5, [.ref gpl, .ref gin, .int (-1), .int 0, .int 112, .int 0])), (bo, .inr (2, [.ref fa, .ref bbe, .ref bdi, .int 0, .int 0])), (fa, .inl (cI, 96, .inl (fun _ => 0))), (oq, .inl (cL, 1, .inr (.inl (fun _ => 0))))] := hD
  have hl := lv_entry ([.ref ox, .int a1, .int a2, .int a3, .ref oq]) (n := 6) (Nat.le_of_ble_eq_true rfl)
  rw [lg_entry_eq]
  generalize (lg_sl ([.ref ox, .int a1, .int a2, .int a3, .ref oq]) ++ List.replicate (6 - (lg_sl ([.ref ox, .int a1, .int a2, .int a3, .ref oq])).length) Slot.unset).toArray = ls at hl ⊢
  have hl : lv_has ls 6 [(0, .ref ox), (1, .int a1), (2, .int a2), (3, .int a3), (4, .ref oq)] := hl
  refine lv_aload hx hb dL_level_0 (lv_at hl 4 rfl) ?_
  refine lv_iconst (v := 0) hx hb dL_level_2 (by decide) ?_
  refine lv_aload_n hx hb dL_level_3 rfl (lv_at hl 0 rfl) ?_
  refine lv_iload_n hx hb dL_level_4 rfl (lv_at hl 1 rfl) ?_
  refine lv_iload_n hx hb dL_level_5 rfl (lv_at hl 2 rfl) ?_
  refine lv_iload_n hx hb dL_level_6 rfl (lv_at hl 3 rfl) ?_
  have hPc := hP.sub (ws' := [(ox, .inr (13, [.ref pl, .ref ru, .ref sh, .ref sp, .ref sl, .ref gr, .ref re, .ref pr, .ref ga, .ref rp, .ref bo, .int 0])), (pl, .inr (1, [.int 0, .ref de, .int 0])), (ru, .inr (1, [.int 0, .ref de, .int 0])), (sh, .inr (1, [.int 0, .ref de, .int 0])), (sp, .inl (cP, 6, .inr (.inr (.inr (.inr (fun _ => none)))))), (ga, .inr (5, [.ref gpl, .ref gin, .int (-1), .int 0, .int 112, .int 0])), (bo, .inr (2, [.ref fa, .ref bbe, .ref bdi, .int 0, .int 0])), (fa, .inl (cI, 96, .inl (fun _ => 0)))]) [0, 1, 2, 3, 4, 5, 6, 7] rfl
  have hDc := hD.sub (ws' := [(ox, .inr (13, [.ref pl, .ref ru, .ref sh, .ref sp, .ref sl, .ref gr, .ref re, .ref pr, .ref ga, .ref rp, .ref bo, .int 0])), (pl, .inr (1, [.int 0, .ref de, .int 0])), (ru, .inr (1, [.int 0, .ref de, .int 0])), (sh, .inr (1, [.int 0, .ref de, .int 0])), (sp, .inl (cP, 6, .inr (.inr (.inr (.inr (fun _ => none)))))), (ga, .inr (5, [.ref gpl, .ref gin, .int (-1), .int 0, .int 112, .int 0])), (bo, .inr (2, [.ref fa, .ref bbe, .ref bdi, .int 0, .int 0])), (fa, .inl (cI, 96, .inl (fun _ => 0)))]) [0, 1, 2, 3, 4, 5, 6, 7] (by decide) rfl
  have hKc := hK.sub (tys' := [(cP, .object "Levelsmith$Player"), (cI, .int)]) [0, 1] rfl
  have hFc := va_free (wc := [(ox, .inr (13, [.ref pl, .ref ru, .ref sh, .ref sp, .ref sl, .ref gr, .ref re, .ref pr, .ref ga, .ref rp, .ref bo, .int 0])), (pl, .inr (1, [.int 0, .ref de, .int 0])), (ru, .inr (1, [.int 0, .ref de, .int 0])), (sh, .inr (1, [.int 0, .ref de, .int 0])), (sp, .inl (cP, 6, .inr (.inr (.inr (.inr (fun _ => none)))))), (ga, .inr (5, [.ref gpl, .ref gin, .int (-1), .int 0, .int 112, .int 0])), (bo, .inr (2, [.ref fa, .ref bbe, .ref bdi, .int 0, .int 0])), (fa, .inl (cI, 96, .inl (fun _ => 0)))]) hD hS hA [0, 1, 2, 3, 4, 5, 6, 7] rfl
  refine vx_calli (vx_runV (As := [.int a1, .int a2, .int a3]) (rest := [.int 0, .ref oq]) ⟨hx, hb, hml, hown, ht⟩ (c_X11_level l hlt dC dI de (ox) (pl) (ru) (sh) (sp) (sl) (gr) (re) (pr) (ga) (rp) (bo) (fa) (gpl) (gin) (bbe) (bdi) (cP) (cI) (a1) (a2) (a3) s.heap.size) (cwV 3 ht (gWV (wr_9 _ (List.mem_of_getElem? (i := 17) rfl)) (wr_9 _ (List.mem_of_getElem? (i := 18) rfl)) (wr_9 _ (List.mem_of_getElem? (i := 19) rfl)) (wr_1 _ (List.mem_of_getElem? (i := 2) rfl)) (wr_9 _ (List.mem_of_getElem? (i := 20) rfl))) rfl rfl rfl (by decide +kernel) ⟨Nat.le_of_ble_eq_true rfl, Nat.le_of_ble_eq_true rfl⟩) ⟨PW_blind, va_recv hKc hPc (ci := 13) (q0 := 0) rfl rfl, PW_call hPc hDc hKc hS hG hFc⟩ rfl rfl hl.1 rfl (lv_room (Nat.le_of_ble_eq_true rfl)) dL_level_7 ⟨Nat.le_of_ble_eq_true rfl, Nat.le_of_ble_eq_true rfl⟩) hS (fun q _ h => hFc q h) hFc (fun q _ h => hFc q h) (fun E ce q9 u t H1 locs1 ht9 hvm9 _ hR9 hz9 hk9 hS9 hc9 hv9 hcl9 => ?_) (fun r_7 u t H1 locs ht9 hvm hw hB hz1 hk1 hS => ?_)
  · obtain ⟨hP, hD⟩ := va_join (wr := [(oq, .inl (cL, 1, .inr (.inl (fun _ => 0))))]) (w1 := []) hP hD [0, 1, 2, 3, 4, 5, 6, 7] [8] rfl rfl (by decide) (by decide) hk9 hFc (va_P_nil (dC, dI) vwCl H1) (va_D_nil _)
    have hK := hK.sub (tys' := [(cL, .long)]) [2] rfl
    have hS := hS9
    obtain ⟨rfl, m_7⟩ := hR9
    refine vx_catch (own := RL) (name := "java/lang/IllegalArgumentException") hown [] ⟨0, 12, 15, 13⟩ [⟨0, 12, 19, 15⟩] htab (fun z hz => nomatch hz) (by decide) (by decide) (ht _ (wr_9 _ (List.mem_of_getElem? (i := 15) rfl))) (va_Nw.use rfl (hG.2.2.2.1 _ (List.mem_of_getElem? (i := 1) rfl))) hc9 hv9 hcl9 ?_
    refine lv_astore (lv' := [(5, .ref q9), (0, .ref ox), (1, .int a1), (2, .int a2), (3, .int a3), (4, .ref oq)]) hx hb dL_level_15 hl (by decide) rfl (fun ls hl => ?_)
    refine lv_iconst (v := 1) hx hb dL_level_17 (by decide) ?_
    have hP9 := hP.sub (ws' := [(oq, .inl (cL, 1, .inr (.inl (fun _ => 0))))]) [0] rfl
    have hD9 := hD.sub (ws' := [(oq, .inl (cL, 1, .inr (.inl (fun _ => 0))))]) [0] (by decide) rfl
    have hK9 := hK.sub (tys' := [(cL, .long)]) [0] rfl
    exact vx_ret (W.iret (v := 1) hx hb hr (fun t htt hW => have ht := htt; ⟨⟨1, _, rfl, (Or.inl ⟨rfl, m_7, rfl⟩), QW_of ht hW hP9 hK9 hD9⟩, hS.F ht⟩) hS.2.2 dL_level_18)
  · obtain ⟨hP1, hK1, hD1⟩ := hB
    rw [ht9] at hP1
    have hK1 := va_K.moved hvm.symm hK1
    obtain ⟨hP, hD⟩ := va_join (wr := [(oq, .inl (cL, 1, .inr (.inl (fun _ => 0))))]) (w1 := []) hP hD [0, 1, 2, 3, 4, 5, 6, 7] [8] rfl rfl (by decide) (by decide) hk1 hFc hP1 hD1
    have hK := (hK.sub (tys' := [(cL, .long)]) [2] rfl).app hK1
    generalize H1 = H at hP hS ⊢
    replace hP : va_P (dC, dI) vwCl [(oq, .inl (cL, 1, .inr (.inl (fun _ => 0))))] H := hP
    replace hD : va_D A [(oq, .inl (cL, 1, .inr (.inl (fun _ => 0))))] := hD
    have hK : va_K (dC, dI) vwCl [(cL, .long)] s := hK
    refine W.widen (k := 7) (n := 131) (Nat.le_of_ble_eq_true rfl) (Nat.le_of_ble_eq_true rfl) ?_
    obtain ⟨e_7, m_7⟩ := hw
    subst e_7
    refine lv_i2l (v := (0 : Int32).toInt64) hx hb dL_level_10 rfl ?_
    refine va_last hx hb hK hP hD hS 0 0 rfl rfl (by unfold vp_in; decide) dL_level_11 (fun H locs hP hD hS => ?_)
    replace hP : va_P (dC, dI) vwCl [(oq, .inl (cL, 1, .inr (.inl (vp_updL (fun _ => 0) (0 : Int32).toNatClampNeg (((0 : Int32).toInt64))))))] H := hP
    replace hD : va_D A [(oq, .inl (cL, 1, .inr (.inl (vp_updL (fun _ => 0) (0 : Int32).toNatClampNeg (((0 : Int32).toInt64))))))] := hD
    refine lv_goto (tgt := 23) hx hb dL_level_12 (by decide) ?_
    refine lv_iconst (v := 0) hx hb dL_level_23 (by decide) ?_
    have hP9 := hP.sub (ws' := [(oq, .inl (cL, 1, .inr (.inl (vp_updL (fun _ => 0) (0 : Int32).toNatClampNeg (((0 : Int32).toInt64))))))]) [0] rfl
    have hD9 := hD.sub (ws' := [(oq, .inl (cL, 1, .inr (.inl (vp_updL (fun _ => 0) (0 : Int32).toNatClampNeg (((0 : Int32).toInt64))))))]) [0] (by decide) rfl
    have hK9 := hK.sub (tys' := [(cL, .long)]) [0] rfl
    exact vx_ret (W.iret (v := 0) hx hb hr (fun t htt hW => have ht := htt; ⟨⟨0, _, rfl, (Or.inr ⟨rfl, m_7, (by first | rfl | decide)⟩), QW_of ht hW hP9 hK9 hD9⟩, hS.F ht⟩) hS.2.2 dL_level_24)
