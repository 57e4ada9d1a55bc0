theorem dX11_put_0 : decode cX11_put 0 = .ok (.aload_n 0, 1) := by decide +kernel
theorem dX11_put_1 : decode cX11_put 1 = .ok (.iload_n 1, 1) := by decide +kernel
theorem dX11_put_2 : decode cX11_put 2 = .ok (.iload_n 2, 1) := by decide +kernel
theorem dX11_put_3 : decode cX11_put 3 = .ok (.iload_n 3, 1) := by decide +kernel
theorem dX11_put_4 : decode cX11_put 4 = .ok (.invokevirtual 112, 3) := by decide +kernel
theorem dX11_fill_0 : decode cX11_fill 0 = .ok (.aload_n 0, 1) := by decide +kernel
theorem dX11_fill_1 : decode cX11_fill 1 = .ok (.iload_n 1, 1) := by decide +kernel
theorem dX11_fill_2 : decode cX11_fill 2 = .ok (.iload_n 2, 1) := by decide +kernel
theorem dX11_fill_3 : decode cX11_fill 3 = .ok (.iload_n 3, 1) := by decide +kernel
theorem dX11_fill_4 : decode cX11_fill 4 = .ok (.invokevirtual 112, 3) := by decide +kernel
theorem dX11_tile_0 : decode cX11_tile 0 = .ok (.aload_n 0, 1) := by decide +kernel
theorem dX11_tile_1 : decode cX11_tile 1 = .ok (.iload_n 1, 1) := by decide +kernel
theorem dX11_tile_2 : decode cX11_tile 2 = .ok (.iload_n 2, 1) := by decide +kernel
theorem dX11_tile_3 : decode cX11_tile 3 = .ok (.iload_n 3, 1) := by decide +kernel
theorem dX11_tile_4 : decode cX11_tile 4 = .ok (.invokevirtual 112, 3) := by decide +kernel
theorem dX11_start_0 : decode cX11_start 0 = .ok (.aload_n 0, 1) := by decide +kernel
theorem dX11_start_1 : decode cX11_start 1 = .ok (.iload_n 1, 1) := by decide +kernel
theorem dX11_start_2 : decode cX11_start 2 = .ok (.iload_n 2, 1) := by decide +kernel
theorem dX11_start_3 : decode cX11_start 3 = .ok (.iload_n 3, 1) := by decide +kernel
theorem dX11_start_4 : decode cX11_start 4 = .ok (.invokevirtual 112, 3) := by decide +kernel
theorem dX11_guard_0 : decode cX11_guard 0 = .ok (.aload_n 0, 1) := by decide +kernel
theorem dX11_guard_1 : decode cX11_guard 1 = .ok (.iload_n 1, 1) := by decide +kernel
theorem dX11_guard_2 : decode cX11_guard 2 = .ok (.iload_n 2, 1) := by decide +kernel
theorem dX11_guard_3 : decode cX11_guard 3 = .ok (.iload 4, 2) := by decide +kernel
theorem dX11_guard_5 : decode cX11_guard 5 = .ok (.invokevirtual 112, 3) := by decide +kernel
theorem dX11_guardAt_0 : decode cX11_guardAt 0 = .ok (.aload_n 0, 1) := by decide +kernel
theorem dX11_guardAt_1 : decode cX11_guardAt 1 = .ok (.iload_n 1, 1) := by decide +kernel
theorem dX11_guardAt_2 : decode cX11_guardAt 2 = .ok (.invokevirtual 153, 3) := by decide +kernel
theorem dX11_copy_0 : decode cX11_copy 0 = .ok (.aload_n 0, 1) := by decide +kernel
theorem dX11_copy_1 : decode cX11_copy 1 = .ok (.iload_n 1, 1) := by decide +kernel
theorem dX11_copy_2 : decode cX11_copy 2 = .ok (.invokevirtual 153, 3) := by decide +kernel
theorem dX11_grow_0 : decode cX11_grow 0 = .ok (.aload_n 0, 1) := by decide +kernel
theorem dX11_grow_1 : decode cX11_grow 1 = .ok (.iload_n 1, 1) := by decide +kernel
theorem dX11_grow_2 : decode cX11_grow 2 = .ok (.invokevirtual 153, 3) := by decide +kernel
theorem dX11_isWinnable_0 : decode cX11_isWinnable 0 = .ok (.aload_n 0, 1) := by decide +kernel
theorem dX11_isWinnable_1 : decode cX11_isWinnable 1 = .ok (.iload_n 1, 1) := by decide +kernel
theorem dX11_isWinnable_2 : decode cX11_isWinnable 2 = .ok (.invokevirtual 176, 3) := by decide +kernel
theorem dX11_frames_0 : decode cX11_frames 0 = .ok (.aload_n 0, 1) := by decide +kernel
theorem dX11_frames_1 : decode cX11_frames 1 = .ok (.iload_n 1, 1) := by decide +kernel
theorem dX11_frames_2 : decode cX11_frames 2 = .ok (.invokevirtual 184, 3) := by decide +kernel
theorem dX11_routeAt_0 : decode cX11_routeAt 0 = .ok (.aload_n 0, 1) := by decide +kernel
theorem dX11_routeAt_1 : decode cX11_routeAt 1 = .ok (.iload_n 1, 1) := by decide +kernel
theorem dX11_routeAt_2 : decode cX11_routeAt 2 = .ok (.invokevirtual 184, 3) := by decide +kernel
theorem dX11_states_0 : decode cX11_states 0 = .ok (.aload_n 0, 1) := by decide +kernel
theorem dX11_states_1 : decode cX11_states 1 = .ok (.iload_n 1, 1) := by decide +kernel
theorem dX11_states_2 : decode cX11_states 2 = .ok (.invokevirtual 176, 3) := by decide +kernel
theorem dX11_framesTo_0 : decode cX11_framesTo 0 = .ok (.aload_n 0, 1) := by decide +kernel
theorem dX11_framesTo_1 : decode cX11_framesTo 1 = .ok (.iload_n 1, 1) := by decide +kernel
theorem dX11_framesTo_2 : decode cX11_framesTo 2 = .ok (.iload_n 2, 1) := by decide +kernel
theorem dX11_framesTo_3 : decode cX11_framesTo 3 = .ok (.iload_n 3, 1) := by decide +kernel
theorem dX11_framesTo_4 : decode cX11_framesTo 4 = .ok (.invokevirtual 112, 3) := by decide +kernel
theorem dX11_softLocks_0 : decode cX11_softLocks 0 = .ok (.aload_n 0, 1) := by decide +kernel
theorem dX11_softLocks_1 : decode cX11_softLocks 1 = .ok (.iload_n 1, 1) := by decide +kernel
theorem dX11_softLocks_2 : decode cX11_softLocks 2 = .ok (.invokevirtual 206, 3) := by decide +kernel
theorem dX11_softLockAt_0 : decode cX11_softLockAt 0 = .ok (.aload_n 0, 1) := by decide +kernel
theorem dX11_softLockAt_1 : decode cX11_softLockAt 1 = .ok (.iload_n 1, 1) := by decide +kernel
theorem dX11_softLockAt_2 : decode cX11_softLockAt 2 = .ok (.invokevirtual 153, 3) := by decide +kernel
theorem dX11_ways_0 : decode cX11_ways 0 = .ok (.aload_n 0, 1) := by decide +kernel
theorem dX11_ways_1 : decode cX11_ways 1 = .ok (.iload_n 1, 1) := by decide +kernel
theorem dX11_ways_2 : decode cX11_ways 2 = .ok (.invokevirtual 176, 3) := by decide +kernel
theorem dX11_isNeeded_0 : decode cX11_isNeeded 0 = .ok (.aload_n 0, 1) := by decide +kernel
theorem dX11_isNeeded_1 : decode cX11_isNeeded 1 = .ok (.iload_n 1, 1) := by decide +kernel
theorem dX11_isNeeded_2 : decode cX11_isNeeded 2 = .ok (.invokevirtual 153, 3) := by decide +kernel
theorem dX11_isWinnableWith_0 : decode cX11_isWinnableWith 0 = .ok (.aload_n 0, 1) := by decide +kernel
theorem dX11_isWinnableWith_1 : decode cX11_isWinnableWith 1 = .ok (.iload_n 1, 1) := by decide +kernel
theorem dX11_isWinnableWith_2 : decode cX11_isWinnableWith 2 = .ok (.invokevirtual 153, 3) := by decide +kernel
theorem dX11_mend_0 : decode cX11_mend 0 = .ok (.aload_n 0, 1) := by decide +kernel
theorem dX11_mend_1 : decode cX11_mend 1 = .ok (.iload_n 1, 1) := by decide +kernel
theorem dX11_mend_2 : decode cX11_mend 2 = .ok (.invokevirtual 153, 3) := by decide +kernel
theorem dX11_mendAt_0 : decode cX11_mendAt 0 = .ok (.aload_n 0, 1) := by decide +kernel
theorem dX11_mendAt_1 : decode cX11_mendAt 1 = .ok (.iload_n 1, 1) := by decide +kernel
theorem dX11_mendAt_2 : decode cX11_mendAt 2 = .ok (.invokevirtual 153, 3) := by decide +kernel
theorem dX11_rests_0 : decode cX11_rests 0 = .ok (.aload_n 0, 1) := by decide +kernel
theorem dX11_rests_1 : decode cX11_rests 1 = .ok (.iload_n 1, 1) := by decide +kernel
theorem dX11_rests_2 : decode cX11_rests 2 = .ok (.invokevirtual 153, 3) := by decide +kernel
theorem dX11_longestAir_0 : decode cX11_longestAir 0 = .ok (.aload_n 0, 1) := by decide +kernel
theorem dX11_longestAir_1 : decode cX11_longestAir 1 = .ok (.iload_n 1, 1) := by decide +kernel
theorem dX11_longestAir_2 : decode cX11_longestAir 2 = .ok (.invokevirtual 153, 3) := by decide +kernel
theorem dX11_play_0 : decode cX11_play 0 = .ok (.aload_n 0, 1) := by decide +kernel
theorem dX11_play_1 : decode cX11_play 1 = .ok (.iload_n 1, 1) := by decide +kernel
theorem dX11_play_2 : decode cX11_play 2 = .ok (.invokevirtual 153, 3) := by decide +kernel
theorem dX11_length_0 : decode cX11_length 0 = .ok (.aload_n 0, 1) := by decide +kernel
theorem dX11_length_1 : decode cX11_length 1 = .ok (.iload_n 1, 1) := by decide +kernel
theorem dX11_length_2 : decode cX11_length 2 = .ok (.invokevirtual 367, 3) := by decide +kernel
theorem dX11_replay_0 : decode cX11_replay 0 = .ok (.aload_n 0, 1) := by decide +kernel
theorem dX11_replay_1 : decode cX11_replay 1 = .ok (.iload_n 1, 1) := by decide +kernel
theorem dX11_replay_2 : decode cX11_replay 2 = .ok (.invokevirtual 367, 3) := by decide +kernel
theorem dX11_isTrue_0 : decode cX11_isTrue 0 = .ok (.aload_n 0, 1) := by decide +kernel
theorem dX11_isTrue_1 : decode cX11_isTrue 1 = .ok (.iload_n 1, 1) := by decide +kernel
theorem dX11_isTrue_2 : decode cX11_isTrue 2 = .ok (.invokevirtual 367, 3) := by decide +kernel
theorem dX11_isPatched_0 : decode cX11_isPatched 0 = .ok (.aload_n 0, 1) := by decide +kernel
theorem dX11_isPatched_1 : decode cX11_isPatched 1 = .ok (.iload_n 1, 1) := by decide +kernel
theorem dX11_isPatched_2 : decode cX11_isPatched 2 = .ok (.invokevirtual 367, 3) := by decide +kernel
theorem dX11_ghost_0 : decode cX11_ghost 0 = .ok (.aload_n 0, 1) := by decide +kernel
theorem dX11_ghost_1 : decode cX11_ghost 1 = .ok (.iload_n 1, 1) := by decide +kernel
theorem dX11_ghost_2 : decode cX11_ghost 2 = .ok (.invokevirtual 367, 3) := by decide +kernel
theorem dX11_bot_0 : decode cX11_bot 0 = .ok (.aload_n 0, 1) := by decide +kernel
theorem dX11_bot_1 : decode cX11_bot 1 = .ok (.iload_n 1, 1) := by decide +kernel
theorem dX11_bot_2 : decode cX11_bot 2 = .ok (.invokevirtual 153, 3) := by decide +kernel
theorem dX11_publish_0 : decode cX11_publish 0 = .ok (.aload_n 0, 1) := by decide +kernel
theorem dX11_publish_1 : decode cX11_publish 1 = .ok (.iload_n 1, 1) := by decide +kernel
theorem dX11_publish_2 : decode cX11_publish 2 = .ok (.invokevirtual 153, 3) := by decide +kernel
theorem dX11_isStolen_0 : decode cX11_isStolen 0 = .ok (.aload_n 0, 1) := by decide +kernel
theorem dX11_isStolen_1 : decode cX11_isStolen 1 = .ok (.iload_n 1, 1) := by decide +kernel
theorem dX11_isStolen_2 : decode cX11_isStolen 2 = .ok (.invokevirtual 153, 3) := by decide +kernel
theorem dX11_checksum_0 : decode cX11_checksum 0 = .ok (.aload_n 0, 1) := by decide +kernel
theorem dX11_checksum_1 : decode cX11_checksum 1 = .ok (.iload_n 1, 1) := by decide +kernel
theorem dX11_checksum_2 : decode cX11_checksum 2 = .ok (.invokevirtual 153, 3) := by decide +kernel
theorem dX11_stuckShare_0 : decode cX11_stuckShare 0 = .ok (.aload_n 0, 1) := by decide +kernel
theorem dX11_stuckShare_1 : decode cX11_stuckShare 1 = .ok (.iload_n 1, 1) := by decide +kernel
theorem dX11_stuckShare_2 : decode cX11_stuckShare 2 = .ok (.invokevirtual 206, 3) := by decide +kernel
theorem dX11_meanLeft_0 : decode cX11_meanLeft 0 = .ok (.aload_n 0, 1) := by decide +kernel
theorem dX11_meanLeft_1 : decode cX11_meanLeft 1 = .ok (.iload_n 1, 1) := by decide +kernel
theorem dX11_meanLeft_2 : decode cX11_meanLeft 2 = .ok (.invokevirtual 184, 3) := by decide +kernel
set_option maxHeartbeats 4000000 in
set_option maxRecDepth 100000 in
theorem c_X11_put (l : Launch) (hlt : l.stackTraces = false) (dC : Nat → ClassId) (dI : Nat → Nat → Nat) (de : Nat) (ox : Nat) (pl : Nat) (ru : Nat) (sh : Nat) (sp : Nat) (sl : Nat) (gr : Nat) (re : Nat) (pr : Nat) (ga : Nat) (rp : Nat) (bo : Nat) (fa : Nat) (gpl : Nat) (gin : Nat) (bbe : Nat) (bdi : Nat) (cP : ClassId) (cI : ClassId) (a1 : Int32) (a2 : Int32) (a3 : Int32) (a4 : Int32) (sz : Nat) : vx_Met l yX11_put (.code yX11_put cX11_put 7 (some .char) :: wsL_law) { frames := 8, cells := 1, slots := 6, locals := 135 } (va_Pc [.ref ox, .int a1, .int a2, .int a3, .int a4] (PW dC dI de [(cP, .object "Levelsmith$Player"), (cI, .int)] (WX ox pl ru sh sp sl gr re pr ga rp bo fa gpl gin bbe bdi cP cI de) sz)) (va_Qi (fun (_ : Int32) (_ : Unit) => False) (fun (_ : Unit) (_ : State) => True) (va_A (WX ox pl ru sh sp sl gr re pr ga rp bo fa gpl gin bbe bdi cP cI de) sz)) (XX (fun E => E = "java/lang/IndexOutOfBoundsException") (va_A (WX ox pl ru sh sp sl gr re pr ga rp bo fa gpl gin bbe bdi cP cI de) sz)) 1 6 (va_A (WX ox pl ru sh sp sl gr re pr ga rp bo fa gpl gin bbe bdi cP cI de) sz) := by
  refine vx_ofW (cc := cX11_put) (maxL := 7) (ret := (some .char)) (by decide) rfl ?_
  intro p e s m args below meth c s₁ B hml hex hv
  obtain ⟨rfl, hsz, hP, hK, hD0, hG⟩ := hv
  have hx := B.exec
  have hb := B.bytes
  have hr := B.returns
  have hts := atoms_spec (ws := .code yX11_put cX11_put 7 (some .char) :: wsL_law) B.pre
  have ht : ∀ w ∈ wsL_law, w.before _ s = true := fun w h => hts w (List.mem_cons_of_mem _ h)
  have hown : s.vm.findClass RX11 = some m.cls := findClass_of_methodNamed B.named
  have hlocks := B.notSynchronized
  subst hsz
  have hD := hD0.self (sz := s.heap.size)
  generalize hAe : va_A (WX ox pl ru sh sp sl gr re pr ga rp bo fa gpl gin bbe bdi cP cI de) s.heap.size = A at hD hG ⊢
  have hA : ∀ q : Nat, s.heap.size ≤ q → A q := fun q h => by rw [← hAe]; exact Or.inr h
  have hS : va_S A s.heap s.heap [] := va_S.rf
  have hP : va_P (dC, dI) vwCl [(ox, .inr (13, [.ref pl, .ref ru, .ref sh, .ref sp, .ref sl, .ref gr, .ref re, .ref pr, .ref ga, .ref rp, .ref bo, .int 0])), (pl, .inr (1, [.int 0, .ref de, .int 0])), (ru, .inr (1, [.int 0, .ref de, .int 0])), (sh, .inr (1, [.int 0, .ref de, .int 0])), (sp, .inl (cP, 6, .inr (.inr (.inr (.inr (fun _ => none)))))), (ga, .inr (5, [.ref gpl, .ref gin, .int (-1), .int 0, .int 112, .int 0])), (bo, .inr (2, [.ref fa, .ref bbe, .ref bdi, .int 0, .int 0])), (fa, .inl (cI, 96, .inl (fun _ => 0)))] s.heap := hP
  have hD : va_D A [(ox, .inr (13, [.ref pl, .ref ru, .ref sh, .ref sp, .ref sl, .ref gr, .ref re, .ref pr, .ref ga, .ref rp, .ref bo, .int 0])), (pl, .inr (1, [.int 0, .ref de, .int 0])), (ru, .inr (1, [.int 0, .ref de, .int 0])), (sh, .inr (1, [.int 0, .ref de, .int 0])), (sp, .inl (cP, 6, .inr (.inr (.inr (.inr (fun _ => none)))))), (ga, .inr (5, [.ref gpl, .ref gin, .int (-1), .int 0, .int 112, .int 0])), (bo, .inr (2, [.ref fa, .ref bbe, .ref bdi, .int 0, .int 0])), (fa, .inl (cI, 96, .inl (fun _ => 0)))] := hD
  have hl := lv_entry ([.ref ox, .int a1, .int a2, .int a3, .int a4]) (n := 7) (Nat.le_of_ble_eq_true rfl)
  rw [lg_entry_eq]
  generalize (lg_sl ([.ref ox, .int a1, .int a2, .int a3, .int a4]) ++ List.replicate (7 - (lg_sl ([.ref ox, .int a1, .int a2, .int a3, .int a4])).length) Slot.unset).toArray = ls at hl ⊢
  have hl : lv_has ls 7 [(0, .ref ox), (1, .int a1), (2, .int a2), (3, .int a3), (4, .int a4)] := hl
  refine lv_aload_n hx hb dX11_put_0 rfl (lv_at hl 0 rfl) ?_
  refine lv_iload_n hx hb dX11_put_1 rfl (lv_at hl 1 rfl) ?_
  refine lv_iload_n hx hb dX11_put_2 rfl (lv_at hl 2 rfl) ?_
  refine lv_iload_n hx hb dX11_put_3 rfl (lv_at hl 3 rfl) ?_
  have hPc := hP.sub (ws' := [(ox, .inr (13, [.ref pl, .ref ru, .ref sh, .ref sp, .ref sl, .ref gr, .ref re, .ref pr, .ref ga, .ref rp, .ref bo, .int 0])), (pl, .inr (1, [.int 0, .ref de, .int 0])), (ru, .inr (1, [.int 0, .ref de, .int 0])), (sh, .inr (1, [.int 0, .ref de, .int 0])), (sp, .inl (cP, 6, .inr (.inr (.inr (.inr (fun _ => none)))))), (ga, .inr (5, [.ref gpl, .ref gin, .int (-1), .int 0, .int 112, .int 0])), (bo, .inr (2, [.ref fa, .ref bbe, .ref bdi, .int 0, .int 0])), (fa, .inl (cI, 96, .inl (fun _ => 0)))]) [0, 1, 2, 3, 4, 5, 6, 7] rfl
  have hDc := hD.sub (ws' := [(ox, .inr (13, [.ref pl, .ref ru, .ref sh, .ref sp, .ref sl, .ref gr, .ref re, .ref pr, .ref ga, .ref rp, .ref bo, .int 0])), (pl, .inr (1, [.int 0, .ref de, .int 0])), (ru, .inr (1, [.int 0, .ref de, .int 0])), (sh, .inr (1, [.int 0, .ref de, .int 0])), (sp, .inl (cP, 6, .inr (.inr (.inr (.inr (fun _ => none)))))), (ga, .inr (5, [.ref gpl, .ref gin, .int (-1), .int 0, .int 112, .int 0])), (bo, .inr (2, [.ref fa, .ref bbe, .ref bdi, .int 0, .int 0])), (fa, .inl (cI, 96, .inl (fun _ => 0)))]) [0, 1, 2, 3, 4, 5, 6, 7] (by decide) rfl
  have hKc := hK.sub (tys' := [(cP, .object "Levelsmith$Player"), (cI, .int)]) [0, 1] rfl
  have hFc := va_free (wc := [(ox, .inr (13, [.ref pl, .ref ru, .ref sh, .ref sp, .ref sl, .ref gr, .ref re, .ref pr, .ref ga, .ref rp, .ref bo, .int 0])), (pl, .inr (1, [.int 0, .ref de, .int 0])), (ru, .inr (1, [.int 0, .ref de, .int 0])), (sh, .inr (1, [.int 0, .ref de, .int 0])), (sp, .inl (cP, 6, .inr (.inr (.inr (.inr (fun _ => none)))))), (ga, .inr (5, [.ref gpl, .ref gin, .int (-1), .int 0, .int 112, .int 0])), (bo, .inr (2, [.ref fa, .ref bbe, .ref bdi, .int 0, .int 0])), (fa, .inl (cI, 96, .inl (fun _ => 0)))]) hD hS hA [0, 1, 2, 3, 4, 5, 6, 7] rfl
  refine vx_callq (vx_runV (As := [.int a1, .int a2, .int a3]) (rest := []) ⟨hx, hb, hml, hown, ht⟩ (c_X11_planWithCell l hlt dC dI de (ox) (pl) (ru) (sh) (sp) (sl) (gr) (re) (pr) (ga) (rp) (bo) (fa) (gpl) (gin) (bbe) (bdi) (cP) (cI) (a1) (a2) (a3) s.heap.size) (cwV 3 ht (gWV (wr_18 _ (List.mem_of_getElem? (i := 18) rfl)) (wr_18 _ (List.mem_of_getElem? (i := 19) rfl)) (wr_18 _ (List.mem_of_getElem? (i := 20) rfl)) (wr_1 _ (List.mem_of_getElem? (i := 2) rfl)) (wr_18 _ (List.mem_of_getElem? (i := 21) rfl))) rfl rfl rfl (by decide +kernel) ⟨Nat.le_of_ble_eq_true rfl, Nat.le_of_ble_eq_true rfl⟩) ⟨PW_blind, va_recv hKc hPc (ci := 13) (q0 := 0) rfl rfl, PW_call hPc hDc hKc hS hG hFc⟩ rfl rfl hl.1 rfl (lv_room (Nat.le_of_ble_eq_true rfl)) dX11_put_4 ⟨Nat.le_of_ble_eq_true rfl, Nat.le_of_ble_eq_true rfl⟩) hS (fun q _ h => hFc q h) hFc (fun q _ h => hFc q h) (fun E ce q9 u t H1 locs1 ht9 hvm9 _ hR9 hz9 hk9 hS9 hc9 hv9 hcl9 => ?_) (fun r_4 u t H1 locs ht9 hvm hw hB hz1 hk1 hS => False.elim hw)
  exact vx_out (fun x hx => (hex x hx).elim) hlocks hc9 hv9 hcl9 (fun t9 e9 _ => XX_out hR9 hS9 e9) hS9.2.2 (Nat.le_of_ble_eq_true rfl) (Nat.le_of_ble_eq_true rfl)
set_option maxHeartbeats 4000000 in
set_option maxRecDepth 100000 in
theorem c_X11_fill (l : Launch) (hlt : l.stackTraces = false) (dC : Nat → ClassId) (dI : Nat → Nat → Nat) (de : Nat) (ox : Nat) (pl : Nat) (ru : Nat) (sh : Nat) (sp : Nat) (sl : Nat) (gr : Nat) (re : Nat) (pr : Nat) (ga : Nat) (rp : Nat) (bo : Nat) (fa : Nat) (gpl : Nat) (gin : Nat) (bbe : Nat) (bdi : Nat) (cP : ClassId) (cI : ClassId) (a1 : Int32) (a2 : Int32) (a3 : Int32) (a4 : Int32) (a5 : Int32) (a6 : Int32) (sz : Nat) : vx_Met l yX11_fill (.code yX11_fill cX11_fill 8 (some .int) :: wsL_law) { frames := 8, cells := 1, slots := 6, locals := 135 } (va_Pc [.ref ox, .int a1, .int a2, .int a3, .int a4, .int a5, .int a6] (PW dC dI de [(cP, .object "Levelsmith$Player"), (cI, .int)] (WX ox pl ru sh sp sl gr re pr ga rp bo fa gpl gin bbe bdi cP cI de) sz)) (va_Qi (fun (_ : Int32) (_ : Unit) => False) (fun (_ : Unit) (_ : State) => True) (va_A (WX ox pl ru sh sp sl gr re pr ga rp bo fa gpl gin bbe bdi cP cI de) sz)) (XX (fun E => E = "java/lang/IndexOutOfBoundsException") (va_A (WX ox pl ru sh sp sl gr re pr ga rp bo fa gpl gin bbe bdi cP cI de) sz)) 1 6 (va_A (WX ox pl ru sh sp sl gr re pr ga rp bo fa gpl gin bbe bdi cP cI de) sz) := by
  refine vx_ofW (cc := cX11_fill) (maxL := 8) (ret := (some .int)) (by decide) rfl ?_
  intro p e s m args below meth c s₁ B hml hex hv
  obtain ⟨rfl, hsz, hP, hK, hD0, hG⟩ := hv
  have hx := B.exec
  have hb := B.bytes
  have hr := B.returns
  have hts := atoms_spec (ws := .code yX11_fill cX11_fill 8 (some .int) :: wsL_law) B.pre
  have ht : ∀ w ∈ wsL_law, w.before _ s = true := fun w h => hts w (List.mem_cons_of_mem _ h)
  have hown : s.vm.findClass RX11 = some m.cls := findClass_of_methodNamed B.named
  have hlocks := B.notSynchronized
  subst hsz
  have hD := hD0.self (sz := s.heap.size)
  generalize hAe : va_A (WX ox pl ru sh sp sl gr re pr ga rp bo fa gpl gin bbe bdi cP cI de) s.heap.size = A at hD hG ⊢
  have hA : ∀ q : Nat, s.heap.size ≤ q → A q := fun q h => by rw [← hAe]; exact Or.inr h
  have hS : va_S A s.heap s.heap [] := va_S.rf
  have hP : va_P (dC, dI) vwCl [(ox, .inr (13, [.ref pl, .ref ru, .ref sh, .ref sp, .ref sl, .ref gr, .ref re, .ref pr, .ref ga, .ref rp, .ref bo, .int 0])), (pl, .inr (1, [.int 0, .ref de, .int 0])), (ru, .inr (1, [.int 0, .ref de, .int 0])), (sh, .inr (1, [.int 0, .ref de, .int 0])), (sp, .inl (cP, 6, .inr (.inr (.inr (.inr (fun _ => none)))))), (ga, .inr (5, [.ref gpl, .ref gin, .int (-1), .int 0, .int 112, .int 0])), (bo, .inr (2, [.ref fa, .ref bbe, .ref bdi, .int 0, .int 0])), (fa, .inl (cI, 96, .inl (fun _ => 0)))] s.heap := hP
  have hD : va_D A [(ox, .inr (13, [.ref pl, .ref ru, .ref sh, .ref sp, .ref sl, .ref gr, .ref re, .ref pr, .ref ga, .ref rp, .ref bo, .int 0])), (pl, .inr (1, [.int 0, .ref de, .int 0])), (ru, .inr (1, [.int 0, .ref de, .int 0])), (sh, .inr (1, [.int 0, .ref de, .int 0])), (sp, .inl (cP, 6, .inr (.inr (.inr (.inr (fun _ => none)))))), (ga, .inr (5, [.ref gpl, .ref gin, .int (-1), .int 0, .int 112, .int 0])), (bo, .inr (2, [.ref fa, .ref bbe, .ref bdi, .int 0, .int 0])), (fa, .inl (cI, 96, .inl (fun _ => 0)))] := hD
  have hl := lv_entry ([.ref ox, .int a1, .int a2, .int a3, .int a4, .int a5, .int a6]) (n := 8) (Nat.le_of_ble_eq_true rfl)
  rw [lg_entry_eq]
  generalize (lg_sl ([.ref ox, .int a1, .int a2, .int a3, .int a4, .int a5, .int a6]) ++ List.replicate (8 - (lg_sl ([.ref ox, .int a1, .int a2, .int a3, .int a4, .int a5, .int a6])).length) Slot.unset).toArray = ls at hl ⊢
  have hl : lv_has ls 8 [(0, .ref ox), (1, .int a1), (2, .int a2), (3, .int a3), (4, .int a4), (5, .int a5), (6, .int a6)] := hl
  refine lv_aload_n hx hb dX11_fill_0 rfl (lv_at hl 0 rfl) ?_
  refine lv_iload_n hx hb dX11_fill_1 rfl (lv_at hl 1 rfl) ?_
  refine lv_iload_n hx hb dX11_fill_2 rfl (lv_at hl 2 rfl) ?_
  refine lv_iload_n hx hb dX11_fill_3 rfl (lv_at hl 3 rfl) ?_
  have hPc := hP.sub (ws' := [(ox, .inr (13, [.ref pl, .ref ru, .ref sh, .ref sp, .ref sl, .ref gr, .ref re, .ref pr, .ref ga, .ref rp, .ref bo, .int 0])), (pl, .inr (1, [.int 0, .ref de, .int 0])), (ru, .inr (1, [.int 0, .ref de, .int 0])), (sh, .inr (1, [.int 0, .ref de, .int 0])), (sp, .inl (cP, 6, .inr (.inr (.inr (.inr (fun _ => none)))))), (ga, .inr (5, [.ref gpl, .ref gin, .int (-1), .int 0, .int 112, .int 0])), (bo, .inr (2, [.ref fa, .ref bbe, .ref bdi, .int 0, .int 0])), (fa, .inl (cI, 96, .inl (fun _ => 0)))]) [0, 1, 2, 3, 4, 5, 6, 7] rfl
  have hDc := hD.sub (ws' := [(ox, .inr (13, [.ref pl, .ref ru, .ref sh, .ref sp, .ref sl, .ref gr, .ref re, .ref pr, .ref ga, .ref rp, .ref bo, .int 0])), (pl, .inr (1, [.int 0, .ref de, .int 0])), (ru, .inr (1, [.int 0, .ref de, .int 0])), (sh, .inr (1, [.int 0, .ref de, .int 0])), (sp, .inl (cP, 6, .inr (.inr (.inr (.inr (fun _ => none)))))), (ga, .inr (5, [.ref gpl, .ref gin, .int (-1), .int 0, .int 112, .int 0])), (bo, .inr (2, [.ref fa, .ref bbe, .ref bdi, .int 0, .int 0])), (fa, .inl (cI, 96, .inl (fun _ => 0)))]) [0, 1, 2, 3, 4, 5, 6, 7] (by decide) rfl
  have hKc := hK.sub (tys' := [(cP, .object "Levelsmith$Player"), (cI, .int)]) [0, 1] rfl
  have hFc := va_free (wc := [(ox, .inr (13, [.ref pl, .ref ru, .ref sh, .ref sp, .ref sl, .ref gr, .ref re, .ref pr, .ref ga, .ref rp, .ref bo, .int 0])), (pl, .inr (1, [.int 0, .ref de, .int 0])), (ru, .inr (1, [.int 0, .ref de, .int 0])), (sh, .inr (1, [.int 0, .ref de, .int 0])), (sp, .inl (cP, 6, .inr (.inr (.inr (.inr (fun _ => none)))))), (ga, .inr (5, [.ref gpl, .ref gin, .int (-1), .int 0, .int 112, .int 0])), (bo, .inr (2, [.ref fa, .ref bbe, .ref bdi, .int 0, .int 0])), (fa, .inl (cI, 96, .inl (fun _ => 0)))]) hD hS hA [0, 1, 2, 3, 4, 5, 6, 7] rfl
  refine vx_callq (vx_runV (As := [.int a1, .int a2, .int a3]) (rest := []) ⟨hx, hb, hml, hown, ht⟩ (c_X11_planWithCell l hlt dC dI de (ox) (pl) (ru) (sh) (sp) (sl) (gr) (re) (pr) (ga) (rp) (bo) (fa) (gpl) (gin) (bbe) (bdi) (cP) (cI) (a1) (a2) (a3) s.heap.size) (cwV 3 ht (gWV (wr_18 _ (List.mem_of_getElem? (i := 18) rfl)) (wr_18 _ (List.mem_of_getElem? (i := 19) rfl)) (wr_18 _ (List.mem_of_getElem? (i := 20) rfl)) (wr_1 _ (List.mem_of_getElem? (i := 2) rfl)) (wr_18 _ (List.mem_of_getElem? (i := 21) rfl))) rfl rfl rfl (by decide +kernel) ⟨Nat.le_of_ble_eq_true rfl, Nat.le_of_ble_eq_true rfl⟩) ⟨PW_blind, va_recv hKc hPc (ci := 13) (q0 := 0) rfl rfl, PW_call hPc hDc hKc hS hG hFc⟩ rfl rfl hl.1 rfl (lv_room (Nat.le_of_ble_eq_true rfl)) dX11_fill_4 ⟨Nat.le_of_ble_eq_true rfl, Nat.le_of_ble_eq_true rfl⟩) hS (fun q _ h => hFc q h) hFc (fun q _ h => hFc q h) (fun E ce q9 u t H1 locs1 ht9 hvm9 _ hR9 hz9 hk9 hS9 hc9 hv9 hcl9 => ?_) (fun r_4 u t H1 locs ht9 hvm hw hB hz1 hk1 hS => False.elim hw)
  exact vx_out (fun x hx => (hex x hx).elim) hlocks hc9 hv9 hcl9 (fun t9 e9 _ => XX_out hR9 hS9 e9) hS9.2.2 (Nat.le_of_ble_eq_true rfl) (Nat.le_of_ble_eq_true rfl)
set_option maxHeartbeats 4000000 in
set_option maxRecDepth 100000 in
theorem c_X11_tile (l : Launch) (hlt : l.stackTraces = false) (dC : Nat → ClassId) (dI : Nat → Nat → Nat) (de : Nat) (ox : Nat) (pl : Nat) (ru : Nat) (sh : Nat) (sp : Nat) (sl : Nat) (gr : Nat) (re : Nat) (pr : Nat) (ga : Nat) (rp : Nat) (bo : Nat) (fa : Nat) (gpl : Nat) (gin : Nat) (bbe : Nat) (bdi : Nat) (cP : ClassId) (cI : ClassId) (a1 : Int32) (a2 : Int32) (a3 : Int32) (sz : Nat) : vx_Met l yX11_tile (.code yX11_tile cX11_tile 4 (some .char) :: wsL_law) { frames := 8, cells := 1, slots := 6, locals := 135 } (va_Pc [.ref ox, .int a1, .int a2, .int a3] (PW dC dI de [(cP, .object "Levelsmith$Player"), (cI, .int)] (WX ox pl ru sh sp sl gr re pr ga rp bo fa gpl gin bbe bdi cP cI de) sz)) (va_Qi (fun (_ : Int32) (_ : Unit) => False) (fun (_ : Unit) (_ : State) => True) (va_A (WX ox pl ru sh sp sl gr re pr ga rp bo fa gpl gin bbe bdi cP cI de) sz)) (XX (fun E => E = "java/lang/IndexOutOfBoundsException") (va_A (WX ox pl ru sh sp sl gr re pr ga rp bo fa gpl gin bbe bdi cP cI de) sz)) 1 6 (va_A (WX ox pl ru sh sp sl gr re pr ga rp bo fa gpl gin bbe bdi cP cI de) sz) := by
  refine vx_ofW (cc := cX11_tile) (maxL := 4) (ret := (some .char)) (by decide) rfl ?_
  intro p e s m args below meth c s₁ B hml hex hv
  obtain ⟨rfl, hsz, hP, hK, hD0, hG⟩ := hv
  have hx := B.exec
  have hb := B.bytes
  have hr := B.returns
  have hts := atoms_spec (ws := .code yX11_tile cX11_tile 4 (some .char) :: wsL_law) B.pre
  have ht : ∀ w ∈ wsL_law, w.before _ s = true := fun w h => hts w (List.mem_cons_of_mem _ h)
  have hown : s.vm.findClass RX11 = some m.cls := findClass_of_methodNamed B.named
  have hlocks := B.notSynchronized
  subst hsz
  have hD := hD0.self (sz := s.heap.size)
  generalize hAe : va_A (WX ox pl ru sh sp sl gr re pr ga rp bo fa gpl gin bbe bdi cP cI de) s.heap.size = A at hD hG ⊢
  have hA : ∀ q : Nat, s.heap.size ≤ q → A q := fun q h => by rw [← hAe]; exact Or.inr h
  have hS : va_S A s.heap s.heap [] := va_S.rf
  have hP : va_P (dC, dI) vwCl [(ox, .inr (13, [.ref pl, .ref ru, .ref sh, .ref sp, .ref sl, .ref gr, .ref re, .ref pr, .ref ga, .ref rp, .ref bo, .int 0])), (pl, .inr (1, [.int 0, .ref de, .int 0])), (ru, .inr (1, [.int 0, .ref de, .int 0])), (sh, .inr (1, [.int 0, .ref de, .int 0])), (sp, .inl (cP, 6, .inr (.inr (.inr (.inr (fun _ => none)))))), (ga, .inr (5, [.ref gpl, .ref gin, .int (-1), .int 0, .int 112, .int 0])), (bo, .inr (2, [.ref fa, .ref bbe, .ref bdi, .int 0, .int 0])), (fa, .inl (cI, 96, .inl (fun _ => 0)))] s.heap := hP
  have hD : va_D A [(ox, .inr (13, [.ref pl, .ref ru, .ref sh, .ref sp, .ref sl, .ref gr, .ref re, .ref pr, .ref ga, .ref rp, .ref bo, .int 0])), (pl, .inr (1, [.int 0, .ref de, .int 0])), (ru, .inr (1, [.int 0, .ref de, .int 0])), (sh, .inr (1, [.int 0, .ref de, .int 0])), (sp, .inl (cP, 6, .inr (.inr (.inr (.inr (fun _ => none)))))), (ga, .inr (5, [.ref gpl, .ref gin, .int (-1), .int 0, .int 112, .int 0])), (bo, .inr (2, [.ref fa, .ref bbe, .ref bdi, .int 0, .int 0])), (fa, .inl (cI, 96, .inl (fun _ => 0)))] := hD
  have hl := lv_entry ([.ref ox, .int a1, .int a2, .int a3]) (n := 4) (Nat.le_of_ble_eq_true rfl)
  rw [lg_entry_eq]
  generalize (lg_sl ([.ref ox, .int a1, .int a2, .int a3]) ++ List.replicate (4 - (lg_sl ([.ref ox, .int a1, .int a2, .int a3])).length) Slot.unset).toArray = ls at hl ⊢
  have hl : lv_has ls 4 [(0, .ref ox), (1, .int a1), (2, .int a2), (3, .int a3)] := hl
  refine lv_aload_n hx hb dX11_tile_0 rfl (lv_at hl 0 rfl) ?_
  refine lv_iload_n hx hb dX11_tile_1 rfl (lv_at hl 1 rfl) ?_
  refine lv_iload_n hx hb dX11_tile_2 rfl (lv_at hl 2 rfl) ?_
  refine lv_iload_n hx hb dX11_tile_3 rfl (lv_at hl 3 rfl) ?_
  have hPc := hP.sub (ws' := [(ox, .inr (13, [.ref pl, .ref ru, .ref sh, .ref sp, .ref sl, .ref gr, .ref re, .ref pr, .ref ga, .ref rp, .ref bo, .int 0])), (pl, .inr (1, [.int 0, .ref de, .int 0])), (ru, .inr (1, [.int 0, .ref de, .int 0])), (sh, .inr (1, [.int 0, .ref de, .int 0])), (sp, .inl (cP, 6, .inr (.inr (.inr (.inr (fun _ => none)))))), (ga, .inr (5, [.ref gpl, .ref gin, .int (-1), .int 0, .int 112, .int 0])), (bo, .inr (2, [.ref fa, .ref bbe, .ref bdi, .int 0, .int 0])), (fa, .inl (cI, 96, .inl (fun _ => 0)))]) [0, 1, 2, 3, 4, 5, 6, 7] rfl
  have hDc := hD.sub (ws' := [(ox, .inr (13, [.ref pl, .ref ru, .ref sh, .ref sp, .ref sl, .ref gr, .ref re, .ref pr, .ref ga, .ref rp, .ref bo, .int 0])), (pl, .inr (1, [.int 0, .ref de, .int 0])), (ru, .inr (1, [.int 0, .ref de, .int 0])), (sh, .inr (1, [.int 0, .ref de, .int 0])), (sp, .inl (cP, 6, .inr (.inr (.inr (.inr (fun _ => none)))))), (ga, .inr (5, [.ref gpl, .ref gin, .int (-1), .int 0, .int 112, .int 0])), (bo, .inr (2, [.ref fa, .ref bbe, .ref bdi, .int 0, .int 0])), (fa, .inl (cI, 96, .inl (fun _ => 0)))]) [0, 1, 2, 3, 4, 5, 6, 7] (by decide) rfl
  have hKc := hK.sub (tys' := [(cP, .object "Levelsmith$Player"), (cI, .int)]) [0, 1] rfl
  have hFc := va_free (wc := [(ox, .inr (13, [.ref pl, .ref ru, .ref sh, .ref sp, .ref sl, .ref gr, .ref re, .ref pr, .ref ga, .ref rp, .ref bo, .int 0])), (pl, .inr (1, [.int 0, .ref de, .int 0])), (ru, .inr (1, [.int 0, .ref de, .int 0])), (sh, .inr (1, [.int 0, .ref de, .int 0])), (sp, .inl (cP, 6, .inr (.inr (.inr (.inr (fun _ => none)))))), (ga, .inr (5, [.ref gpl, .ref gin, .int (-1), .int 0, .int 112, .int 0])), (bo, .inr (2, [.ref fa, .ref bbe, .ref bdi, .int 0, .int 0])), (fa, .inl (cI, 96, .inl (fun _ => 0)))]) hD hS hA [0, 1, 2, 3, 4, 5, 6, 7] rfl
  refine vx_callq (vx_runV (As := [.int a1, .int a2, .int a3]) (rest := []) ⟨hx, hb, hml, hown, ht⟩ (c_X11_planWithCell l hlt dC dI de (ox) (pl) (ru) (sh) (sp) (sl) (gr) (re) (pr) (ga) (rp) (bo) (fa) (gpl) (gin) (bbe) (bdi) (cP) (cI) (a1) (a2) (a3) s.heap.size) (cwV 3 ht (gWV (wr_18 _ (List.mem_of_getElem? (i := 18) rfl)) (wr_18 _ (List.mem_of_getElem? (i := 19) rfl)) (wr_18 _ (List.mem_of_getElem? (i := 20) rfl)) (wr_1 _ (List.mem_of_getElem? (i := 2) rfl)) (wr_18 _ (List.mem_of_getElem? (i := 21) rfl))) rfl rfl rfl (by decide +kernel) ⟨Nat.le_of_ble_eq_true rfl, Nat.le_of_ble_eq_true rfl⟩) ⟨PW_blind, va_recv hKc hPc (ci := 13) (q0 := 0) rfl rfl, PW_call hPc hDc hKc hS hG hFc⟩ rfl rfl hl.1 rfl (lv_room (Nat.le_of_ble_eq_true rfl)) dX11_tile_4 ⟨Nat.le_of_ble_eq_true rfl, Nat.le_of_ble_eq_true rfl⟩) hS (fun q _ h => hFc q h) hFc (fun q _ h => hFc q h) (fun E ce q9 u t H1 locs1 ht9 hvm9 _ hR9 hz9 hk9 hS9 hc9 hv9 hcl9 => ?_) (fun r_4 u t H1 locs ht9 hvm hw hB hz1 hk1 hS => False.elim hw)
  exact vx_out (fun x hx => (hex x hx).elim) hlocks hc9 hv9 hcl9 (fun t9 e9 _ => XX_out hR9 hS9 e9) hS9.2.2 (Nat.le_of_ble_eq_true rfl) (Nat.le_of_ble_eq_true rfl)
set_option maxHeartbeats 4000000 in
set_option maxRecDepth 100000 in
theorem c_X11_start (l : Launch) (hlt : l.stackTraces = false) (dC : Nat → ClassId) (dI : Nat → Nat → Nat) (de : Nat) (ox : Nat) (pl : Nat) (ru : Nat) (sh : Nat) (sp : Nat) (sl : Nat) (gr : Nat) (re : Nat) (pr : Nat) (ga : Nat) (rp : Nat) (bo : Nat) (fa : Nat) (gpl : Nat) (gin : Nat) (bbe : Nat) (bdi : Nat) (cP : ClassId) (cI : ClassId) (a1 : Int32) (a2 : Int32) (a3 : Int32) (sz : Nat) : vx_Met l yX11_start (.code yX11_start cX11_start 6 (some .int) :: wsL_law) { frames := 8, cells := 1, slots := 6, locals := 135 } (va_Pc [.ref ox, .int a1, .int a2, .int a3] (PW dC dI de [(cP, .object "Levelsmith$Player"), (cI, .int)] (WX ox pl ru sh sp sl gr re pr ga rp bo fa gpl gin bbe bdi cP cI de) sz)) (va_Qi (fun (_ : Int32) (_ : Unit) => False) (fun (_ : Unit) (_ : State) => True) (va_A (WX ox pl ru sh sp sl gr re pr ga rp bo fa gpl gin bbe bdi cP cI de) sz)) (XX (fun E => E = "java/lang/IndexOutOfBoundsException") (va_A (WX ox pl ru sh sp sl gr re pr ga rp bo fa gpl gin bbe bdi cP cI de) sz)) 1 6 (va_A (WX ox pl ru sh sp sl gr re pr ga rp bo fa gpl gin bbe bdi cP cI de) sz) := by
  refine vx_ofW (cc := cX11_start) (maxL := 6) (ret := (some .int)) (by decide) rfl ?_
  intro p e s m args below meth c s₁ B hml hex hv
  obtain ⟨rfl, hsz, hP, hK, hD0, hG⟩ := hv
  have hx := B.exec
  have hb := B.bytes
  have hr := B.returns
  have hts := atoms_spec (ws := .code yX11_start cX11_start 6 (some .int) :: wsL_law) B.pre
  have ht : ∀ w ∈ wsL_law, w.before _ s = true := fun w h => hts w (List.mem_cons_of_mem _ h)
  have hown : s.vm.findClass RX11 = some m.cls := findClass_of_methodNamed B.named
  have hlocks := B.notSynchronized
  subst hsz
  have hD := hD0.self (sz := s.heap.size)
  generalize hAe : va_A (WX ox pl ru sh sp sl gr re pr ga rp bo fa gpl gin bbe bdi cP cI de) s.heap.size = A at hD hG ⊢
  have hA : ∀ q : Nat, s.heap.size ≤ q → A q := fun q h => by rw [← hAe]; exact Or.inr h
  have hS : va_S A s.heap s.heap [] := va_S.rf
  have hP : va_P (dC, dI) vwCl [(ox, .inr (13, [.ref pl, .ref ru, .ref sh, .ref sp, .ref sl, .ref gr, .ref re, .ref pr, .ref ga, .ref rp, .ref bo, .int 0])), (pl, .inr (1, [.int 0, .ref de, .int 0])), (ru, .inr (1, [.int 0, .ref de, .int 0])), (sh, .inr (1, [.int 0, .ref de, .int 0])), (sp, .inl (cP, 6, .inr (.inr (.inr (.inr (fun _ => none)))))), (ga, .inr (5, [.ref gpl, .ref gin, .int (-1), .int 0, .int 112, .int 0])), (bo, .inr (2, [.ref fa, .ref bbe, .ref bdi, .int 0, .int 0])), (fa, .inl (cI, 96, .inl (fun _ => 0)))] s.heap := hP
  have hD : va_D A [(ox, .inr (13, [.ref pl, .ref ru, .ref sh, .ref sp, .ref sl, .ref gr, .ref re, .ref pr, .ref ga, .ref rp, .ref bo, .int 0])), (pl, .inr (1, [.int 0, .ref de, .int 0])), (ru, .inr (1, [.int 0, .ref de, .int 0])), (sh, .inr (1, [.int 0, .ref de, .int 0])), (sp, .inl (cP, 6, .inr (.inr (.inr (.inr (fun _ => none)))))), (ga, .inr (5, [.ref gpl, .ref gin, .int (-1), .int 0, .int 112, .int 0])), (bo, .inr (2, [.ref fa, .ref bbe, .ref bdi, .int 0, .int 0])), (fa, .inl (cI, 96, .inl (fun _ => 0)))] := hD
  have hl := lv_entry ([.ref ox, .int a1, .int a2, .int a3]) (n := 6) (Nat.le_of_ble_eq_true rfl)
  rw [lg_entry_eq]
  generalize (lg_sl ([.ref ox, .int a1, .int a2, .int a3]) ++ List.replicate (6 - (lg_sl ([.ref ox, .int a1, .int a2, .int a3])).length) Slot.unset).toArray = ls at hl ⊢
  have hl : lv_has ls 6 [(0, .ref ox), (1, .int a1), (2, .int a2), (3, .int a3)] := hl
  refine lv_aload_n hx hb dX11_start_0 rfl (lv_at hl 0 rfl) ?_
  refine lv_iload_n hx hb dX11_start_1 rfl (lv_at hl 1 rfl) ?_
  refine lv_iload_n hx hb dX11_start_2 rfl (lv_at hl 2 rfl) ?_
  refine lv_iload_n hx hb dX11_start_3 rfl (lv_at hl 3 rfl) ?_
  have hPc := hP.sub (ws' := [(ox, .inr (13, [.ref pl, .ref ru, .ref sh, .ref sp, .ref sl, .ref gr, .ref re, .ref pr, .ref ga, .ref rp, .ref bo, .int 0])), (pl, .inr (1, [.int 0, .ref de, .int 0])), (ru, .inr (1, [.int 0, .ref de, .int 0])), (sh, .inr (1, [.int 0, .ref de, .int 0])), (sp, .inl (cP, 6, .inr (.inr (.inr (.inr (fun _ => none)))))), (ga, .inr (5, [.ref gpl, .ref gin, .int (-1), .int 0, .int 112, .int 0])), (bo, .inr (2, [.ref fa, .ref bbe, .ref bdi, .int 0, .int 0])), (fa, .inl (cI, 96, .inl (fun _ => 0)))]) [0, 1, 2, 3, 4, 5, 6, 7] rfl
  have hDc := hD.sub (ws' := [(ox, .inr (13, [.ref pl, .ref ru, .ref sh, .ref sp, .ref sl, .ref gr, .ref re, .ref pr, .ref ga, .ref rp, .ref bo, .int 0])), (pl, .inr (1, [.int 0, .ref de, .int 0])), (ru, .inr (1, [.int 0, .ref de, .int 0])), (sh, .inr (1, [.int 0, .ref de, .int 0])), (sp, .inl (cP, 6, .inr (.inr (.inr (.inr (fun _ => none)))))), (ga, .inr (5, [.ref gpl, .ref gin, .int (-1), .int 0, .int 112, .int 0])), (bo, .inr (2, [.ref fa, .ref bbe, .ref bdi, .int 0, .int 0])), (fa, .inl (cI, 96, .inl (fun _ => 0)))]) [0, 1, 2, 3, 4, 5, 6, 7] (by decide) rfl
  have hKc := hK.sub (tys' := [(cP, .object "Levelsmith$Player"), (cI, .int)]) [0, 1] rfl
  have hFc := va_free (wc := [(ox, .inr (13, [.ref pl, .ref ru, .ref sh, .ref sp, .ref sl, .ref gr, .ref re, .ref pr, .ref ga, .ref rp, .ref bo, .int 0])), (pl, .inr (1, [.int 0, .ref de, .int 0])), (ru, .inr (1, [.int 0, .ref de, .int 0])), (sh, .inr (1, [.int 0, .ref de, .int 0])), (sp, .inl (cP, 6, .inr (.inr (.inr (.inr (fun _ => none)))))), (ga, .inr (5, [.ref gpl, .ref gin, .int (-1), .int 0, .int 112, .int 0])), (bo, .inr (2, [.ref fa, .ref bbe, .ref bdi, .int 0, .int 0])), (fa, .inl (cI, 96, .inl (fun _ => 0)))]) hD hS hA [0, 1, 2, 3, 4, 5, 6, 7] rfl
  refine vx_callq (vx_runV (As := [.int a1, .int a2, .int a3]) (rest := []) ⟨hx, hb, hml, hown, ht⟩ (c_X11_planWithCell l hlt dC dI de (ox) (pl) (ru) (sh) (sp) (sl) (gr) (re) (pr) (ga) (rp) (bo) (fa) (gpl) (gin) (bbe) (bdi) (cP) (cI) (a1) (a2) (a3) s.heap.size) (cwV 3 ht (gWV (wr_18 _ (List.mem_of_getElem? (i := 18) rfl)) (wr_18 _ (List.mem_of_getElem? (i := 19) rfl)) (wr_18 _ (List.mem_of_getElem? (i := 20) rfl)) (wr_1 _ (List.mem_of_getElem? (i := 2) rfl)) (wr_18 _ (List.mem_of_getElem? (i := 21) rfl))) rfl rfl rfl (by decide +kernel) ⟨Nat.le_of_ble_eq_true rfl, Nat.le_of_ble_eq_true rfl⟩) ⟨PW_blind, va_recv hKc hPc (ci := 13) (q0 := 0) rfl rfl, PW_call hPc hDc hKc hS hG hFc⟩ rfl rfl hl.1 rfl (lv_room (Nat.le_of_ble_eq_true rfl)) dX11_start_4 ⟨Nat.le_of_ble_eq_true rfl, Nat.le_of_ble_eq_true rfl⟩) hS (fun q _ h => hFc q h) hFc (fun q _ h => hFc q h) (fun E ce q9 u t H1 locs1 ht9 hvm9 _ hR9 hz9 hk9 hS9 hc9 hv9 hcl9 => ?_) (fun r_4 u t H1 locs ht9 hvm hw hB hz1 hk1 hS => False.elim hw)
  exact vx_out (fun x hx => (hex x hx).elim) hlocks hc9 hv9 hcl9 (fun t9 e9 _ => XX_out hR9 hS9 e9) hS9.2.2 (Nat.le_of_ble_eq_true rfl) (Nat.le_of_ble_eq_true rfl)
set_option maxHeartbeats 4000000 in
set_option maxRecDepth 100000 in
theorem c_X11_guard (l : Launch) (hlt : l.stackTraces = false) (dC : Nat → ClassId) (dI : Nat → Nat → Nat) (de : Nat) (ox : Nat) (pl : Nat) (ru : Nat) (sh : Nat) (sp : Nat) (sl : Nat) (gr : Nat) (re : Nat) (pr : Nat) (ga : Nat) (rp : Nat) (bo : Nat) (fa : Nat) (gpl : Nat) (gin : Nat) (bbe : Nat) (bdi : Nat) (cP : ClassId) (cI : ClassId) (a1 : Int32) (a2 : Int32) (a3 : Int32) (a4 : Int32) (sz : Nat) : vx_Met l yX11_guard (.code yX11_guard cX11_guard 6 (some .int) :: wsL_law) { frames := 8, cells := 1, slots := 6, locals := 135 } (va_Pc [.ref ox, .int a1, .int a2, .int a3, .int a4] (PW dC dI de [(cP, .object "Levelsmith$Player"), (cI, .int)] (WX ox pl ru sh sp sl gr re pr ga rp bo fa gpl gin bbe bdi cP cI de) sz)) (va_Qi (fun (_ : Int32) (_ : Unit) => False) (fun (_ : Unit) (_ : State) => True) (va_A (WX ox pl ru sh sp sl gr re pr ga rp bo fa gpl gin bbe bdi cP cI de) sz)) (XX (fun E => E = "java/lang/IndexOutOfBoundsException") (va_A (WX ox pl ru sh sp sl gr re pr ga rp bo fa gpl gin bbe bdi cP cI de) sz)) 1 6 (va_A (WX ox pl ru sh sp sl gr re pr ga rp bo fa gpl gin bbe bdi cP cI de) sz) := by
  refine vx_ofW (cc := cX11_guard) (maxL := 6) (ret := (some .int)) (by decide) rfl ?_
  intro p e s m args below meth c s₁ B hml hex hv
  obtain ⟨rfl, hsz, hP, hK, hD0, hG⟩ := hv
  have hx := B.exec
  have hb := B.bytes
  have hr := B.returns
  have hts := atoms_spec (ws := .code yX11_guard cX11_guard 6 (some .int) :: wsL_law) B.pre
  have ht : ∀ w ∈ wsL_law, w.before _ s = true := fun w h => hts w (List.mem_cons_of_mem _ h)
  have hown : s.vm.findClass RX11 = some m.cls := findClass_of_methodNamed B.named
  have hlocks := B.notSynchronized
  subst hsz
  have hD := hD0.self (sz := s.heap.size)
  generalize hAe : va_A (WX ox pl ru sh sp sl gr re pr ga rp bo fa gpl gin bbe bdi cP cI de) s.heap.size = A at hD hG ⊢
  have hA : ∀ q : Nat, s.heap.size ≤ q → A q := fun q h => by rw [← hAe]; exact Or.inr h
  have hS : va_S A s.heap s.heap [] := va_S.rf
  have hP : va_P (dC, dI) vwCl [(ox, .inr (13, [.ref pl, .ref ru, .ref sh, .ref sp, .ref sl, .ref gr, .ref re, .ref pr, .ref ga, .ref rp, .ref bo, .int 0])), (pl, .inr (1, [.int 0, .ref de, .int 0])), (ru, .inr (1, [.int 0, .ref de, .int 0])), (sh, .inr (1, [.int 0, .ref de, .int 0])), (sp, .inl (cP, 6, .inr (.inr (.inr (.inr (fun _ => none)))))), (ga, .inr (5, [.ref gpl, .ref gin, .int (-1), .int 0, .int 112, .int 0])), (bo, .inr (2, [.ref fa, .ref bbe, .ref bdi, .int 0, .int 0])), (fa, .inl (cI, 96, .inl (fun _ => 0)))] s.heap := hP
  have hD : va_D A [(ox, .inr (13, [.ref pl, .ref ru, .ref sh, .ref sp, .ref sl, .ref gr, .ref re, .ref pr, .ref ga, .ref rp, .ref bo, .int 0])), (pl, .inr (1, [.int 0, .ref de, .int 0])), (ru, .inr (1, [.int 0, .ref de, .int 0])), (sh, .inr (1, [.int 0, .ref de, .int 0])), (sp, .inl (cP, 6, .inr (.inr (.inr (.inr (fun _ => none)))))), (ga, .inr (5, [.ref gpl, .ref gin, .int (-1), .int 0, .int 112, .int 0])), (bo, .inr (2, [.ref fa, .ref bbe, .ref bdi, .int 0, .int 0])), (fa, .inl (cI, 96, .inl (fun _ => 0)))] := hD
  have hl := lv_entry ([.ref ox, .int a1, .int a2, .int a3, .int a4]) (n := 6) (Nat.le_of_ble_eq_true rfl)
  rw [lg_entry_eq]
  generalize (lg_sl ([.ref ox, .int a1, .int a2, .int a3, .int a4]) ++ List.replicate (6 - (lg_sl ([.ref ox, .int a1, .int a2, .int a3, .int a4])).length) Slot.unset).toArray = ls at hl ⊢
  have hl : lv_has ls 6 [(0, .ref ox), (1, .int a1), (2, .int a2), (3, .int a3), (4, .int a4)] := hl
  refine lv_aload_n hx hb dX11_guard_0 rfl (lv_at hl 0 rfl) ?_
  refine lv_iload_n hx hb dX11_guard_1 rfl (lv_at hl 1 rfl) ?_
  refine lv_iload_n hx hb dX11_guard_2 rfl (lv_at hl 2 rfl) ?_
  refine lv_iload hx hb dX11_guard_3 (lv_at hl 4 rfl) ?_
  have hPc := hP.sub (ws' := [(ox, .inr (13, [.ref pl, .ref ru, .ref sh, .ref sp, .ref sl, .ref gr, .ref re, .ref pr, .ref ga, .ref rp, .ref bo, .int 0])), (pl, .inr (1, [.int 0, .ref de, .int 0])), (ru, .inr (1, [.int 0, .ref de, .int 0])), (sh, .inr (1, [.int 0, .ref de, .int 0])), (sp, .inl (cP, 6, .inr (.inr (.inr (.inr (fun _ => none)))))), (ga, .inr (5, [.ref gpl, .ref gin, .int (-1), .int 0, .int 112, .int 0])), (bo, .inr (2, [.ref fa, .ref bbe, .ref bdi, .int 0, .int 0])), (fa, .inl (cI, 96, .inl (fun _ => 0)))]) [0, 1, 2, 3, 4, 5, 6, 7] rfl
  have hDc := hD.sub (ws' := [(ox, .inr (13, [.ref pl, .ref ru, .ref sh, .ref sp, .ref sl, .ref gr, .ref re, .ref pr, .ref ga, .ref rp, .ref bo, .int 0])), (pl, .inr (1, [.int 0, .ref de, .int 0])), (ru, .inr (1, [.int 0, .ref de, .int 0])), (sh, .inr (1, [.int 0, .ref de, .int 0])), (sp, .inl (cP, 6, .inr (.inr (.inr (.inr (fun _ => none)))))), (ga, .inr (5, [.ref gpl, .ref gin, .int (-1), .int 0, .int 112, .int 0])), (bo, .inr (2, [.ref fa, .ref bbe, .ref bdi, .int 0, .int 0])), (fa, .inl (cI, 96, .inl (fun _ => 0)))]) [0, 1, 2, 3, 4, 5, 6, 7] (by decide) rfl
  have hKc := hK.sub (tys' := [(cP, .object "Levelsmith$Player"), (cI, .int)]) [0, 1] rfl
  have hFc := va_free (wc := [(ox, .inr (13, [.ref pl, .ref ru, .ref sh, .ref sp, .ref sl, .ref gr, .ref re, .ref pr, .ref ga, .ref rp, .ref bo, .int 0])), (pl, .inr (1, [.int 0, .ref de, .int 0])), (ru, .inr (1, [.int 0, .ref de, .int 0])), (sh, .inr (1, [.int 0, .ref de, .int 0])), (sp, .inl (cP, 6, .inr (.inr (.inr (.inr (fun _ => none)))))), (ga, .inr (5, [.ref gpl, .ref gin, .int (-1), .int 0, .int 112, .int 0])), (bo, .inr (2, [.ref fa, .ref bbe, .ref bdi, .int 0, .int 0])), (fa, .inl (cI, 96, .inl (fun _ => 0)))]) hD hS hA [0, 1, 2, 3, 4, 5, 6, 7] rfl
  refine vx_callq (vx_runV (As := [.int a1, .int a2, .int a4]) (rest := []) ⟨hx, hb, hml, hown, ht⟩ (c_X11_planWithCell l hlt dC dI de (ox) (pl) (ru) (sh) (sp) (sl) (gr) (re) (pr) (ga) (rp) (bo) (fa) (gpl) (gin) (bbe) (bdi) (cP) (cI) (a1) (a2) (a4) s.heap.size) (cwV 3 ht (gWV (wr_18 _ (List.mem_of_getElem? (i := 18) rfl)) (wr_18 _ (List.mem_of_getElem? (i := 19) rfl)) (wr_18 _ (List.mem_of_getElem? (i := 20) rfl)) (wr_1 _ (List.mem_of_getElem? (i := 2) rfl)) (wr_18 _ (List.mem_of_getElem? (i := 21) rfl))) rfl rfl rfl (by decide +kernel) ⟨Nat.le_of_ble_eq_true rfl, Nat.le_of_ble_eq_true rfl⟩) ⟨PW_blind, va_recv hKc hPc (ci := 13) (q0 := 0) rfl rfl, PW_call hPc hDc hKc hS hG hFc⟩ rfl rfl hl.1 rfl (lv_room (Nat.le_of_ble_eq_true rfl)) dX11_guard_5 ⟨Nat.le_of_ble_eq_true rfl, Nat.le_of_ble_eq_true rfl⟩) hS (fun q _ h => hFc q h) hFc (fun q _ h => hFc q h) (fun E ce q9 u t H1 locs1 ht9 hvm9 _ hR9 hz9 hk9 hS9 hc9 hv9 hcl9 => ?_) (fun r_5 u t H1 locs ht9 hvm hw hB hz1 hk1 hS => False.elim hw)
  exact vx_out (fun x hx => (hex x hx).elim) hlocks hc9 hv9 hcl9 (fun t9 e9 _ => XX_out hR9 hS9 e9) hS9.2.2 (Nat.le_of_ble_eq_true rfl) (Nat.le_of_ble_eq_true rfl)
set_option maxHeartbeats 4000000 in
set_option maxRecDepth 100000 in
theorem c_X11_guardAt (l : Launch) (hlt : l.stackTraces = false) (dC : Nat → ClassId) (dI : Nat → Nat → Nat) (de : Nat) (ox : Nat) (pl : Nat) (ru : Nat) (sh : Nat) (sp : Nat) (sl : Nat) (gr : Nat) (re : Nat) (pr : Nat) (ga : Nat) (rp : Nat) (bo : Nat) (fa : Nat) (gpl : Nat) (gin : Nat) (bbe : Nat) (bdi : Nat) (cP : ClassId) (cI : ClassId) (a1 : Int32) (a2 : Int32) (a3 : Int32) (sz : Nat) : vx_Met l yX11_guardAt (.code yX11_guardAt cX11_guardAt 5 (some .int) :: wsL_law) { frames := 7, cells := 1, slots := 6, locals := 111 } (va_Pc [.ref ox, .int a1, .int a2, .int a3] (PW dC dI de [(cP, .object "Levelsmith$Player"), (cI, .int)] (WX ox pl ru sh sp sl gr re pr ga rp bo fa gpl gin bbe bdi cP cI de) sz)) (va_Qi (fun (_ : Int32) (_ : Unit) => False) (fun (_ : Unit) (_ : State) => True) (va_A (WX ox pl ru sh sp sl gr re pr ga rp bo fa gpl gin bbe bdi cP cI de) sz)) (XX (fun E => E = "java/lang/IndexOutOfBoundsException") (va_A (WX ox pl ru sh sp sl gr re pr ga rp bo fa gpl gin bbe bdi cP cI de) sz)) 1 6 (va_A (WX ox pl ru sh sp sl gr re pr ga rp bo fa gpl gin bbe bdi cP cI de) sz) := by
  refine vx_ofW (cc := cX11_guardAt) (maxL := 5) (ret := (some .int)) (by decide) rfl ?_
  intro p e s m args below meth c s₁ B hml hex hv
  obtain ⟨rfl, hsz, hP, hK, hD0, hG⟩ := hv
  have hx := B.exec
  have hb := B.bytes
  have hr := B.returns
  have hts := atoms_spec (ws := .code yX11_guardAt cX11_guardAt 5 (some .int) :: wsL_law) B.pre
  have ht : ∀ w ∈ wsL_law, w.before _ s = true := fun w h => hts w (List.mem_cons_of_mem _ h)
  have hown : s.vm.findClass RX11 = some m.cls := findClass_of_methodNamed B.named
  have hlocks := B.notSynchronized
  subst hsz
  have hD := hD0.self (sz := s.heap.size)
  generalize hAe : va_A (WX ox pl ru sh sp sl gr re pr ga rp bo fa gpl gin bbe bdi cP cI de) s.heap.size = A at hD hG ⊢
  have hA : ∀ q : Nat, s.heap.size ≤ q → A q := fun q h => by rw [← hAe]; exact Or.inr h
  have hS : va_S A s.heap s.heap [] := va_S.rf
  have hP : va_P (dC, dI) vwCl [(ox, .inr (13, [.ref pl, .ref ru, .ref sh, .ref sp, .ref sl, .ref gr, .ref re, .ref pr, .ref ga, .ref rp, .ref bo, .int 0])), (pl, .inr (1, [.int 0, .ref de, .int 0])), (ru, .inr (1, [.int 0, .ref de, .int 0])), (sh, .inr (1, [.int 0, .ref de, .int 0])), (sp, .inl (cP, 6, .inr (.inr (.inr (.inr (fun _ => none)))))), (ga, .inr (5, [.ref gpl, .ref gin, .int (-1), .int 0, .int 112, .int 0])), (bo, .inr (2, [.ref fa, .ref bbe, .ref bdi, .int 0, .int 0])), (fa, .inl (cI, 96, .inl (fun _ => 0)))] s.heap := hP
  have hD : va_D A [(ox, .inr (13, [.ref pl, .ref ru, .ref sh, .ref sp, .ref sl, .ref gr, .ref re, .ref pr, .ref ga, .ref rp, .ref bo, .int 0])), (pl, .inr (1, [.int 0, .ref de, .int 0])), (ru, .inr (1, [.int 0, .ref de, .int 0])), (sh, .inr (1, [.int 0, .ref de, .int 0])), (sp, .inl (cP, 6, .inr (.inr (.inr (.inr (fun _ => none)))))), (ga, .inr (5, [.ref gpl, .ref gin, .int (-1), .int 0, .int 112, .int 0])), (bo, .inr (2, [.ref fa, .ref bbe, .ref bdi, .int 0, .int 0])), (fa, .inl (cI, 96, .inl (fun _ => 0)))] := hD
  have hl := lv_entry ([.ref ox, .int a1, .int a2, .int a3]) (n := 5) (Nat.le_of_ble_eq_true rfl)
  rw [lg_entry_eq]
  generalize (lg_sl ([.ref ox, .int a1, .int a2, .int a3]) ++ List.replicate (5 - (lg_sl ([.ref ox, .int a1, .int a2, .int a3])).length) Slot.unset).toArray = ls at hl ⊢
  have hl : lv_has ls 5 [(0, .ref ox), (1, .int a1), (2, .int a2), (3, .int a3)] := hl
  refine lv_aload_n hx hb dX11_guardAt_0 rfl (lv_at hl 0 rfl) ?_
  refine lv_iload_n hx hb dX11_guardAt_1 rfl (lv_at hl 1 rfl) ?_
  have hPc := hP.sub (ws' := [(ox, .inr (13, [.ref pl, .ref ru, .ref sh, .ref sp, .ref sl, .ref gr, .ref re, .ref pr, .ref ga, .ref rp, .ref bo, .int 0])), (pl, .inr (1, [.int 0, .ref de, .int 0])), (ru, .inr (1, [.int 0, .ref de, .int 0])), (sh, .inr (1, [.int 0, .ref de, .int 0])), (sp, .inl (cP, 6, .inr (.inr (.inr (.inr (fun _ => none)))))), (ga, .inr (5, [.ref gpl, .ref gin, .int (-1), .int 0, .int 112, .int 0])), (bo, .inr (2, [.ref fa, .ref bbe, .ref bdi, .int 0, .int 0])), (fa, .inl (cI, 96, .inl (fun _ => 0)))]) [0, 1, 2, 3, 4, 5, 6, 7] rfl
  have hDc := hD.sub (ws' := [(ox, .inr (13, [.ref pl, .ref ru, .ref sh, .ref sp, .ref sl, .ref gr, .ref re, .ref pr, .ref ga, .ref rp, .ref bo, .int 0])), (pl, .inr (1, [.int 0, .ref de, .int 0])), (ru, .inr (1, [.int 0, .ref de, .int 0])), (sh, .inr (1, [.int 0, .ref de, .int 0])), (sp, .inl (cP, 6, .inr (.inr (.inr (.inr (fun _ => none)))))), (ga, .inr (5, [.ref gpl, .ref gin, .int (-1), .int 0, .int 112, .int 0])), (bo, .inr (2, [.ref fa, .ref bbe, .ref bdi, .int 0, .int 0])), (fa, .inl (cI, 96, .inl (fun _ => 0)))]) [0, 1, 2, 3, 4, 5, 6, 7] (by decide) rfl
  have hKc := hK.sub (tys' := [(cP, .object "Levelsmith$Player"), (cI, .int)]) [0, 1] rfl
  have hFc := va_free (wc := [(ox, .inr (13, [.ref pl, .ref ru, .ref sh, .ref sp, .ref sl, .ref gr, .ref re, .ref pr, .ref ga, .ref rp, .ref bo, .int 0])), (pl, .inr (1, [.int 0, .ref de, .int 0])), (ru, .inr (1, [.int 0, .ref de, .int 0])), (sh, .inr (1, [.int 0, .ref de, .int 0])), (sp, .inl (cP, 6, .inr (.inr (.inr (.inr (fun _ => none)))))), (ga, .inr (5, [.ref gpl, .ref gin, .int (-1), .int 0, .int 112, .int 0])), (bo, .inr (2, [.ref fa, .ref bbe, .ref bdi, .int 0, .int 0])), (fa, .inl (cI, 96, .inl (fun _ => 0)))]) hD hS hA [0, 1, 2, 3, 4, 5, 6, 7] rfl
  refine vx_callq (vx_runV (As := [.int a1]) (rest := []) ⟨hx, hb, hml, hown, ht⟩ (c_X11_planAt l hlt dC dI de (ox) (pl) (ru) (sh) (sp) (sl) (gr) (re) (pr) (ga) (rp) (bo) (fa) (gpl) (gin) (bbe) (bdi) (cP) (cI) (a1) s.heap.size) (cwV 1 ht (gWV (wr_19 _ (List.mem_of_getElem? (i := 0) rfl)) (wr_19 _ (List.mem_of_getElem? (i := 1) rfl)) (wr_19 _ (List.mem_of_getElem? (i := 2) rfl)) (wr_1 _ (List.mem_of_getElem? (i := 2) rfl)) (wr_19 _ (List.mem_of_getElem? (i := 3) rfl))) rfl rfl rfl (by decide +kernel) ⟨Nat.le_of_ble_eq_true rfl, Nat.le_of_ble_eq_true rfl⟩) ⟨PW_blind, va_recv hKc hPc (ci := 13) (q0 := 0) rfl rfl, PW_call hPc hDc hKc hS hG hFc⟩ rfl rfl hl.1 rfl (lv_room (Nat.le_of_ble_eq_true rfl)) dX11_guardAt_2 ⟨Nat.le_of_ble_eq_true rfl, Nat.le_of_ble_eq_true rfl⟩) hS (fun q _ h => hFc q h) hFc (fun q _ h => hFc q h) (fun E ce q9 u t H1 locs1 ht9 hvm9 _ hR9 hz9 hk9 hS9 hc9 hv9 hcl9 => ?_) (fun r_2 u t H1 locs ht9 hvm hw hB hz1 hk1 hS => False.elim hw)
  exact vx_out (fun x hx => (hex x hx).elim) hlocks hc9 hv9 hcl9 (fun t9 e9 _ => XX_out hR9 hS9 e9) hS9.2.2 (Nat.le_of_ble_eq_true rfl) (Nat.le_of_ble_eq_true rfl)
set_option maxHeartbeats 4000000 in
set_option maxRecDepth 100000 in
theorem c_X11_copy (l : Launch) (hlt : l.stackTraces = false) (dC : Nat → ClassId) (dI : Nat → Nat → Nat) (de : Nat) (ox : Nat) (pl : Nat) (ru : Nat) (sh : Nat) (sp : Nat) (sl : Nat) (gr : Nat) (re : Nat) (pr : Nat) (ga : Nat) (rp : Nat) (bo : Nat) (fa : Nat) (gpl : Nat) (gin : Nat) (bbe : Nat) (bdi : Nat) (cP : ClassId) (cI : ClassId) (a1 : Int32) (sz : Nat) : vx_Met l yX11_copy (.code yX11_copy cX11_copy 4 (some .int) :: wsL_law) { frames := 7, cells := 1, slots := 6, locals := 111 } (va_Pc [.ref ox, .int a1] (PW dC dI de [(cP, .object "Levelsmith$Player"), (cI, .int)] (WX ox pl ru sh sp sl gr re pr ga rp bo fa gpl gin bbe bdi cP cI de) sz)) (va_Qi (fun (_ : Int32) (_ : Unit) => False) (fun (_ : Unit) (_ : State) => True) (va_A (WX ox pl ru sh sp sl gr re pr ga rp bo fa gpl gin bbe bdi cP cI de) sz)) (XX (fun E => E = "java/lang/IndexOutOfBoundsException") (va_A (WX ox pl ru sh sp sl gr re pr ga rp bo fa gpl gin bbe bdi cP cI de) sz)) 1 6 (va_A (WX ox pl ru sh sp sl gr re pr ga rp bo fa gpl gin bbe bdi cP cI de) sz) := by
  refine vx_ofW (cc := cX11_copy) (maxL := 4) (ret := (some .int)) (by decide) rfl ?_
  intro p e s m args below meth c s₁ B hml hex hv
  obtain ⟨rfl, hsz, hP, hK, hD0, hG⟩ := hv
  have hx := B.exec
  have hb := B.bytes
  have hr := B.returns
  have hts := atoms_spec (ws := .code yX11_copy cX11_copy 4 (some .int) :: wsL_law) B.pre
  have ht : ∀ w ∈ wsL_law, w.before _ s = true := fun w h => hts w (List.mem_cons_of_mem _ h)
  have hown : s.vm.findClass RX11 = some m.cls := findClass_of_methodNamed B.named
  have hlocks := B.notSynchronized
  subst hsz
  have hD := hD0.self (sz := s.heap.size)
  generalize hAe : va_A (WX ox pl ru sh sp sl gr re pr ga rp bo fa gpl gin bbe bdi cP cI de) s.heap.size = A at hD hG ⊢
  have hA : ∀ q : Nat, s.heap.size ≤ q → A q := fun q h => by rw [← hAe]; exact Or.inr h
  have hS : va_S A s.heap s.heap [] := va_S.rf
  have hP : va_P (dC, dI) vwCl [(ox, .inr (13, [.ref pl, .ref ru, .ref sh, .ref sp, .ref sl, .ref gr, .ref re, .ref pr, .ref ga, .ref rp, .ref bo, .int 0])), (pl, .inr (1, [.int 0, .ref de, .int 0])), (ru, .inr (1, [.int 0, .ref de, .int 0])), (sh, .inr (1, [.int 0, .ref de, .int 0])), (sp, .inl (cP, 6, .inr (.inr (.inr (.inr (fun _ => none)))))), (ga, .inr (5, [.ref gpl, .ref gin, .int (-1), .int 0, .int 112, .int 0])), (bo, .inr (2, [.ref fa, .ref bbe, .ref bdi, .int 0, .int 0])), (fa, .inl (cI, 96, .inl (fun _ => 0)))] s.heap := hP
  have hD : va_D A [(ox, .inr (13, [.ref pl, .ref ru, .ref sh, .ref sp, .ref sl, .ref gr, .ref re, .ref pr, .ref ga, .ref rp, .ref bo, .int 0])), (pl, .inr (1, [.int 0, .ref de, .int 0])), (ru, .inr (1, [.int 0, .ref de, .int 0])), (sh, .inr (1, [.int 0, .ref de, .int 0])), (sp, .inl (cP, 6, .inr (.inr (.inr (.inr (fun _ => none)))))), (ga, .inr (5, [.ref gpl, .ref gin, .int (-1), .int 0, .int 112, .int 0])), (bo, .inr (2, [.ref fa, .ref bbe, .ref bdi, .int 0, .int 0])), (fa, .inl (cI, 96, .inl (fun _ => 0)))] := hD
  have hl := lv_entry ([.ref ox, .int a1]) (n := 4) (Nat.le_of_ble_eq_true rfl)
  rw [lg_entry_eq]
  generalize (lg_sl ([.ref ox, .int a1]) ++ List.replicate (4 - (lg_sl ([.ref ox, .int a1])).length) Slot.unset).toArray = ls at hl ⊢
  have hl : lv_has ls 4 [(0, .ref ox), (1, .int a1)] := hl
  refine lv_aload_n hx hb dX11_copy_0 rfl (lv_at hl 0 rfl) ?_
  refine lv_iload_n hx hb dX11_copy_1 rfl (lv_at hl 1 rfl) ?_
  have hPc := hP.sub (ws' := [(ox, .inr (13, [.ref pl, .ref ru, .ref sh, .ref sp, .ref sl, .ref gr, .ref re, .ref pr, .ref ga, .ref rp, .ref bo, .int 0])), (pl, .inr (1, [.int 0, .ref de, .int 0])), (ru, .inr (1, [.int 0, .ref de, .int 0])), (sh, .inr (1, [.int 0, .ref de, .int 0])), (sp, .inl (cP, 6, .inr (.inr (.inr (.inr (fun _ => none)))))), (ga, .inr (5, [.ref gpl, .ref gin, .int (-1), .int 0, .int 112, .int 0])), (bo, .inr (2, [.ref fa, .ref bbe, .ref bdi, .int 0, .int 0])), (fa, .inl (cI, 96, .inl (fun _ => 0)))]) [0, 1, 2, 3, 4, 5, 6, 7] rfl
  have hDc := hD.sub (ws' := [(ox, .inr (13, [.ref pl, .ref ru, .ref sh, .ref sp, .ref sl, .ref gr, .ref re, .ref pr, .ref ga, .ref rp, .ref bo, .int 0])), (pl, .inr (1, [.int 0, .ref de, .int 0])), (ru, .inr (1, [.int 0, .ref de, .int 0])), (sh, .inr (1, [.int 0, .ref de, .int 0])), (sp, .inl (cP, 6, .inr (.inr (.inr (.inr (fun _ => none)))))), (ga, .inr (5, [.ref gpl, .ref gin, .int (-1), .int 0, .int 112, .int 0])), (bo, .inr (2, [.ref fa, .ref bbe, .ref bdi, .int 0, .int 0])), (fa, .inl (cI, 96, .inl (fun _ => 0)))]) [0, 1, 2, 3, 4, 5, 6, 7] (by decide) rfl
  have hKc := hK.sub (tys' := [(cP, .object "Levelsmith$Player"), (cI, .int)]) [0, 1] rfl
  have hFc := va_free (wc := [(ox, .inr (13, [.ref pl, .ref ru, .ref sh, .ref sp, .ref sl, .ref gr, .ref re, .ref pr, .ref ga, .ref rp, .ref bo, .int 0])), (pl, .inr (1, [.int 0, .ref de, .int 0])), (ru, .inr (1, [.int 0, .ref de, .int 0])), (sh, .inr (1, [.int 0, .ref de, .int 0])), (sp, .inl (cP, 6, .inr (.inr (.inr (.inr (fun _ => none)))))), (ga, .inr (5, [.ref gpl, .ref gin, .int (-1), .int 0, .int 112, .int 0])), (bo, .inr (2, [.ref fa, .ref bbe, .ref bdi, .int 0, .int 0])), (fa, .inl (cI, 96, .inl (fun _ => 0)))]) hD hS hA [0, 1, 2, 3, 4, 5, 6, 7] rfl
  refine vx_callq (vx_runV (As := [.int a1]) (rest := []) ⟨hx, hb, hml, hown, ht⟩ (c_X11_planAt l hlt dC dI de (ox) (pl) (ru) (sh) (sp) (sl) (gr) (re) (pr) (ga) (rp) (bo) (fa) (gpl) (gin) (bbe) (bdi) (cP) (cI) (a1) s.heap.size) (cwV 1 ht (gWV (wr_19 _ (List.mem_of_getElem? (i := 0) rfl)) (wr_19 _ (List.mem_of_getElem? (i := 1) rfl)) (wr_19 _ (List.mem_of_getElem? (i := 2) rfl)) (wr_1 _ (List.mem_of_getElem? (i := 2) rfl)) (wr_19 _ (List.mem_of_getElem? (i := 3) rfl))) rfl rfl rfl (by decide +kernel) ⟨Nat.le_of_ble_eq_true rfl, Nat.le_of_ble_eq_true rfl⟩) ⟨PW_blind, va_recv hKc hPc (ci := 13) (q0 := 0) rfl rfl, PW_call hPc hDc hKc hS hG hFc⟩ rfl rfl hl.1 rfl (lv_room (Nat.le_of_ble_eq_true rfl)) dX11_copy_2 ⟨Nat.le_of_ble_eq_true rfl, Nat.le_of_ble_eq_true rfl⟩) hS (fun q _ h => hFc q h) hFc (fun q _ h => hFc q h) (fun E ce q9 u t H1 locs1 ht9 hvm9 _ hR9 hz9 hk9 hS9 hc9 hv9 hcl9 => ?_) (fun r_2 u t H1 locs ht9 hvm hw hB hz1 hk1 hS => False.elim hw)
  exact vx_out (fun x hx => (hex x hx).elim) hlocks hc9 hv9 hcl9 (fun t9 e9 _ => XX_out hR9 hS9 e9) hS9.2.2 (Nat.le_of_ble_eq_true rfl) (Nat.le_of_ble_eq_true rfl)
set_option maxHeartbeats 4000000 in
set_option maxRecDepth 100000 in
theorem c_X11_grow (l : Launch) (hlt : l.stackTraces = false) (dC : Nat → ClassId) (dI : Nat → Nat → Nat) (de : Nat) (ox : Nat) (pl : Nat) (ru : Nat) (sh : Nat) (sp : Nat) (sl : Nat) (gr : Nat) (re : Nat) (pr : Nat) (ga : Nat) (rp : Nat) (bo : Nat) (fa : Nat) (gpl : Nat) (gin : Nat) (bbe : Nat) (bdi : Nat) (cP : ClassId) (cI : ClassId) (a1 : Int32) (a2 : Int32) (sz : Nat) : vx_Met l yX11_grow (.code yX11_grow cX11_grow 4 (some .int) :: wsL_law) { frames := 7, cells := 1, slots := 6, locals := 111 } (va_Pc [.ref ox, .int a1, .int a2] (PW dC dI de [(cP, .object "Levelsmith$Player"), (cI, .int)] (WX ox pl ru sh sp sl gr re pr ga rp bo fa gpl gin bbe bdi cP cI de) sz)) (va_Qi (fun (_ : Int32) (_ : Unit) => False) (fun (_ : Unit) (_ : State) => True) (va_A (WX ox pl ru sh sp sl gr re pr ga rp bo fa gpl gin bbe bdi cP cI de) sz)) (XX (fun E => E = "java/lang/IndexOutOfBoundsException") (va_A (WX ox pl ru sh sp sl gr re pr ga rp bo fa gpl gin bbe bdi cP cI de) sz)) 1 6 (va_A (WX ox pl ru sh sp sl gr re pr ga rp bo fa gpl gin bbe bdi cP cI de) sz) := by
  refine vx_ofW (cc := cX11_grow) (maxL := 4) (ret := (some .int)) (by decide) rfl ?_
  intro p e s m args below meth c s₁ B hml hex hv
  obtain ⟨rfl, hsz, hP, hK, hD0, hG⟩ := hv
  have hx := B.exec
  have hb := B.bytes
  have hr := B.returns
  have hts := atoms_spec (ws := .code yX11_grow cX11_grow 4 (some .int) :: wsL_law) B.pre
  have ht : ∀ w ∈ wsL_law, w.before _ s = true := fun w h => hts w (List.mem_cons_of_mem _ h)
  have hown : s.vm.findClass RX11 = some m.cls := findClass_of_methodNamed B.named
  have hlocks := B.notSynchronized
  subst hsz
  have hD := hD0.self (sz := s.heap.size)
  generalize hAe : va_A (WX ox pl ru sh sp sl gr re pr ga rp bo fa gpl gin bbe bdi cP cI de) s.heap.size = A at hD hG ⊢
  have hA : ∀ q : Nat, s.heap.size ≤ q → A q := fun q h => by rw [← hAe]; exact Or.inr h
  have hS : va_S A s.heap s.heap [] := va_S.rf
  have hP : va_P (dC, dI) vwCl [(ox, .inr (13, [.ref pl, .ref ru, .ref sh, .ref sp, .ref sl, .ref gr, .ref re, .ref pr, .ref ga, .ref rp, .ref bo, .int 0])), (pl, .inr (1, [.int 0, .ref de, .int 0])), (ru, .inr (1, [.int 0, .ref de, .int 0])), (sh, .inr (1, [.int 0, .ref de, .int 0])), (sp, .inl (cP, 6, .inr (.inr (.inr (.inr (fun _ => none)))))), (ga, .inr (5, [.ref gpl, .ref gin, .int (-1), .int 0, .int 112, .int 0])), (bo, .inr (2, [.ref fa, .ref bbe, .ref bdi, .int 0, .int 0])), (fa, .inl (cI, 96, .inl (fun _ => 0)))] s.heap := hP
  have hD : va_D A [(ox, .inr (13, [.ref pl, .ref ru, .ref sh, .ref sp, .ref sl, .ref gr, .ref re, .ref pr, .ref ga, .ref rp, .ref bo, .int 0])), (pl, .inr (1, [.int 0, .ref de, .int 0])), (ru, .inr (1, [.int 0, .ref de, .int 0])), (sh, .inr (1, [.int 0, .ref de, .int 0])), (sp, .inl (cP, 6, .inr (.inr (.inr (.inr (fun _ => none)))))), (ga, .inr (5, [.ref gpl, .ref gin, .int (-1), .int 0, .int 112, .int 0])), (bo, .inr (2, [.ref fa, .ref bbe, .ref bdi, .int 0, .int 0])), (fa, .inl (cI, 96, .inl (fun _ => 0)))] := hD
  have hl := lv_entry ([.ref ox, .int a1, .int a2]) (n := 4) (Nat.le_of_ble_eq_true rfl)
  rw [lg_entry_eq]
  generalize (lg_sl ([.ref ox, .int a1, .int a2]) ++ List.replicate (4 - (lg_sl ([.ref ox, .int a1, .int a2])).length) Slot.unset).toArray = ls at hl ⊢
  have hl : lv_has ls 4 [(0, .ref ox), (1, .int a1), (2, .int a2)] := hl
  refine lv_aload_n hx hb dX11_grow_0 rfl (lv_at hl 0 rfl) ?_
  refine lv_iload_n hx hb dX11_grow_1 rfl (lv_at hl 1 rfl) ?_
  have hPc := hP.sub (ws' := [(ox, .inr (13, [.ref pl, .ref ru, .ref sh, .ref sp, .ref sl, .ref gr, .ref re, .ref pr, .ref ga, .ref rp, .ref bo, .int 0])), (pl, .inr (1, [.int 0, .ref de, .int 0])), (ru, .inr (1, [.int 0, .ref de, .int 0])), (sh, .inr (1, [.int 0, .ref de, .int 0])), (sp, .inl (cP, 6, .inr (.inr (.inr (.inr (fun _ => none)))))), (ga, .inr (5, [.ref gpl, .ref gin, .int (-1), .int 0, .int 112, .int 0])), (bo, .inr (2, [.ref fa, .ref bbe, .ref bdi, .int 0, .int 0])), (fa, .inl (cI, 96, .inl (fun _ => 0)))]) [0, 1, 2, 3, 4, 5, 6, 7] rfl
  have hDc := hD.sub (ws' := [(ox, .inr (13, [.ref pl, .ref ru, .ref sh, .ref sp, .ref sl, .ref gr, .ref re, .ref pr, .ref ga, .ref rp, .ref bo, .int 0])), (pl, .inr (1, [.int 0, .ref de, .int 0])), (ru, .inr (1, [.int 0, .ref de, .int 0])), (sh, .inr (1, [.int 0, .ref de, .int 0])), (sp, .inl (cP, 6, .inr (.inr (.inr (.inr (fun _ => none)))))), (ga, .inr (5, [.ref gpl, .ref gin, .int (-1), .int 0, .int 112, .int 0])), (bo, .inr (2, [.ref fa, .ref bbe, .ref bdi, .int 0, .int 0])), (fa, .inl (cI, 96, .inl (fun _ => 0)))]) [0, 1, 2, 3, 4, 5, 6, 7] (by decide) rfl
  have hKc := hK.sub (tys' := [(cP, .object "Levelsmith$Player"), (cI, .int)]) [0, 1] rfl
  have hFc := va_free (wc := [(ox, .inr (13, [.ref pl, .ref ru, .ref sh, .ref sp, .ref sl, .ref gr, .ref re, .ref pr, .ref ga, .ref rp, .ref bo, .int 0])), (pl, .inr (1, [.int 0, .ref de, .int 0])), (ru, .inr (1, [.int 0, .ref de, .int 0])), (sh, .inr (1, [.int 0, .ref de, .int 0])), (sp, .inl (cP, 6, .inr (.inr (.inr (.inr (fun _ => none)))))), (ga, .inr (5, [.ref gpl, .ref gin, .int (-1), .int 0, .int 112, .int 0])), (bo, .inr (2, [.ref fa, .ref bbe, .ref bdi, .int 0, .int 0])), (fa, .inl (cI, 96, .inl (fun _ => 0)))]) hD hS hA [0, 1, 2, 3, 4, 5, 6, 7] rfl
  refine vx_callq (vx_runV (As := [.int a1]) (rest := []) ⟨hx, hb, hml, hown, ht⟩ (c_X11_planAt l hlt dC dI de (ox) (pl) (ru) (sh) (sp) (sl) (gr) (re) (pr) (ga) (rp) (bo) (fa) (gpl) (gin) (bbe) (bdi) (cP) (cI) (a1) s.heap.size) (cwV 1 ht (gWV (wr_19 _ (List.mem_of_getElem? (i := 0) rfl)) (wr_19 _ (List.mem_of_getElem? (i := 1) rfl)) (wr_19 _ (List.mem_of_getElem? (i := 2) rfl)) (wr_1 _ (List.mem_of_getElem? (i := 2) rfl)) (wr_19 _ (List.mem_of_getElem? (i := 3) rfl))) rfl rfl rfl (by decide +kernel) ⟨Nat.le_of_ble_eq_true rfl, Nat.le_of_ble_eq_true rfl⟩) ⟨PW_blind, va_recv hKc hPc (ci := 13) (q0 := 0) rfl rfl, PW_call hPc hDc hKc hS hG hFc⟩ rfl rfl hl.1 rfl (lv_room (Nat.le_of_ble_eq_true rfl)) dX11_grow_2 ⟨Nat.le_of_ble_eq_true rfl, Nat.le_of_ble_eq_true rfl⟩) hS (fun q _ h => hFc q h) hFc (fun q _ h => hFc q h) (fun E ce q9 u t H1 locs1 ht9 hvm9 _ hR9 hz9 hk9 hS9 hc9 hv9 hcl9 => ?_) (fun r_2 u t H1 locs ht9 hvm hw hB hz1 hk1 hS => False.elim hw)
  exact vx_out (fun x hx => (hex x hx).elim) hlocks hc9 hv9 hcl9 (fun t9 e9 _ => XX_out hR9 hS9 e9) hS9.2.2 (Nat.le_of_ble_eq_true rfl) (Nat.le_of_ble_eq_true rfl)
set_option maxHeartbeats 4000000 in
set_option maxRecDepth 100000 in
theorem c_X11_isWinnable (l : Launch) (hlt : l.stackTraces = false) (dC : Nat → ClassId) (dI : Nat → Nat → Nat) (de : Nat) (ox : Nat) (pl : Nat) (ru : Nat) (sh : Nat) (sp : Nat) (sl : Nat) (gr : Nat) (re : Nat) (pr : Nat) (ga : Nat) (rp : Nat) (bo : Nat) (fa : Nat) (gpl : Nat) (gin : Nat) (bbe : Nat) (bdi : Nat) (cP : ClassId) (cI : ClassId) (a1 : Int32) (sz : Nat) : vx_Met l yX11_isWinnable (.code yX11_isWinnable cX11_isWinnable 2 (some .boolean) :: wsL_law) { frames := 8, cells := 1, slots := 6, locals := 133 } (va_Pc [.ref ox, .int a1] (PW dC dI de [(cP, .object "Levelsmith$Player"), (cI, .int)] (WX ox pl ru sh sp sl gr re pr ga rp bo fa gpl gin bbe bdi cP cI de) sz)) (va_Qi (fun (_ : Int32) (_ : Unit) => False) (fun (_ : Unit) (_ : State) => True) (va_A (WX ox pl ru sh sp sl gr re pr ga rp bo fa gpl gin bbe bdi cP cI de) sz)) (XX (fun E => E = "java/lang/IndexOutOfBoundsException") (va_A (WX ox pl ru sh sp sl gr re pr ga rp bo fa gpl gin bbe bdi cP cI de) sz)) 1 6 (va_A (WX ox pl ru sh sp sl gr re pr ga rp bo fa gpl gin bbe bdi cP cI de) sz) := by
  refine vx_ofW (cc := cX11_isWinnable) (maxL := 2) (ret := (some .boolean)) (by decide) rfl ?_
  intro p e s m args below meth c s₁ B hml hex hv
  obtain ⟨rfl, hsz, hP, hK, hD0, hG⟩ := hv
  have hx := B.exec
  have hb := B.bytes
  have hr := B.returns
  have hts := atoms_spec (ws := .code yX11_isWinnable cX11_isWinnable 2 (some .boolean) :: wsL_law) B.pre
  have ht : ∀ w ∈ wsL_law, w.before _ s = true := fun w h => hts w (List.mem_cons_of_mem _ h)
  have hown : s.vm.findClass RX11 = some m.cls := findClass_of_methodNamed B.named
  have hlocks := B.notSynchronized
  subst hsz
  have hD := hD0.self (sz := s.heap.size)
  generalize hAe : va_A (WX ox pl ru sh sp sl gr re pr ga rp bo fa gpl gin bbe bdi cP cI de) s.heap.size = A at hD hG ⊢
  have hA : ∀ q : Nat, s.heap.size ≤ q → A q := fun q h => by rw [← hAe]; exact Or.inr h
  have hS : va_S A s.heap s.heap [] := va_S.rf
  have hP : va_P (dC, dI) vwCl [(ox, .inr (13, [.ref pl, .ref ru, .ref sh, .ref sp, .ref sl, .ref gr, .ref re, .ref pr, .ref ga, .ref rp, .ref bo, .int 0])), (pl, .inr (1, [.int 0, .ref de, .int 0])), (ru, .inr (1, [.int 0, .ref de, .int 0])), (sh, .inr (1, [.int 0, .ref de, .int 0])), (sp, .inl (cP, 6, .inr (.inr (.inr (.inr (fun _ => none)))))), (ga, .inr (5, [.ref gpl, .ref gin, .int (-1), .int 0, .int 112, .int 0])), (bo, .inr (2, [.ref fa, .ref bbe, .ref bdi, .int 0, .int 0])), (fa, .inl (cI, 96, .inl (fun _ => 0)))] s.heap := hP
  have hD : va_D A [(ox, .inr (13, [.ref pl, .ref ru, .ref sh, .ref sp, .ref sl, .ref gr, .ref re, .ref pr, .ref ga, .ref rp, .ref bo, .int 0])), (pl, .inr (1, [.int 0, .ref de, .int 0])), (ru, .inr (1, [.int 0, .ref de, .int 0])), (sh, .inr (1, [.int 0, .ref de, .int 0])), (sp, .inl (cP, 6, .inr (.inr (.inr (.inr (fun _ => none)))))), (ga, .inr (5, [.ref gpl, .ref gin, .int (-1), .int 0, .int 112, .int 0])), (bo, .inr (2, [.ref fa, .ref bbe, .ref bdi, .int 0, .int 0])), (fa, .inl (cI, 96, .inl (fun _ => 0)))] := hD
  have hl := lv_entry ([.ref ox, .int a1]) (n := 2) (Nat.le_of_ble_eq_true rfl)
  rw [lg_entry_eq]
  generalize (lg_sl ([.ref ox, .int a1]) ++ List.replicate (2 - (lg_sl ([.ref ox, .int a1])).length) Slot.unset).toArray = ls at hl ⊢
  have hl : lv_has ls 2 [(0, .ref ox), (1, .int a1)] := hl
  refine lv_aload_n hx hb dX11_isWinnable_0 rfl (lv_at hl 0 rfl) ?_
  refine lv_iload_n hx hb dX11_isWinnable_1 rfl (lv_at hl 1 rfl) ?_
  have hPc := hP.sub (ws' := [(ox, .inr (13, [.ref pl, .ref ru, .ref sh, .ref sp, .ref sl, .ref gr, .ref re, .ref pr, .ref ga, .ref rp, .ref bo, .int 0])), (pl, .inr (1, [.int 0, .ref de, .int 0])), (ru, .inr (1, [.int 0, .ref de, .int 0])), (sh, .inr (1, [.int 0, .ref de, .int 0])), (sp, .inl (cP, 6, .inr (.inr (.inr (.inr (fun _ => none)))))), (ga, .inr (5, [.ref gpl, .ref gin, .int (-1), .int 0, .int 112, .int 0])), (bo, .inr (2, [.ref fa, .ref bbe, .ref bdi, .int 0, .int 0])), (fa, .inl (cI, 96, .inl (fun _ => 0)))]) [0, 1, 2, 3, 4, 5, 6, 7] rfl
  have hDc := hD.sub (ws' := [(ox, .inr (13, [.ref pl, .ref ru, .ref sh, .ref sp, .ref sl, .ref gr, .ref re, .ref pr, .ref ga, .ref rp, .ref bo, .int 0])), (pl, .inr (1, [.int 0, .ref de, .int 0])), (ru, .inr (1, [.int 0, .ref de, .int 0])), (sh, .inr (1, [.int 0, .ref de, .int 0])), (sp, .inl (cP, 6, .inr (.inr (.inr (.inr (fun _ => none)))))), (ga, .inr (5, [.ref gpl, .ref gin, .int (-1), .int 0, .int 112, .int 0])), (bo, .inr (2, [.ref fa, .ref bbe, .ref bdi, .int 0, .int 0])), (fa, .inl (cI, 96, .inl (fun _ => 0)))]) [0, 1, 2, 3, 4, 5, 6, 7] (by decide) rfl
  have hKc := hK.sub (tys' := [(cP, .object "Levelsmith$Player"), (cI, .int)]) [0, 1] rfl
  have hFc := va_free (wc := [(ox, .inr (13, [.ref pl, .ref ru, .ref sh, .ref sp, .ref sl, .ref gr, .ref re, .ref pr, .ref ga, .ref rp, .ref bo, .int 0])), (pl, .inr (1, [.int 0, .ref de, .int 0])), (ru, .inr (1, [.int 0, .ref de, .int 0])), (sh, .inr (1, [.int 0, .ref de, .int 0])), (sp, .inl (cP, 6, .inr (.inr (.inr (.inr (fun _ => none)))))), (ga, .inr (5, [.ref gpl, .ref gin, .int (-1), .int 0, .int 112, .int 0])), (bo, .inr (2, [.ref fa, .ref bbe, .ref bdi, .int 0, .int 0])), (fa, .inl (cI, 96, .inl (fun _ => 0)))]) hD hS hA [0, 1, 2, 3, 4, 5, 6, 7] rfl
  refine vx_callq (vx_runV (As := [.int a1]) (rest := []) ⟨hx, hb, hml, hown, ht⟩ (c_X11_reachOf l hlt dC dI de (ox) (pl) (ru) (sh) (sp) (sl) (gr) (re) (pr) (ga) (rp) (bo) (fa) (gpl) (gin) (bbe) (bdi) (cP) (cI) (a1) s.heap.size) (cwV 1 ht (gWV (wr_28 _ (List.mem_of_getElem? (i := 21) rfl)) (wr_28 _ (List.mem_of_getElem? (i := 22) rfl)) (wr_28 _ (List.mem_of_getElem? (i := 23) rfl)) (wr_1 _ (List.mem_of_getElem? (i := 2) rfl)) (wr_29 _ (List.mem_of_getElem? (i := 0) rfl))) rfl rfl rfl (by decide +kernel) ⟨Nat.le_of_ble_eq_true rfl, Nat.le_of_ble_eq_true rfl⟩) ⟨PW_blind, va_recv hKc hPc (ci := 13) (q0 := 0) rfl rfl, PW_call hPc hDc hKc hS hG hFc⟩ rfl rfl hl.1 rfl (lv_room (Nat.le_of_ble_eq_true rfl)) dX11_isWinnable_2 ⟨Nat.le_of_ble_eq_true rfl, Nat.le_of_ble_eq_true rfl⟩) hS (fun q _ h => hFc q h) hFc (fun q _ h => hFc q h) (fun E ce q9 u t H1 locs1 ht9 hvm9 _ hR9 hz9 hk9 hS9 hc9 hv9 hcl9 => ?_) (fun r_2 u t H1 locs ht9 hvm hw hB hz1 hk1 hS => False.elim hw)
  exact vx_out (fun x hx => (hex x hx).elim) hlocks hc9 hv9 hcl9 (fun t9 e9 _ => XX_out hR9 hS9 e9) hS9.2.2 (Nat.le_of_ble_eq_true rfl) (Nat.le_of_ble_eq_true rfl)
set_option maxHeartbeats 4000000 in
set_option maxRecDepth 100000 in
theorem c_X11_frames (l : Launch) (hlt : l.stackTraces = false) (dC : Nat → ClassId) (dI : Nat → Nat → Nat) (de : Nat) (ox : Nat) (pl : Nat) (ru : Nat) (sh : Nat) (sp : Nat) (sl : Nat) (gr : Nat) (re : Nat) (pr : Nat) (ga : Nat) (rp : Nat) (bo : Nat) (fa : Nat) (gpl : Nat) (gin : Nat) (bbe : Nat) (bdi : Nat) (cP : ClassId) (cI : ClassId) (a1 : Int32) (sz : Nat) : vx_Met l yX11_frames (.code yX11_frames cX11_frames 2 (some .int) :: wsL_law) { frames := 9, cells := 1, slots := 6, locals := 155 } (va_Pc [.ref ox, .int a1] (PW dC dI de [(cP, .object "Levelsmith$Player"), (cI, .int)] (WX ox pl ru sh sp sl gr re pr ga rp bo fa gpl gin bbe bdi cP cI de) sz)) (va_Qi (fun (_ : Int32) (_ : Unit) => False) (fun (_ : Unit) (_ : State) => True) (va_A (WX ox pl ru sh sp sl gr re pr ga rp bo fa gpl gin bbe bdi cP cI de) sz)) (XX (fun E => E = "java/lang/IndexOutOfBoundsException") (va_A (WX ox pl ru sh sp sl gr re pr ga rp bo fa gpl gin bbe bdi cP cI de) sz)) 1 6 (va_A (WX ox pl ru sh sp sl gr re pr ga rp bo fa gpl gin bbe bdi cP cI de) sz) := by
  refine vx_ofW (cc := cX11_frames) (maxL := 2) (ret := (some .int)) (by decide) rfl ?_
  intro p e s m args below meth c s₁ B hml hex hv
  obtain ⟨rfl, hsz, hP, hK, hD0, hG⟩ := hv
  have hx := B.exec
  have hb := B.bytes
  have hr := B.returns
  have hts := atoms_spec (ws := .code yX11_frames cX11_frames 2 (some .int) :: wsL_law) B.pre
  have ht : ∀ w ∈ wsL_law, w.before _ s = true := fun w h => hts w (List.mem_cons_of_mem _ h)
  have hown : s.vm.findClass RX11 = some m.cls := findClass_of_methodNamed B.named
  have hlocks := B.notSynchronized
  subst hsz
  have hD := hD0.self (sz := s.heap.size)
  generalize hAe : va_A (WX ox pl ru sh sp sl gr re pr ga rp bo fa gpl gin bbe bdi cP cI de) s.heap.size = A at hD hG ⊢
  have hA : ∀ q : Nat, s.heap.size ≤ q → A q := fun q h => by rw [← hAe]; exact Or.inr h
  have hS : va_S A s.heap s.heap [] := va_S.rf
  have hP : va_P (dC, dI) vwCl [(ox, .inr (13, [.ref pl, .ref ru, .ref sh, .ref sp, .ref sl, .ref gr, .ref re, .ref pr, .ref ga, .ref rp, .ref bo, .int 0])), (pl, .inr (1, [.int 0, .ref de, .int 0])), (ru, .inr (1, [.int 0, .ref de, .int 0])), (sh, .inr (1, [.int 0, .ref de, .int 0])), (sp, .inl (cP, 6, .inr (.inr (.inr (.inr (fun _ => none)))))), (ga, .inr (5, [.ref gpl, .ref gin, .int (-1), .int 0, .int 112, .int 0])), (bo, .inr (2, [.ref fa, .ref bbe, .ref bdi, .int 0, .int 0])), (fa, .inl (cI, 96, .inl (fun _ => 0)))] s.heap := hP
  have hD : va_D A [(ox, .inr (13, [.ref pl, .ref ru, .ref sh, .ref sp, .ref sl, .ref gr, .ref re, .ref pr, .ref ga, .ref rp, .ref bo, .int 0])), (pl, .inr (1, [.int 0, .ref de, .int 0])), (ru, .inr (1, [.int 0, .ref de, .int 0])), (sh, .inr (1, [.int 0, .ref de, .int 0])), (sp, .inl (cP, 6, .inr (.inr (.inr (.inr (fun _ => none)))))), (ga, .inr (5, [.ref gpl, .ref gin, .int (-1), .int 0, .int 112, .int 0])), (bo, .inr (2, [.ref fa, .ref bbe, .ref bdi, .int 0, .int 0])), (fa, .inl (cI, 96, .inl (fun _ => 0)))] := hD
  have hl := lv_entry ([.ref ox, .int a1]) (n := 2) (Nat.le_of_ble_eq_true rfl)
  rw [lg_entry_eq]
  generalize (lg_sl ([.ref ox, .int a1]) ++ List.replicate (2 - (lg_sl ([.ref ox, .int a1])).length) Slot.unset).toArray = ls at hl ⊢
  have hl : lv_has ls 2 [(0, .ref ox), (1, .int a1)] := hl
  refine lv_aload_n hx hb dX11_frames_0 rfl (lv_at hl 0 rfl) ?_
  refine lv_iload_n hx hb dX11_frames_1 rfl (lv_at hl 1 rfl) ?_
  have hPc := hP.sub (ws' := [(ox, .inr (13, [.ref pl, .ref ru, .ref sh, .ref sp, .ref sl, .ref gr, .ref re, .ref pr, .ref ga, .ref rp, .ref bo, .int 0])), (pl, .inr (1, [.int 0, .ref de, .int 0])), (ru, .inr (1, [.int 0, .ref de, .int 0])), (sh, .inr (1, [.int 0, .ref de, .int 0])), (sp, .inl (cP, 6, .inr (.inr (.inr (.inr (fun _ => none)))))), (ga, .inr (5, [.ref gpl, .ref gin, .int (-1), .int 0, .int 112, .int 0])), (bo, .inr (2, [.ref fa, .ref bbe, .ref bdi, .int 0, .int 0])), (fa, .inl (cI, 96, .inl (fun _ => 0)))]) [0, 1, 2, 3, 4, 5, 6, 7] rfl
  have hDc := hD.sub (ws' := [(ox, .inr (13, [.ref pl, .ref ru, .ref sh, .ref sp, .ref sl, .ref gr, .ref re, .ref pr, .ref ga, .ref rp, .ref bo, .int 0])), (pl, .inr (1, [.int 0, .ref de, .int 0])), (ru, .inr (1, [.int 0, .ref de, .int 0])), (sh, .inr (1, [.int 0, .ref de, .int 0])), (sp, .inl (cP, 6, .inr (.inr (.inr (.inr (fun _ => none)))))), (ga, .inr (5, [.ref gpl, .ref gin, .int (-1), .int 0, .int 112, .int 0])), (bo, .inr (2, [.ref fa, .ref bbe, .ref bdi, .int 0, .int 0])), (fa, .inl (cI, 96, .inl (fun _ => 0)))]) [0, 1, 2, 3, 4, 5, 6, 7] (by decide) rfl
  have hKc := hK.sub (tys' := [(cP, .object "Levelsmith$Player"), (cI, .int)]) [0, 1] rfl
  have hFc := va_free (wc := [(ox, .inr (13, [.ref pl, .ref ru, .ref sh, .ref sp, .ref sl, .ref gr, .ref re, .ref pr, .ref ga, .ref rp, .ref bo, .int 0])), (pl, .inr (1, [.int 0, .ref de, .int 0])), (ru, .inr (1, [.int 0, .ref de, .int 0])), (sh, .inr (1, [.int 0, .ref de, .int 0])), (sp, .inl (cP, 6, .inr (.inr (.inr (.inr (fun _ => none)))))), (ga, .inr (5, [.ref gpl, .ref gin, .int (-1), .int 0, .int 112, .int 0])), (bo, .inr (2, [.ref fa, .ref bbe, .ref bdi, .int 0, .int 0])), (fa, .inl (cI, 96, .inl (fun _ => 0)))]) hD hS hA [0, 1, 2, 3, 4, 5, 6, 7] rfl
  refine vx_callq (vx_runV (As := [.int a1]) (rest := []) ⟨hx, hb, hml, hown, ht⟩ (c_X11_wonReachOf l hlt dC dI de (ox) (pl) (ru) (sh) (sp) (sl) (gr) (re) (pr) (ga) (rp) (bo) (fa) (gpl) (gin) (bbe) (bdi) (cP) (cI) (a1) s.heap.size) (cwV 1 ht (gWV (wr_37 _ (List.mem_of_getElem? (i := 23) rfl)) (wr_38 _ (List.mem_of_getElem? (i := 0) rfl)) (wr_38 _ (List.mem_of_getElem? (i := 1) rfl)) (wr_1 _ (List.mem_of_getElem? (i := 2) rfl)) (wr_38 _ (List.mem_of_getElem? (i := 2) rfl))) rfl rfl rfl (by decide +kernel) ⟨Nat.le_of_ble_eq_true rfl, Nat.le_of_ble_eq_true rfl⟩) ⟨PW_blind, va_recv hKc hPc (ci := 13) (q0 := 0) rfl rfl, PW_call hPc hDc hKc hS hG hFc⟩ rfl rfl hl.1 rfl (lv_room (Nat.le_of_ble_eq_true rfl)) dX11_frames_2 ⟨Nat.le_of_ble_eq_true rfl, Nat.le_of_ble_eq_true rfl⟩) hS (fun q _ h => hFc q h) hFc (fun q _ h => hFc q h) (fun E ce q9 u t H1 locs1 ht9 hvm9 _ hR9 hz9 hk9 hS9 hc9 hv9 hcl9 => ?_) (fun r_2 u t H1 locs ht9 hvm hw hB hz1 hk1 hS => False.elim hw)
  exact vx_out (fun x hx => (hex x hx).elim) hlocks hc9 hv9 hcl9 (fun t9 e9 _ => XX_out hR9 hS9 e9) hS9.2.2 (Nat.le_of_ble_eq_true rfl) (Nat.le_of_ble_eq_true rfl)
set_option maxHeartbeats 4000000 in
set_option maxRecDepth 100000 in
theorem c_X11_routeAt (l : Launch) (hlt : l.stackTraces = false) (dC : Nat → ClassId) (dI : Nat → Nat → Nat) (de : Nat) (ox : Nat) (pl : Nat) (ru : Nat) (sh : Nat) (sp : Nat) (sl : Nat) (gr : Nat) (re : Nat) (pr : Nat) (ga : Nat) (rp : Nat) (bo : Nat) (fa : Nat) (gpl : Nat) (gin : Nat) (bbe : Nat) (bdi : Nat) (cP : ClassId) (cI : ClassId) (a1 : Int32) (a2 : Int32) (sz : Nat) : vx_Met l yX11_routeAt (.code yX11_routeAt cX11_routeAt 4 (some .int) :: wsL_law) { frames := 9, cells := 1, slots := 6, locals := 155 } (va_Pc [.ref ox, .int a1, .int a2] (PW dC dI de [(cP, .object "Levelsmith$Player"), (cI, .int)] (WX ox pl ru sh sp sl gr re pr ga rp bo fa gpl gin bbe bdi cP cI de) sz)) (va_Qi (fun (_ : Int32) (_ : Unit) => False) (fun (_ : Unit) (_ : State) => True) (va_A (WX ox pl ru sh sp sl gr re pr ga rp bo fa gpl gin bbe bdi cP cI de) sz)) (XX (fun E => E = "java/lang/IndexOutOfBoundsException") (va_A (WX ox pl ru sh sp sl gr re pr ga rp bo fa gpl gin bbe bdi cP cI de) sz)) 1 6 (va_A (WX ox pl ru sh sp sl gr re pr ga rp bo fa gpl gin bbe bdi cP cI de) sz) := by
  refine vx_ofW (cc := cX11_routeAt) (maxL := 4) (ret := (some .int)) (by decide) rfl ?_
  intro p e s m args below meth c s₁ B hml hex hv
  obtain ⟨rfl, hsz, hP, hK, hD0, hG⟩ := hv
  have hx := B.exec
  have hb := B.bytes
  have hr := B.returns
  have hts := atoms_spec (ws := .code yX11_routeAt cX11_routeAt 4 (some .int) :: wsL_law) B.pre
  have ht : ∀ w ∈ wsL_law, w.before _ s = true := fun w h => hts w (List.mem_cons_of_mem _ h)
  have hown : s.vm.findClass RX11 = some m.cls := findClass_of_methodNamed B.named
  have hlocks := B.notSynchronized
  subst hsz
  have hD := hD0.self (sz := s.heap.size)
  generalize hAe : va_A (WX ox pl ru sh sp sl gr re pr ga rp bo fa gpl gin bbe bdi cP cI de) s.heap.size = A at hD hG ⊢
  have hA : ∀ q : Nat, s.heap.size ≤ q → A q := fun q h => by rw [← hAe]; exact Or.inr h
  have hS : va_S A s.heap s.heap [] := va_S.rf
  have hP : va_P (dC, dI) vwCl [(ox, .inr (13, [.ref pl, .ref ru, .ref sh, .ref sp, .ref sl, .ref gr, .ref re, .ref pr, .ref ga, .ref rp, .ref bo, .int 0])), (pl, .inr (1, [.int 0, .ref de, .int 0])), (ru, .inr (1, [.int 0, .ref de, .int 0])), (sh, .inr (1, [.int 0, .ref de, .int 0])), (sp, .inl (cP, 6, .inr (.inr (.inr (.inr (fun _ => none)))))), (ga, .inr (5, [.ref gpl, .ref gin, .int (-1), .int 0, .int 112, .int 0])), (bo, .inr (2, [.ref fa, .ref bbe, .ref bdi, .int 0, .int 0])), (fa, .inl (cI, 96, .inl (fun _ => 0)))] s.heap := hP
  have hD : va_D A [(ox, .inr (13, [.ref pl, .ref ru, .ref sh, .ref sp, .ref sl, .ref gr, .ref re, .ref pr, .ref ga, .ref rp, .ref bo, .int 0])), (pl, .inr (1, [.int 0, .ref de, .int 0])), (ru, .inr (1, [.int 0, .ref de, .int 0])), (sh, .inr (1, [.int 0, .ref de, .int 0])), (sp, .inl (cP, 6, .inr (.inr (.inr (.inr (fun _ => none)))))), (ga, .inr (5, [.ref gpl, .ref gin, .int (-1), .int 0, .int 112, .int 0])), (bo, .inr (2, [.ref fa, .ref bbe, .ref bdi, .int 0, .int 0])), (fa, .inl (cI, 96, .inl (fun _ => 0)))] := hD
  have hl := lv_entry ([.ref ox, .int a1, .int a2]) (n := 4) (Nat.le_of_ble_eq_true rfl)
  rw [lg_entry_eq]
  generalize (lg_sl ([.ref ox, .int a1, .int a2]) ++ List.replicate (4 - (lg_sl ([.ref ox, .int a1, .int a2])).length) Slot.unset).toArray = ls at hl ⊢
  have hl : lv_has ls 4 [(0, .ref ox), (1, .int a1), (2, .int a2)] := hl
  refine lv_aload_n hx hb dX11_routeAt_0 rfl (lv_at hl 0 rfl) ?_
  refine lv_iload_n hx hb dX11_routeAt_1 rfl (lv_at hl 1 rfl) ?_
  have hPc := hP.sub (ws' := [(ox, .inr (13, [.ref pl, .ref ru, .ref sh, .ref sp, .ref sl, .ref gr, .ref re, .ref pr, .ref ga, .ref rp, .ref bo, .int 0])), (pl, .inr (1, [.int 0, .ref de, .int 0])), (ru, .inr (1, [.int 0, .ref de, .int 0])), (sh, .inr (1, [.int 0, .ref de, .int 0])), (sp, .inl (cP, 6, .inr (.inr (.inr (.inr (fun _ => none)))))), (ga, .inr (5, [.ref gpl, .ref gin, .int (-1), .int 0, .int 112, .int 0])), (bo, .inr (2, [.ref fa, .ref bbe, .ref bdi, .int 0, .int 0])), (fa, .inl (cI, 96, .inl (fun _ => 0)))]) [0, 1, 2, 3, 4, 5, 6, 7] rfl
  have hDc := hD.sub (ws' := [(ox, .inr (13, [.ref pl, .ref ru, .ref sh, .ref sp, .ref sl, .ref gr, .ref re, .ref pr, .ref ga, .ref rp, .ref bo, .int 0])), (pl, .inr (1, [.int 0, .ref de, .int 0])), (ru, .inr (1, [.int 0, .ref de, .int 0])), (sh, .inr (1, [.int 0, .ref de, .int 0])), (sp, .inl (cP, 6, .inr (.inr (.inr (.inr (fun _ => none)))))), (ga, .inr (5, [.ref gpl, .ref gin, .int (-1), .int 0, .int 112, .int 0])), (bo, .inr (2, [.ref fa, .ref bbe, .ref bdi, .int 0, .int 0])), (fa, .inl (cI, 96, .inl (fun _ => 0)))]) [0, 1, 2, 3, 4, 5, 6, 7] (by decide) rfl
  have hKc := hK.sub (tys' := [(cP, .object "Levelsmith$Player"), (cI, .int)]) [0, 1] rfl
  have hFc := va_free (wc := [(ox, .inr (13, [.ref pl, .ref ru, .ref sh, .ref sp, .ref sl, .ref gr, .ref re, .ref pr, .ref ga, .ref rp, .ref bo, .int 0])), (pl, .inr (1, [.int 0, .ref de, .int 0])), (ru, .inr (1, [.int 0, .ref de, .int 0])), (sh, .inr (1, [.int 0, .ref de, .int 0])), (sp, .inl (cP, 6, .inr (.inr (.inr (.inr (fun _ => none)))))), (ga, .inr (5, [.ref gpl, .ref gin, .int (-1), .int 0, .int 112, .int 0])), (bo, .inr (2, [.ref fa, .ref bbe, .ref bdi, .int 0, .int 0])), (fa, .inl (cI, 96, .inl (fun _ => 0)))]) hD hS hA [0, 1, 2, 3, 4, 5, 6, 7] rfl
  refine vx_callq (vx_runV (As := [.int a1]) (rest := []) ⟨hx, hb, hml, hown, ht⟩ (c_X11_wonReachOf l hlt dC dI de (ox) (pl) (ru) (sh) (sp) (sl) (gr) (re) (pr) (ga) (rp) (bo) (fa) (gpl) (gin) (bbe) (bdi) (cP) (cI) (a1) s.heap.size) (cwV 1 ht (gWV (wr_37 _ (List.mem_of_getElem? (i := 23) rfl)) (wr_38 _ (List.mem_of_getElem? (i := 0) rfl)) (wr_38 _ (List.mem_of_getElem? (i := 1) rfl)) (wr_1 _ (List.mem_of_getElem? (i := 2) rfl)) (wr_38 _ (List.mem_of_getElem? (i := 2) rfl))) rfl rfl rfl (by decide +kernel) ⟨Nat.le_of_ble_eq_true rfl, Nat.le_of_ble_eq_true rfl⟩) ⟨PW_blind, va_recv hKc hPc (ci := 13) (q0 := 0) rfl rfl, PW_call hPc hDc hKc hS hG hFc⟩ rfl rfl hl.1 rfl (lv_room (Nat.le_of_ble_eq_true rfl)) dX11_routeAt_2 ⟨Nat.le_of_ble_eq_true rfl, Nat.le_of_ble_eq_true rfl⟩) hS (fun q _ h => hFc q h) hFc (fun q _ h => hFc q h) (fun E ce q9 u t H1 locs1 ht9 hvm9 _ hR9 hz9 hk9 hS9 hc9 hv9 hcl9 => ?_) (fun r_2 u t H1 locs ht9 hvm hw hB hz1 hk1 hS => False.elim hw)
  exact vx_out (fun x hx => (hex x hx).elim) hlocks hc9 hv9 hcl9 (fun t9 e9 _ => XX_out hR9 hS9 e9) hS9.2.2 (Nat.le_of_ble_eq_true rfl) (Nat.le_of_ble_eq_true rfl)
set_option maxHeartbeats 4000000 in
set_option maxRecDepth 100000 in
theorem c_X11_states (l : Launch) (hlt : l.stackTraces = false) (dC : Nat → ClassId) (dI : Nat → Nat → Nat) (de : Nat) (ox : Nat) (pl : Nat) (ru : Nat) (sh : Nat) (sp : Nat) (sl : Nat) (gr : Nat) (re : Nat) (pr : Nat) (ga : Nat) (rp : Nat) (bo : Nat) (fa : Nat) (gpl : Nat) (gin : Nat) (bbe : Nat) (bdi : Nat) (cP : ClassId) (cI : ClassId) (a1 : Int32) (sz : Nat) : vx_Met l yX11_states (.code yX11_states cX11_states 2 (some .int) :: wsL_law) { frames := 8, cells := 1, slots := 6, locals := 133 } (va_Pc [.ref ox, .int a1] (PW dC dI de [(cP, .object "Levelsmith$Player"), (cI, .int)] (WX ox pl ru sh sp sl gr re pr ga rp bo fa gpl gin bbe bdi cP cI de) sz)) (va_Qi (fun (_ : Int32) (_ : Unit) => False) (fun (_ : Unit) (_ : State) => True) (va_A (WX ox pl ru sh sp sl gr re pr ga rp bo fa gpl gin bbe bdi cP cI de) sz)) (XX (fun E => E = "java/lang/IndexOutOfBoundsException") (va_A (WX ox pl ru sh sp sl gr re pr ga rp bo fa gpl gin bbe bdi cP cI de) sz)) 1 6 (va_A (WX ox pl ru sh sp sl gr re pr ga rp bo fa gpl gin bbe bdi cP cI de) sz) := by
  refine vx_ofW (cc := cX11_states) (maxL := 2) (ret := (some .int)) (by decide) rfl ?_
  intro p e s m args below meth c s₁ B hml hex hv
  obtain ⟨rfl, hsz, hP, hK, hD0, hG⟩ := hv
  have hx := B.exec
  have hb := B.bytes
  have hr := B.returns
  have hts := atoms_spec (ws := .code yX11_states cX11_states 2 (some .int) :: wsL_law) B.pre
  have ht : ∀ w ∈ wsL_law, w.before _ s = true := fun w h => hts w (List.mem_cons_of_mem _ h)
  have hown : s.vm.findClass RX11 = some m.cls := findClass_of_methodNamed B.named
  have hlocks := B.notSynchronized
  subst hsz
  have hD := hD0.self (sz := s.heap.size)
  generalize hAe : va_A (WX ox pl ru sh sp sl gr re pr ga rp bo fa gpl gin bbe bdi cP cI de) s.heap.size = A at hD hG ⊢
  have hA : ∀ q : Nat, s.heap.size ≤ q → A q := fun q h => by rw [← hAe]; exact Or.inr h
  have hS : va_S A s.heap s.heap [] := va_S.rf
  have hP : va_P (dC, dI) vwCl [(ox, .inr (13, [.ref pl, .ref ru, .ref sh, .ref sp, .ref sl, .ref gr, .ref re, .ref pr, .ref ga, .ref rp, .ref bo, .int 0])), (pl, .inr (1, [.int 0, .ref de, .int 0])), (ru, .inr (1, [.int 0, .ref de, .int 0])), (sh, .inr (1, [.int 0, .ref de, .int 0])), (sp, .inl (cP, 6, .inr (.inr (.inr (.inr (fun _ => none)))))), (ga, .inr (5, [.ref gpl, .ref gin, .int (-1), .int 0, .int 112, .int 0])), (bo, .inr (2, [.ref fa, .ref bbe, .ref bdi, .int 0, .int 0])), (fa, .inl (cI, 96, .inl (fun _ => 0)))] s.heap := hP
  have hD : va_D A [(ox, .inr (13, [.ref pl, .ref ru, .ref sh, .ref sp, .ref sl, .ref gr, .ref re, .ref pr, .ref ga, .ref rp, .ref bo, .int 0])), (pl, .inr (1, [.int 0, .ref de, .int 0])), (ru, .inr (1, [.int 0, .ref de, .int 0])), (sh, .inr (1, [.int 0, .ref de, .int 0])), (sp, .inl (cP, 6, .inr (.inr (.inr (.inr (fun _ => none)))))), (ga, .inr (5, [.ref gpl, .ref gin, .int (-1), .int 0, .int 112, .int 0])), (bo, .inr (2, [.ref fa, .ref bbe, .ref bdi, .int 0, .int 0])), (fa, .inl (cI, 96, .inl (fun _ => 0)))] := hD
  have hl := lv_entry ([.ref ox, .int a1]) (n := 2) (Nat.le_of_ble_eq_true rfl)
  rw [lg_entry_eq]
  generalize (lg_sl ([.ref ox, .int a1]) ++ List.replicate (2 - (lg_sl ([.ref ox, .int a1])).length) Slot.unset).toArray = ls at hl ⊢
  have hl : lv_has ls 2 [(0, .ref ox), (1, .int a1)] := hl
  refine lv_aload_n hx hb dX11_states_0 rfl (lv_at hl 0 rfl) ?_
  refine lv_iload_n hx hb dX11_states_1 rfl (lv_at hl 1 rfl) ?_
  have hPc := hP.sub (ws' := [(ox, .inr (13, [.ref pl, .ref ru, .ref sh, .ref sp, .ref sl, .ref gr, .ref re, .ref pr, .ref ga, .ref rp, .ref bo, .int 0])), (pl, .inr (1, [.int 0, .ref de, .int 0])), (ru, .inr (1, [.int 0, .ref de, .int 0])), (sh, .inr (1, [.int 0, .ref de, .int 0])), (sp, .inl (cP, 6, .inr (.inr (.inr (.inr (fun _ => none)))))), (ga, .inr (5, [.ref gpl, .ref gin, .int (-1), .int 0, .int 112, .int 0])), (bo, .inr (2, [.ref fa, .ref bbe, .ref bdi, .int 0, .int 0])), (fa, .inl (cI, 96, .inl (fun _ => 0)))]) [0, 1, 2, 3, 4, 5, 6, 7] rfl
  have hDc := hD.sub (ws' := [(ox, .inr (13, [.ref pl, .ref ru, .ref sh, .ref sp, .ref sl, .ref gr, .ref re, .ref pr, .ref ga, .ref rp, .ref bo, .int 0])), (pl, .inr (1, [.int 0, .ref de, .int 0])), (ru, .inr (1, [.int 0, .ref de, .int 0])), (sh, .inr (1, [.int 0, .ref de, .int 0])), (sp, .inl (cP, 6, .inr (.inr (.inr (.inr (fun _ => none)))))), (ga, .inr (5, [.ref gpl, .ref gin, .int (-1), .int 0, .int 112, .int 0])), (bo, .inr (2, [.ref fa, .ref bbe, .ref bdi, .int 0, .int 0])), (fa, .inl (cI, 96, .inl (fun _ => 0)))]) [0, 1, 2, 3, 4, 5, 6, 7] (by decide) rfl
  have hKc := hK.sub (tys' := [(cP, .object "Levelsmith$Player"), (cI, .int)]) [0, 1] rfl
  have hFc := va_free (wc := [(ox, .inr (13, [.ref pl, .ref ru, .ref sh, .ref sp, .ref sl, .ref gr, .ref re, .ref pr, .ref ga, .ref rp, .ref bo, .int 0])), (pl, .inr (1, [.int 0, .ref de, .int 0])), (ru, .inr (1, [.int 0, .ref de, .int 0])), (sh, .inr (1, [.int 0, .ref de, .int 0])), (sp, .inl (cP, 6, .inr (.inr (.inr (.inr (fun _ => none)))))), (ga, .inr (5, [.ref gpl, .ref gin, .int (-1), .int 0, .int 112, .int 0])), (bo, .inr (2, [.ref fa, .ref bbe, .ref bdi, .int 0, .int 0])), (fa, .inl (cI, 96, .inl (fun _ => 0)))]) hD hS hA [0, 1, 2, 3, 4, 5, 6, 7] rfl
  refine vx_callq (vx_runV (As := [.int a1]) (rest := []) ⟨hx, hb, hml, hown, ht⟩ (c_X11_reachOf l hlt dC dI de (ox) (pl) (ru) (sh) (sp) (sl) (gr) (re) (pr) (ga) (rp) (bo) (fa) (gpl) (gin) (bbe) (bdi) (cP) (cI) (a1) s.heap.size) (cwV 1 ht (gWV (wr_28 _ (List.mem_of_getElem? (i := 21) rfl)) (wr_28 _ (List.mem_of_getElem? (i := 22) rfl)) (wr_28 _ (List.mem_of_getElem? (i := 23) rfl)) (wr_1 _ (List.mem_of_getElem? (i := 2) rfl)) (wr_29 _ (List.mem_of_getElem? (i := 0) rfl))) rfl rfl rfl (by decide +kernel) ⟨Nat.le_of_ble_eq_true rfl, Nat.le_of_ble_eq_true rfl⟩) ⟨PW_blind, va_recv hKc hPc (ci := 13) (q0 := 0) rfl rfl, PW_call hPc hDc hKc hS hG hFc⟩ rfl rfl hl.1 rfl (lv_room (Nat.le_of_ble_eq_true rfl)) dX11_states_2 ⟨Nat.le_of_ble_eq_true rfl, Nat.le_of_ble_eq_true rfl⟩) hS (fun q _ h => hFc q h) hFc (fun q _ h => hFc q h) (fun E ce q9 u t H1 locs1 ht9 hvm9 _ hR9 hz9 hk9 hS9 hc9 hv9 hcl9 => ?_) (fun r_2 u t H1 locs ht9 hvm hw hB hz1 hk1 hS => False.elim hw)
  exact vx_out (fun x hx => (hex x hx).elim) hlocks hc9 hv9 hcl9 (fun t9 e9 _ => XX_out hR9 hS9 e9) hS9.2.2 (Nat.le_of_ble_eq_true rfl) (Nat.le_of_ble_eq_true rfl)
set_option maxHeartbeats 4000000 in
set_option maxRecDepth 100000 in
theorem c_X11_framesTo (l : Launch) (hlt : l.stackTraces = false) (dC : Nat → ClassId) (dI : Nat → Nat → Nat) (de : Nat) (ox : Nat) (pl : Nat) (ru : Nat) (sh : Nat) (sp : Nat) (sl : Nat) (gr : Nat) (re : Nat) (pr : Nat) (ga : Nat) (rp : Nat) (bo : Nat) (fa : Nat) (gpl : Nat) (gin : Nat) (bbe : Nat) (bdi : Nat) (cP : ClassId) (cI : ClassId) (a1 : Int32) (a2 : Int32) (a3 : Int32) (sz : Nat) : vx_Met l yX11_framesTo (.code yX11_framesTo cX11_framesTo 5 (some .int) :: wsL_law) { frames := 8, cells := 1, slots := 6, locals := 135 } (va_Pc [.ref ox, .int a1, .int a2, .int a3] (PW dC dI de [(cP, .object "Levelsmith$Player"), (cI, .int)] (WX ox pl ru sh sp sl gr re pr ga rp bo fa gpl gin bbe bdi cP cI de) sz)) (va_Qi (fun (_ : Int32) (_ : Unit) => False) (fun (_ : Unit) (_ : State) => True) (va_A (WX ox pl ru sh sp sl gr re pr ga rp bo fa gpl gin bbe bdi cP cI de) sz)) (XX (fun E => E = "java/lang/IndexOutOfBoundsException") (va_A (WX ox pl ru sh sp sl gr re pr ga rp bo fa gpl gin bbe bdi cP cI de) sz)) 1 6 (va_A (WX ox pl ru sh sp sl gr re pr ga rp bo fa gpl gin bbe bdi cP cI de) sz) := by
  refine vx_ofW (cc := cX11_framesTo) (maxL := 5) (ret := (some .int)) (by decide) rfl ?_
  intro p e s m args below meth c s₁ B hml hex hv
  obtain ⟨rfl, hsz, hP, hK, hD0, hG⟩ := hv
  have hx := B.exec
  have hb := B.bytes
  have hr := B.returns
  have hts := atoms_spec (ws := .code yX11_framesTo cX11_framesTo 5 (some .int) :: wsL_law) B.pre
  have ht : ∀ w ∈ wsL_law, w.before _ s = true := fun w h => hts w (List.mem_cons_of_mem _ h)
  have hown : s.vm.findClass RX11 = some m.cls := findClass_of_methodNamed B.named
  have hlocks := B.notSynchronized
  subst hsz
  have hD := hD0.self (sz := s.heap.size)
  generalize hAe : va_A (WX ox pl ru sh sp sl gr re pr ga rp bo fa gpl gin bbe bdi cP cI de) s.heap.size = A at hD hG ⊢
  have hA : ∀ q : Nat, s.heap.size ≤ q → A q := fun q h => by rw [← hAe]; exact Or.inr h
  have hS : va_S A s.heap s.heap [] := va_S.rf
  have hP : va_P (dC, dI) vwCl [(ox, .inr (13, [.ref pl, .ref ru, .ref sh, .ref sp, .ref sl, .ref gr, .ref re, .ref pr, .ref ga, .ref rp, .ref bo, .int 0])), (pl, .inr (1, [.int 0, .ref de, .int 0])), (ru, .inr (1, [.int 0, .ref de, .int 0])), (sh, .inr (1, [.int 0, .ref de, .int 0])), (sp, .inl (cP, 6, .inr (.inr (.inr (.inr (fun _ => none)))))), (ga, .inr (5, [.ref gpl, .ref gin, .int (-1), .int 0, .int 112, .int 0])), (bo, .inr (2, [.ref fa, .ref bbe, .ref bdi, .int 0, .int 0])), (fa, .inl (cI, 96, .inl (fun _ => 0)))] s.heap := hP
  have hD : va_D A [(ox, .inr (13, [.ref pl, .ref ru, .ref sh, .ref sp, .ref sl, .ref gr, .ref re, .ref pr, .ref ga, .ref rp, .ref bo, .int 0])), (pl, .inr (1, [.int 0, .ref de, .int 0])), (ru, .inr (1, [.int 0, .ref de, .int 0])), (sh, .inr (1, [.int 0, .ref de, .int 0])), (sp, .inl (cP, 6, .inr (.inr (.inr (.inr (fun _ => none)))))), (ga, .inr (5, [.ref gpl, .ref gin, .int (-1), .int 0, .int 112, .int 0])), (bo, .inr (2, [.ref fa, .ref bbe, .ref bdi, .int 0, .int 0])), (fa, .inl (cI, 96, .inl (fun _ => 0)))] := hD
  have hl := lv_entry ([.ref ox, .int a1, .int a2, .int a3]) (n := 5) (Nat.le_of_ble_eq_true rfl)
  rw [lg_entry_eq]
  generalize (lg_sl ([.ref ox, .int a1, .int a2, .int a3]) ++ List.replicate (5 - (lg_sl ([.ref ox, .int a1, .int a2, .int a3])).length) Slot.unset).toArray = ls at hl ⊢
  have hl : lv_has ls 5 [(0, .ref ox), (1, .int a1), (2, .int a2), (3, .int a3)] := hl
  refine lv_aload_n hx hb dX11_framesTo_0 rfl (lv_at hl 0 rfl) ?_
  refine lv_iload_n hx hb dX11_framesTo_1 rfl (lv_at hl 1 rfl) ?_
  refine lv_iload_n hx hb dX11_framesTo_2 rfl (lv_at hl 2 rfl) ?_
  refine lv_iload_n hx hb dX11_framesTo_3 rfl (lv_at hl 3 rfl) ?_
  have hPc := hP.sub (ws' := [(ox, .inr (13, [.ref pl, .ref ru, .ref sh, .ref sp, .ref sl, .ref gr, .ref re, .ref pr, .ref ga, .ref rp, .ref bo, .int 0])), (pl, .inr (1, [.int 0, .ref de, .int 0])), (ru, .inr (1, [.int 0, .ref de, .int 0])), (sh, .inr (1, [.int 0, .ref de, .int 0])), (sp, .inl (cP, 6, .inr (.inr (.inr (.inr (fun _ => none)))))), (ga, .inr (5, [.ref gpl, .ref gin, .int (-1), .int 0, .int 112, .int 0])), (bo, .inr (2, [.ref fa, .ref bbe, .ref bdi, .int 0, .int 0])), (fa, .inl (cI, 96, .inl (fun _ => 0)))]) [0, 1, 2, 3, 4, 5, 6, 7] rfl
  have hDc := hD.sub (ws' := [(ox, .inr (13, [.ref pl, .ref ru, .ref sh, .ref sp, .ref sl, .ref gr, .ref re, .ref pr, .ref ga, .ref rp, .ref bo, .int 0])), (pl, .inr (1, [.int 0, .ref de, .int 0])), (ru, .inr (1, [.int 0, .ref de, .int 0])), (sh, .inr (1, [.int 0, .ref de, .int 0])), (sp, .inl (cP, 6, .inr (.inr (.inr (.inr (fun _ => none)))))), (ga, .inr (5, [.ref gpl, .ref gin, .int (-1), .int 0, .int 112, .int 0])), (bo, .inr (2, [.ref fa, .ref bbe, .ref bdi, .int 0, .int 0])), (fa, .inl (cI, 96, .inl (fun _ => 0)))]) [0, 1, 2, 3, 4, 5, 6, 7] (by decide) rfl
  have hKc := hK.sub (tys' := [(cP, .object "Levelsmith$Player"), (cI, .int)]) [0, 1] rfl
  have hFc := va_free (wc := [(ox, .inr (13, [.ref pl, .ref ru, .ref sh, .ref sp, .ref sl, .ref gr, .ref re, .ref pr, .ref ga, .ref rp, .ref bo, .int 0])), (pl, .inr (1, [.int 0, .ref de, .int 0])), (ru, .inr (1, [.int 0, .ref de, .int 0])), (sh, .inr (1, [.int 0, .ref de, .int 0])), (sp, .inl (cP, 6, .inr (.inr (.inr (.inr (fun _ => none)))))), (ga, .inr (5, [.ref gpl, .ref gin, .int (-1), .int 0, .int 112, .int 0])), (bo, .inr (2, [.ref fa, .ref bbe, .ref bdi, .int 0, .int 0])), (fa, .inl (cI, 96, .inl (fun _ => 0)))]) hD hS hA [0, 1, 2, 3, 4, 5, 6, 7] rfl
  refine vx_callq (vx_runV (As := [.int a1, .int a2, .int a3]) (rest := []) ⟨hx, hb, hml, hown, ht⟩ (c_X11_planWithCell l hlt dC dI de (ox) (pl) (ru) (sh) (sp) (sl) (gr) (re) (pr) (ga) (rp) (bo) (fa) (gpl) (gin) (bbe) (bdi) (cP) (cI) (a1) (a2) (a3) s.heap.size) (cwV 3 ht (gWV (wr_18 _ (List.mem_of_getElem? (i := 18) rfl)) (wr_18 _ (List.mem_of_getElem? (i := 19) rfl)) (wr_18 _ (List.mem_of_getElem? (i := 20) rfl)) (wr_1 _ (List.mem_of_getElem? (i := 2) rfl)) (wr_18 _ (List.mem_of_getElem? (i := 21) rfl))) rfl rfl rfl (by decide +kernel) ⟨Nat.le_of_ble_eq_true rfl, Nat.le_of_ble_eq_true rfl⟩) ⟨PW_blind, va_recv hKc hPc (ci := 13) (q0 := 0) rfl rfl, PW_call hPc hDc hKc hS hG hFc⟩ rfl rfl hl.1 rfl (lv_room (Nat.le_of_ble_eq_true rfl)) dX11_framesTo_4 ⟨Nat.le_of_ble_eq_true rfl, Nat.le_of_ble_eq_true rfl⟩) hS (fun q _ h => hFc q h) hFc (fun q _ h => hFc q h) (fun E ce q9 u t H1 locs1 ht9 hvm9 _ hR9 hz9 hk9 hS9 hc9 hv9 hcl9 => ?_) (fun r_4 u t H1 locs ht9 hvm hw hB hz1 hk1 hS => False.elim hw)
  exact vx_out (fun x hx => (hex x hx).elim) hlocks hc9 hv9 hcl9 (fun t9 e9 _ => XX_out hR9 hS9 e9) hS9.2.2 (Nat.le_of_ble_eq_true rfl) (Nat.le_of_ble_eq_true rfl)
set_option maxHeartbeats 4000000 in
set_option maxRecDepth 100000 in
theorem c_X11_softLocks (l : Launch) (hlt : l.stackTraces = false) (dC : Nat → ClassId) (dI : Nat → Nat → Nat) (de : Nat) (ox : Nat) (pl : Nat) (ru : Nat) (sh : Nat) (sp : Nat) (sl : Nat) (gr : Nat) (re : Nat) (pr : Nat) (ga : Nat) (rp : Nat) (bo : Nat) (fa : Nat) (gpl : Nat) (gin : Nat) (bbe : Nat) (bdi : Nat) (cP : ClassId) (cI : ClassId) (a1 : Int32) (sz : Nat) : vx_Met l yX11_softLocks (.code yX11_softLocks cX11_softLocks 2 (some .int) :: wsL_law) { frames := 9, cells := 1, slots := 6, locals := 155 } (va_Pc [.ref ox, .int a1] (PW dC dI de [(cP, .object "Levelsmith$Player"), (cI, .int)] (WX ox pl ru sh sp sl gr re pr ga rp bo fa gpl gin bbe bdi cP cI de) sz)) (va_Qi (fun (_ : Int32) (_ : Unit) => False) (fun (_ : Unit) (_ : State) => True) (va_A (WX ox pl ru sh sp sl gr re pr ga rp bo fa gpl gin bbe bdi cP cI de) sz)) (XX (fun E => E = "java/lang/IndexOutOfBoundsException") (va_A (WX ox pl ru sh sp sl gr re pr ga rp bo fa gpl gin bbe bdi cP cI de) sz)) 1 6 (va_A (WX ox pl ru sh sp sl gr re pr ga rp bo fa gpl gin bbe bdi cP cI de) sz) := by
  refine vx_ofW (cc := cX11_softLocks) (maxL := 2) (ret := (some .int)) (by decide) rfl ?_
  intro p e s m args below meth c s₁ B hml hex hv
  obtain ⟨rfl, hsz, hP, hK, hD0, hG⟩ := hv
  have hx := B.exec
  have hb := B.bytes
  have hr := B.returns
  have hts := atoms_spec (ws := .code yX11_softLocks cX11_softLocks 2 (some .int) :: wsL_law) B.pre
  have ht : ∀ w ∈ wsL_law, w.before _ s = true := fun w h => hts w (List.mem_cons_of_mem _ h)
  have hown : s.vm.findClass RX11 = some m.cls := findClass_of_methodNamed B.named
  have hlocks := B.notSynchronized
  subst hsz
  have hD := hD0.self (sz := s.heap.size)
  generalize hAe : va_A (WX ox pl ru sh sp sl gr re pr ga rp bo fa gpl gin bbe bdi cP cI de) s.heap.size = A at hD hG ⊢
  have hA : ∀ q : Nat, s.heap.size ≤ q → A q := fun q h => by rw [← hAe]; exact Or.inr h
  have hS : va_S A s.heap s.heap [] := va_S.rf
  have hP : va_P (dC, dI) vwCl [(ox, .inr (13, [.ref pl, .ref ru, .ref sh, .ref sp, .ref sl, .ref gr, .ref re, .ref pr, .ref ga, .ref rp, .ref bo, .int 0])), (pl, .inr (1, [.int 0, .ref de, .int 0])), (ru, .inr (1, [.int 0, .ref de, .int 0])), (sh, .inr (1, [.int 0, .ref de, .int 0])), (sp, .inl (cP, 6, .inr (.inr (.inr (.inr (fun _ => none)))))), (ga, .inr (5, [.ref gpl, .ref gin, .int (-1), .int 0, .int 112, .int 0])), (bo, .inr (2, [.ref fa, .ref bbe, .ref bdi, .int 0, .int 0])), (fa, .inl (cI, 96, .inl (fun _ => 0)))] s.heap := hP
  have hD : va_D A [(ox, .inr (13, [.ref pl, .ref ru, .ref sh, .ref sp, .ref sl, .ref gr, .ref re, .ref pr, .ref ga, .ref rp, .ref bo, .int 0])), (pl, .inr (1, [.int 0, .ref de, .int 0])), (ru, .inr (1, [.int 0, .ref de, .int 0])), (sh, .inr (1, [.int 0, .ref de, .int 0])), (sp, .inl (cP, 6, .inr (.inr (.inr (.inr (fun _ => none)))))), (ga, .inr (5, [.ref gpl, .ref gin, .int (-1), .int 0, .int 112, .int 0])), (bo, .inr (2, [.ref fa, .ref bbe, .ref bdi, .int 0, .int 0])), (fa, .inl (cI, 96, .inl (fun _ => 0)))] := hD
  have hl := lv_entry ([.ref ox, .int a1]) (n := 2) (Nat.le_of_ble_eq_true rfl)
  rw [lg_entry_eq]
  generalize (lg_sl ([.ref ox, .int a1]) ++ List.replicate (2 - (lg_sl ([.ref ox, .int a1])).length) Slot.unset).toArray = ls at hl ⊢
  have hl : lv_has ls 2 [(0, .ref ox), (1, .int a1)] := hl
  refine lv_aload_n hx hb dX11_softLocks_0 rfl (lv_at hl 0 rfl) ?_
  refine lv_iload_n hx hb dX11_softLocks_1 rfl (lv_at hl 1 rfl) ?_
  have hPc := hP.sub (ws' := [(ox, .inr (13, [.ref pl, .ref ru, .ref sh, .ref sp, .ref sl, .ref gr, .ref re, .ref pr, .ref ga, .ref rp, .ref bo, .int 0])), (pl, .inr (1, [.int 0, .ref de, .int 0])), (ru, .inr (1, [.int 0, .ref de, .int 0])), (sh, .inr (1, [.int 0, .ref de, .int 0])), (sp, .inl (cP, 6, .inr (.inr (.inr (.inr (fun _ => none)))))), (ga, .inr (5, [.ref gpl, .ref gin, .int (-1), .int 0, .int 112, .int 0])), (bo, .inr (2, [.ref fa, .ref bbe, .ref bdi, .int 0, .int 0])), (fa, .inl (cI, 96, .inl (fun _ => 0)))]) [0, 1, 2, 3, 4, 5, 6, 7] rfl
  have hDc := hD.sub (ws' := [(ox, .inr (13, [.ref pl, .ref ru, .ref sh, .ref sp, .ref sl, .ref gr, .ref re, .ref pr, .ref ga, .ref rp, .ref bo, .int 0])), (pl, .inr (1, [.int 0, .ref de, .int 0])), (ru, .inr (1, [.int 0, .ref de, .int 0])), (sh, .inr (1, [.int 0, .ref de, .int 0])), (sp, .inl (cP, 6, .inr (.inr (.inr (.inr (fun _ => none)))))), (ga, .inr (5, [.ref gpl, .ref gin, .int (-1), .int 0, .int 112, .int 0])), (bo, .inr (2, [.ref fa, .ref bbe, .ref bdi, .int 0, .int 0])), (fa, .inl (cI, 96, .inl (fun _ => 0)))]) [0, 1, 2, 3, 4, 5, 6, 7] (by decide) rfl
  have hKc := hK.sub (tys' := [(cP, .object "Levelsmith$Player"), (cI, .int)]) [0, 1] rfl
  have hFc := va_free (wc := [(ox, .inr (13, [.ref pl, .ref ru, .ref sh, .ref sp, .ref sl, .ref gr, .ref re, .ref pr, .ref ga, .ref rp, .ref bo, .int 0])), (pl, .inr (1, [.int 0, .ref de, .int 0])), (ru, .inr (1, [.int 0, .ref de, .int 0])), (sh, .inr (1, [.int 0, .ref de, .int 0])), (sp, .inl (cP, 6, .inr (.inr (.inr (.inr (fun _ => none)))))), (ga, .inr (5, [.ref gpl, .ref gin, .int (-1), .int 0, .int 112, .int 0])), (bo, .inr (2, [.ref fa, .ref bbe, .ref bdi, .int 0, .int 0])), (fa, .inl (cI, 96, .inl (fun _ => 0)))]) hD hS hA [0, 1, 2, 3, 4, 5, 6, 7] rfl
  refine vx_callq (vx_runV (As := [.int a1]) (rest := []) ⟨hx, hb, hml, hown, ht⟩ (c_X11_reachWithLeft l hlt dC dI de (ox) (pl) (ru) (sh) (sp) (sl) (gr) (re) (pr) (ga) (rp) (bo) (fa) (gpl) (gin) (bbe) (bdi) (cP) (cI) (a1) s.heap.size) (cwV 1 ht (gWV (wr_41 _ (List.mem_of_getElem? (i := 7) rfl)) (wr_41 _ (List.mem_of_getElem? (i := 8) rfl)) (wr_41 _ (List.mem_of_getElem? (i := 9) rfl)) (wr_1 _ (List.mem_of_getElem? (i := 2) rfl)) (wr_41 _ (List.mem_of_getElem? (i := 10) rfl))) rfl rfl rfl (by decide +kernel) ⟨Nat.le_of_ble_eq_true rfl, Nat.le_of_ble_eq_true rfl⟩) ⟨PW_blind, va_recv hKc hPc (ci := 13) (q0 := 0) rfl rfl, PW_call hPc hDc hKc hS hG hFc⟩ rfl rfl hl.1 rfl (lv_room (Nat.le_of_ble_eq_true rfl)) dX11_softLocks_2 ⟨Nat.le_of_ble_eq_true rfl, Nat.le_of_ble_eq_true rfl⟩) hS (fun q _ h => hFc q h) hFc (fun q _ h => hFc q h) (fun E ce q9 u t H1 locs1 ht9 hvm9 _ hR9 hz9 hk9 hS9 hc9 hv9 hcl9 => ?_) (fun r_2 u t H1 locs ht9 hvm hw hB hz1 hk1 hS => False.elim hw)
  exact vx_out (fun x hx => (hex x hx).elim) hlocks hc9 hv9 hcl9 (fun t9 e9 _ => XX_out hR9 hS9 e9) hS9.2.2 (Nat.le_of_ble_eq_true rfl) (Nat.le_of_ble_eq_true rfl)
set_option maxHeartbeats 4000000 in
set_option maxRecDepth 100000 in
theorem c_X11_softLockAt (l : Launch) (hlt : l.stackTraces = false) (dC : Nat → ClassId) (dI : Nat → Nat → Nat) (de : Nat) (ox : Nat) (pl : Nat) (ru : Nat) (sh : Nat) (sp : Nat) (sl : Nat) (gr : Nat) (re : Nat) (pr : Nat) (ga : Nat) (rp : Nat) (bo : Nat) (fa : Nat) (gpl : Nat) (gin : Nat) (bbe : Nat) (bdi : Nat) (cP : ClassId) (cI : ClassId) (a1 : Int32) (a2 : Int32) (sz : Nat) : vx_Met l yX11_softLockAt (.code yX11_softLockAt cX11_softLockAt 4 (some .int) :: wsL_law) { frames := 7, cells := 1, slots := 6, locals := 111 } (va_Pc [.ref ox, .int a1, .int a2] (PW dC dI de [(cP, .object "Levelsmith$Player"), (cI, .int)] (WX ox pl ru sh sp sl gr re pr ga rp bo fa gpl gin bbe bdi cP cI de) sz)) (va_Qi (fun (_ : Int32) (_ : Unit) => False) (fun (_ : Unit) (_ : State) => True) (va_A (WX ox pl ru sh sp sl gr re pr ga rp bo fa gpl gin bbe bdi cP cI de) sz)) (XX (fun E => E = "java/lang/IndexOutOfBoundsException") (va_A (WX ox pl ru sh sp sl gr re pr ga rp bo fa gpl gin bbe bdi cP cI de) sz)) 1 6 (va_A (WX ox pl ru sh sp sl gr re pr ga rp bo fa gpl gin bbe bdi cP cI de) sz) := by
  refine vx_ofW (cc := cX11_softLockAt) (maxL := 4) (ret := (some .int)) (by decide) rfl ?_
  intro p e s m args below meth c s₁ B hml hex hv
  obtain ⟨rfl, hsz, hP, hK, hD0, hG⟩ := hv
  have hx := B.exec
  have hb := B.bytes
  have hr := B.returns
  have hts := atoms_spec (ws := .code yX11_softLockAt cX11_softLockAt 4 (some .int) :: wsL_law) B.pre
  have ht : ∀ w ∈ wsL_law, w.before _ s = true := fun w h => hts w (List.mem_cons_of_mem _ h)
  have hown : s.vm.findClass RX11 = some m.cls := findClass_of_methodNamed B.named
  have hlocks := B.notSynchronized
  subst hsz
  have hD := hD0.self (sz := s.heap.size)
  generalize hAe : va_A (WX ox pl ru sh sp sl gr re pr ga rp bo fa gpl gin bbe bdi cP cI de) s.heap.size = A at hD hG ⊢
  have hA : ∀ q : Nat, s.heap.size ≤ q → A q := fun q h => by rw [← hAe]; exact Or.inr h
  have hS : va_S A s.heap s.heap [] := va_S.rf
  have hP : va_P (dC, dI) vwCl [(ox, .inr (13, [.ref pl, .ref ru, .ref sh, .ref sp, .ref sl, .ref gr, .ref re, .ref pr, .ref ga, .ref rp, .ref bo, .int 0])), (pl, .inr (1, [.int 0, .ref de, .int 0])), (ru, .inr (1, [.int 0, .ref de, .int 0])), (sh, .inr (1, [.int 0, .ref de, .int 0])), (sp, .inl (cP, 6, .inr (.inr (.inr (.inr (fun _ => none)))))), (ga, .inr (5, [.ref gpl, .ref gin, .int (-1), .int 0, .int 112, .int 0])), (bo, .inr (2, [.ref fa, .ref bbe, .ref bdi, .int 0, .int 0])), (fa, .inl (cI, 96, .inl (fun _ => 0)))] s.heap := hP
  have hD : va_D A [(ox, .inr (13, [.ref pl, .ref ru, .ref sh, .ref sp, .ref sl, .ref gr, .ref re, .ref pr, .ref ga, .ref rp, .ref bo, .int 0])), (pl, .inr (1, [.int 0, .ref de, .int 0])), (ru, .inr (1, [.int 0, .ref de, .int 0])), (sh, .inr (1, [.int 0, .ref de, .int 0])), (sp, .inl (cP, 6, .inr (.inr (.inr (.inr (fun _ => none)))))), (ga, .inr (5, [.ref gpl, .ref gin, .int (-1), .int 0, .int 112, .int 0])), (bo, .inr (2, [.ref fa, .ref bbe, .ref bdi, .int 0, .int 0])), (fa, .inl (cI, 96, .inl (fun _ => 0)))] := hD
  have hl := lv_entry ([.ref ox, .int a1, .int a2]) (n := 4) (Nat.le_of_ble_eq_true rfl)
  rw [lg_entry_eq]
  generalize (lg_sl ([.ref ox, .int a1, .int a2]) ++ List.replicate (4 - (lg_sl ([.ref ox, .int a1, .int a2])).length) Slot.unset).toArray = ls at hl ⊢
  have hl : lv_has ls 4 [(0, .ref ox), (1, .int a1), (2, .int a2)] := hl
  refine lv_aload_n hx hb dX11_softLockAt_0 rfl (lv_at hl 0 rfl) ?_
  refine lv_iload_n hx hb dX11_softLockAt_1 rfl (lv_at hl 1 rfl) ?_
  have hPc := hP.sub (ws' := [(ox, .inr (13, [.ref pl, .ref ru, .ref sh, .ref sp, .ref sl, .ref gr, .ref re, .ref pr, .ref ga, .ref rp, .ref bo, .int 0])), (pl, .inr (1, [.int 0, .ref de, .int 0])), (ru, .inr (1, [.int 0, .ref de, .int 0])), (sh, .inr (1, [.int 0, .ref de, .int 0])), (sp, .inl (cP, 6, .inr (.inr (.inr (.inr (fun _ => none)))))), (ga, .inr (5, [.ref gpl, .ref gin, .int (-1), .int 0, .int 112, .int 0])), (bo, .inr (2, [.ref fa, .ref bbe, .ref bdi, .int 0, .int 0])), (fa, .inl (cI, 96, .inl (fun _ => 0)))]) [0, 1, 2, 3, 4, 5, 6, 7] rfl
  have hDc := hD.sub (ws' := [(ox, .inr (13, [.ref pl, .ref ru, .ref sh, .ref sp, .ref sl, .ref gr, .ref re, .ref pr, .ref ga, .ref rp, .ref bo, .int 0])), (pl, .inr (1, [.int 0, .ref de, .int 0])), (ru, .inr (1, [.int 0, .ref de, .int 0])), (sh, .inr (1, [.int 0, .ref de, .int 0])), (sp, .inl (cP, 6, .inr (.inr (.inr (.inr (fun _ => none)))))), (ga, .inr (5, [.ref gpl, .ref gin, .int (-1), .int 0, .int 112, .int 0])), (bo, .inr (2, [.ref fa, .ref bbe, .ref bdi, .int 0, .int 0])), (fa, .inl (cI, 96, .inl (fun _ => 0)))]) [0, 1, 2, 3, 4, 5, 6, 7] (by decide) rfl
  have hKc := hK.sub (tys' := [(cP, .object "Levelsmith$Player"), (cI, .int)]) [0, 1] rfl
  have hFc := va_free (wc := [(ox, .inr (13, [.ref pl, .ref ru, .ref sh, .ref sp, .ref sl, .ref gr, .ref re, .ref pr, .ref ga, .ref rp, .ref bo, .int 0])), (pl, .inr (1, [.int 0, .ref de, .int 0])), (ru, .inr (1, [.int 0, .ref de, .int 0])), (sh, .inr (1, [.int 0, .ref de, .int 0])), (sp, .inl (cP, 6, .inr (.inr (.inr (.inr (fun _ => none)))))), (ga, .inr (5, [.ref gpl, .ref gin, .int (-1), .int 0, .int 112, .int 0])), (bo, .inr (2, [.ref fa, .ref bbe, .ref bdi, .int 0, .int 0])), (fa, .inl (cI, 96, .inl (fun _ => 0)))]) hD hS hA [0, 1, 2, 3, 4, 5, 6, 7] rfl
  refine vx_callq (vx_runV (As := [.int a1]) (rest := []) ⟨hx, hb, hml, hown, ht⟩ (c_X11_planAt l hlt dC dI de (ox) (pl) (ru) (sh) (sp) (sl) (gr) (re) (pr) (ga) (rp) (bo) (fa) (gpl) (gin) (bbe) (bdi) (cP) (cI) (a1) s.heap.size) (cwV 1 ht (gWV (wr_19 _ (List.mem_of_getElem? (i := 0) rfl)) (wr_19 _ (List.mem_of_getElem? (i := 1) rfl)) (wr_19 _ (List.mem_of_getElem? (i := 2) rfl)) (wr_1 _ (List.mem_of_getElem? (i := 2) rfl)) (wr_19 _ (List.mem_of_getElem? (i := 3) rfl))) rfl rfl rfl (by decide +kernel) ⟨Nat.le_of_ble_eq_true rfl, Nat.le_of_ble_eq_true rfl⟩) ⟨PW_blind, va_recv hKc hPc (ci := 13) (q0 := 0) rfl rfl, PW_call hPc hDc hKc hS hG hFc⟩ rfl rfl hl.1 rfl (lv_room (Nat.le_of_ble_eq_true rfl)) dX11_softLockAt_2 ⟨Nat.le_of_ble_eq_true rfl, Nat.le_of_ble_eq_true rfl⟩) hS (fun q _ h => hFc q h) hFc (fun q _ h => hFc q h) (fun E ce q9 u t H1 locs1 ht9 hvm9 _ hR9 hz9 hk9 hS9 hc9 hv9 hcl9 => ?_) (fun r_2 u t H1 locs ht9 hvm hw hB hz1 hk1 hS => False.elim hw)
  exact vx_out (fun x hx => (hex x hx).elim) hlocks hc9 hv9 hcl9 (fun t9 e9 _ => XX_out hR9 hS9 e9) hS9.2.2 (Nat.le_of_ble_eq_true rfl) (Nat.le_of_ble_eq_true rfl)
set_option maxHeartbeats 4000000 in
set_option maxRecDepth 100000 in
theorem c_X11_ways (l : Launch) (hlt : l.stackTraces = false) (dC : Nat → ClassId) (dI : Nat → Nat → Nat) (de : Nat) (ox : Nat) (pl : Nat) (ru : Nat) (sh : Nat) (sp : Nat) (sl : Nat) (gr : Nat) (re : Nat) (pr : Nat) (ga : Nat) (rp : Nat) (bo : Nat) (fa : Nat) (gpl : Nat) (gin : Nat) (bbe : Nat) (bdi : Nat) (cP : ClassId) (cI : ClassId) (a1 : Int32) (sz : Nat) : vx_Met l yX11_ways (.code yX11_ways cX11_ways 2 (some .int) :: wsL_law) { frames := 8, cells := 1, slots := 6, locals := 133 } (va_Pc [.ref ox, .int a1] (PW dC dI de [(cP, .object "Levelsmith$Player"), (cI, .int)] (WX ox pl ru sh sp sl gr re pr ga rp bo fa gpl gin bbe bdi cP cI de) sz)) (va_Qi (fun (_ : Int32) (_ : Unit) => False) (fun (_ : Unit) (_ : State) => True) (va_A (WX ox pl ru sh sp sl gr re pr ga rp bo fa gpl gin bbe bdi cP cI de) sz)) (XX (fun E => E = "java/lang/IndexOutOfBoundsException") (va_A (WX ox pl ru sh sp sl gr re pr ga rp bo fa gpl gin bbe bdi cP cI de) sz)) 1 6 (va_A (WX ox pl ru sh sp sl gr re pr ga rp bo fa gpl gin bbe bdi cP cI de) sz) := by
  refine vx_ofW (cc := cX11_ways) (maxL := 2) (ret := (some .int)) (by decide) rfl ?_
  intro p e s m args below meth c s₁ B hml hex hv
  obtain ⟨rfl, hsz, hP, hK, hD0, hG⟩ := hv
  have hx := B.exec
  have hb := B.bytes
  have hr := B.returns
  have hts := atoms_spec (ws := .code yX11_ways cX11_ways 2 (some .int) :: wsL_law) B.pre
  have ht : ∀ w ∈ wsL_law, w.before _ s = true := fun w h => hts w (List.mem_cons_of_mem _ h)
  have hown : s.vm.findClass RX11 = some m.cls := findClass_of_methodNamed B.named
  have hlocks := B.notSynchronized
  subst hsz
  have hD := hD0.self (sz := s.heap.size)
  generalize hAe : va_A (WX ox pl ru sh sp sl gr re pr ga rp bo fa gpl gin bbe bdi cP cI de) s.heap.size = A at hD hG ⊢
  have hA : ∀ q : Nat, s.heap.size ≤ q → A q := fun q h => by rw [← hAe]; exact Or.inr h
  have hS : va_S A s.heap s.heap [] := va_S.rf
  have hP : va_P (dC, dI) vwCl [(ox, .inr (13, [.ref pl, .ref ru, .ref sh, .ref sp, .ref sl, .ref gr, .ref re, .ref pr, .ref ga, .ref rp, .ref bo, .int 0])), (pl, .inr (1, [.int 0, .ref de, .int 0])), (ru, .inr (1, [.int 0, .ref de, .int 0])), (sh, .inr (1, [.int 0, .ref de, .int 0])), (sp, .inl (cP, 6, .inr (.inr (.inr (.inr (fun _ => none)))))), (ga, .inr (5, [.ref gpl, .ref gin, .int (-1), .int 0, .int 112, .int 0])), (bo, .inr (2, [.ref fa, .ref bbe, .ref bdi, .int 0, .int 0])), (fa, .inl (cI, 96, .inl (fun _ => 0)))] s.heap := hP
  have hD : va_D A [(ox, .inr (13, [.ref pl, .ref ru, .ref sh, .ref sp, .ref sl, .ref gr, .ref re, .ref pr, .ref ga, .ref rp, .ref bo, .int 0])), (pl, .inr (1, [.int 0, .ref de, .int 0])), (ru, .inr (1, [.int 0, .ref de, .int 0])), (sh, .inr (1, [.int 0, .ref de, .int 0])), (sp, .inl (cP, 6, .inr (.inr (.inr (.inr (fun _ => none)))))), (ga, .inr (5, [.ref gpl, .ref gin, .int (-1), .int 0, .int 112, .int 0])), (bo, .inr (2, [.ref fa, .ref bbe, .ref bdi, .int 0, .int 0])), (fa, .inl (cI, 96, .inl (fun _ => 0)))] := hD
  have hl := lv_entry ([.ref ox, .int a1]) (n := 2) (Nat.le_of_ble_eq_true rfl)
  rw [lg_entry_eq]
  generalize (lg_sl ([.ref ox, .int a1]) ++ List.replicate (2 - (lg_sl ([.ref ox, .int a1])).length) Slot.unset).toArray = ls at hl ⊢
  have hl : lv_has ls 2 [(0, .ref ox), (1, .int a1)] := hl
  refine lv_aload_n hx hb dX11_ways_0 rfl (lv_at hl 0 rfl) ?_
  refine lv_iload_n hx hb dX11_ways_1 rfl (lv_at hl 1 rfl) ?_
  have hPc := hP.sub (ws' := [(ox, .inr (13, [.ref pl, .ref ru, .ref sh, .ref sp, .ref sl, .ref gr, .ref re, .ref pr, .ref ga, .ref rp, .ref bo, .int 0])), (pl, .inr (1, [.int 0, .ref de, .int 0])), (ru, .inr (1, [.int 0, .ref de, .int 0])), (sh, .inr (1, [.int 0, .ref de, .int 0])), (sp, .inl (cP, 6, .inr (.inr (.inr (.inr (fun _ => none)))))), (ga, .inr (5, [.ref gpl, .ref gin, .int (-1), .int 0, .int 112, .int 0])), (bo, .inr (2, [.ref fa, .ref bbe, .ref bdi, .int 0, .int 0])), (fa, .inl (cI, 96, .inl (fun _ => 0)))]) [0, 1, 2, 3, 4, 5, 6, 7] rfl
  have hDc := hD.sub (ws' := [(ox, .inr (13, [.ref pl, .ref ru, .ref sh, .ref sp, .ref sl, .ref gr, .ref re, .ref pr, .ref ga, .ref rp, .ref bo, .int 0])), (pl, .inr (1, [.int 0, .ref de, .int 0])), (ru, .inr (1, [.int 0, .ref de, .int 0])), (sh, .inr (1, [.int 0, .ref de, .int 0])), (sp, .inl (cP, 6, .inr (.inr (.inr (.inr (fun _ => none)))))), (ga, .inr (5, [.ref gpl, .ref gin, .int (-1), .int 0, .int 112, .int 0])), (bo, .inr (2, [.ref fa, .ref bbe, .ref bdi, .int 0, .int 0])), (fa, .inl (cI, 96, .inl (fun _ => 0)))]) [0, 1, 2, 3, 4, 5, 6, 7] (by decide) rfl
  have hKc := hK.sub (tys' := [(cP, .object "Levelsmith$Player"), (cI, .int)]) [0, 1] rfl
  have hFc := va_free (wc := [(ox, .inr (13, [.ref pl, .ref ru, .ref sh, .ref sp, .ref sl, .ref gr, .ref re, .ref pr, .ref ga, .ref rp, .ref bo, .int 0])), (pl, .inr (1, [.int 0, .ref de, .int 0])), (ru, .inr (1, [.int 0, .ref de, .int 0])), (sh, .inr (1, [.int 0, .ref de, .int 0])), (sp, .inl (cP, 6, .inr (.inr (.inr (.inr (fun _ => none)))))), (ga, .inr (5, [.ref gpl, .ref gin, .int (-1), .int 0, .int 112, .int 0])), (bo, .inr (2, [.ref fa, .ref bbe, .ref bdi, .int 0, .int 0])), (fa, .inl (cI, 96, .inl (fun _ => 0)))]) hD hS hA [0, 1, 2, 3, 4, 5, 6, 7] rfl
  refine vx_callq (vx_runV (As := [.int a1]) (rest := []) ⟨hx, hb, hml, hown, ht⟩ (c_X11_reachOf l hlt dC dI de (ox) (pl) (ru) (sh) (sp) (sl) (gr) (re) (pr) (ga) (rp) (bo) (fa) (gpl) (gin) (bbe) (bdi) (cP) (cI) (a1) s.heap.size) (cwV 1 ht (gWV (wr_28 _ (List.mem_of_getElem? (i := 21) rfl)) (wr_28 _ (List.mem_of_getElem? (i := 22) rfl)) (wr_28 _ (List.mem_of_getElem? (i := 23) rfl)) (wr_1 _ (List.mem_of_getElem? (i := 2) rfl)) (wr_29 _ (List.mem_of_getElem? (i := 0) rfl))) rfl rfl rfl (by decide +kernel) ⟨Nat.le_of_ble_eq_true rfl, Nat.le_of_ble_eq_true rfl⟩) ⟨PW_blind, va_recv hKc hPc (ci := 13) (q0 := 0) rfl rfl, PW_call hPc hDc hKc hS hG hFc⟩ rfl rfl hl.1 rfl (lv_room (Nat.le_of_ble_eq_true rfl)) dX11_ways_2 ⟨Nat.le_of_ble_eq_true rfl, Nat.le_of_ble_eq_true rfl⟩) hS (fun q _ h => hFc q h) hFc (fun q _ h => hFc q h) (fun E ce q9 u t H1 locs1 ht9 hvm9 _ hR9 hz9 hk9 hS9 hc9 hv9 hcl9 => ?_) (fun r_2 u t H1 locs ht9 hvm hw hB hz1 hk1 hS => False.elim hw)
  exact vx_out (fun x hx => (hex x hx).elim) hlocks hc9 hv9 hcl9 (fun t9 e9 _ => XX_out hR9 hS9 e9) hS9.2.2 (Nat.le_of_ble_eq_true rfl) (Nat.le_of_ble_eq_true rfl)
set_option maxHeartbeats 4000000 in
set_option maxRecDepth 100000 in
theorem c_X11_isNeeded (l : Launch) (hlt : l.stackTraces = false) (dC : Nat → ClassId) (dI : Nat → Nat → Nat) (de : Nat) (ox : Nat) (pl : Nat) (ru : Nat) (sh : Nat) (sp : Nat) (sl : Nat) (gr : Nat) (re : Nat) (pr : Nat) (ga : Nat) (rp : Nat) (bo : Nat) (fa : Nat) (gpl : Nat) (gin : Nat) (bbe : Nat) (bdi : Nat) (cP : ClassId) (cI : ClassId) (a1 : Int32) (a2 : Int32) (sz : Nat) : vx_Met l yX11_isNeeded (.code yX11_isNeeded cX11_isNeeded 4 (some .boolean) :: wsL_law) { frames := 7, cells := 1, slots := 6, locals := 111 } (va_Pc [.ref ox, .int a1, .int a2] (PW dC dI de [(cP, .object "Levelsmith$Player"), (cI, .int)] (WX ox pl ru sh sp sl gr re pr ga rp bo fa gpl gin bbe bdi cP cI de) sz)) (va_Qi (fun (_ : Int32) (_ : Unit) => False) (fun (_ : Unit) (_ : State) => True) (va_A (WX ox pl ru sh sp sl gr re pr ga rp bo fa gpl gin bbe bdi cP cI de) sz)) (XX (fun E => E = "java/lang/IndexOutOfBoundsException") (va_A (WX ox pl ru sh sp sl gr re pr ga rp bo fa gpl gin bbe bdi cP cI de) sz)) 1 6 (va_A (WX ox pl ru sh sp sl gr re pr ga rp bo fa gpl gin bbe bdi cP cI de) sz) := by
  refine vx_ofW (cc := cX11_isNeeded) (maxL := 4) (ret := (some .boolean)) (by decide) rfl ?_
  intro p e s m args below meth c s₁ B hml hex hv
  obtain ⟨rfl, hsz, hP, hK, hD0, hG⟩ := hv
  have hx := B.exec
  have hb := B.bytes
  have hr := B.returns
  have hts := atoms_spec (ws := .code yX11_isNeeded cX11_isNeeded 4 (some .boolean) :: wsL_law) B.pre
  have ht : ∀ w ∈ wsL_law, w.before _ s = true := fun w h => hts w (List.mem_cons_of_mem _ h)
  have hown : s.vm.findClass RX11 = some m.cls := findClass_of_methodNamed B.named
  have hlocks := B.notSynchronized
  subst hsz
  have hD := hD0.self (sz := s.heap.size)
  generalize hAe : va_A (WX ox pl ru sh sp sl gr re pr ga rp bo fa gpl gin bbe bdi cP cI de) s.heap.size = A at hD hG ⊢
  have hA : ∀ q : Nat, s.heap.size ≤ q → A q := fun q h => by rw [← hAe]; exact Or.inr h
  have hS : va_S A s.heap s.heap [] := va_S.rf
  have hP : va_P (dC, dI) vwCl [(ox, .inr (13, [.ref pl, .ref ru, .ref sh, .ref sp, .ref sl, .ref gr, .ref re, .ref pr, .ref ga, .ref rp, .ref bo, .int 0])), (pl, .inr (1, [.int 0, .ref de, .int 0])), (ru, .inr (1, [.int 0, .ref de, .int 0])), (sh, .inr (1, [.int 0, .ref de, .int 0])), (sp, .inl (cP, 6, .inr (.inr (.inr (.inr (fun _ => none)))))), (ga, .inr (5, [.ref gpl, .ref gin, .int (-1), .int 0, .int 112, .int 0])), (bo, .inr (2, [.ref fa, .ref bbe, .ref bdi, .int 0, .int 0])), (fa, .inl (cI, 96, .inl (fun _ => 0)))] s.heap := hP
  have hD : va_D A [(ox, .inr (13, [.ref pl, .ref ru, .ref sh, .ref sp, .ref sl, .ref gr, .ref re, .ref pr, .ref ga, .ref rp, .ref bo, .int 0])), (pl, .inr (1, [.int 0, .ref de, .int 0])), (ru, .inr (1, [.int 0, .ref de, .int 0])), (sh, .inr (1, [.int 0, .ref de, .int 0])), (sp, .inl (cP, 6, .inr (.inr (.inr (.inr (fun _ => none)))))), (ga, .inr (5, [.ref gpl, .ref gin, .int (-1), .int 0, .int 112, .int 0])), (bo, .inr (2, [.ref fa, .ref bbe, .ref bdi, .int 0, .int 0])), (fa, .inl (cI, 96, .inl (fun _ => 0)))] := hD
  have hl := lv_entry ([.ref ox, .int a1, .int a2]) (n := 4) (Nat.le_of_ble_eq_true rfl)
  rw [lg_entry_eq]
  generalize (lg_sl ([.ref ox, .int a1, .int a2]) ++ List.replicate (4 - (lg_sl ([.ref ox, .int a1, .int a2])).length) Slot.unset).toArray = ls at hl ⊢
  have hl : lv_has ls 4 [(0, .ref ox), (1, .int a1), (2, .int a2)] := hl
  refine lv_aload_n hx hb dX11_isNeeded_0 rfl (lv_at hl 0 rfl) ?_
  refine lv_iload_n hx hb dX11_isNeeded_1 rfl (lv_at hl 1 rfl) ?_
  have hPc := hP.sub (ws' := [(ox, .inr (13, [.ref pl, .ref ru, .ref sh, .ref sp, .ref sl, .ref gr, .ref re, .ref pr, .ref ga, .ref rp, .ref bo, .int 0])), (pl, .inr (1, [.int 0, .ref de, .int 0])), (ru, .inr (1, [.int 0, .ref de, .int 0])), (sh, .inr (1, [.int 0, .ref de, .int 0])), (sp, .inl (cP, 6, .inr (.inr (.inr (.inr (fun _ => none)))))), (ga, .inr (5, [.ref gpl, .ref gin, .int (-1), .int 0, .int 112, .int 0])), (bo, .inr (2, [.ref fa, .ref bbe, .ref bdi, .int 0, .int 0])), (fa, .inl (cI, 96, .inl (fun _ => 0)))]) [0, 1, 2, 3, 4, 5, 6, 7] rfl
  have hDc := hD.sub (ws' := [(ox, .inr (13, [.ref pl, .ref ru, .ref sh, .ref sp, .ref sl, .ref gr, .ref re, .ref pr, .ref ga, .ref rp, .ref bo, .int 0])), (pl, .inr (1, [.int 0, .ref de, .int 0])), (ru, .inr (1, [.int 0, .ref de, .int 0])), (sh, .inr (1, [.int 0, .ref de, .int 0])), (sp, .inl (cP, 6, .inr (.inr (.inr (.inr (fun _ => none)))))), (ga, .inr (5, [.ref gpl, .ref gin, .int (-1), .int 0, .int 112, .int 0])), (bo, .inr (2, [.ref fa, .ref bbe, .ref bdi, .int 0, .int 0])), (fa, .inl (cI, 96, .inl (fun _ => 0)))]) [0, 1, 2, 3, 4, 5, 6, 7] (by decide) rfl
  have hKc := hK.sub (tys' := [(cP, .object "Levelsmith$Player"), (cI, .int)]) [0, 1] rfl
  have hFc := va_free (wc := [(ox, .inr (13, [.ref pl, .ref ru, .ref sh, .ref sp, .ref sl, .ref gr, .ref re, .ref pr, .ref ga, .ref rp, .ref bo, .int 0])), (pl, .inr (1, [.int 0, .ref de, .int 0])), (ru, .inr (1, [.int 0, .ref de, .int 0])), (sh, .inr (1, [.int 0, .ref de, .int 0])), (sp, .inl (cP, 6, .inr (.inr (.inr (.inr (fun _ => none)))))), (ga, .inr (5, [.ref gpl, .ref gin, .int (-1), .int 0, .int 112, .int 0])), (bo, .inr (2, [.ref fa, .ref bbe, .ref bdi, .int 0, .int 0])), (fa, .inl (cI, 96, .inl (fun _ => 0)))]) hD hS hA [0, 1, 2, 3, 4, 5, 6, 7] rfl
  refine vx_callq (vx_runV (As := [.int a1]) (rest := []) ⟨hx, hb, hml, hown, ht⟩ (c_X11_planAt l hlt dC dI de (ox) (pl) (ru) (sh) (sp) (sl) (gr) (re) (pr) (ga) (rp) (bo) (fa) (gpl) (gin) (bbe) (bdi) (cP) (cI) (a1) s.heap.size) (cwV 1 ht (gWV (wr_19 _ (List.mem_of_getElem? (i := 0) rfl)) (wr_19 _ (List.mem_of_getElem? (i := 1) rfl)) (wr_19 _ (List.mem_of_getElem? (i := 2) rfl)) (wr_1 _ (List.mem_of_getElem? (i := 2) rfl)) (wr_19 _ (List.mem_of_getElem? (i := 3) rfl))) rfl rfl rfl (by decide +kernel) ⟨Nat.le_of_ble_eq_true rfl, Nat.le_of_ble_eq_true rfl⟩) ⟨PW_blind, va_recv hKc hPc (ci := 13) (q0 := 0) rfl rfl, PW_call hPc hDc hKc hS hG hFc⟩ rfl rfl hl.1 rfl (lv_room (Nat.le_of_ble_eq_true rfl)) dX11_isNeeded_2 ⟨Nat.le_of_ble_eq_true rfl, Nat.le_of_ble_eq_true rfl⟩) hS (fun q _ h => hFc q h) hFc (fun q _ h => hFc q h) (fun E ce q9 u t H1 locs1 ht9 hvm9 _ hR9 hz9 hk9 hS9 hc9 hv9 hcl9 => ?_) (fun r_2 u t H1 locs ht9 hvm hw hB hz1 hk1 hS => False.elim hw)
  exact vx_out (fun x hx => (hex x hx).elim) hlocks hc9 hv9 hcl9 (fun t9 e9 _ => XX_out hR9 hS9 e9) hS9.2.2 (Nat.le_of_ble_eq_true rfl) (Nat.le_of_ble_eq_true rfl)
set_option maxHeartbeats 4000000 in
set_option maxRecDepth 100000 in
theorem c_X11_isWinnableWith (l : Launch) (hlt : l.stackTraces = false) (dC : Nat → ClassId) (dI : Nat → Nat → Nat) (de : Nat) (ox : Nat) (pl : Nat) (ru : Nat) (sh : Nat) (sp : Nat) (sl : Nat) (gr : Nat) (re : Nat) (pr : Nat) (ga : Nat) (rp : Nat) (bo : Nat) (fa : Nat) (gpl : Nat) (gin : Nat) (bbe : Nat) (bdi : Nat) (cP : ClassId) (cI : ClassId) (a1 : Int32) (a2 : Int32) (sz : Nat) : vx_Met l yX11_isWinnableWith (.code yX11_isWinnableWith cX11_isWinnableWith 4 (some .boolean) :: wsL_law) { frames := 7, cells := 1, slots := 6, locals := 111 } (va_Pc [.ref ox, .int a1, .int a2] (PW dC dI de [(cP, .object "Levelsmith$Player"), (cI, .int)] (WX ox pl ru sh sp sl gr re pr ga rp bo fa gpl gin bbe bdi cP cI de) sz)) (va_Qi (fun (_ : Int32) (_ : Unit) => False) (fun (_ : Unit) (_ : State) => True) (va_A (WX ox pl ru sh sp sl gr re pr ga rp bo fa gpl gin bbe bdi cP cI de) sz)) (XX (fun E => E = "java/lang/IndexOutOfBoundsException") (va_A (WX ox pl ru sh sp sl gr re pr ga rp bo fa gpl gin bbe bdi cP cI de) sz)) 1 6 (va_A (WX ox pl ru sh sp sl gr re pr ga rp bo fa gpl gin bbe bdi cP cI de) sz) := by
  refine vx_ofW (cc := cX11_isWinnableWith) (maxL := 4) (ret := (some .boolean)) (by decide) rfl ?_
  intro p e s m args below meth c s₁ B hml hex hv
  obtain ⟨rfl, hsz, hP, hK, hD0, hG⟩ := hv
  have hx := B.exec
  have hb := B.bytes
  have hr := B.returns
  have hts := atoms_spec (ws := .code yX11_isWinnableWith cX11_isWinnableWith 4 (some .boolean) :: wsL_law) B.pre
  have ht : ∀ w ∈ wsL_law, w.before _ s = true := fun w h => hts w (List.mem_cons_of_mem _ h)
  have hown : s.vm.findClass RX11 = some m.cls := findClass_of_methodNamed B.named
  have hlocks := B.notSynchronized
  subst hsz
  have hD := hD0.self (sz := s.heap.size)
  generalize hAe : va_A (WX ox pl ru sh sp sl gr re pr ga rp bo fa gpl gin bbe bdi cP cI de) s.heap.size = A at hD hG ⊢
  have hA : ∀ q : Nat, s.heap.size ≤ q → A q := fun q h => by rw [← hAe]; exact Or.inr h
  have hS : va_S A s.heap s.heap [] := va_S.rf
  have hP : va_P (dC, dI) vwCl [(ox, .inr (13, [.ref pl, .ref ru, .ref sh, .ref sp, .ref sl, .ref gr, .ref re, .ref pr, .ref ga, .ref rp, .ref bo, .int 0])), (pl, .inr (1, [.int 0, .ref de, .int 0])), (ru, .inr (1, [.int 0, .ref de, .int 0])), (sh, .inr (1, [.int 0, .ref de, .int 0])), (sp, .inl (cP, 6, .inr (.inr (.inr (.inr (fun _ => none)))))), (ga, .inr (5, [.ref gpl, .ref gin, .int (-1), .int 0, .int 112, .int 0])), (bo, .inr (2, [.ref fa, .ref bbe, .ref bdi, .int 0, .int 0])), (fa, .inl (cI, 96, .inl (fun _ => 0)))] s.heap := hP
  have hD : va_D A [(ox, .inr (13, [.ref pl, .ref ru, .ref sh, .ref sp, .ref sl, .ref gr, .ref re, .ref pr, .ref ga, .ref rp, .ref bo, .int 0])), (pl, .inr (1, [.int 0, .ref de, .int 0])), (ru, .inr (1, [.int 0, .ref de, .int 0])), (sh, .inr (1, [.int 0, .ref de, .int 0])), (sp, .inl (cP, 6, .inr (.inr (.inr (.inr (fun _ => none)))))), (ga, .inr (5, [.ref gpl, .ref gin, .int (-1), .int 0, .int 112, .int 0])), (bo, .inr (2, [.ref fa, .ref bbe, .ref bdi, .int 0, .int 0])), (fa, .inl (cI, 96, .inl (fun _ => 0)))] := hD
  have hl := lv_entry ([.ref ox, .int a1, .int a2]) (n := 4) (Nat.le_of_ble_eq_true rfl)
  rw [lg_entry_eq]
  generalize (lg_sl ([.ref ox, .int a1, .int a2]) ++ List.replicate (4 - (lg_sl ([.ref ox, .int a1, .int a2])).length) Slot.unset).toArray = ls at hl ⊢
  have hl : lv_has ls 4 [(0, .ref ox), (1, .int a1), (2, .int a2)] := hl
  refine lv_aload_n hx hb dX11_isWinnableWith_0 rfl (lv_at hl 0 rfl) ?_
  refine lv_iload_n hx hb dX11_isWinnableWith_1 rfl (lv_at hl 1 rfl) ?_
  have hPc := hP.sub (ws' := [(ox, .inr (13, [.ref pl, .ref ru, .ref sh, .ref sp, .ref sl, .ref gr, .ref re, .ref pr, .ref ga, .ref rp, .ref bo, .int 0])), (pl, .inr (1, [.int 0, .ref de, .int 0])), (ru, .inr (1, [.int 0, .ref de, .int 0])), (sh, .inr (1, [.int 0, .ref de, .int 0])), (sp, .inl (cP, 6, .inr (.inr (.inr (.inr (fun _ => none)))))), (ga, .inr (5, [.ref gpl, .ref gin, .int (-1), .int 0, .int 112, .int 0])), (bo, .inr (2, [.ref fa, .ref bbe, .ref bdi, .int 0, .int 0])), (fa, .inl (cI, 96, .inl (fun _ => 0)))]) [0, 1, 2, 3, 4, 5, 6, 7] rfl
  have hDc := hD.sub (ws' := [(ox, .inr (13, [.ref pl, .ref ru, .ref sh, .ref sp, .ref sl, .ref gr, .ref re, .ref pr, .ref ga, .ref rp, .ref bo, .int 0])), (pl, .inr (1, [.int 0, .ref de, .int 0])), (ru, .inr (1, [.int 0, .ref de, .int 0])), (sh, .inr (1, [.int 0, .ref de, .int 0])), (sp, .inl (cP, 6, .inr (.inr (.inr (.inr (fun _ => none)))))), (ga, .inr (5, [.ref gpl, .ref gin, .int (-1), .int 0, .int 112, .int 0])), (bo, .inr (2, [.ref fa, .ref bbe, .ref bdi, .int 0, .int 0])), (fa, .inl (cI, 96, .inl (fun _ => 0)))]) [0, 1, 2, 3, 4, 5, 6, 7] (by decide) rfl
  have hKc := hK.sub (tys' := [(cP, .object "Levelsmith$Player"), (cI, .int)]) [0, 1] rfl
  have hFc := va_free (wc := [(ox, .inr (13, [.ref pl, .ref ru, .ref sh, .ref sp, .ref sl, .ref gr, .ref re, .ref pr, .ref ga, .ref rp, .ref bo, .int 0])), (pl, .inr (1, [.int 0, .ref de, .int 0])), (ru, .inr (1, [.int 0, .ref de, .int 0])), (sh, .inr (1, [.int 0, .ref de, .int 0])), (sp, .inl (cP, 6, .inr (.inr (.inr (.inr (fun _ => none)))))), (ga, .inr (5, [.ref gpl, .ref gin, .int (-1), .int 0, .int 112, .int 0])), (bo, .inr (2, [.ref fa, .ref bbe, .ref bdi, .int 0, .int 0])), (fa, .inl (cI, 96, .inl (fun _ => 0)))]) hD hS hA [0, 1, 2, 3, 4, 5, 6, 7] rfl
  refine vx_callq (vx_runV (As := [.int a1]) (rest := []) ⟨hx, hb, hml, hown, ht⟩ (c_X11_planAt l hlt dC dI de (ox) (pl) (ru) (sh) (sp) (sl) (gr) (re) (pr) (ga) (rp) (bo) (fa) (gpl) (gin) (bbe) (bdi) (cP) (cI) (a1) s.heap.size) (cwV 1 ht (gWV (wr_19 _ (List.mem_of_getElem? (i := 0) rfl)) (wr_19 _ (List.mem_of_getElem? (i := 1) rfl)) (wr_19 _ (List.mem_of_getElem? (i := 2) rfl)) (wr_1 _ (List.mem_of_getElem? (i := 2) rfl)) (wr_19 _ (List.mem_of_getElem? (i := 3) rfl))) rfl rfl rfl (by decide +kernel) ⟨Nat.le_of_ble_eq_true rfl, Nat.le_of_ble_eq_true rfl⟩) ⟨PW_blind, va_recv hKc hPc (ci := 13) (q0 := 0) rfl rfl, PW_call hPc hDc hKc hS hG hFc⟩ rfl rfl hl.1 rfl (lv_room (Nat.le_of_ble_eq_true rfl)) dX11_isWinnableWith_2 ⟨Nat.le_of_ble_eq_true rfl, Nat.le_of_ble_eq_true rfl⟩) hS (fun q _ h => hFc q h) hFc (fun q _ h => hFc q h) (fun E ce q9 u t H1 locs1 ht9 hvm9 _ hR9 hz9 hk9 hS9 hc9 hv9 hcl9 => ?_) (fun r_2 u t H1 locs ht9 hvm hw hB hz1 hk1 hS => False.elim hw)
  exact vx_out (fun x hx => (hex x hx).elim) hlocks hc9 hv9 hcl9 (fun t9 e9 _ => XX_out hR9 hS9 e9) hS9.2.2 (Nat.le_of_ble_eq_true rfl) (Nat.le_of_ble_eq_true rfl)
set_option maxHeartbeats 4000000 in
set_option maxRecDepth 100000 in
theorem c_X11_mend (l : Launch) (hlt : l.stackTraces = false) (dC : Nat → ClassId) (dI : Nat → Nat → Nat) (de : Nat) (ox : Nat) (pl : Nat) (ru : Nat) (sh : Nat) (sp : Nat) (sl : Nat) (gr : Nat) (re : Nat) (pr : Nat) (ga : Nat) (rp : Nat) (bo : Nat) (fa : Nat) (gpl : Nat) (gin : Nat) (bbe : Nat) (bdi : Nat) (cP : ClassId) (cI : ClassId) (a1 : Int32) (sz : Nat) : vx_Met l yX11_mend (.code yX11_mend cX11_mend 3 (some .int) :: wsL_law) { frames := 7, cells := 1, slots := 6, locals := 111 } (va_Pc [.ref ox, .int a1] (PW dC dI de [(cP, .object "Levelsmith$Player"), (cI, .int)] (WX ox pl ru sh sp sl gr re pr ga rp bo fa gpl gin bbe bdi cP cI de) sz)) (va_Qi (fun (_ : Int32) (_ : Unit) => False) (fun (_ : Unit) (_ : State) => True) (va_A (WX ox pl ru sh sp sl gr re pr ga rp bo fa gpl gin bbe bdi cP cI de) sz)) (XX (fun E => E = "java/lang/IndexOutOfBoundsException") (va_A (WX ox pl ru sh sp sl gr re pr ga rp bo fa gpl gin bbe bdi cP cI de) sz)) 1 6 (va_A (WX ox pl ru sh sp sl gr re pr ga rp bo fa gpl gin bbe bdi cP cI de) sz) := by
  refine vx_ofW (cc := cX11_mend) (maxL := 3) (ret := (some .int)) (by decide) rfl ?_
  intro p e s m args below meth c s₁ B hml hex hv
  obtain ⟨rfl, hsz, hP, hK, hD0, hG⟩ := hv
  have hx := B.exec
  have hb := B.bytes
  have hr := B.returns
  have hts := atoms_spec (ws := .code yX11_mend cX11_mend 3 (some .int) :: wsL_law) B.pre
  have ht : ∀ w ∈ wsL_law, w.before _ s = true := fun w h => hts w (List.mem_cons_of_mem _ h)
  have hown : s.vm.findClass RX11 = some m.cls := findClass_of_methodNamed B.named
  have hlocks := B.notSynchronized
  subst hsz
  have hD := hD0.self (sz := s.heap.size)
  generalize hAe : va_A (WX ox pl ru sh sp sl gr re pr ga rp bo fa gpl gin bbe bdi cP cI de) s.heap.size = A at hD hG ⊢
  have hA : ∀ q : Nat, s.heap.size ≤ q → A q := fun q h => by rw [← hAe]; exact Or.inr h
  have hS : va_S A s.heap s.heap [] := va_S.rf
  have hP : va_P (dC, dI) vwCl [(ox, .inr (13, [.ref pl, .ref ru, .ref sh, .ref sp, .ref sl, .ref gr, .ref re, .ref pr, .ref ga, .ref rp, .ref bo, .int 0])), (pl, .inr (1, [.int 0, .ref de, .int 0])), (ru, .inr (1, [.int 0, .ref de, .int 0])), (sh, .inr (1, [.int 0, .ref de, .int 0])), (sp, .inl (cP, 6, .inr (.inr (.inr (.inr (fun _ => none)))))), (ga, .inr (5, [.ref gpl, .ref gin, .int (-1), .int 0, .int 112, .int 0])), (bo, .inr (2, [.ref fa, .ref bbe, .ref bdi, .int 0, .int 0])), (fa, .inl (cI, 96, .inl (fun _ => 0)))] s.heap := hP
  have hD : va_D A [(ox, .inr (13, [.ref pl, .ref ru, .ref sh, .ref sp, .ref sl, .ref gr, .ref re, .ref pr, .ref ga, .ref rp, .ref bo, .int 0])), (pl, .inr (1, [.int 0, .ref de, .int 0])), (ru, .inr (1, [.int 0, .ref de, .int 0])), (sh, .inr (1, [.int 0, .ref de, .int 0])), (sp, .inl (cP, 6, .inr (.inr (.inr (.inr (fun _ => none)))))), (ga, .inr (5, [.ref gpl, .ref gin, .int (-1), .int 0, .int 112, .int 0])), (bo, .inr (2, [.ref fa, .ref bbe, .ref bdi, .int 0, .int 0])), (fa, .inl (cI, 96, .inl (fun _ => 0)))] := hD
  have hl := lv_entry ([.ref ox, .int a1]) (n := 3) (Nat.le_of_ble_eq_true rfl)
  rw [lg_entry_eq]
  generalize (lg_sl ([.ref ox, .int a1]) ++ List.replicate (3 - (lg_sl ([.ref ox, .int a1])).length) Slot.unset).toArray = ls at hl ⊢
  have hl : lv_has ls 3 [(0, .ref ox), (1, .int a1)] := hl
  refine lv_aload_n hx hb dX11_mend_0 rfl (lv_at hl 0 rfl) ?_
  refine lv_iload_n hx hb dX11_mend_1 rfl (lv_at hl 1 rfl) ?_
  have hPc := hP.sub (ws' := [(ox, .inr (13, [.ref pl, .ref ru, .ref sh, .ref sp, .ref sl, .ref gr, .ref re, .ref pr, .ref ga, .ref rp, .ref bo, .int 0])), (pl, .inr (1, [.int 0, .ref de, .int 0])), (ru, .inr (1, [.int 0, .ref de, .int 0])), (sh, .inr (1, [.int 0, .ref de, .int 0])), (sp, .inl (cP, 6, .inr (.inr (.inr (.inr (fun _ => none)))))), (ga, .inr (5, [.ref gpl, .ref gin, .int (-1), .int 0, .int 112, .int 0])), (bo, .inr (2, [.ref fa, .ref bbe, .ref bdi, .int 0, .int 0])), (fa, .inl (cI, 96, .inl (fun _ => 0)))]) [0, 1, 2, 3, 4, 5, 6, 7] rfl
  have hDc := hD.sub (ws' := [(ox, .inr (13, [.ref pl, .ref ru, .ref sh, .ref sp, .ref sl, .ref gr, .ref re, .ref pr, .ref ga, .ref rp, .ref bo, .int 0])), (pl, .inr (1, [.int 0, .ref de, .int 0])), (ru, .inr (1, [.int 0, .ref de, .int 0])), (sh, .inr (1, [.int 0, .ref de, .int 0])), (sp, .inl (cP, 6, .inr (.inr (.inr (.inr (fun _ => none)))))), (ga, .inr (5, [.ref gpl, .ref gin, .int (-1), .int 0, .int 112, .int 0])), (bo, .inr (2, [.ref fa, .ref bbe, .ref bdi, .int 0, .int 0])), (fa, .inl (cI, 96, .inl (fun _ => 0)))]) [0, 1, 2, 3, 4, 5, 6, 7] (by decide) rfl
  have hKc := hK.sub (tys' := [(cP, .object "Levelsmith$Player"), (cI, .int)]) [0, 1] rfl
  have hFc := va_free (wc := [(ox, .inr (13, [.ref pl, .ref ru, .ref sh, .ref sp, .ref sl, .ref gr, .ref re, .ref pr, .ref ga, .ref rp, .ref bo, .int 0])), (pl, .inr (1, [.int 0, .ref de, .int 0])), (ru, .inr (1, [.int 0, .ref de, .int 0])), (sh, .inr (1, [.int 0, .ref de, .int 0])), (sp, .inl (cP, 6, .inr (.inr (.inr (.inr (fun _ => none)))))), (ga, .inr (5, [.ref gpl, .ref gin, .int (-1), .int 0, .int 112, .int 0])), (bo, .inr (2, [.ref fa, .ref bbe, .ref bdi, .int 0, .int 0])), (fa, .inl (cI, 96, .inl (fun _ => 0)))]) hD hS hA [0, 1, 2, 3, 4, 5, 6, 7] rfl
  refine vx_callq (vx_runV (As := [.int a1]) (rest := []) ⟨hx, hb, hml, hown, ht⟩ (c_X11_planAt l hlt dC dI de (ox) (pl) (ru) (sh) (sp) (sl) (gr) (re) (pr) (ga) (rp) (bo) (fa) (gpl) (gin) (bbe) (bdi) (cP) (cI) (a1) s.heap.size) (cwV 1 ht (gWV (wr_19 _ (List.mem_of_getElem? (i := 0) rfl)) (wr_19 _ (List.mem_of_getElem? (i := 1) rfl)) (wr_19 _ (List.mem_of_getElem? (i := 2) rfl)) (wr_1 _ (List.mem_of_getElem? (i := 2) rfl)) (wr_19 _ (List.mem_of_getElem? (i := 3) rfl))) rfl rfl rfl (by decide +kernel) ⟨Nat.le_of_ble_eq_true rfl, Nat.le_of_ble_eq_true rfl⟩) ⟨PW_blind, va_recv hKc hPc (ci := 13) (q0 := 0) rfl rfl, PW_call hPc hDc hKc hS hG hFc⟩ rfl rfl hl.1 rfl (lv_room (Nat.le_of_ble_eq_true rfl)) dX11_mend_2 ⟨Nat.le_of_ble_eq_true rfl, Nat.le_of_ble_eq_true rfl⟩) hS (fun q _ h => hFc q h) hFc (fun q _ h => hFc q h) (fun E ce q9 u t H1 locs1 ht9 hvm9 _ hR9 hz9 hk9 hS9 hc9 hv9 hcl9 => ?_) (fun r_2 u t H1 locs ht9 hvm hw hB hz1 hk1 hS => False.elim hw)
  exact vx_out (fun x hx => (hex x hx).elim) hlocks hc9 hv9 hcl9 (fun t9 e9 _ => XX_out hR9 hS9 e9) hS9.2.2 (Nat.le_of_ble_eq_true rfl) (Nat.le_of_ble_eq_true rfl)
set_option maxHeartbeats 4000000 in
set_option maxRecDepth 100000 in
theorem c_X11_mendAt (l : Launch) (hlt : l.stackTraces = false) (dC : Nat → ClassId) (dI : Nat → Nat → Nat) (de : Nat) (ox : Nat) (pl : Nat) (ru : Nat) (sh : Nat) (sp : Nat) (sl : Nat) (gr : Nat) (re : Nat) (pr : Nat) (ga : Nat) (rp : Nat) (bo : Nat) (fa : Nat) (gpl : Nat) (gin : Nat) (bbe : Nat) (bdi : Nat) (cP : ClassId) (cI : ClassId) (a1 : Int32) (a2 : Int32) (sz : Nat) : vx_Met l yX11_mendAt (.code yX11_mendAt cX11_mendAt 4 (some .int) :: wsL_law) { frames := 7, cells := 1, slots := 6, locals := 111 } (va_Pc [.ref ox, .int a1, .int a2] (PW dC dI de [(cP, .object "Levelsmith$Player"), (cI, .int)] (WX ox pl ru sh sp sl gr re pr ga rp bo fa gpl gin bbe bdi cP cI de) sz)) (va_Qi (fun (_ : Int32) (_ : Unit) => False) (fun (_ : Unit) (_ : State) => True) (va_A (WX ox pl ru sh sp sl gr re pr ga rp bo fa gpl gin bbe bdi cP cI de) sz)) (XX (fun E => E = "java/lang/IndexOutOfBoundsException") (va_A (WX ox pl ru sh sp sl gr re pr ga rp bo fa gpl gin bbe bdi cP cI de) sz)) 1 6 (va_A (WX ox pl ru sh sp sl gr re pr ga rp bo fa gpl gin bbe bdi cP cI de) sz) := by
  refine vx_ofW (cc := cX11_mendAt) (maxL := 4) (ret := (some .int)) (by decide) rfl ?_
  intro p e s m args below meth c s₁ B hml hex hv
  obtain ⟨rfl, hsz, hP, hK, hD0, hG⟩ := hv
  have hx := B.exec
  have hb := B.bytes
  have hr := B.returns
  have hts := atoms_spec (ws := .code yX11_mendAt cX11_mendAt 4 (some .int) :: wsL_law) B.pre
  have ht : ∀ w ∈ wsL_law, w.before _ s = true := fun w h => hts w (List.mem_cons_of_mem _ h)
  have hown : s.vm.findClass RX11 = some m.cls := findClass_of_methodNamed B.named
  have hlocks := B.notSynchronized
  subst hsz
  have hD := hD0.self (sz := s.heap.size)
  generalize hAe : va_A (WX ox pl ru sh sp sl gr re pr ga rp bo fa gpl gin bbe bdi cP cI de) s.heap.size = A at hD hG ⊢
  have hA : ∀ q : Nat, s.heap.size ≤ q → A q := fun q h => by rw [← hAe]; exact Or.inr h
  have hS : va_S A s.heap s.heap [] := va_S.rf
  have hP : va_P (dC, dI) vwCl [(ox, .inr (13, [.ref pl, .ref ru, .ref sh, .ref sp, .ref sl, .ref gr, .ref re, .ref pr, .ref ga, .ref rp, .ref bo, .int 0])), (pl, .inr (1, [.int 0, .ref de, .int 0])), (ru, .inr (1, [.int 0, .ref de, .int 0])), (sh, .inr (1, [.int 0, .ref de, .int 0])), (sp, .inl (cP, 6, .inr (.inr (.inr (.inr (fun _ => none)))))), (ga, .inr (5, [.ref gpl, .ref gin, .int (-1), .int 0, .int 112, .int 0])), (bo, .inr (2, [.ref fa, .ref bbe, .ref bdi, .int 0, .int 0])), (fa, .inl (cI, 96, .inl (fun _ => 0)))] s.heap := hP
  have hD : va_D A [(ox, .inr (13, [.ref pl, .ref ru, .ref sh, .ref sp, .ref sl, .ref gr, .ref re, .ref pr, .ref ga, .ref rp, .ref bo, .int 0])), (pl, .inr (1, [.int 0, .ref de, .int 0])), (ru, .inr (1, [.int 0, .ref de, .int 0])), (sh, .inr (1, [.int 0, .ref de, .int 0])), (sp, .inl (cP, 6, .inr (.inr (.inr (.inr (fun _ => none)))))), (ga, .inr (5, [.ref gpl, .ref gin, .int (-1), .int 0, .int 112, .int 0])), (bo, .inr (2, [.ref fa, .ref bbe, .ref bdi, .int 0, .int 0])), (fa, .inl (cI, 96, .inl (fun _ => 0)))] := hD
  have hl := lv_entry ([.ref ox, .int a1, .int a2]) (n := 4) (Nat.le_of_ble_eq_true rfl)
  rw [lg_entry_eq]
  generalize (lg_sl ([.ref ox, .int a1, .int a2]) ++ List.replicate (4 - (lg_sl ([.ref ox, .int a1, .int a2])).length) Slot.unset).toArray = ls at hl ⊢
  have hl : lv_has ls 4 [(0, .ref ox), (1, .int a1), (2, .int a2)] := hl
  refine lv_aload_n hx hb dX11_mendAt_0 rfl (lv_at hl 0 rfl) ?_
  refine lv_iload_n hx hb dX11_mendAt_1 rfl (lv_at hl 1 rfl) ?_
  have hPc := hP.sub (ws' := [(ox, .inr (13, [.ref pl, .ref ru, .ref sh, .ref sp, .ref sl, .ref gr, .ref re, .ref pr, .ref ga, .ref rp, .ref bo, .int 0])), (pl, .inr (1, [.int 0, .ref de, .int 0])), (ru, .inr (1, [.int 0, .ref de, .int 0])), (sh, .inr (1, [.int 0, .ref de, .int 0])), (sp, .inl (cP, 6, .inr (.inr (.inr (.inr (fun _ => none)))))), (ga, .inr (5, [.ref gpl, .ref gin, .int (-1), .int 0, .int 112, .int 0])), (bo, .inr (2, [.ref fa, .ref bbe, .ref bdi, .int 0, .int 0])), (fa, .inl (cI, 96, .inl (fun _ => 0)))]) [0, 1, 2, 3, 4, 5, 6, 7] rfl
  have hDc := hD.sub (ws' := [(ox, .inr (13, [.ref pl, .ref ru, .ref sh, .ref sp, .ref sl, .ref gr, .ref re, .ref pr, .ref ga, .ref rp, .ref bo, .int 0])), (pl, .inr (1, [.int 0, .ref de, .int 0])), (ru, .inr (1, [.int 0, .ref de, .int 0])), (sh, .inr (1, [.int 0, .ref de, .int 0])), (sp, .inl (cP, 6, .inr (.inr (.inr (.inr (fun _ => none)))))), (ga, .inr (5, [.ref gpl, .ref gin, .int (-1), .int 0, .int 112, .int 0])), (bo, .inr (2, [.ref fa, .ref bbe, .ref bdi, .int 0, .int 0])), (fa, .inl (cI, 96, .inl (fun _ => 0)))]) [0, 1, 2, 3, 4, 5, 6, 7] (by decide) rfl
  have hKc := hK.sub (tys' := [(cP, .object "Levelsmith$Player"), (cI, .int)]) [0, 1] rfl
  have hFc := va_free (wc := [(ox, .inr (13, [.ref pl, .ref ru, .ref sh, .ref sp, .ref sl, .ref gr, .ref re, .ref pr, .ref ga, .ref rp, .ref bo, .int 0])), (pl, .inr (1, [.int 0, .ref de, .int 0])), (ru, .inr (1, [.int 0, .ref de, .int 0])), (sh, .inr (1, [.int 0, .ref de, .int 0])), (sp, .inl (cP, 6, .inr (.inr (.inr (.inr (fun _ => none)))))), (ga, .inr (5, [.ref gpl, .ref gin, .int (-1), .int 0, .int 112, .int 0])), (bo, .inr (2, [.ref fa, .ref bbe, .ref bdi, .int 0, .int 0])), (fa, .inl (cI, 96, .inl (fun _ => 0)))]) hD hS hA [0, 1, 2, 3, 4, 5, 6, 7] rfl
  refine vx_callq (vx_runV (As := [.int a1]) (rest := []) ⟨hx, hb, hml, hown, ht⟩ (c_X11_planAt l hlt dC dI de (ox) (pl) (ru) (sh) (sp) (sl) (gr) (re) (pr) (ga) (rp) (bo) (fa) (gpl) (gin) (bbe) (bdi) (cP) (cI) (a1) s.heap.size) (cwV 1 ht (gWV (wr_19 _ (List.mem_of_getElem? (i := 0) rfl)) (wr_19 _ (List.mem_of_getElem? (i := 1) rfl)) (wr_19 _ (List.mem_of_getElem? (i := 2) rfl)) (wr_1 _ (List.mem_of_getElem? (i := 2) rfl)) (wr_19 _ (List.mem_of_getElem? (i := 3) rfl))) rfl rfl rfl (by decide +kernel) ⟨Nat.le_of_ble_eq_true rfl, Nat.le_of_ble_eq_true rfl⟩) ⟨PW_blind, va_recv hKc hPc (ci := 13) (q0 := 0) rfl rfl, PW_call hPc hDc hKc hS hG hFc⟩ rfl rfl hl.1 rfl (lv_room (Nat.le_of_ble_eq_true rfl)) dX11_mendAt_2 ⟨Nat.le_of_ble_eq_true rfl, Nat.le_of_ble_eq_true rfl⟩) hS (fun q _ h => hFc q h) hFc (fun q _ h => hFc q h) (fun E ce q9 u t H1 locs1 ht9 hvm9 _ hR9 hz9 hk9 hS9 hc9 hv9 hcl9 => ?_) (fun r_2 u t H1 locs ht9 hvm hw hB hz1 hk1 hS => False.elim hw)
  exact vx_out (fun x hx => (hex x hx).elim) hlocks hc9 hv9 hcl9 (fun t9 e9 _ => XX_out hR9 hS9 e9) hS9.2.2 (Nat.le_of_ble_eq_true rfl) (Nat.le_of_ble_eq_true rfl)
set_option maxHeartbeats 4000000 in
set_option maxRecDepth 100000 in
theorem c_X11_rests (l : Launch) (hlt : l.stackTraces = false) (dC : Nat → ClassId) (dI : Nat → Nat → Nat) (de : Nat) (ox : Nat) (pl : Nat) (ru : Nat) (sh : Nat) (sp : Nat) (sl : Nat) (gr : Nat) (re : Nat) (pr : Nat) (ga : Nat) (rp : Nat) (bo : Nat) (fa : Nat) (gpl : Nat) (gin : Nat) (bbe : Nat) (bdi : Nat) (cP : ClassId) (cI : ClassId) (a1 : Int32) (sz : Nat) : vx_Met l yX11_rests (.code yX11_rests cX11_rests 3 (some .int) :: wsL_law) { frames := 7, cells := 1, slots := 6, locals := 111 } (va_Pc [.ref ox, .int a1] (PW dC dI de [(cP, .object "Levelsmith$Player"), (cI, .int)] (WX ox pl ru sh sp sl gr re pr ga rp bo fa gpl gin bbe bdi cP cI de) sz)) (va_Qi (fun (_ : Int32) (_ : Unit) => False) (fun (_ : Unit) (_ : State) => True) (va_A (WX ox pl ru sh sp sl gr re pr ga rp bo fa gpl gin bbe bdi cP cI de) sz)) (XX (fun E => E = "java/lang/IndexOutOfBoundsException") (va_A (WX ox pl ru sh sp sl gr re pr ga rp bo fa gpl gin bbe bdi cP cI de) sz)) 1 6 (va_A (WX ox pl ru sh sp sl gr re pr ga rp bo fa gpl gin bbe bdi cP cI de) sz) := by
  refine vx_ofW (cc := cX11_rests) (maxL := 3) (ret := (some .int)) (by decide) rfl ?_
  intro p e s m args below meth c s₁ B hml hex hv
  obtain ⟨rfl, hsz, hP, hK, hD0, hG⟩ := hv
  have hx := B.exec
  have hb := B.bytes
  have hr := B.returns
  have hts := atoms_spec (ws := .code yX11_rests cX11_rests 3 (some .int) :: wsL_law) B.pre
  have ht : ∀ w ∈ wsL_law, w.before _ s = true := fun w h => hts w (List.mem_cons_of_mem _ h)
  have hown : s.vm.findClass RX11 = some m.cls := findClass_of_methodNamed B.named
  have hlocks := B.notSynchronized
  subst hsz
  have hD := hD0.self (sz := s.heap.size)
  generalize hAe : va_A (WX ox pl ru sh sp sl gr re pr ga rp bo fa gpl gin bbe bdi cP cI de) s.heap.size = A at hD hG ⊢
  have hA : ∀ q : Nat, s.heap.size ≤ q → A q := fun q h => by rw [← hAe]; exact Or.inr h
  have hS : va_S A s.heap s.heap [] := va_S.rf
  have hP : va_P (dC, dI) vwCl [(ox, .inr (13, [.ref pl, .ref ru, .ref sh, .ref sp, .ref sl, .ref gr, .ref re, .ref pr, .ref ga, .ref rp, .ref bo, .int 0])), (pl, .inr (1, [.int 0, .ref de, .int 0])), (ru, .inr (1, [.int 0, .ref de, .int 0])), (sh, .inr (1, [.int 0, .ref de, .int 0])), (sp, .inl (cP, 6, .inr (.inr (.inr (.inr (fun _ => none)))))), (ga, .inr (5, [.ref gpl, .ref gin, .int (-1), .int 0, .int 112, .int 0])), (bo, .inr (2, [.ref fa, .ref bbe, .ref bdi, .int 0, .int 0])), (fa, .inl (cI, 96, .inl (fun _ => 0)))] s.heap := hP
  have hD : va_D A [(ox, .inr (13, [.ref pl, .ref ru, .ref sh, .ref sp, .ref sl, .ref gr, .ref re, .ref pr, .ref ga, .ref rp, .ref bo, .int 0])), (pl, .inr (1, [.int 0, .ref de, .int 0])), (ru, .inr (1, [.int 0, .ref de, .int 0])), (sh, .inr (1, [.int 0, .ref de, .int 0])), (sp, .inl (cP, 6, .inr (.inr (.inr (.inr (fun _ => none)))))), (ga, .inr (5, [.ref gpl, .ref gin, .int (-1), .int 0, .int 112, .int 0])), (bo, .inr (2, [.ref fa, .ref bbe, .ref bdi, .int 0, .int 0])), (fa, .inl (cI, 96, .inl (fun _ => 0)))] := hD
  have hl := lv_entry ([.ref ox, .int a1]) (n := 3) (Nat.le_of_ble_eq_true rfl)
  rw [lg_entry_eq]
  generalize (lg_sl ([.ref ox, .int a1]) ++ List.replicate (3 - (lg_sl ([.ref ox, .int a1])).length) Slot.unset).toArray = ls at hl ⊢
  have hl : lv_has ls 3 [(0, .ref ox), (1, .int a1)] := hl
  refine lv_aload_n hx hb dX11_rests_0 rfl (lv_at hl 0 rfl) ?_
  refine lv_iload_n hx hb dX11_rests_1 rfl (lv_at hl 1 rfl) ?_
  have hPc := hP.sub (ws' := [(ox, .inr (13, [.ref pl, .ref ru, .ref sh, .ref sp, .ref sl, .ref gr, .ref re, .ref pr, .ref ga, .ref rp, .ref bo, .int 0])), (pl, .inr (1, [.int 0, .ref de, .int 0])), (ru, .inr (1, [.int 0, .ref de, .int 0])), (sh, .inr (1, [.int 0, .ref de, .int 0])), (sp, .inl (cP, 6, .inr (.inr (.inr (.inr (fun _ => none)))))), (ga, .inr (5, [.ref gpl, .ref gin, .int (-1), .int 0, .int 112, .int 0])), (bo, .inr (2, [.ref fa, .ref bbe, .ref bdi, .int 0, .int 0])), (fa, .inl (cI, 96, .inl (fun _ => 0)))]) [0, 1, 2, 3, 4, 5, 6, 7] rfl
  have hDc := hD.sub (ws' := [(ox, .inr (13, [.ref pl, .ref ru, .ref sh, .ref sp, .ref sl, .ref gr, .ref re, .ref pr, .ref ga, .ref rp, .ref bo, .int 0])), (pl, .inr (1, [.int 0, .ref de, .int 0])), (ru, .inr (1, [.int 0, .ref de, .int 0])), (sh, .inr (1, [.int 0, .ref de, .int 0])), (sp, .inl (cP, 6, .inr (.inr (.inr (.inr (fun _ => none)))))), (ga, .inr (5, [.ref gpl, .ref gin, .int (-1), .int 0, .int 112, .int 0])), (bo, .inr (2, [.ref fa, .ref bbe, .ref bdi, .int 0, .int 0])), (fa, .inl (cI, 96, .inl (fun _ => 0)))]) [0, 1, 2, 3, 4, 5, 6, 7] (by decide) rfl
  have hKc := hK.sub (tys' := [(cP, .object "Levelsmith$Player"), (cI, .int)]) [0, 1] rfl
  have hFc := va_free (wc := [(ox, .inr (13, [.ref pl, .ref ru, .ref sh, .ref sp, .ref sl, .ref gr, .ref re, .ref pr, .ref ga, .ref rp, .ref bo, .int 0])), (pl, .inr (1, [.int 0, .ref de, .int 0])), (ru, .inr (1, [.int 0, .ref de, .int 0])), (sh, .inr (1, [.int 0, .ref de, .int 0])), (sp, .inl (cP, 6, .inr (.inr (.inr (.inr (fun _ => none)))))), (ga, .inr (5, [.ref gpl, .ref gin, .int (-1), .int 0, .int 112, .int 0])), (bo, .inr (2, [.ref fa, .ref bbe, .ref bdi, .int 0, .int 0])), (fa, .inl (cI, 96, .inl (fun _ => 0)))]) hD hS hA [0, 1, 2, 3, 4, 5, 6, 7] rfl
  refine vx_callq (vx_runV (As := [.int a1]) (rest := []) ⟨hx, hb, hml, hown, ht⟩ (c_X11_planAt l hlt dC dI de (ox) (pl) (ru) (sh) (sp) (sl) (gr) (re) (pr) (ga) (rp) (bo) (fa) (gpl) (gin) (bbe) (bdi) (cP) (cI) (a1) s.heap.size) (cwV 1 ht (gWV (wr_19 _ (List.mem_of_getElem? (i := 0) rfl)) (wr_19 _ (List.mem_of_getElem? (i := 1) rfl)) (wr_19 _ (List.mem_of_getElem? (i := 2) rfl)) (wr_1 _ (List.mem_of_getElem? (i := 2) rfl)) (wr_19 _ (List.mem_of_getElem? (i := 3) rfl))) rfl rfl rfl (by decide +kernel) ⟨Nat.le_of_ble_eq_true rfl, Nat.le_of_ble_eq_true rfl⟩) ⟨PW_blind, va_recv hKc hPc (ci := 13) (q0 := 0) rfl rfl, PW_call hPc hDc hKc hS hG hFc⟩ rfl rfl hl.1 rfl (lv_room (Nat.le_of_ble_eq_true rfl)) dX11_rests_2 ⟨Nat.le_of_ble_eq_true rfl, Nat.le_of_ble_eq_true rfl⟩) hS (fun q _ h => hFc q h) hFc (fun q _ h => hFc q h) (fun E ce q9 u t H1 locs1 ht9 hvm9 _ hR9 hz9 hk9 hS9 hc9 hv9 hcl9 => ?_) (fun r_2 u t H1 locs ht9 hvm hw hB hz1 hk1 hS => False.elim hw)
  exact vx_out (fun x hx => (hex x hx).elim) hlocks hc9 hv9 hcl9 (fun t9 e9 _ => XX_out hR9 hS9 e9) hS9.2.2 (Nat.le_of_ble_eq_true rfl) (Nat.le_of_ble_eq_true rfl)
set_option maxHeartbeats 4000000 in
set_option maxRecDepth 100000 in
theorem c_X11_longestAir (l : Launch) (hlt : l.stackTraces = false) (dC : Nat → ClassId) (dI : Nat → Nat → Nat) (de : Nat) (ox : Nat) (pl : Nat) (ru : Nat) (sh : Nat) (sp : Nat) (sl : Nat) (gr : Nat) (re : Nat) (pr : Nat) (ga : Nat) (rp : Nat) (bo : Nat) (fa : Nat) (gpl : Nat) (gin : Nat) (bbe : Nat) (bdi : Nat) (cP : ClassId) (cI : ClassId) (a1 : Int32) (sz : Nat) : vx_Met l yX11_longestAir (.code yX11_longestAir cX11_longestAir 3 (some .int) :: wsL_law) { frames := 7, cells := 1, slots := 6, locals := 111 } (va_Pc [.ref ox, .int a1] (PW dC dI de [(cP, .object "Levelsmith$Player"), (cI, .int)] (WX ox pl ru sh sp sl gr re pr ga rp bo fa gpl gin bbe bdi cP cI de) sz)) (va_Qi (fun (_ : Int32) (_ : Unit) => False) (fun (_ : Unit) (_ : State) => True) (va_A (WX ox pl ru sh sp sl gr re pr ga rp bo fa gpl gin bbe bdi cP cI de) sz)) (XX (fun E => E = "java/lang/IndexOutOfBoundsException") (va_A (WX ox pl ru sh sp sl gr re pr ga rp bo fa gpl gin bbe bdi cP cI de) sz)) 1 6 (va_A (WX ox pl ru sh sp sl gr re pr ga rp bo fa gpl gin bbe bdi cP cI de) sz) := by
  refine vx_ofW (cc := cX11_longestAir) (maxL := 3) (ret := (some .int)) (by decide) rfl ?_
  intro p e s m args below meth c s₁ B hml hex hv
  obtain ⟨rfl, hsz, hP, hK, hD0, hG⟩ := hv
  have hx := B.exec
  have hb := B.bytes
  have hr := B.returns
  have hts := atoms_spec (ws := .code yX11_longestAir cX11_longestAir 3 (some .int) :: wsL_law) B.pre
  have ht : ∀ w ∈ wsL_law, w.before _ s = true := fun w h => hts w (List.mem_cons_of_mem _ h)
  have hown : s.vm.findClass RX11 = some m.cls := findClass_of_methodNamed B.named
  have hlocks := B.notSynchronized
  subst hsz
  have hD := hD0.self (sz := s.heap.size)
  generalize hAe : va_A (WX ox pl ru sh sp sl gr re pr ga rp bo fa gpl gin bbe bdi cP cI de) s.heap.size = A at hD hG ⊢
  have hA : ∀ q : Nat, s.heap.size ≤ q → A q := fun q h => by rw [← hAe]; exact Or.inr h
  have hS : va_S A s.heap s.heap [] := va_S.rf
  have hP : va_P (dC, dI) vwCl [(ox, .inr (13, [.ref pl, .ref ru, .ref sh, .ref sp, .ref sl, .ref gr, .ref re, .ref pr, .ref ga, .ref rp, .ref bo, .int 0])), (pl, .inr (1, [.int 0, .ref de, .int 0])), (ru, .inr (1, [.int 0, .ref de, .int 0])), (sh, .inr (1, [.int 0, .ref de, .int 0])), (sp, .inl (cP, 6, .inr (.inr (.inr (.inr (fun _ => none)))))), (ga, .inr (5, [.ref gpl, .ref gin, .int (-1), .int 0, .int 112, .int 0])), (bo, .inr (2, [.ref fa, .ref bbe, .ref bdi, .int 0, .int 0])), (fa, .inl (cI, 96, .inl (fun _ => 0)))] s.heap := hP
  have hD : va_D A [(ox, .inr (13, [.ref pl, .ref ru, .ref sh, .ref sp, .ref sl, .ref gr, .ref re, .ref pr, .ref ga, .ref rp, .ref bo, .int 0])), (pl, .inr (1, [.int 0, .ref de, .int 0])), (ru, .inr (1, [.int 0, .ref de, .int 0])), (sh, .inr (1, [.int 0, .ref de, .int 0])), (sp, .inl (cP, 6, .inr (.inr (.inr (.inr (fun _ => none)))))), (ga, .inr (5, [.ref gpl, .ref gin, .int (-1), .int 0, .int 112, .int 0])), (bo, .inr (2, [.ref fa, .ref bbe, .ref bdi, .int 0, .int 0])), (fa, .inl (cI, 96, .inl (fun _ => 0)))] := hD
  have hl := lv_entry ([.ref ox, .int a1]) (n := 3) (Nat.le_of_ble_eq_true rfl)
  rw [lg_entry_eq]
  generalize (lg_sl ([.ref ox, .int a1]) ++ List.replicate (3 - (lg_sl ([.ref ox, .int a1])).length) Slot.unset).toArray = ls at hl ⊢
  have hl : lv_has ls 3 [(0, .ref ox), (1, .int a1)] := hl
  refine lv_aload_n hx hb dX11_longestAir_0 rfl (lv_at hl 0 rfl) ?_
  refine lv_iload_n hx hb dX11_longestAir_1 rfl (lv_at hl 1 rfl) ?_
  have hPc := hP.sub (ws' := [(ox, .inr (13, [.ref pl, .ref ru, .ref sh, .ref sp, .ref sl, .ref gr, .ref re, .ref pr, .ref ga, .ref rp, .ref bo, .int 0])), (pl, .inr (1, [.int 0, .ref de, .int 0])), (ru, .inr (1, [.int 0, .ref de, .int 0])), (sh, .inr (1, [.int 0, .ref de, .int 0])), (sp, .inl (cP, 6, .inr (.inr (.inr (.inr (fun _ => none)))))), (ga, .inr (5, [.ref gpl, .ref gin, .int (-1), .int 0, .int 112, .int 0])), (bo, .inr (2, [.ref fa, .ref bbe, .ref bdi, .int 0, .int 0])), (fa, .inl (cI, 96, .inl (fun _ => 0)))]) [0, 1, 2, 3, 4, 5, 6, 7] rfl
  have hDc := hD.sub (ws' := [(ox, .inr (13, [.ref pl, .ref ru, .ref sh, .ref sp, .ref sl, .ref gr, .ref re, .ref pr, .ref ga, .ref rp, .ref bo, .int 0])), (pl, .inr (1, [.int 0, .ref de, .int 0])), (ru, .inr (1, [.int 0, .ref de, .int 0])), (sh, .inr (1, [.int 0, .ref de, .int 0])), (sp, .inl (cP, 6, .inr (.inr (.inr (.inr (fun _ => none)))))), (ga, .inr (5, [.ref gpl, .ref gin, .int (-1), .int 0, .int 112, .int 0])), (bo, .inr (2, [.ref fa, .ref bbe, .ref bdi, .int 0, .int 0])), (fa, .inl (cI, 96, .inl (fun _ => 0)))]) [0, 1, 2, 3, 4, 5, 6, 7] (by decide) rfl
  have hKc := hK.sub (tys' := [(cP, .object "Levelsmith$Player"), (cI, .int)]) [0, 1] rfl
  have hFc := va_free (wc := [(ox, .inr (13, [.ref pl, .ref ru, .ref sh, .ref sp, .ref sl, .ref gr, .ref re, .ref pr, .ref ga, .ref rp, .ref bo, .int 0])), (pl, .inr (1, [.int 0, .ref de, .int 0])), (ru, .inr (1, [.int 0, .ref de, .int 0])), (sh, .inr (1, [.int 0, .ref de, .int 0])), (sp, .inl (cP, 6, .inr (.inr (.inr (.inr (fun _ => none)))))), (ga, .inr (5, [.ref gpl, .ref gin, .int (-1), .int 0, .int 112, .int 0])), (bo, .inr (2, [.ref fa, .ref bbe, .ref bdi, .int 0, .int 0])), (fa, .inl (cI, 96, .inl (fun _ => 0)))]) hD hS hA [0, 1, 2, 3, 4, 5, 6, 7] rfl
  refine vx_callq (vx_runV (As := [.int a1]) (rest := []) ⟨hx, hb, hml, hown, ht⟩ (c_X11_planAt l hlt dC dI de (ox) (pl) (ru) (sh) (sp) (sl) (gr) (re) (pr) (ga) (rp) (bo) (fa) (gpl) (gin) (bbe) (bdi) (cP) (cI) (a1) s.heap.size) (cwV 1 ht (gWV (wr_19 _ (List.mem_of_getElem? (i := 0) rfl)) (wr_19 _ (List.mem_of_getElem? (i := 1) rfl)) (wr_19 _ (List.mem_of_getElem? (i := 2) rfl)) (wr_1 _ (List.mem_of_getElem? (i := 2) rfl)) (wr_19 _ (List.mem_of_getElem? (i := 3) rfl))) rfl rfl rfl (by decide +kernel) ⟨Nat.le_of_ble_eq_true rfl, Nat.le_of_ble_eq_true rfl⟩) ⟨PW_blind, va_recv hKc hPc (ci := 13) (q0 := 0) rfl rfl, PW_call hPc hDc hKc hS hG hFc⟩ rfl rfl hl.1 rfl (lv_room (Nat.le_of_ble_eq_true rfl)) dX11_longestAir_2 ⟨Nat.le_of_ble_eq_true rfl, Nat.le_of_ble_eq_true rfl⟩) hS (fun q _ h => hFc q h) hFc (fun q _ h => hFc q h) (fun E ce q9 u t H1 locs1 ht9 hvm9 _ hR9 hz9 hk9 hS9 hc9 hv9 hcl9 => ?_) (fun r_2 u t H1 locs ht9 hvm hw hB hz1 hk1 hS => False.elim hw)
  exact vx_out (fun x hx => (hex x hx).elim) hlocks hc9 hv9 hcl9 (fun t9 e9 _ => XX_out hR9 hS9 e9) hS9.2.2 (Nat.le_of_ble_eq_true rfl) (Nat.le_of_ble_eq_true rfl)
set_option maxHeartbeats 4000000 in
set_option maxRecDepth 100000 in
theorem c_X11_play (l : Launch) (hlt : l.stackTraces = false) (dC : Nat → ClassId) (dI : Nat → Nat → Nat) (de : Nat) (ox : Nat) (pl : Nat) (ru : Nat) (sh : Nat) (sp : Nat) (sl : Nat) (gr : Nat) (re : Nat) (pr : Nat) (ga : Nat) (rp : Nat) (bo : Nat) (fa : Nat) (gpl : Nat) (gin : Nat) (bbe : Nat) (bdi : Nat) (cP : ClassId) (cI : ClassId) (a1 : Int32) (sz : Nat) : vx_Met l yX11_play (.code yX11_play cX11_play 3 (some .int) :: wsL_law) { frames := 7, cells := 1, slots := 6, locals := 111 } (va_Pc [.ref ox, .int a1] (PW dC dI de [(cP, .object "Levelsmith$Player"), (cI, .int)] (WX ox pl ru sh sp sl gr re pr ga rp bo fa gpl gin bbe bdi cP cI de) sz)) (va_Qi (fun (_ : Int32) (_ : Unit) => False) (fun (_ : Unit) (_ : State) => True) (va_A (WX ox pl ru sh sp sl gr re pr ga rp bo fa gpl gin bbe bdi cP cI de) sz)) (XX (fun E => E = "java/lang/IndexOutOfBoundsException") (va_A (WX ox pl ru sh sp sl gr re pr ga rp bo fa gpl gin bbe bdi cP cI de) sz)) 1 6 (va_A (WX ox pl ru sh sp sl gr re pr ga rp bo fa gpl gin bbe bdi cP cI de) sz) := by
  refine vx_ofW (cc := cX11_play) (maxL := 3) (ret := (some .int)) (by decide) rfl ?_
  intro p e s m args below meth c s₁ B hml hex hv
  obtain ⟨rfl, hsz, hP, hK, hD0, hG⟩ := hv
  have hx := B.exec
  have hb := B.bytes
  have hr := B.returns
  have hts := atoms_spec (ws := .code yX11_play cX11_play 3 (some .int) :: wsL_law) B.pre
  have ht : ∀ w ∈ wsL_law, w.before _ s = true := fun w h => hts w (List.mem_cons_of_mem _ h)
  have hown : s.vm.findClass RX11 = some m.cls := findClass_of_methodNamed B.named
  have hlocks := B.notSynchronized
  subst hsz
  have hD := hD0.self (sz := s.heap.size)
  generalize hAe : va_A (WX ox pl ru sh sp sl gr re pr ga rp bo fa gpl gin bbe bdi cP cI de) s.heap.size = A at hD hG ⊢
  have hA : ∀ q : Nat, s.heap.size ≤ q → A q := fun q h => by rw [← hAe]; exact Or.inr h
  have hS : va_S A s.heap s.heap [] := va_S.rf
  have hP : va_P (dC, dI) vwCl [(ox, .inr (13, [.ref pl, .ref ru, .ref sh, .ref sp, .ref sl, .ref gr, .ref re, .ref pr, .ref ga, .ref rp, .ref bo, .int 0])), (pl, .inr (1, [.int 0, .ref de, .int 0])), (ru, .inr (1, [.int 0, .ref de, .int 0])), (sh, .inr (1, [.int 0, .ref de, .int 0])), (sp, .inl (cP, 6, .inr (.inr (.inr (.inr (fun _ => none)))))), (ga, .inr (5, [.ref gpl, .ref gin, .int (-1), .int 0, .int 112, .int 0])), (bo, .inr (2, [.ref fa, .ref bbe, .ref bdi, .int 0, .int 0])), (fa, .inl (cI, 96, .inl (fun _ => 0)))] s.heap := hP
  have hD : va_D A [(ox, .inr (13, [.ref pl, .ref ru, .ref sh, .ref sp, .ref sl, .ref gr, .ref re, .ref pr, .ref ga, .ref rp, .ref bo, .int 0])), (pl, .inr (1, [.int 0, .ref de, .int 0])), (ru, .inr (1, [.int 0, .ref de, .int 0])), (sh, .inr (1, [.int 0, .ref de, .int 0])), (sp, .inl (cP, 6, .inr (.inr (.inr (.inr (fun _ => none)))))), (ga, .inr (5, [.ref gpl, .ref gin, .int (-1), .int 0, .int 112, .int 0])), (bo, .inr (2, [.ref fa, .ref bbe, .ref bdi, .int 0, .int 0])), (fa, .inl (cI, 96, .inl (fun _ => 0)))] := hD
  have hl := lv_entry ([.ref ox, .int a1]) (n := 3) (Nat.le_of_ble_eq_true rfl)
  rw [lg_entry_eq]
  generalize (lg_sl ([.ref ox, .int a1]) ++ List.replicate (3 - (lg_sl ([.ref ox, .int a1])).length) Slot.unset).toArray = ls at hl ⊢
  have hl : lv_has ls 3 [(0, .ref ox), (1, .int a1)] := hl
  refine lv_aload_n hx hb dX11_play_0 rfl (lv_at hl 0 rfl) ?_
  refine lv_iload_n hx hb dX11_play_1 rfl (lv_at hl 1 rfl) ?_
  have hPc := hP.sub (ws' := [(ox, .inr (13, [.ref pl, .ref ru, .ref sh, .ref sp, .ref sl, .ref gr, .ref re, .ref pr, .ref ga, .ref rp, .ref bo, .int 0])), (pl, .inr (1, [.int 0, .ref de, .int 0])), (ru, .inr (1, [.int 0, .ref de, .int 0])), (sh, .inr (1, [.int 0, .ref de, .int 0])), (sp, .inl (cP, 6, .inr (.inr (.inr (.inr (fun _ => none)))))), (ga, .inr (5, [.ref gpl, .ref gin, .int (-1), .int 0, .int 112, .int 0])), (bo, .inr (2, [.ref fa, .ref bbe, .ref bdi, .int 0, .int 0])), (fa, .inl (cI, 96, .inl (fun _ => 0)))]) [0, 1, 2, 3, 4, 5, 6, 7] rfl
  have hDc := hD.sub (ws' := [(ox, .inr (13, [.ref pl, .ref ru, .ref sh, .ref sp, .ref sl, .ref gr, .ref re, .ref pr, .ref ga, .ref rp, .ref bo, .int 0])), (pl, .inr (1, [.int 0, .ref de, .int 0])), (ru, .inr (1, [.int 0, .ref de, .int 0])), (sh, .inr (1, [.int 0, .ref de, .int 0])), (sp, .inl (cP, 6, .inr (.inr (.inr (.inr (fun _ => none)))))), (ga, .inr (5, [.ref gpl, .ref gin, .int (-1), .int 0, .int 112, .int 0])), (bo, .inr (2, [.ref fa, .ref bbe, .ref bdi, .int 0, .int 0])), (fa, .inl (cI, 96, .inl (fun _ => 0)))]) [0, 1, 2, 3, 4, 5, 6, 7] (by decide) rfl
  have hKc := hK.sub (tys' := [(cP, .object "Levelsmith$Player"), (cI, .int)]) [0, 1] rfl
  have hFc := va_free (wc := [(ox, .inr (13, [.ref pl, .ref ru, .ref sh, .ref sp, .ref sl, .ref gr, .ref re, .ref pr, .ref ga, .ref rp, .ref bo, .int 0])), (pl, .inr (1, [.int 0, .ref de, .int 0])), (ru, .inr (1, [.int 0, .ref de, .int 0])), (sh, .inr (1, [.int 0, .ref de, .int 0])), (sp, .inl (cP, 6, .inr (.inr (.inr (.inr (fun _ => none)))))), (ga, .inr (5, [.ref gpl, .ref gin, .int (-1), .int 0, .int 112, .int 0])), (bo, .inr (2, [.ref fa, .ref bbe, .ref bdi, .int 0, .int 0])), (fa, .inl (cI, 96, .inl (fun _ => 0)))]) hD hS hA [0, 1, 2, 3, 4, 5, 6, 7] rfl
  refine vx_callq (vx_runV (As := [.int a1]) (rest := []) ⟨hx, hb, hml, hown, ht⟩ (c_X11_planAt l hlt dC dI de (ox) (pl) (ru) (sh) (sp) (sl) (gr) (re) (pr) (ga) (rp) (bo) (fa) (gpl) (gin) (bbe) (bdi) (cP) (cI) (a1) s.heap.size) (cwV 1 ht (gWV (wr_19 _ (List.mem_of_getElem? (i := 0) rfl)) (wr_19 _ (List.mem_of_getElem? (i := 1) rfl)) (wr_19 _ (List.mem_of_getElem? (i := 2) rfl)) (wr_1 _ (List.mem_of_getElem? (i := 2) rfl)) (wr_19 _ (List.mem_of_getElem? (i := 3) rfl))) rfl rfl rfl (by decide +kernel) ⟨Nat.le_of_ble_eq_true rfl, Nat.le_of_ble_eq_true rfl⟩) ⟨PW_blind, va_recv hKc hPc (ci := 13) (q0 := 0) rfl rfl, PW_call hPc hDc hKc hS hG hFc⟩ rfl rfl hl.1 rfl (lv_room (Nat.le_of_ble_eq_true rfl)) dX11_play_2 ⟨Nat.le_of_ble_eq_true rfl, Nat.le_of_ble_eq_true rfl⟩) hS (fun q _ h => hFc q h) hFc (fun q _ h => hFc q h) (fun E ce q9 u t H1 locs1 ht9 hvm9 _ hR9 hz9 hk9 hS9 hc9 hv9 hcl9 => ?_) (fun r_2 u t H1 locs ht9 hvm hw hB hz1 hk1 hS => False.elim hw)
  exact vx_out (fun x hx => (hex x hx).elim) hlocks hc9 hv9 hcl9 (fun t9 e9 _ => XX_out hR9 hS9 e9) hS9.2.2 (Nat.le_of_ble_eq_true rfl) (Nat.le_of_ble_eq_true rfl)
set_option maxHeartbeats 4000000 in
set_option maxRecDepth 100000 in
theorem c_X11_length (l : Launch) (hlt : l.stackTraces = false) (dC : Nat → ClassId) (dI : Nat → Nat → Nat) (de : Nat) (ox : Nat) (pl : Nat) (ru : Nat) (sh : Nat) (sp : Nat) (sl : Nat) (gr : Nat) (re : Nat) (pr : Nat) (ga : Nat) (rp : Nat) (bo : Nat) (fa : Nat) (gpl : Nat) (gin : Nat) (bbe : Nat) (bdi : Nat) (cP : ClassId) (cI : ClassId) (a1 : Int32) (sz : Nat) : vx_Met l yX11_length (.code yX11_length cX11_length 2 (some .int) :: wsL_law) { frames := 7, cells := 1, slots := 6, locals := 111 } (va_Pc [.ref ox, .int a1] (PW dC dI de [(cP, .object "Levelsmith$Player"), (cI, .int)] (WX ox pl ru sh sp sl gr re pr ga rp bo fa gpl gin bbe bdi cP cI de) sz)) (va_Qi (fun (_ : Int32) (_ : Unit) => False) (fun (_ : Unit) (_ : State) => True) (va_A (WX ox pl ru sh sp sl gr re pr ga rp bo fa gpl gin bbe bdi cP cI de) sz)) (XX (fun E => E = "java/lang/IndexOutOfBoundsException") (va_A (WX ox pl ru sh sp sl gr re pr ga rp bo fa gpl gin bbe bdi cP cI de) sz)) 1 6 (va_A (WX ox pl ru sh sp sl gr re pr ga rp bo fa gpl gin bbe bdi cP cI de) sz) := by
  refine vx_ofW (cc := cX11_length) (maxL := 2) (ret := (some .int)) (by decide) rfl ?_
  intro p e s m args below meth c s₁ B hml hex hv
  obtain ⟨rfl, hsz, hP, hK, hD0, hG⟩ := hv
  have hx := B.exec
  have hb := B.bytes
  have hr := B.returns
  have hts := atoms_spec (ws := .code yX11_length cX11_length 2 (some .int) :: wsL_law) B.pre
  have ht : ∀ w ∈ wsL_law, w.before _ s = true := fun w h => hts w (List.mem_cons_of_mem _ h)
  have hown : s.vm.findClass RX11 = some m.cls := findClass_of_methodNamed B.named
  have hlocks := B.notSynchronized
  subst hsz
  have hD := hD0.self (sz := s.heap.size)
  generalize hAe : va_A (WX ox pl ru sh sp sl gr re pr ga rp bo fa gpl gin bbe bdi cP cI de) s.heap.size = A at hD hG ⊢
  have hA : ∀ q : Nat, s.heap.size ≤ q → A q := fun q h => by rw [← hAe]; exact Or.inr h
  have hS : va_S A s.heap s.heap [] := va_S.rf
  have hP : va_P (dC, dI) vwCl [(ox, .inr (13, [.ref pl, .ref ru, .ref sh, .ref sp, .ref sl, .ref gr, .ref re, .ref pr, .ref ga, .ref rp, .ref bo, .int 0])), (pl, .inr (1, [.int 0, .ref de, .int 0])), (ru, .inr (1, [.int 0, .ref de, .int 0])), (sh, .inr (1, [.int 0, .ref de, .int 0])), (sp, .inl (cP, 6, .inr (.inr (.inr (.inr (fun _ => none)))))), (ga, .inr (5, [.ref gpl, .ref gin, .int (-1), .int 0, .int 112, .int 0])), (bo, .inr (2, [.ref fa, .ref bbe, .ref bdi, .int 0, .int 0])), (fa, .inl (cI, 96, .inl (fun _ => 0)))] s.heap := hP
  have hD : va_D A [(ox, .inr (13, [.ref pl, .ref ru, .ref sh, .ref sp, .ref sl, .ref gr, .ref re, .ref pr, .ref ga, .ref rp, .ref bo, .int 0])), (pl, .inr (1, [.int 0, .ref de, .int 0])), (ru, .inr (1, [.int 0, .ref de, .int 0])), (sh, .inr (1, [.int 0, .ref de, .int 0])), (sp, .inl (cP, 6, .inr (.inr (.inr (.inr (fun _ => none)))))), (ga, .inr (5, [.ref gpl, .ref gin, .int (-1), .int 0, .int 112, .int 0])), (bo, .inr (2, [.ref fa, .ref bbe, .ref bdi, .int 0, .int 0])), (fa, .inl (cI, 96, .inl (fun _ => 0)))] := hD
  have hl := lv_entry ([.ref ox, .int a1]) (n := 2) (Nat.le_of_ble_eq_true rfl)
  rw [lg_entry_eq]
  generalize (lg_sl ([.ref ox, .int a1]) ++ List.replicate (2 - (lg_sl ([.ref ox, .int a1])).length) Slot.unset).toArray = ls at hl ⊢
  have hl : lv_has ls 2 [(0, .ref ox), (1, .int a1)] := hl
  refine lv_aload_n hx hb dX11_length_0 rfl (lv_at hl 0 rfl) ?_
  refine lv_iload_n hx hb dX11_length_1 rfl (lv_at hl 1 rfl) ?_
  have hPc := hP.sub (ws' := [(ox, .inr (13, [.ref pl, .ref ru, .ref sh, .ref sp, .ref sl, .ref gr, .ref re, .ref pr, .ref ga, .ref rp, .ref bo, .int 0])), (pl, .inr (1, [.int 0, .ref de, .int 0])), (ru, .inr (1, [.int 0, .ref de, .int 0])), (sh, .inr (1, [.int 0, .ref de, .int 0])), (sp, .inl (cP, 6, .inr (.inr (.inr (.inr (fun _ => none)))))), (ga, .inr (5, [.ref gpl, .ref gin, .int (-1), .int 0, .int 112, .int 0])), (bo, .inr (2, [.ref fa, .ref bbe, .ref bdi, .int 0, .int 0])), (fa, .inl (cI, 96, .inl (fun _ => 0)))]) [0, 1, 2, 3, 4, 5, 6, 7] rfl
  have hDc := hD.sub (ws' := [(ox, .inr (13, [.ref pl, .ref ru, .ref sh, .ref sp, .ref sl, .ref gr, .ref re, .ref pr, .ref ga, .ref rp, .ref bo, .int 0])), (pl, .inr (1, [.int 0, .ref de, .int 0])), (ru, .inr (1, [.int 0, .ref de, .int 0])), (sh, .inr (1, [.int 0, .ref de, .int 0])), (sp, .inl (cP, 6, .inr (.inr (.inr (.inr (fun _ => none)))))), (ga, .inr (5, [.ref gpl, .ref gin, .int (-1), .int 0, .int 112, .int 0])), (bo, .inr (2, [.ref fa, .ref bbe, .ref bdi, .int 0, .int 0])), (fa, .inl (cI, 96, .inl (fun _ => 0)))]) [0, 1, 2, 3, 4, 5, 6, 7] (by decide) rfl
  have hKc := hK.sub (tys' := [(cP, .object "Levelsmith$Player"), (cI, .int)]) [0, 1] rfl
  have hFc := va_free (wc := [(ox, .inr (13, [.ref pl, .ref ru, .ref sh, .ref sp, .ref sl, .ref gr, .ref re, .ref pr, .ref ga, .ref rp, .ref bo, .int 0])), (pl, .inr (1, [.int 0, .ref de, .int 0])), (ru, .inr (1, [.int 0, .ref de, .int 0])), (sh, .inr (1, [.int 0, .ref de, .int 0])), (sp, .inl (cP, 6, .inr (.inr (.inr (.inr (fun _ => none)))))), (ga, .inr (5, [.ref gpl, .ref gin, .int (-1), .int 0, .int 112, .int 0])), (bo, .inr (2, [.ref fa, .ref bbe, .ref bdi, .int 0, .int 0])), (fa, .inl (cI, 96, .inl (fun _ => 0)))]) hD hS hA [0, 1, 2, 3, 4, 5, 6, 7] rfl
  refine vx_callq (vx_runV (As := [.int a1]) (rest := []) ⟨hx, hb, hml, hown, ht⟩ (c_X11_runAt l hlt dC dI de (ox) (pl) (ru) (sh) (sp) (sl) (gr) (re) (pr) (ga) (rp) (bo) (fa) (gpl) (gin) (bbe) (bdi) (cP) (cI) (a1) s.heap.size) (cwV 1 ht (gWV (wr_59 _ (List.mem_of_getElem? (i := 13) rfl)) (wr_59 _ (List.mem_of_getElem? (i := 14) rfl)) (wr_59 _ (List.mem_of_getElem? (i := 15) rfl)) (wr_1 _ (List.mem_of_getElem? (i := 2) rfl)) (wr_59 _ (List.mem_of_getElem? (i := 16) rfl))) rfl rfl rfl (by decide +kernel) ⟨Nat.le_of_ble_eq_true rfl, Nat.le_of_ble_eq_true rfl⟩) ⟨PW_blind, va_recv hKc hPc (ci := 13) (q0 := 0) rfl rfl, PW_call hPc hDc hKc hS hG hFc⟩ rfl rfl hl.1 rfl (lv_room (Nat.le_of_ble_eq_true rfl)) dX11_length_2 ⟨Nat.le_of_ble_eq_true rfl, Nat.le_of_ble_eq_true rfl⟩) hS (fun q _ h => hFc q h) hFc (fun q _ h => hFc q h) (fun E ce q9 u t H1 locs1 ht9 hvm9 _ hR9 hz9 hk9 hS9 hc9 hv9 hcl9 => ?_) (fun r_2 u t H1 locs ht9 hvm hw hB hz1 hk1 hS => False.elim hw)
  exact vx_out (fun x hx => (hex x hx).elim) hlocks hc9 hv9 hcl9 (fun t9 e9 _ => XX_out hR9 hS9 e9) hS9.2.2 (Nat.le_of_ble_eq_true rfl) (Nat.le_of_ble_eq_true rfl)
set_option maxHeartbeats 4000000 in
set_option maxRecDepth 100000 in
theorem c_X11_replay (l : Launch) (hlt : l.stackTraces = false) (dC : Nat → ClassId) (dI : Nat → Nat → Nat) (de : Nat) (ox : Nat) (pl : Nat) (ru : Nat) (sh : Nat) (sp : Nat) (sl : Nat) (gr : Nat) (re : Nat) (pr : Nat) (ga : Nat) (rp : Nat) (bo : Nat) (fa : Nat) (gpl : Nat) (gin : Nat) (bbe : Nat) (bdi : Nat) (cP : ClassId) (cI : ClassId) (a1 : Int32) (sz : Nat) : vx_Met l yX11_replay (.code yX11_replay cX11_replay 3 (some .char) :: wsL_law) { frames := 7, cells := 1, slots := 6, locals := 111 } (va_Pc [.ref ox, .int a1] (PW dC dI de [(cP, .object "Levelsmith$Player"), (cI, .int)] (WX ox pl ru sh sp sl gr re pr ga rp bo fa gpl gin bbe bdi cP cI de) sz)) (va_Qi (fun (_ : Int32) (_ : Unit) => False) (fun (_ : Unit) (_ : State) => True) (va_A (WX ox pl ru sh sp sl gr re pr ga rp bo fa gpl gin bbe bdi cP cI de) sz)) (XX (fun E => E = "java/lang/IndexOutOfBoundsException") (va_A (WX ox pl ru sh sp sl gr re pr ga rp bo fa gpl gin bbe bdi cP cI de) sz)) 1 6 (va_A (WX ox pl ru sh sp sl gr re pr ga rp bo fa gpl gin bbe bdi cP cI de) sz) := by
  refine vx_ofW (cc := cX11_replay) (maxL := 3) (ret := (some .char)) (by decide) rfl ?_
  intro p e s m args below meth c s₁ B hml hex hv
  obtain ⟨rfl, hsz, hP, hK, hD0, hG⟩ := hv
  have hx := B.exec
  have hb := B.bytes
  have hr := B.returns
  have hts := atoms_spec (ws := .code yX11_replay cX11_replay 3 (some .char) :: wsL_law) B.pre
  have ht : ∀ w ∈ wsL_law, w.before _ s = true := fun w h => hts w (List.mem_cons_of_mem _ h)
  have hown : s.vm.findClass RX11 = some m.cls := findClass_of_methodNamed B.named
  have hlocks := B.notSynchronized
  subst hsz
  have hD := hD0.self (sz := s.heap.size)
  generalize hAe : va_A (WX ox pl ru sh sp sl gr re pr ga rp bo fa gpl gin bbe bdi cP cI de) s.heap.size = A at hD hG ⊢
  have hA : ∀ q : Nat, s.heap.size ≤ q → A q := fun q h => by rw [← hAe]; exact Or.inr h
  have hS : va_S A s.heap s.heap [] := va_S.rf
  have hP : va_P (dC, dI) vwCl [(ox, .inr (13, [.ref pl, .ref ru, .ref sh, .ref sp, .ref sl, .ref gr, .ref re, .ref pr, .ref ga, .ref rp, .ref bo, .int 0])), (pl, .inr (1, [.int 0, .ref de, .int 0])), (ru, .inr (1, [.int 0, .ref de, .int 0])), (sh, .inr (1, [.int 0, .ref de, .int 0])), (sp, .inl (cP, 6, .inr (.inr (.inr (.inr (fun _ => none)))))), (ga, .inr (5, [.ref gpl, .ref gin, .int (-1), .int 0, .int 112, .int 0])), (bo, .inr (2, [.ref fa, .ref bbe, .ref bdi, .int 0, .int 0])), (fa, .inl (cI, 96, .inl (fun _ => 0)))] s.heap := hP
  have hD : va_D A [(ox, .inr (13, [.ref pl, .ref ru, .ref sh, .ref sp, .ref sl, .ref gr, .ref re, .ref pr, .ref ga, .ref rp, .ref bo, .int 0])), (pl, .inr (1, [.int 0, .ref de, .int 0])), (ru, .inr (1, [.int 0, .ref de, .int 0])), (sh, .inr (1, [.int 0, .ref de, .int 0])), (sp, .inl (cP, 6, .inr (.inr (.inr (.inr (fun _ => none)))))), (ga, .inr (5, [.ref gpl, .ref gin, .int (-1), .int 0, .int 112, .int 0])), (bo, .inr (2, [.ref fa, .ref bbe, .ref bdi, .int 0, .int 0])), (fa, .inl (cI, 96, .inl (fun _ => 0)))] := hD
  have hl := lv_entry ([.ref ox, .int a1]) (n := 3) (Nat.le_of_ble_eq_true rfl)
  rw [lg_entry_eq]
  generalize (lg_sl ([.ref ox, .int a1]) ++ List.replicate (3 - (lg_sl ([.ref ox, .int a1])).length) Slot.unset).toArray = ls at hl ⊢
  have hl : lv_has ls 3 [(0, .ref ox), (1, .int a1)] := hl
  refine lv_aload_n hx hb dX11_replay_0 rfl (lv_at hl 0 rfl) ?_
  refine lv_iload_n hx hb dX11_replay_1 rfl (lv_at hl 1 rfl) ?_
  have hPc := hP.sub (ws' := [(ox, .inr (13, [.ref pl, .ref ru, .ref sh, .ref sp, .ref sl, .ref gr, .ref re, .ref pr, .ref ga, .ref rp, .ref bo, .int 0])), (pl, .inr (1, [.int 0, .ref de, .int 0])), (ru, .inr (1, [.int 0, .ref de, .int 0])), (sh, .inr (1, [.int 0, .ref de, .int 0])), (sp, .inl (cP, 6, .inr (.inr (.inr (.inr (fun _ => none)))))), (ga, .inr (5, [.ref gpl, .ref gin, .int (-1), .int 0, .int 112, .int 0])), (bo, .inr (2, [.ref fa, .ref bbe, .ref bdi, .int 0, .int 0])), (fa, .inl (cI, 96, .inl (fun _ => 0)))]) [0, 1, 2, 3, 4, 5, 6, 7] rfl
  have hDc := hD.sub (ws' := [(ox, .inr (13, [.ref pl, .ref ru, .ref sh, .ref sp, .ref sl, .ref gr, .ref re, .ref pr, .ref ga, .ref rp, .ref bo, .int 0])), (pl, .inr (1, [.int 0, .ref de, .int 0])), (ru, .inr (1, [.int 0, .ref de, .int 0])), (sh, .inr (1, [.int 0, .ref de, .int 0])), (sp, .inl (cP, 6, .inr (.inr (.inr (.inr (fun _ => none)))))), (ga, .inr (5, [.ref gpl, .ref gin, .int (-1), .int 0, .int 112, .int 0])), (bo, .inr (2, [.ref fa, .ref bbe, .ref bdi, .int 0, .int 0])), (fa, .inl (cI, 96, .inl (fun _ => 0)))]) [0, 1, 2, 3, 4, 5, 6, 7] (by decide) rfl
  have hKc := hK.sub (tys' := [(cP, .object "Levelsmith$Player"), (cI, .int)]) [0, 1] rfl
  have hFc := va_free (wc := [(ox, .inr (13, [.ref pl, .ref ru, .ref sh, .ref sp, .ref sl, .ref gr, .ref re, .ref pr, .ref ga, .ref rp, .ref bo, .int 0])), (pl, .inr (1, [.int 0, .ref de, .int 0])), (ru, .inr (1, [.int 0, .ref de, .int 0])), (sh, .inr (1, [.int 0, .ref de, .int 0])), (sp, .inl (cP, 6, .inr (.inr (.inr (.inr (fun _ => none)))))), (ga, .inr (5, [.ref gpl, .ref gin, .int (-1), .int 0, .int 112, .int 0])), (bo, .inr (2, [.ref fa, .ref bbe, .ref bdi, .int 0, .int 0])), (fa, .inl (cI, 96, .inl (fun _ => 0)))]) hD hS hA [0, 1, 2, 3, 4, 5, 6, 7] rfl
  refine vx_callq (vx_runV (As := [.int a1]) (rest := []) ⟨hx, hb, hml, hown, ht⟩ (c_X11_runAt l hlt dC dI de (ox) (pl) (ru) (sh) (sp) (sl) (gr) (re) (pr) (ga) (rp) (bo) (fa) (gpl) (gin) (bbe) (bdi) (cP) (cI) (a1) s.heap.size) (cwV 1 ht (gWV (wr_59 _ (List.mem_of_getElem? (i := 13) rfl)) (wr_59 _ (List.mem_of_getElem? (i := 14) rfl)) (wr_59 _ (List.mem_of_getElem? (i := 15) rfl)) (wr_1 _ (List.mem_of_getElem? (i := 2) rfl)) (wr_59 _ (List.mem_of_getElem? (i := 16) rfl))) rfl rfl rfl (by decide +kernel) ⟨Nat.le_of_ble_eq_true rfl, Nat.le_of_ble_eq_true rfl⟩) ⟨PW_blind, va_recv hKc hPc (ci := 13) (q0 := 0) rfl rfl, PW_call hPc hDc hKc hS hG hFc⟩ rfl rfl hl.1 rfl (lv_room (Nat.le_of_ble_eq_true rfl)) dX11_replay_2 ⟨Nat.le_of_ble_eq_true rfl, Nat.le_of_ble_eq_true rfl⟩) hS (fun q _ h => hFc q h) hFc (fun q _ h => hFc q h) (fun E ce q9 u t H1 locs1 ht9 hvm9 _ hR9 hz9 hk9 hS9 hc9 hv9 hcl9 => ?_) (fun r_2 u t H1 locs ht9 hvm hw hB hz1 hk1 hS => False.elim hw)
  exact vx_out (fun x hx => (hex x hx).elim) hlocks hc9 hv9 hcl9 (fun t9 e9 _ => XX_out hR9 hS9 e9) hS9.2.2 (Nat.le_of_ble_eq_true rfl) (Nat.le_of_ble_eq_true rfl)
set_option maxHeartbeats 4000000 in
set_option maxRecDepth 100000 in
theorem c_X11_isTrue (l : Launch) (hlt : l.stackTraces = false) (dC : Nat → ClassId) (dI : Nat → Nat → Nat) (de : Nat) (ox : Nat) (pl : Nat) (ru : Nat) (sh : Nat) (sp : Nat) (sl : Nat) (gr : Nat) (re : Nat) (pr : Nat) (ga : Nat) (rp : Nat) (bo : Nat) (fa : Nat) (gpl : Nat) (gin : Nat) (bbe : Nat) (bdi : Nat) (cP : ClassId) (cI : ClassId) (a1 : Int32) (sz : Nat) : vx_Met l yX11_isTrue (.code yX11_isTrue cX11_isTrue 3 (some .boolean) :: wsL_law) { frames := 7, cells := 1, slots := 6, locals := 111 } (va_Pc [.ref ox, .int a1] (PW dC dI de [(cP, .object "Levelsmith$Player"), (cI, .int)] (WX ox pl ru sh sp sl gr re pr ga rp bo fa gpl gin bbe bdi cP cI de) sz)) (va_Qi (fun (_ : Int32) (_ : Unit) => False) (fun (_ : Unit) (_ : State) => True) (va_A (WX ox pl ru sh sp sl gr re pr ga rp bo fa gpl gin bbe bdi cP cI de) sz)) (XX (fun E => E = "java/lang/IndexOutOfBoundsException") (va_A (WX ox pl ru sh sp sl gr re pr ga rp bo fa gpl gin bbe bdi cP cI de) sz)) 1 6 (va_A (WX ox pl ru sh sp sl gr re pr ga rp bo fa gpl gin bbe bdi cP cI de) sz) := by
  refine vx_ofW (cc := cX11_isTrue) (maxL := 3) (ret := (some .boolean)) (by decide) rfl ?_
  intro p e s m args below meth c s₁ B hml hex hv
  obtain ⟨rfl, hsz, hP, hK, hD0, hG⟩ := hv
  have hx := B.exec
  have hb := B.bytes
  have hr := B.returns
  have hts := atoms_spec (ws := .code yX11_isTrue cX11_isTrue 3 (some .boolean) :: wsL_law) B.pre
  have ht : ∀ w ∈ wsL_law, w.before _ s = true := fun w h => hts w (List.mem_cons_of_mem _ h)
  have hown : s.vm.findClass RX11 = some m.cls := findClass_of_methodNamed B.named
  have hlocks := B.notSynchronized
  subst hsz
  have hD := hD0.self (sz := s.heap.size)
  generalize hAe : va_A (WX ox pl ru sh sp sl gr re pr ga rp bo fa gpl gin bbe bdi cP cI de) s.heap.size = A at hD hG ⊢
  have hA : ∀ q : Nat, s.heap.size ≤ q → A q := fun q h => by rw [← hAe]; exact Or.inr h
  have hS : va_S A s.heap s.heap [] := va_S.rf
  have hP : va_P (dC, dI) vwCl [(ox, .inr (13, [.ref pl, .ref ru, .ref sh, .ref sp, .ref sl, .ref gr, .ref re, .ref pr, .ref ga, .ref rp, .ref bo, .int 0])), (pl, .inr (1, [.int 0, .ref de, .int 0])), (ru, .inr (1, [.int 0, .ref de, .int 0])), (sh, .inr (1, [.int 0, .ref de, .int 0])), (sp, .inl (cP, 6, .inr (.inr (.inr (.inr (fun _ => none)))))), (ga, .inr (5, [.ref gpl, .ref gin, .int (-1), .int 0, .int 112, .int 0])), (bo, .inr (2, [.ref fa, .ref bbe, .ref bdi, .int 0, .int 0])), (fa, .inl (cI, 96, .inl (fun _ => 0)))] s.heap := hP
  have hD : va_D A [(ox, .inr (13, [.ref pl, .ref ru, .ref sh, .ref sp, .ref sl, .ref gr, .ref re, .ref pr, .ref ga, .ref rp, .ref bo, .int 0])), (pl, .inr (1, [.int 0, .ref de, .int 0])), (ru, .inr (1, [.int 0, .ref de, .int 0])), (sh, .inr (1, [.int 0, .ref de, .int 0])), (sp, .inl (cP, 6, .inr (.inr (.inr (.inr (fun _ => none)))))), (ga, .inr (5, [.ref gpl, .ref gin, .int (-1), .int 0, .int 112, .int 0])), (bo, .inr (2, [.ref fa, .ref bbe, .ref bdi, .int 0, .int 0])), (fa, .inl (cI, 96, .inl (fun _ => 0)))] := hD
  have hl := lv_entry ([.ref ox, .int a1]) (n := 3) (Nat.le_of_ble_eq_true rfl)
  rw [lg_entry_eq]
  generalize (lg_sl ([.ref ox, .int a1]) ++ List.replicate (3 - (lg_sl ([.ref ox, .int a1])).length) Slot.unset).toArray = ls at hl ⊢
  have hl : lv_has ls 3 [(0, .ref ox), (1, .int a1)] := hl
  refine lv_aload_n hx hb dX11_isTrue_0 rfl (lv_at hl 0 rfl) ?_
  refine lv_iload_n hx hb dX11_isTrue_1 rfl (lv_at hl 1 rfl) ?_
  have hPc := hP.sub (ws' := [(ox, .inr (13, [.ref pl, .ref ru, .ref sh, .ref sp, .ref sl, .ref gr, .ref re, .ref pr, .ref ga, .ref rp, .ref bo, .int 0])), (pl, .inr (1, [.int 0, .ref de, .int 0])), (ru, .inr (1, [.int 0, .ref de, .int 0])), (sh, .inr (1, [.int 0, .ref de, .int 0])), (sp, .inl (cP, 6, .inr (.inr (.inr (.inr (fun _ => none)))))), (ga, .inr (5, [.ref gpl, .ref gin, .int (-1), .int 0, .int 112, .int 0])), (bo, .inr (2, [.ref fa, .ref bbe, .ref bdi, .int 0, .int 0])), (fa, .inl (cI, 96, .inl (fun _ => 0)))]) [0, 1, 2, 3, 4, 5, 6, 7] rfl
  have hDc := hD.sub (ws' := [(ox, .inr (13, [.ref pl, .ref ru, .ref sh, .ref sp, .ref sl, .ref gr, .ref re, .ref pr, .ref ga, .ref rp, .ref bo, .int 0])), (pl, .inr (1, [.int 0, .ref de, .int 0])), (ru, .inr (1, [.int 0, .ref de, .int 0])), (sh, .inr (1, [.int 0, .ref de, .int 0])), (sp, .inl (cP, 6, .inr (.inr (.inr (.inr (fun _ => none)))))), (ga, .inr (5, [.ref gpl, .ref gin, .int (-1), .int 0, .int 112, .int 0])), (bo, .inr (2, [.ref fa, .ref bbe, .ref bdi, .int 0, .int 0])), (fa, .inl (cI, 96, .inl (fun _ => 0)))]) [0, 1, 2, 3, 4, 5, 6, 7] (by decide) rfl
  have hKc := hK.sub (tys' := [(cP, .object "Levelsmith$Player"), (cI, .int)]) [0, 1] rfl
  have hFc := va_free (wc := [(ox, .inr (13, [.ref pl, .ref ru, .ref sh, .ref sp, .ref sl, .ref gr, .ref re, .ref pr, .ref ga, .ref rp, .ref bo, .int 0])), (pl, .inr (1, [.int 0, .ref de, .int 0])), (ru, .inr (1, [.int 0, .ref de, .int 0])), (sh, .inr (1, [.int 0, .ref de, .int 0])), (sp, .inl (cP, 6, .inr (.inr (.inr (.inr (fun _ => none)))))), (ga, .inr (5, [.ref gpl, .ref gin, .int (-1), .int 0, .int 112, .int 0])), (bo, .inr (2, [.ref fa, .ref bbe, .ref bdi, .int 0, .int 0])), (fa, .inl (cI, 96, .inl (fun _ => 0)))]) hD hS hA [0, 1, 2, 3, 4, 5, 6, 7] rfl
  refine vx_callq (vx_runV (As := [.int a1]) (rest := []) ⟨hx, hb, hml, hown, ht⟩ (c_X11_runAt l hlt dC dI de (ox) (pl) (ru) (sh) (sp) (sl) (gr) (re) (pr) (ga) (rp) (bo) (fa) (gpl) (gin) (bbe) (bdi) (cP) (cI) (a1) s.heap.size) (cwV 1 ht (gWV (wr_59 _ (List.mem_of_getElem? (i := 13) rfl)) (wr_59 _ (List.mem_of_getElem? (i := 14) rfl)) (wr_59 _ (List.mem_of_getElem? (i := 15) rfl)) (wr_1 _ (List.mem_of_getElem? (i := 2) rfl)) (wr_59 _ (List.mem_of_getElem? (i := 16) rfl))) rfl rfl rfl (by decide +kernel) ⟨Nat.le_of_ble_eq_true rfl, Nat.le_of_ble_eq_true rfl⟩) ⟨PW_blind, va_recv hKc hPc (ci := 13) (q0 := 0) rfl rfl, PW_call hPc hDc hKc hS hG hFc⟩ rfl rfl hl.1 rfl (lv_room (Nat.le_of_ble_eq_true rfl)) dX11_isTrue_2 ⟨Nat.le_of_ble_eq_true rfl, Nat.le_of_ble_eq_true rfl⟩) hS (fun q _ h => hFc q h) hFc (fun q _ h => hFc q h) (fun E ce q9 u t H1 locs1 ht9 hvm9 _ hR9 hz9 hk9 hS9 hc9 hv9 hcl9 => ?_) (fun r_2 u t H1 locs ht9 hvm hw hB hz1 hk1 hS => False.elim hw)
  exact vx_out (fun x hx => (hex x hx).elim) hlocks hc9 hv9 hcl9 (fun t9 e9 _ => XX_out hR9 hS9 e9) hS9.2.2 (Nat.le_of_ble_eq_true rfl) (Nat.le_of_ble_eq_true rfl)
set_option maxHeartbeats 4000000 in
set_option maxRecDepth 100000 in
theorem c_X11_isPatched (l : Launch) (hlt : l.stackTraces = false) (dC : Nat → ClassId) (dI : Nat → Nat → Nat) (de : Nat) (ox : Nat) (pl : Nat) (ru : Nat) (sh : Nat) (sp : Nat) (sl : Nat) (gr : Nat) (re : Nat) (pr : Nat) (ga : Nat) (rp : Nat) (bo : Nat) (fa : Nat) (gpl : Nat) (gin : Nat) (bbe : Nat) (bdi : Nat) (cP : ClassId) (cI : ClassId) (a1 : Int32) (sz : Nat) : vx_Met l yX11_isPatched (.code yX11_isPatched cX11_isPatched 3 (some .boolean) :: wsL_law) { frames := 7, cells := 1, slots := 6, locals := 111 } (va_Pc [.ref ox, .int a1] (PW dC dI de [(cP, .object "Levelsmith$Player"), (cI, .int)] (WX ox pl ru sh sp sl gr re pr ga rp bo fa gpl gin bbe bdi cP cI de) sz)) (va_Qi (fun (_ : Int32) (_ : Unit) => False) (fun (_ : Unit) (_ : State) => True) (va_A (WX ox pl ru sh sp sl gr re pr ga rp bo fa gpl gin bbe bdi cP cI de) sz)) (XX (fun E => E = "java/lang/IndexOutOfBoundsException") (va_A (WX ox pl ru sh sp sl gr re pr ga rp bo fa gpl gin bbe bdi cP cI de) sz)) 1 6 (va_A (WX ox pl ru sh sp sl gr re pr ga rp bo fa gpl gin bbe bdi cP cI de) sz) := by
  refine vx_ofW (cc := cX11_isPatched) (maxL := 3) (ret := (some .boolean)) (by decide) rfl ?_
  intro p e s m args below meth c s₁ B hml hex hv
  obtain ⟨rfl, hsz, hP, hK, hD0, hG⟩ := hv
  have hx := B.exec
  have hb := B.bytes
  have hr := B.returns
  have hts := atoms_spec (ws := .code yX11_isPatched cX11_isPatched 3 (some .boolean) :: wsL_law) B.pre
  have ht : ∀ w ∈ wsL_law, w.before _ s = true := fun w h => hts w (List.mem_cons_of_mem _ h)
  have hown : s.vm.findClass RX11 = some m.cls := findClass_of_methodNamed B.named
  have hlocks := B.notSynchronized
  subst hsz
  have hD := hD0.self (sz := s.heap.size)
  generalize hAe : va_A (WX ox pl ru sh sp sl gr re pr ga rp bo fa gpl gin bbe bdi cP cI de) s.heap.size = A at hD hG ⊢
  have hA : ∀ q : Nat, s.heap.size ≤ q → A q := fun q h => by rw [← hAe]; exact Or.inr h
  have hS : va_S A s.heap s.heap [] := va_S.rf
  have hP : va_P (dC, dI) vwCl [(ox, .inr (13, [.ref pl, .ref ru, .ref sh, .ref sp, .ref sl, .ref gr, .ref re, .ref pr, .ref ga, .ref rp, .ref bo, .int 0])), (pl, .inr (1, [.int 0, .ref de, .int 0])), (ru, .inr (1, [.int 0, .ref de, .int 0])), (sh, .inr (1, [.int 0, .ref de, .int 0])), (sp, .inl (cP, 6, .inr (.inr (.inr (.inr (fun _ => none)))))), (ga, .inr (5, [.ref gpl, .ref gin, .int (-1), .int 0, .int 112, .int 0])), (bo, .inr (2, [.ref fa, .ref bbe, .ref bdi, .int 0, .int 0])), (fa, .inl (cI, 96, .inl (fun _ => 0)))] s.heap := hP
  have hD : va_D A [(ox, .inr (13, [.ref pl, .ref ru, .ref sh, .ref sp, .ref sl, .ref gr, .ref re, .ref pr, .ref ga, .ref rp, .ref bo, .int 0])), (pl, .inr (1, [.int 0, .ref de, .int 0])), (ru, .inr (1, [.int 0, .ref de, .int 0])), (sh, .inr (1, [.int 0, .ref de, .int 0])), (sp, .inl (cP, 6, .inr (.inr (.inr (.inr (fun _ => none)))))), (ga, .inr (5, [.ref gpl, .ref gin, .int (-1), .int 0, .int 112, .int 0])), (bo, .inr (2, [.ref fa, .ref bbe, .ref bdi, .int 0, .int 0])), (fa, .inl (cI, 96, .inl (fun _ => 0)))] := hD
  have hl := lv_entry ([.ref ox, .int a1]) (n := 3) (Nat.le_of_ble_eq_true rfl)
  rw [lg_entry_eq]
  generalize (lg_sl ([.ref ox, .int a1]) ++ List.replicate (3 - (lg_sl ([.ref ox, .int a1])).length) Slot.unset).toArray = ls at hl ⊢
  have hl : lv_has ls 3 [(0, .ref ox), (1, .int a1)] := hl
  refine lv_aload_n hx hb dX11_isPatched_0 rfl (lv_at hl 0 rfl) ?_
  refine lv_iload_n hx hb dX11_isPatched_1 rfl (lv_at hl 1 rfl) ?_
  have hPc := hP.sub (ws' := [(ox, .inr (13, [.ref pl, .ref ru, .ref sh, .ref sp, .ref sl, .ref gr, .ref re, .ref pr, .ref ga, .ref rp, .ref bo, .int 0])), (pl, .inr (1, [.int 0, .ref de, .int 0])), (ru, .inr (1, [.int 0, .ref de, .int 0])), (sh, .inr (1, [.int 0, .ref de, .int 0])), (sp, .inl (cP, 6, .inr (.inr (.inr (.inr (fun _ => none)))))), (ga, .inr (5, [.ref gpl, .ref gin, .int (-1), .int 0, .int 112, .int 0])), (bo, .inr (2, [.ref fa, .ref bbe, .ref bdi, .int 0, .int 0])), (fa, .inl (cI, 96, .inl (fun _ => 0)))]) [0, 1, 2, 3, 4, 5, 6, 7] rfl
  have hDc := hD.sub (ws' := [(ox, .inr (13, [.ref pl, .ref ru, .ref sh, .ref sp, .ref sl, .ref gr, .ref re, .ref pr, .ref ga, .ref rp, .ref bo, .int 0])), (pl, .inr (1, [.int 0, .ref de, .int 0])), (ru, .inr (1, [.int 0, .ref de, .int 0])), (sh, .inr (1, [.int 0, .ref de, .int 0])), (sp, .inl (cP, 6, .inr (.inr (.inr (.inr (fun _ => none)))))), (ga, .inr (5, [.ref gpl, .ref gin, .int (-1), .int 0, .int 112, .int 0])), (bo, .inr (2, [.ref fa, .ref bbe, .ref bdi, .int 0, .int 0])), (fa, .inl (cI, 96, .inl (fun _ => 0)))]) [0, 1, 2, 3, 4, 5, 6, 7] (by decide) rfl
  have hKc := hK.sub (tys' := [(cP, .object "Levelsmith$Player"), (cI, .int)]) [0, 1] rfl
  have hFc := va_free (wc := [(ox, .inr (13, [.ref pl, .ref ru, .ref sh, .ref sp, .ref sl, .ref gr, .ref re, .ref pr, .ref ga, .ref rp, .ref bo, .int 0])), (pl, .inr (1, [.int 0, .ref de, .int 0])), (ru, .inr (1, [.int 0, .ref de, .int 0])), (sh, .inr (1, [.int 0, .ref de, .int 0])), (sp, .inl (cP, 6, .inr (.inr (.inr (.inr (fun _ => none)))))), (ga, .inr (5, [.ref gpl, .ref gin, .int (-1), .int 0, .int 112, .int 0])), (bo, .inr (2, [.ref fa, .ref bbe, .ref bdi, .int 0, .int 0])), (fa, .inl (cI, 96, .inl (fun _ => 0)))]) hD hS hA [0, 1, 2, 3, 4, 5, 6, 7] rfl
  refine vx_callq (vx_runV (As := [.int a1]) (rest := []) ⟨hx, hb, hml, hown, ht⟩ (c_X11_runAt l hlt dC dI de (ox) (pl) (ru) (sh) (sp) (sl) (gr) (re) (pr) (ga) (rp) (bo) (fa) (gpl) (gin) (bbe) (bdi) (cP) (cI) (a1) s.heap.size) (cwV 1 ht (gWV (wr_59 _ (List.mem_of_getElem? (i := 13) rfl)) (wr_59 _ (List.mem_of_getElem? (i := 14) rfl)) (wr_59 _ (List.mem_of_getElem? (i := 15) rfl)) (wr_1 _ (List.mem_of_getElem? (i := 2) rfl)) (wr_59 _ (List.mem_of_getElem? (i := 16) rfl))) rfl rfl rfl (by decide +kernel) ⟨Nat.le_of_ble_eq_true rfl, Nat.le_of_ble_eq_true rfl⟩) ⟨PW_blind, va_recv hKc hPc (ci := 13) (q0 := 0) rfl rfl, PW_call hPc hDc hKc hS hG hFc⟩ rfl rfl hl.1 rfl (lv_room (Nat.le_of_ble_eq_true rfl)) dX11_isPatched_2 ⟨Nat.le_of_ble_eq_true rfl, Nat.le_of_ble_eq_true rfl⟩) hS (fun q _ h => hFc q h) hFc (fun q _ h => hFc q h) (fun E ce q9 u t H1 locs1 ht9 hvm9 _ hR9 hz9 hk9 hS9 hc9 hv9 hcl9 => ?_) (fun r_2 u t H1 locs ht9 hvm hw hB hz1 hk1 hS => False.elim hw)
  exact vx_out (fun x hx => (hex x hx).elim) hlocks hc9 hv9 hcl9 (fun t9 e9 _ => XX_out hR9 hS9 e9) hS9.2.2 (Nat.le_of_ble_eq_true rfl) (Nat.le_of_ble_eq_true rfl)
set_option maxHeartbeats 4000000 in
set_option maxRecDepth 100000 in
theorem c_X11_ghost (l : Launch) (hlt : l.stackTraces = false) (dC : Nat → ClassId) (dI : Nat → Nat → Nat) (de : Nat) (ox : Nat) (pl : Nat) (ru : Nat) (sh : Nat) (sp : Nat) (sl : Nat) (gr : Nat) (re : Nat) (pr : Nat) (ga : Nat) (rp : Nat) (bo : Nat) (fa : Nat) (gpl : Nat) (gin : Nat) (bbe : Nat) (bdi : Nat) (cP : ClassId) (cI : ClassId) (a1 : Int32) (a2 : Int32) (a3 : Int32) (sz : Nat) : vx_Met l yX11_ghost (.code yX11_ghost cX11_ghost 5 (some .int) :: wsL_law) { frames := 7, cells := 1, slots := 6, locals := 111 } (va_Pc [.ref ox, .int a1, .int a2, .int a3] (PW dC dI de [(cP, .object "Levelsmith$Player"), (cI, .int)] (WX ox pl ru sh sp sl gr re pr ga rp bo fa gpl gin bbe bdi cP cI de) sz)) (va_Qi (fun (_ : Int32) (_ : Unit) => False) (fun (_ : Unit) (_ : State) => True) (va_A (WX ox pl ru sh sp sl gr re pr ga rp bo fa gpl gin bbe bdi cP cI de) sz)) (XX (fun E => E = "java/lang/IndexOutOfBoundsException") (va_A (WX ox pl ru sh sp sl gr re pr ga rp bo fa gpl gin bbe bdi cP cI de) sz)) 1 6 (va_A (WX ox pl ru sh sp sl gr re pr ga rp bo fa gpl gin bbe bdi cP cI de) sz) := by
  refine vx_ofW (cc := cX11_ghost) (maxL := 5) (ret := (some .int)) (by decide) rfl ?_
  intro p e s m args below meth c s₁ B hml hex hv
  obtain ⟨rfl, hsz, hP, hK, hD0, hG⟩ := hv
  have hx := B.exec
  have hb := B.bytes
  have hr := B.returns
  have hts := atoms_spec (ws := .code yX11_ghost cX11_ghost 5 (some .int) :: wsL_law) B.pre
  have ht : ∀ w ∈ wsL_law, w.before _ s = true := fun w h => hts w (List.mem_cons_of_mem _ h)
  have hown : s.vm.findClass RX11 = some m.cls := findClass_of_methodNamed B.named
  have hlocks := B.notSynchronized
  subst hsz
  have hD := hD0.self (sz := s.heap.size)
  generalize hAe : va_A (WX ox pl ru sh sp sl gr re pr ga rp bo fa gpl gin bbe bdi cP cI de) s.heap.size = A at hD hG ⊢
  have hA : ∀ q : Nat, s.heap.size ≤ q → A q := fun q h => by rw [← hAe]; exact Or.inr h
  have hS : va_S A s.heap s.heap [] := va_S.rf
  have hP : va_P (dC, dI) vwCl [(ox, .inr (13, [.ref pl, .ref ru, .ref sh, .ref sp, .ref sl, .ref gr, .ref re, .ref pr, .ref ga, .ref rp, .ref bo, .int 0])), (pl, .inr (1, [.int 0, .ref de, .int 0])), (ru, .inr (1, [.int 0, .ref de, .int 0])), (sh, .inr (1, [.int 0, .ref de, .int 0])), (sp, .inl (cP, 6, .inr (.inr (.inr (.inr (fun _ => none)))))), (ga, .inr (5, [.ref gpl, .ref gin, .int (-1), .int 0, .int 112, .int 0])), (bo, .inr (2, [.ref fa, .ref bbe, .ref bdi, .int 0, .int 0])), (fa, .inl (cI, 96, .inl (fun _ => 0)))] s.heap := hP
  have hD : va_D A [(ox, .inr (13, [.ref pl, .ref ru, .ref sh, .ref sp, .ref sl, .ref gr, .ref re, .ref pr, .ref ga, .ref rp, .ref bo, .int 0])), (pl, .inr (1, [.int 0, .ref de, .int 0])), (ru, .inr (1, [.int 0, .ref de, .int 0])), (sh, .inr (1, [.int 0, .ref de, .int 0])), (sp, .inl (cP, 6, .inr (.inr (.inr (.inr (fun _ => none)))))), (ga, .inr (5, [.ref gpl, .ref gin, .int (-1), .int 0, .int 112, .int 0])), (bo, .inr (2, [.ref fa, .ref bbe, .ref bdi, .int 0, .int 0])), (fa, .inl (cI, 96, .inl (fun _ => 0)))] := hD
  have hl := lv_entry ([.ref ox, .int a1, .int a2, .int a3]) (n := 5) (Nat.le_of_ble_eq_true rfl)
  rw [lg_entry_eq]
  generalize (lg_sl ([.ref ox, .int a1, .int a2, .int a3]) ++ List.replicate (5 - (lg_sl ([.ref ox, .int a1, .int a2, .int a3])).length) Slot.unset).toArray = ls at hl ⊢
  have hl : lv_has ls 5 [(0, .ref ox), (1, .int a1), (2, .int a2), (3, .int a3)] := hl
  refine lv_aload_n hx hb dX11_ghost_0 rfl (lv_at hl 0 rfl) ?_
  refine lv_iload_n hx hb dX11_ghost_1 rfl (lv_at hl 1 rfl) ?_
  have hPc := hP.sub (ws' := [(ox, .inr (13, [.ref pl, .ref ru, .ref sh, .ref sp, .ref sl, .ref gr, .ref re, .ref pr, .ref ga, .ref rp, .ref bo, .int 0])), (pl, .inr (1, [.int 0, .ref de, .int 0])), (ru, .inr (1, [.int 0, .ref de, .int 0])), (sh, .inr (1, [.int 0, .ref de, .int 0])), (sp, .inl (cP, 6, .inr (.inr (.inr (.inr (fun _ => none)))))), (ga, .inr (5, [.ref gpl, .ref gin, .int (-1), .int 0, .int 112, .int 0])), (bo, .inr (2, [.ref fa, .ref bbe, .ref bdi, .int 0, .int 0])), (fa, .inl (cI, 96, .inl (fun _ => 0)))]) [0, 1, 2, 3, 4, 5, 6, 7] rfl
  have hDc := hD.sub (ws' := [(ox, .inr (13, [.ref pl, .ref ru, .ref sh, .ref sp, .ref sl, .ref gr, .ref re, .ref pr, .ref ga, .ref rp, .ref bo, .int 0])), (pl, .inr (1, [.int 0, .ref de, .int 0])), (ru, .inr (1, [.int 0, .ref de, .int 0])), (sh, .inr (1, [.int 0, .ref de, .int 0])), (sp, .inl (cP, 6, .inr (.inr (.inr (.inr (fun _ => none)))))), (ga, .inr (5, [.ref gpl, .ref gin, .int (-1), .int 0, .int 112, .int 0])), (bo, .inr (2, [.ref fa, .ref bbe, .ref bdi, .int 0, .int 0])), (fa, .inl (cI, 96, .inl (fun _ => 0)))]) [0, 1, 2, 3, 4, 5, 6, 7] (by decide) rfl
  have hKc := hK.sub (tys' := [(cP, .object "Levelsmith$Player"), (cI, .int)]) [0, 1] rfl
  have hFc := va_free (wc := [(ox, .inr (13, [.ref pl, .ref ru, .ref sh, .ref sp, .ref sl, .ref gr, .ref re, .ref pr, .ref ga, .ref rp, .ref bo, .int 0])), (pl, .inr (1, [.int 0, .ref de, .int 0])), (ru, .inr (1, [.int 0, .ref de, .int 0])), (sh, .inr (1, [.int 0, .ref de, .int 0])), (sp, .inl (cP, 6, .inr (.inr (.inr (.inr (fun _ => none)))))), (ga, .inr (5, [.ref gpl, .ref gin, .int (-1), .int 0, .int 112, .int 0])), (bo, .inr (2, [.ref fa, .ref bbe, .ref bdi, .int 0, .int 0])), (fa, .inl (cI, 96, .inl (fun _ => 0)))]) hD hS hA [0, 1, 2, 3, 4, 5, 6, 7] rfl
  refine vx_callq (vx_runV (As := [.int a1]) (rest := []) ⟨hx, hb, hml, hown, ht⟩ (c_X11_runAt l hlt dC dI de (ox) (pl) (ru) (sh) (sp) (sl) (gr) (re) (pr) (ga) (rp) (bo) (fa) (gpl) (gin) (bbe) (bdi) (cP) (cI) (a1) s.heap.size) (cwV 1 ht (gWV (wr_59 _ (List.mem_of_getElem? (i := 13) rfl)) (wr_59 _ (List.mem_of_getElem? (i := 14) rfl)) (wr_59 _ (List.mem_of_getElem? (i := 15) rfl)) (wr_1 _ (List.mem_of_getElem? (i := 2) rfl)) (wr_59 _ (List.mem_of_getElem? (i := 16) rfl))) rfl rfl rfl (by decide +kernel) ⟨Nat.le_of_ble_eq_true rfl, Nat.le_of_ble_eq_true rfl⟩) ⟨PW_blind, va_recv hKc hPc (ci := 13) (q0 := 0) rfl rfl, PW_call hPc hDc hKc hS hG hFc⟩ rfl rfl hl.1 rfl (lv_room (Nat.le_of_ble_eq_true rfl)) dX11_ghost_2 ⟨Nat.le_of_ble_eq_true rfl, Nat.le_of_ble_eq_true rfl⟩) hS (fun q _ h => hFc q h) hFc (fun q _ h => hFc q h) (fun E ce q9 u t H1 locs1 ht9 hvm9 _ hR9 hz9 hk9 hS9 hc9 hv9 hcl9 => ?_) (fun r_2 u t H1 locs ht9 hvm hw hB hz1 hk1 hS => False.elim hw)
  exact vx_out (fun x hx => (hex x hx).elim) hlocks hc9 hv9 hcl9 (fun t9 e9 _ => XX_out hR9 hS9 e9) hS9.2.2 (Nat.le_of_ble_eq_true rfl) (Nat.le_of_ble_eq_true rfl)
set_option maxHeartbeats 4000000 in
set_option maxRecDepth 100000 in
theorem c_X11_bot (l : Launch) (hlt : l.stackTraces = false) (dC : Nat → ClassId) (dI : Nat → Nat → Nat) (de : Nat) (ox : Nat) (pl : Nat) (ru : Nat) (sh : Nat) (sp : Nat) (sl : Nat) (gr : Nat) (re : Nat) (pr : Nat) (ga : Nat) (rp : Nat) (bo : Nat) (fa : Nat) (gpl : Nat) (gin : Nat) (bbe : Nat) (bdi : Nat) (cP : ClassId) (cI : ClassId) (a1 : Int32) (a2 : Int32) (a3 : Int32) (a4 : Int32) (a5 : Int32) (sz : Nat) : vx_Met l yX11_bot (.code yX11_bot cX11_bot 9 (some .int) :: wsL_law) { frames := 7, cells := 1, slots := 6, locals := 111 } (va_Pc [.ref ox, .int a1, .int a2, .int a3, .int a4, .int a5] (PW dC dI de [(cP, .object "Levelsmith$Player"), (cI, .int)] (WX ox pl ru sh sp sl gr re pr ga rp bo fa gpl gin bbe bdi cP cI de) sz)) (va_Qi (fun (_ : Int32) (_ : Unit) => False) (fun (_ : Unit) (_ : State) => True) (va_A (WX ox pl ru sh sp sl gr re pr ga rp bo fa gpl gin bbe bdi cP cI de) sz)) (XX (fun E => E = "java/lang/IndexOutOfBoundsException") (va_A (WX ox pl ru sh sp sl gr re pr ga rp bo fa gpl gin bbe bdi cP cI de) sz)) 1 6 (va_A (WX ox pl ru sh sp sl gr re pr ga rp bo fa gpl gin bbe bdi cP cI de) sz) := by
  refine vx_ofW (cc := cX11_bot) (maxL := 9) (ret := (some .int)) (by decide) rfl ?_
  intro p e s m args below meth c s₁ B hml hex hv
  obtain ⟨rfl, hsz, hP, hK, hD0, hG⟩ := hv
  have hx := B.exec
  have hb := B.bytes
  have hr := B.returns
  have hts := atoms_spec (ws := .code yX11_bot cX11_bot 9 (some .int) :: wsL_law) B.pre
  have ht : ∀ w ∈ wsL_law, w.before _ s = true := fun w h => hts w (List.mem_cons_of_mem _ h)
  have hown : s.vm.findClass RX11 = some m.cls := findClass_of_methodNamed B.named
  have hlocks := B.notSynchronized
  subst hsz
  have hD := hD0.self (sz := s.heap.size)
  generalize hAe : va_A (WX ox pl ru sh sp sl gr re pr ga rp bo fa gpl gin bbe bdi cP cI de) s.heap.size = A at hD hG ⊢
  have hA : ∀ q : Nat, s.heap.size ≤ q → A q := fun q h => by rw [← hAe]; exact Or.inr h
  have hS : va_S A s.heap s.heap [] := va_S.rf
  have hP : va_P (dC, dI) vwCl [(ox, .inr (13, [.ref pl, .ref ru, .ref sh, .ref sp, .ref sl, .ref gr, .ref re, .ref pr, .ref ga, .ref rp, .ref bo, .int 0])), (pl, .inr (1, [.int 0, .ref de, .int 0])), (ru, .inr (1, [.int 0, .ref de, .int 0])), (sh, .inr (1, [.int 0, .ref de, .int 0])), (sp, .inl (cP, 6, .inr (.inr (.inr (.inr (fun _ => none)))))), (ga, .inr (5, [.ref gpl, .ref gin, .int (-1), .int 0, .int 112, .int 0])), (bo, .inr (2, [.ref fa, .ref bbe, .ref bdi, .int 0, .int 0])), (fa, .inl (cI, 96, .inl (fun _ => 0)))] s.heap := hP
  have hD : va_D A [(ox, .inr (13, [.ref pl, .ref ru, .ref sh, .ref sp, .ref sl, .ref gr, .ref re, .ref pr, .ref ga, .ref rp, .ref bo, .int 0])), (pl, .inr (1, [.int 0, .ref de, .int 0])), (ru, .inr (1, [.int 0, .ref de, .int 0])), (sh, .inr (1, [.int 0, .ref de, .int 0])), (sp, .inl (cP, 6, .inr (.inr (.inr (.inr (fun _ => none)))))), (ga, .inr (5, [.ref gpl, .ref gin, .int (-1), .int 0, .int 112, .int 0])), (bo, .inr (2, [.ref fa, .ref bbe, .ref bdi, .int 0, .int 0])), (fa, .inl (cI, 96, .inl (fun _ => 0)))] := hD
  have hl := lv_entry ([.ref ox, .int a1, .int a2, .int a3, .int a4, .int a5]) (n := 9) (Nat.le_of_ble_eq_true rfl)
  rw [lg_entry_eq]
  generalize (lg_sl ([.ref ox, .int a1, .int a2, .int a3, .int a4, .int a5]) ++ List.replicate (9 - (lg_sl ([.ref ox, .int a1, .int a2, .int a3, .int a4, .int a5])).length) Slot.unset).toArray = ls at hl ⊢
  have hl : lv_has ls 9 [(0, .ref ox), (1, .int a1), (2, .int a2), (3, .int a3), (4, .int a4), (5, .int a5)] := hl
  refine lv_aload_n hx hb dX11_bot_0 rfl (lv_at hl 0 rfl) ?_
  refine lv_iload_n hx hb dX11_bot_1 rfl (lv_at hl 1 rfl) ?_
  have hPc := hP.sub (ws' := [(ox, .inr (13, [.ref pl, .ref ru, .ref sh, .ref sp, .ref sl, .ref gr, .ref re, .ref pr, .ref ga, .ref rp, .ref bo, .int 0])), (pl, .inr (1, [.int 0, .ref de, .int 0])), (ru, .inr (1, [.int 0, .ref de, .int 0])), (sh, .inr (1, [.int 0, .ref de, .int 0])), (sp, .inl (cP, 6, .inr (.inr (.inr (.inr (fun _ => none)))))), (ga, .inr (5, [.ref gpl, .ref gin, .int (-1), .int 0, .int 112, .int 0])), (bo, .inr (2, [.ref fa, .ref bbe, .ref bdi, .int 0, .int 0])), (fa, .inl (cI, 96, .inl (fun _ => 0)))]) [0, 1, 2, 3, 4, 5, 6, 7] rfl
  have hDc := hD.sub (ws' := [(ox, .inr (13, [.ref pl, .ref ru, .ref sh, .ref sp, .ref sl, .ref gr, .ref re, .ref pr, .ref ga, .ref rp, .ref bo, .int 0])), (pl, .inr (1, [.int 0, .ref de, .int 0])), (ru, .inr (1, [.int 0, .ref de, .int 0])), (sh, .inr (1, [.int 0, .ref de, .int 0])), (sp, .inl (cP, 6, .inr (.inr (.inr (.inr (fun _ => none)))))), (ga, .inr (5, [.ref gpl, .ref gin, .int (-1), .int 0, .int 112, .int 0])), (bo, .inr (2, [.ref fa, .ref bbe, .ref bdi, .int 0, .int 0])), (fa, .inl (cI, 96, .inl (fun _ => 0)))]) [0, 1, 2, 3, 4, 5, 6, 7] (by decide) rfl
  have hKc := hK.sub (tys' := [(cP, .object "Levelsmith$Player"), (cI, .int)]) [0, 1] rfl
  have hFc := va_free (wc := [(ox, .inr (13, [.ref pl, .ref ru, .ref sh, .ref sp, .ref sl, .ref gr, .ref re, .ref pr, .ref ga, .ref rp, .ref bo, .int 0])), (pl, .inr (1, [.int 0, .ref de, .int 0])), (ru, .inr (1, [.int 0, .ref de, .int 0])), (sh, .inr (1, [.int 0, .ref de, .int 0])), (sp, .inl (cP, 6, .inr (.inr (.inr (.inr (fun _ => none)))))), (ga, .inr (5, [.ref gpl, .ref gin, .int (-1), .int 0, .int 112, .int 0])), (bo, .inr (2, [.ref fa, .ref bbe, .ref bdi, .int 0, .int 0])), (fa, .inl (cI, 96, .inl (fun _ => 0)))]) hD hS hA [0, 1, 2, 3, 4, 5, 6, 7] rfl
  refine vx_callq (vx_runV (As := [.int a1]) (rest := []) ⟨hx, hb, hml, hown, ht⟩ (c_X11_planAt l hlt dC dI de (ox) (pl) (ru) (sh) (sp) (sl) (gr) (re) (pr) (ga) (rp) (bo) (fa) (gpl) (gin) (bbe) (bdi) (cP) (cI) (a1) s.heap.size) (cwV 1 ht (gWV (wr_19 _ (List.mem_of_getElem? (i := 0) rfl)) (wr_19 _ (List.mem_of_getElem? (i := 1) rfl)) (wr_19 _ (List.mem_of_getElem? (i := 2) rfl)) (wr_1 _ (List.mem_of_getElem? (i := 2) rfl)) (wr_19 _ (List.mem_of_getElem? (i := 3) rfl))) rfl rfl rfl (by decide +kernel) ⟨Nat.le_of_ble_eq_true rfl, Nat.le_of_ble_eq_true rfl⟩) ⟨PW_blind, va_recv hKc hPc (ci := 13) (q0 := 0) rfl rfl, PW_call hPc hDc hKc hS hG hFc⟩ rfl rfl hl.1 rfl (lv_room (Nat.le_of_ble_eq_true rfl)) dX11_bot_2 ⟨Nat.le_of_ble_eq_true rfl, Nat.le_of_ble_eq_true rfl⟩) hS (fun q _ h => hFc q h) hFc (fun q _ h => hFc q h) (fun E ce q9 u t H1 locs1 ht9 hvm9 _ hR9 hz9 hk9 hS9 hc9 hv9 hcl9 => ?_) (fun r_2 u t H1 locs ht9 hvm hw hB hz1 hk1 hS => False.elim hw)
  exact vx_out (fun x hx => (hex x hx).elim) hlocks hc9 hv9 hcl9 (fun t9 e9 _ => XX_out hR9 hS9 e9) hS9.2.2 (Nat.le_of_ble_eq_true rfl) (Nat.le_of_ble_eq_true rfl)
set_option maxHeartbeats 4000000 in
set_option maxRecDepth 100000 in
theorem c_X11_publish (l : Launch) (hlt : l.stackTraces = false) (dC : Nat → ClassId) (dI : Nat → Nat → Nat) (de : Nat) (ox : Nat) (pl : Nat) (ru : Nat) (sh : Nat) (sp : Nat) (sl : Nat) (gr : Nat) (re : Nat) (pr : Nat) (ga : Nat) (rp : Nat) (bo : Nat) (fa : Nat) (gpl : Nat) (gin : Nat) (bbe : Nat) (bdi : Nat) (cP : ClassId) (cI : ClassId) (a1 : Int32) (a2 : Int32) (a3 : Int32) (sz : Nat) : vx_Met l yX11_publish (.code yX11_publish cX11_publish 6 (some .int) :: wsL_law) { frames := 7, cells := 1, slots := 6, locals := 111 } (va_Pc [.ref ox, .int a1, .int a2, .int a3] (PW dC dI de [(cP, .object "Levelsmith$Player"), (cI, .int)] (WX ox pl ru sh sp sl gr re pr ga rp bo fa gpl gin bbe bdi cP cI de) sz)) (va_Qi (fun (_ : Int32) (_ : Unit) => False) (fun (_ : Unit) (_ : State) => True) (va_A (WX ox pl ru sh sp sl gr re pr ga rp bo fa gpl gin bbe bdi cP cI de) sz)) (XX (fun E => E = "java/lang/IndexOutOfBoundsException") (va_A (WX ox pl ru sh sp sl gr re pr ga rp bo fa gpl gin bbe bdi cP cI de) sz)) 1 6 (va_A (WX ox pl ru sh sp sl gr re pr ga rp bo fa gpl gin bbe bdi cP cI de) sz) := by
  refine vx_ofW (cc := cX11_publish) (maxL := 6) (ret := (some .int)) (by decide) rfl ?_
  intro p e s m args below meth c s₁ B hml hex hv
  obtain ⟨rfl, hsz, hP, hK, hD0, hG⟩ := hv
  have hx := B.exec
  have hb := B.bytes
  have hr := B.returns
  have hts := atoms_spec (ws := .code yX11_publish cX11_publish 6 (some .int) :: wsL_law) B.pre
  have ht : ∀ w ∈ wsL_law, w.before _ s = true := fun w h => hts w (List.mem_cons_of_mem _ h)
  have hown : s.vm.findClass RX11 = some m.cls := findClass_of_methodNamed B.named
  have hlocks := B.notSynchronized
  subst hsz
  have hD := hD0.self (sz := s.heap.size)
  generalize hAe : va_A (WX ox pl ru sh sp sl gr re pr ga rp bo fa gpl gin bbe bdi cP cI de) s.heap.size = A at hD hG ⊢
  have hA : ∀ q : Nat, s.heap.size ≤ q → A q := fun q h => by rw [← hAe]; exact Or.inr h
  have hS : va_S A s.heap s.heap [] := va_S.rf
  have hP : va_P (dC, dI) vwCl [(ox, .inr (13, [.ref pl, .ref ru, .ref sh, .ref sp, .ref sl, .ref gr, .ref re, .ref pr, .ref ga, .ref rp, .ref bo, .int 0])), (pl, .inr (1, [.int 0, .ref de, .int 0])), (ru, .inr (1, [.int 0, .ref de, .int 0])), (sh, .inr (1, [.int 0, .ref de, .int 0])), (sp, .inl (cP, 6, .inr (.inr (.inr (.inr (fun _ => none)))))), (ga, .inr (5, [.ref gpl, .ref gin, .int (-1), .int 0, .int 112, .int 0])), (bo, .inr (2, [.ref fa, .ref bbe, .ref bdi, .int 0, .int 0])), (fa, .inl (cI, 96, .inl (fun _ => 0)))] s.heap := hP
  have hD : va_D A [(ox, .inr (13, [.ref pl, .ref ru, .ref sh, .ref sp, .ref sl, .ref gr, .ref re, .ref pr, .ref ga, .ref rp, .ref bo, .int 0])), (pl, .inr (1, [.int 0, .ref de, .int 0])), (ru, .inr (1, [.int 0, .ref de, .int 0])), (sh, .inr (1, [.int 0, .ref de, .int 0])), (sp, .inl (cP, 6, .inr (.inr (.inr (.inr (fun _ => none)))))), (ga, .inr (5, [.ref gpl, .ref gin, .int (-1), .int 0, .int 112, .int 0])), (bo, .inr (2, [.ref fa, .ref bbe, .ref bdi, .int 0, .int 0])), (fa, .inl (cI, 96, .inl (fun _ => 0)))] := hD
  have hl := lv_entry ([.ref ox, .int a1, .int a2, .int a3]) (n := 6) (Nat.le_of_ble_eq_true rfl)
  rw [lg_entry_eq]
  generalize (lg_sl ([.ref ox, .int a1, .int a2, .int a3]) ++ List.replicate (6 - (lg_sl ([.ref ox, .int a1, .int a2, .int a3])).length) Slot.unset).toArray = ls at hl ⊢
  have hl : lv_has ls 6 [(0, .ref ox), (1, .int a1), (2, .int a2), (3, .int a3)] := hl
  refine lv_aload_n hx hb dX11_publish_0 rfl (lv_at hl 0 rfl) ?_
  refine lv_iload_n hx hb dX11_publish_1 rfl (lv_at hl 1 rfl) ?_
  have hPc := hP.sub (ws' := [(ox, .inr (13, [.ref pl, .ref ru, .ref sh, .ref sp, .ref sl, .ref gr, .ref re, .ref pr, .ref ga, .ref rp, .ref bo, .int 0])), (pl, .inr (1, [.int 0, .ref de, .int 0])), (ru, .inr (1, [.int 0, .ref de, .int 0])), (sh, .inr (1, [.int 0, .ref de, .int 0])), (sp, .inl (cP, 6, .inr (.inr (.inr (.inr (fun _ => none)))))), (ga, .inr (5, [.ref gpl, .ref gin, .int (-1), .int 0, .int 112, .int 0])), (bo, .inr (2, [.ref fa, .ref bbe, .ref bdi, .int 0, .int 0])), (fa, .inl (cI, 96, .inl (fun _ => 0)))]) [0, 1, 2, 3, 4, 5, 6, 7] rfl
  have hDc := hD.sub (ws' := [(ox, .inr (13, [.ref pl, .ref ru, .ref sh, .ref sp, .ref sl, .ref gr, .ref re, .ref pr, .ref ga, .ref rp, .ref bo, .int 0])), (pl, .inr (1, [.int 0, .ref de, .int 0])), (ru, .inr (1, [.int 0, .ref de, .int 0])), (sh, .inr (1, [.int 0, .ref de, .int 0])), (sp, .inl (cP, 6, .inr (.inr (.inr (.inr (fun _ => none)))))), (ga, .inr (5, [.ref gpl, .ref gin, .int (-1), .int 0, .int 112, .int 0])), (bo, .inr (2, [.ref fa, .ref bbe, .ref bdi, .int 0, .int 0])), (fa, .inl (cI, 96, .inl (fun _ => 0)))]) [0, 1, 2, 3, 4, 5, 6, 7] (by decide) rfl
  have hKc := hK.sub (tys' := [(cP, .object "Levelsmith$Player"), (cI, .int)]) [0, 1] rfl
  have hFc := va_free (wc := [(ox, .inr (13, [.ref pl, .ref ru, .ref sh, .ref sp, .ref sl, .ref gr, .ref re, .ref pr, .ref ga, .ref rp, .ref bo, .int 0])), (pl, .inr (1, [.int 0, .ref de, .int 0])), (ru, .inr (1, [.int 0, .ref de, .int 0])), (sh, .inr (1, [.int 0, .ref de, .int 0])), (sp, .inl (cP, 6, .inr (.inr (.inr (.inr (fun _ => none)))))), (ga, .inr (5, [.ref gpl, .ref gin, .int (-1), .int 0, .int 112, .int 0])), (bo, .inr (2, [.ref fa, .ref bbe, .ref bdi, .int 0, .int 0])), (fa, .inl (cI, 96, .inl (fun _ => 0)))]) hD hS hA [0, 1, 2, 3, 4, 5, 6, 7] rfl
  refine vx_callq (vx_runV (As := [.int a1]) (rest := []) ⟨hx, hb, hml, hown, ht⟩ (c_X11_planAt l hlt dC dI de (ox) (pl) (ru) (sh) (sp) (sl) (gr) (re) (pr) (ga) (rp) (bo) (fa) (gpl) (gin) (bbe) (bdi) (cP) (cI) (a1) s.heap.size) (cwV 1 ht (gWV (wr_19 _ (List.mem_of_getElem? (i := 0) rfl)) (wr_19 _ (List.mem_of_getElem? (i := 1) rfl)) (wr_19 _ (List.mem_of_getElem? (i := 2) rfl)) (wr_1 _ (List.mem_of_getElem? (i := 2) rfl)) (wr_19 _ (List.mem_of_getElem? (i := 3) rfl))) rfl rfl rfl (by decide +kernel) ⟨Nat.le_of_ble_eq_true rfl, Nat.le_of_ble_eq_true rfl⟩) ⟨PW_blind, va_recv hKc hPc (ci := 13) (q0 := 0) rfl rfl, PW_call hPc hDc hKc hS hG hFc⟩ rfl rfl hl.1 rfl (lv_room (Nat.le_of_ble_eq_true rfl)) dX11_publish_2 ⟨Nat.le_of_ble_eq_true rfl, Nat.le_of_ble_eq_true rfl⟩) hS (fun q _ h => hFc q h) hFc (fun q _ h => hFc q h) (fun E ce q9 u t H1 locs1 ht9 hvm9 _ hR9 hz9 hk9 hS9 hc9 hv9 hcl9 => ?_) (fun r_2 u t H1 locs ht9 hvm hw hB hz1 hk1 hS => False.elim hw)
  exact vx_out (fun x hx => (hex x hx).elim) hlocks hc9 hv9 hcl9 (fun t9 e9 _ => XX_out hR9 hS9 e9) hS9.2.2 (Nat.le_of_ble_eq_true rfl) (Nat.le_of_ble_eq_true rfl)
set_option maxHeartbeats 4000000 in
set_option maxRecDepth 100000 in
theorem c_X11_isStolen (l : Launch) (hlt : l.stackTraces = false) (dC : Nat → ClassId) (dI : Nat → Nat → Nat) (de : Nat) (ox : Nat) (pl : Nat) (ru : Nat) (sh : Nat) (sp : Nat) (sl : Nat) (gr : Nat) (re : Nat) (pr : Nat) (ga : Nat) (rp : Nat) (bo : Nat) (fa : Nat) (gpl : Nat) (gin : Nat) (bbe : Nat) (bdi : Nat) (cP : ClassId) (cI : ClassId) (a1 : Int32) (a2 : Int32) (sz : Nat) : vx_Met l yX11_isStolen (.code yX11_isStolen cX11_isStolen 5 (some .boolean) :: wsL_law) { frames := 7, cells := 1, slots := 6, locals := 111 } (va_Pc [.ref ox, .int a1, .int a2] (PW dC dI de [(cP, .object "Levelsmith$Player"), (cI, .int)] (WX ox pl ru sh sp sl gr re pr ga rp bo fa gpl gin bbe bdi cP cI de) sz)) (va_Qi (fun (_ : Int32) (_ : Unit) => False) (fun (_ : Unit) (_ : State) => True) (va_A (WX ox pl ru sh sp sl gr re pr ga rp bo fa gpl gin bbe bdi cP cI de) sz)) (XX (fun E => E = "java/lang/IndexOutOfBoundsException") (va_A (WX ox pl ru sh sp sl gr re pr ga rp bo fa gpl gin bbe bdi cP cI de) sz)) 1 6 (va_A (WX ox pl ru sh sp sl gr re pr ga rp bo fa gpl gin bbe bdi cP cI de) sz) := by
  refine vx_ofW (cc := cX11_isStolen) (maxL := 5) (ret := (some .boolean)) (by decide) rfl ?_
  intro p e s m args below meth c s₁ B hml hex hv
  obtain ⟨rfl, hsz, hP, hK, hD0, hG⟩ := hv
  have hx := B.exec
  have hb := B.bytes
  have hr := B.returns
  have hts := atoms_spec (ws := .code yX11_isStolen cX11_isStolen 5 (some .boolean) :: wsL_law) B.pre
  have ht : ∀ w ∈ wsL_law, w.before _ s = true := fun w h => hts w (List.mem_cons_of_mem _ h)
  have hown : s.vm.findClass RX11 = some m.cls := findClass_of_methodNamed B.named
  have hlocks := B.notSynchronized
  subst hsz
  have hD := hD0.self (sz := s.heap.size)
  generalize hAe : va_A (WX ox pl ru sh sp sl gr re pr ga rp bo fa gpl gin bbe bdi cP cI de) s.heap.size = A at hD hG ⊢
  have hA : ∀ q : Nat, s.heap.size ≤ q → A q := fun q h => by rw [← hAe]; exact Or.inr h
  have hS : va_S A s.heap s.heap [] := va_S.rf
  have hP : va_P (dC, dI) vwCl [(ox, .inr (13, [.ref pl, .ref ru, .ref sh, .ref sp, .ref sl, .ref gr, .ref re, .ref pr, .ref ga, .ref rp, .ref bo, .int 0])), (pl, .inr (1, [.int 0, .ref de, .int 0])), (ru, .inr (1, [.int 0, .ref de, .int 0])), (sh, .inr (1, [.int 0, .ref de, .int 0])), (sp, .inl (cP, 6, .inr (.inr (.inr (.inr (fun _ => none)))))), (ga, .inr (5, [.ref gpl, .ref gin, .int (-1), .int 0, .int 112, .int 0])), (bo, .inr (2, [.ref fa, .ref bbe, .ref bdi, .int 0, .int 0])), (fa, .inl (cI, 96, .inl (fun _ => 0)))] s.heap := hP
  have hD : va_D A [(ox, .inr (13, [.ref pl, .ref ru, .ref sh, .ref sp, .ref sl, .ref gr, .ref re, .ref pr, .ref ga, .ref rp, .ref bo, .int 0])), (pl, .inr (1, [.int 0, .ref de, .int 0])), (ru, .inr (1, [.int 0, .ref de, .int 0])), (sh, .inr (1, [.int 0, .ref de, .int 0])), (sp, .inl (cP, 6, .inr (.inr (.inr (.inr (fun _ => none)))))), (ga, .inr (5, [.ref gpl, .ref gin, .int (-1), .int 0, .int 112, .int 0])), (bo, .inr (2, [.ref fa, .ref bbe, .ref bdi, .int 0, .int 0])), (fa, .inl (cI, 96, .inl (fun _ => 0)))] := hD
  have hl := lv_entry ([.ref ox, .int a1, .int a2]) (n := 5) (Nat.le_of_ble_eq_true rfl)
  rw [lg_entry_eq]
  generalize (lg_sl ([.ref ox, .int a1, .int a2]) ++ List.replicate (5 - (lg_sl ([.ref ox, .int a1, .int a2])).length) Slot.unset).toArray = ls at hl ⊢
  have hl : lv_has ls 5 [(0, .ref ox), (1, .int a1), (2, .int a2)] := hl
  refine lv_aload_n hx hb dX11_isStolen_0 rfl (lv_at hl 0 rfl) ?_
  refine lv_iload_n hx hb dX11_isStolen_1 rfl (lv_at hl 1 rfl) ?_
  have hPc := hP.sub (ws' := [(ox, .inr (13, [.ref pl, .ref ru, .ref sh, .ref sp, .ref sl, .ref gr, .ref re, .ref pr, .ref ga, .ref rp, .ref bo, .int 0])), (pl, .inr (1, [.int 0, .ref de, .int 0])), (ru, .inr (1, [.int 0, .ref de, .int 0])), (sh, .inr (1, [.int 0, .ref de, .int 0])), (sp, .inl (cP, 6, .inr (.inr (.inr (.inr (fun _ => none)))))), (ga, .inr (5, [.ref gpl, .ref gin, .int (-1), .int 0, .int 112, .int 0])), (bo, .inr (2, [.ref fa, .ref bbe, .ref bdi, .int 0, .int 0])), (fa, .inl (cI, 96, .inl (fun _ => 0)))]) [0, 1, 2, 3, 4, 5, 6, 7] rfl
  have hDc := hD.sub (ws' := [(ox, .inr (13, [.ref pl, .ref ru, .ref sh, .ref sp, .ref sl, .ref gr, .ref re, .ref pr, .ref ga, .ref rp, .ref bo, .int 0])), (pl, .inr (1, [.int 0, .ref de, .int 0])), (ru, .inr (1, [.int 0, .ref de, .int 0])), (sh, .inr (1, [.int 0, .ref de, .int 0])), (sp, .inl (cP, 6, .inr (.inr (.inr (.inr (fun _ => none)))))), (ga, .inr (5, [.ref gpl, .ref gin, .int (-1), .int 0, .int 112, .int 0])), (bo, .inr (2, [.ref fa, .ref bbe, .ref bdi, .int 0, .int 0])), (fa, .inl (cI, 96, .inl (fun _ => 0)))]) [0, 1, 2, 3, 4, 5, 6, 7] (by decide) rfl
  have hKc := hK.sub (tys' := [(cP, .object "Levelsmith$Player"), (cI, .int)]) [0, 1] rfl
  have hFc := va_free (wc := [(ox, .inr (13, [.ref pl, .ref ru, .ref sh, .ref sp, .ref sl, .ref gr, .ref re, .ref pr, .ref ga, .ref rp, .ref bo, .int 0])), (pl, .inr (1, [.int 0, .ref de, .int 0])), (ru, .inr (1, [.int 0, .ref de, .int 0])), (sh, .inr (1, [.int 0, .ref de, .int 0])), (sp, .inl (cP, 6, .inr (.inr (.inr (.inr (fun _ => none)))))), (ga, .inr (5, [.ref gpl, .ref gin, .int (-1), .int 0, .int 112, .int 0])), (bo, .inr (2, [.ref fa, .ref bbe, .ref bdi, .int 0, .int 0])), (fa, .inl (cI, 96, .inl (fun _ => 0)))]) hD hS hA [0, 1, 2, 3, 4, 5, 6, 7] rfl
  refine vx_callq (vx_runV (As := [.int a1]) (rest := []) ⟨hx, hb, hml, hown, ht⟩ (c_X11_planAt l hlt dC dI de (ox) (pl) (ru) (sh) (sp) (sl) (gr) (re) (pr) (ga) (rp) (bo) (fa) (gpl) (gin) (bbe) (bdi) (cP) (cI) (a1) s.heap.size) (cwV 1 ht (gWV (wr_19 _ (List.mem_of_getElem? (i := 0) rfl)) (wr_19 _ (List.mem_of_getElem? (i := 1) rfl)) (wr_19 _ (List.mem_of_getElem? (i := 2) rfl)) (wr_1 _ (List.mem_of_getElem? (i := 2) rfl)) (wr_19 _ (List.mem_of_getElem? (i := 3) rfl))) rfl rfl rfl (by decide +kernel) ⟨Nat.le_of_ble_eq_true rfl, Nat.le_of_ble_eq_true rfl⟩) ⟨PW_blind, va_recv hKc hPc (ci := 13) (q0 := 0) rfl rfl, PW_call hPc hDc hKc hS hG hFc⟩ rfl rfl hl.1 rfl (lv_room (Nat.le_of_ble_eq_true rfl)) dX11_isStolen_2 ⟨Nat.le_of_ble_eq_true rfl, Nat.le_of_ble_eq_true rfl⟩) hS (fun q _ h => hFc q h) hFc (fun q _ h => hFc q h) (fun E ce q9 u t H1 locs1 ht9 hvm9 _ hR9 hz9 hk9 hS9 hc9 hv9 hcl9 => ?_) (fun r_2 u t H1 locs ht9 hvm hw hB hz1 hk1 hS => False.elim hw)
  exact vx_out (fun x hx => (hex x hx).elim) hlocks hc9 hv9 hcl9 (fun t9 e9 _ => XX_out hR9 hS9 e9) hS9.2.2 (Nat.le_of_ble_eq_true rfl) (Nat.le_of_ble_eq_true rfl)
set_option maxHeartbeats 4000000 in
set_option maxRecDepth 100000 in
theorem c_X11_checksum (l : Launch) (hlt : l.stackTraces = false) (dC : Nat → ClassId) (dI : Nat → Nat → Nat) (de : Nat) (ox : Nat) (pl : Nat) (ru : Nat) (sh : Nat) (sp : Nat) (sl : Nat) (gr : Nat) (re : Nat) (pr : Nat) (ga : Nat) (rp : Nat) (bo : Nat) (fa : Nat) (gpl : Nat) (gin : Nat) (bbe : Nat) (bdi : Nat) (cP : ClassId) (cI : ClassId) (a1 : Int32) (sz : Nat) : vx_Met l yX11_checksum (.code yX11_checksum cX11_checksum 2 (some .long) :: wsL_law) { frames := 7, cells := 1, slots := 6, locals := 111 } (va_Pc [.ref ox, .int a1] (PW dC dI de [(cP, .object "Levelsmith$Player"), (cI, .int)] (WX ox pl ru sh sp sl gr re pr ga rp bo fa gpl gin bbe bdi cP cI de) sz)) (va_Ql (fun (_ : Int64) (_ : Unit) => False) (fun (_ : Unit) (_ : State) => True) (va_A (WX ox pl ru sh sp sl gr re pr ga rp bo fa gpl gin bbe bdi cP cI de) sz)) (XX (fun E => E = "java/lang/IndexOutOfBoundsException") (va_A (WX ox pl ru sh sp sl gr re pr ga rp bo fa gpl gin bbe bdi cP cI de) sz)) 1 6 (va_A (WX ox pl ru sh sp sl gr re pr ga rp bo fa gpl gin bbe bdi cP cI de) sz) := by
  refine vx_ofW (cc := cX11_checksum) (maxL := 2) (ret := (some .long)) (by decide) rfl ?_
  intro p e s m args below meth c s₁ B hml hex hv
  obtain ⟨rfl, hsz, hP, hK, hD0, hG⟩ := hv
  have hx := B.exec
  have hb := B.bytes
  have hr := B.returns
  have hts := atoms_spec (ws := .code yX11_checksum cX11_checksum 2 (some .long) :: wsL_law) B.pre
  have ht : ∀ w ∈ wsL_law, w.before _ s = true := fun w h => hts w (List.mem_cons_of_mem _ h)
  have hown : s.vm.findClass RX11 = some m.cls := findClass_of_methodNamed B.named
  have hlocks := B.notSynchronized
  subst hsz
  have hD := hD0.self (sz := s.heap.size)
  generalize hAe : va_A (WX ox pl ru sh sp sl gr re pr ga rp bo fa gpl gin bbe bdi cP cI de) s.heap.size = A at hD hG ⊢
  have hA : ∀ q : Nat, s.heap.size ≤ q → A q := fun q h => by rw [← hAe]; exact Or.inr h
  have hS : va_S A s.heap s.heap [] := va_S.rf
  have hP : va_P (dC, dI) vwCl [(ox, .inr (13, [.ref pl, .ref ru, .ref sh, .ref sp, .ref sl, .ref gr, .ref re, .ref pr, .ref ga, .ref rp, .ref bo, .int 0])), (pl, .inr (1, [.int 0, .ref de, .int 0])), (ru, .inr (1, [.int 0, .ref de, .int 0])), (sh, .inr (1, [.int 0, .ref de, .int 0])), (sp, .inl (cP, 6, .inr (.inr (.inr (.inr (fun _ => none)))))), (ga, .inr (5, [.ref gpl, .ref gin, .int (-1), .int 0, .int 112, .int 0])), (bo, .inr (2, [.ref fa, .ref bbe, .ref bdi, .int 0, .int 0])), (fa, .inl (cI, 96, .inl (fun _ => 0)))] s.heap := hP
  have hD : va_D A [(ox, .inr (13, [.ref pl, .ref ru, .ref sh, .ref sp, .ref sl, .ref gr, .ref re, .ref pr, .ref ga, .ref rp, .ref bo, .int 0])), (pl, .inr (1, [.int 0, .ref de, .int 0])), (ru, .inr (1, [.int 0, .ref de, .int 0])), (sh, .inr (1, [.int 0, .ref de, .int 0])), (sp, .inl (cP, 6, .inr (.inr (.inr (.inr (fun _ => none)))))), (ga, .inr (5, [.ref gpl, .ref gin, .int (-1), .int 0, .int 112, .int 0])), (bo, .inr (2, [.ref fa, .ref bbe, .ref bdi, .int 0, .int 0])), (fa, .inl (cI, 96, .inl (fun _ => 0)))] := hD
  have hl := lv_entry ([.ref ox, .int a1]) (n := 2) (Nat.le_of_ble_eq_true rfl)
  rw [lg_entry_eq]
  generalize (lg_sl ([.ref ox, .int a1]) ++ List.replicate (2 - (lg_sl ([.ref ox, .int a1])).length) Slot.unset).toArray = ls at hl ⊢
  have hl : lv_has ls 2 [(0, .ref ox), (1, .int a1)] := hl
  refine lv_aload_n hx hb dX11_checksum_0 rfl (lv_at hl 0 rfl) ?_
  refine lv_iload_n hx hb dX11_checksum_1 rfl (lv_at hl 1 rfl) ?_
  have hPc := hP.sub (ws' := [(ox, .inr (13, [.ref pl, .ref ru, .ref sh, .ref sp, .ref sl, .ref gr, .ref re, .ref pr, .ref ga, .ref rp, .ref bo, .int 0])), (pl, .inr (1, [.int 0, .ref de, .int 0])), (ru, .inr (1, [.int 0, .ref de, .int 0])), (sh, .inr (1, [.int 0, .ref de, .int 0])), (sp, .inl (cP, 6, .inr (.inr (.inr (.inr (fun _ => none)))))), (ga, .inr (5, [.ref gpl, .ref gin, .int (-1), .int 0, .int 112, .int 0])), (bo, .inr (2, [.ref fa, .ref bbe, .ref bdi, .int 0, .int 0])), (fa, .inl (cI, 96, .inl (fun _ => 0)))]) [0, 1, 2, 3, 4, 5, 6, 7] rfl
  have hDc := hD.sub (ws' := [(ox, .inr (13, [.ref pl, .ref ru, .ref sh, .ref sp, .ref sl, .ref gr, .ref re, .ref pr, .ref ga, .ref rp, .ref bo, .int 0])), (pl, .inr (1, [.int 0, .ref de, .int 0])), (ru, .inr (1, [.int 0, .ref de, .int 0])), (sh, .inr (1, [.int 0, .ref de, .int 0])), (sp, .inl (cP, 6, .inr (.inr (.inr (.inr (fun _ => none)))))), (ga, .inr (5, [.ref gpl, .ref gin, .int (-1), .int 0, .int 112, .int 0])), (bo, .inr (2, [.ref fa, .ref bbe, .ref bdi, .int 0, .int 0])), (fa, .inl (cI, 96, .inl (fun _ => 0)))]) [0, 1, 2, 3, 4, 5, 6, 7] (by decide) rfl
  have hKc := hK.sub (tys' := [(cP, .object "Levelsmith$Player"), (cI, .int)]) [0, 1] rfl
  have hFc := va_free (wc := [(ox, .inr (13, [.ref pl, .ref ru, .ref sh, .ref sp, .ref sl, .ref gr, .ref re, .ref pr, .ref ga, .ref rp, .ref bo, .int 0])), (pl, .inr (1, [.int 0, .ref de, .int 0])), (ru, .inr (1, [.int 0, .ref de, .int 0])), (sh, .inr (1, [.int 0, .ref de, .int 0])), (sp, .inl (cP, 6, .inr (.inr (.inr (.inr (fun _ => none)))))), (ga, .inr (5, [.ref gpl, .ref gin, .int (-1), .int 0, .int 112, .int 0])), (bo, .inr (2, [.ref fa, .ref bbe, .ref bdi, .int 0, .int 0])), (fa, .inl (cI, 96, .inl (fun _ => 0)))]) hD hS hA [0, 1, 2, 3, 4, 5, 6, 7] rfl
  refine vx_callq (vx_runV (As := [.int a1]) (rest := []) ⟨hx, hb, hml, hown, ht⟩ (c_X11_planAt l hlt dC dI de (ox) (pl) (ru) (sh) (sp) (sl) (gr) (re) (pr) (ga) (rp) (bo) (fa) (gpl) (gin) (bbe) (bdi) (cP) (cI) (a1) s.heap.size) (cwV 1 ht (gWV (wr_19 _ (List.mem_of_getElem? (i := 0) rfl)) (wr_19 _ (List.mem_of_getElem? (i := 1) rfl)) (wr_19 _ (List.mem_of_getElem? (i := 2) rfl)) (wr_1 _ (List.mem_of_getElem? (i := 2) rfl)) (wr_19 _ (List.mem_of_getElem? (i := 3) rfl))) rfl rfl rfl (by decide +kernel) ⟨Nat.le_of_ble_eq_true rfl, Nat.le_of_ble_eq_true rfl⟩) ⟨PW_blind, va_recv hKc hPc (ci := 13) (q0 := 0) rfl rfl, PW_call hPc hDc hKc hS hG hFc⟩ rfl rfl hl.1 rfl (lv_room (Nat.le_of_ble_eq_true rfl)) dX11_checksum_2 ⟨Nat.le_of_ble_eq_true rfl, Nat.le_of_ble_eq_true rfl⟩) hS (fun q _ h => hFc q h) hFc (fun q _ h => hFc q h) (fun E ce q9 u t H1 locs1 ht9 hvm9 _ hR9 hz9 hk9 hS9 hc9 hv9 hcl9 => ?_) (fun r_2 u t H1 locs ht9 hvm hw hB hz1 hk1 hS => False.elim hw)
  exact vx_out (fun x hx => (hex x hx).elim) hlocks hc9 hv9 hcl9 (fun t9 e9 _ => XX_out hR9 hS9 e9) hS9.2.2 (Nat.le_of_ble_eq_true rfl) (Nat.le_of_ble_eq_true rfl)
set_option maxHeartbeats 4000000 in
set_option maxRecDepth 100000 in
theorem c_X11_stuckShare (l : Launch) (hlt : l.stackTraces = false) (dC : Nat → ClassId) (dI : Nat → Nat → Nat) (de : Nat) (ox : Nat) (pl : Nat) (ru : Nat) (sh : Nat) (sp : Nat) (sl : Nat) (gr : Nat) (re : Nat) (pr : Nat) (ga : Nat) (rp : Nat) (bo : Nat) (fa : Nat) (gpl : Nat) (gin : Nat) (bbe : Nat) (bdi : Nat) (cP : ClassId) (cI : ClassId) (a1 : Int32) (sz : Nat) : vx_Met l yX11_stuckShare (.code yX11_stuckShare cX11_stuckShare 4 (some .float) :: wsL_law) { frames := 9, cells := 1, slots := 6, locals := 155 } (va_Pc [.ref ox, .int a1] (PW dC dI de [(cP, .object "Levelsmith$Player"), (cI, .int)] (WX ox pl ru sh sp sl gr re pr ga rp bo fa gpl gin bbe bdi cP cI de) sz)) (va_Qf (fun (_ : UInt32) (_ : Unit) => False) (fun (_ : Unit) (_ : State) => True) (va_A (WX ox pl ru sh sp sl gr re pr ga rp bo fa gpl gin bbe bdi cP cI de) sz)) (XX (fun E => E = "java/lang/IndexOutOfBoundsException") (va_A (WX ox pl ru sh sp sl gr re pr ga rp bo fa gpl gin bbe bdi cP cI de) sz)) 1 6 (va_A (WX ox pl ru sh sp sl gr re pr ga rp bo fa gpl gin bbe bdi cP cI de) sz) := by
  refine vx_ofW (cc := cX11_stuckShare) (maxL := 4) (ret := (some .float)) (by decide) rfl ?_
  intro p e s m args below meth c s₁ B hml hex hv
  obtain ⟨rfl, hsz, hP, hK, hD0, hG⟩ := hv
  have hx := B.exec
  have hb := B.bytes
  have hr := B.returns
  have hts := atoms_spec (ws := .code yX11_stuckShare cX11_stuckShare 4 (some .float) :: wsL_law) B.pre
  have ht : ∀ w ∈ wsL_law, w.before _ s = true := fun w h => hts w (List.mem_cons_of_mem _ h)
  have hown : s.vm.findClass RX11 = some m.cls := findClass_of_methodNamed B.named
  have hlocks := B.notSynchronized
  subst hsz
  have hD := hD0.self (sz := s.heap.size)
  generalize hAe : va_A (WX ox pl ru sh sp sl gr re pr ga rp bo fa gpl gin bbe bdi cP cI de) s.heap.size = A at hD hG ⊢
  have hA : ∀ q : Nat, s.heap.size ≤ q → A q := fun q h => by rw [← hAe]; exact Or.inr h
  have hS : va_S A s.heap s.heap [] := va_S.rf
  have hP : va_P (dC, dI) vwCl [(ox, .inr (13, [.ref pl, .ref ru, .ref sh, .ref sp, .ref sl, .ref gr, .ref re, .ref pr, .ref ga, .ref rp, .ref bo, .int 0])), (pl, .inr (1, [.int 0, .ref de, .int 0])), (ru, .inr (1, [.int 0, .ref de, .int 0])), (sh, .inr (1, [.int 0, .ref de, .int 0])), (sp, .inl (cP, 6, .inr (.inr (.inr (.inr (fun _ => none)))))), (ga, .inr (5, [.ref gpl, .ref gin, .int (-1), .int 0, .int 112, .int 0])), (bo, .inr (2, [.ref fa, .ref bbe, .ref bdi, .int 0, .int 0])), (fa, .inl (cI, 96, .inl (fun _ => 0)))] s.heap := hP
  have hD : va_D A [(ox, .inr (13, [.ref pl, .ref ru, .ref sh, .ref sp, .ref sl, .ref gr, .ref re, .ref pr, .ref ga, .ref rp, .ref bo, .int 0])), (pl, .inr (1, [.int 0, .ref de, .int 0])), (ru, .inr (1, [.int 0, .ref de, .int 0])), (sh, .inr (1, [.int 0, .ref de, .int 0])), (sp, .inl (cP, 6, .inr (.inr (.inr (.inr (fun _ => none)))))), (ga, .inr (5, [.ref gpl, .ref gin, .int (-1), .int 0, .int 112, .int 0])), (bo, .inr (2, [.ref fa, .ref bbe, .ref bdi, .int 0, .int 0])), (fa, .inl (cI, 96, .inl (fun _ => 0)))] := hD
  have hl := lv_entry ([.ref ox, .int a1]) (n := 4) (Nat.le_of_ble_eq_true rfl)
  rw [lg_entry_eq]
  generalize (lg_sl ([.ref ox, .int a1]) ++ List.replicate (4 - (lg_sl ([.ref ox, .int a1])).length) Slot.unset).toArray = ls at hl ⊢
  have hl : lv_has ls 4 [(0, .ref ox), (1, .int a1)] := hl
  refine lv_aload_n hx hb dX11_stuckShare_0 rfl (lv_at hl 0 rfl) ?_
  refine lv_iload_n hx hb dX11_stuckShare_1 rfl (lv_at hl 1 rfl) ?_
  have hPc := hP.sub (ws' := [(ox, .inr (13, [.ref pl, .ref ru, .ref sh, .ref sp, .ref sl, .ref gr, .ref re, .ref pr, .ref ga, .ref rp, .ref bo, .int 0])), (pl, .inr (1, [.int 0, .ref de, .int 0])), (ru, .inr (1, [.int 0, .ref de, .int 0])), (sh, .inr (1, [.int 0, .ref de, .int 0])), (sp, .inl (cP, 6, .inr (.inr (.inr (.inr (fun _ => none)))))), (ga, .inr (5, [.ref gpl, .ref gin, .int (-1), .int 0, .int 112, .int 0])), (bo, .inr (2, [.ref fa, .ref bbe, .ref bdi, .int 0, .int 0])), (fa, .inl (cI, 96, .inl (fun _ => 0)))]) [0, 1, 2, 3, 4, 5, 6, 7] rfl
  have hDc := hD.sub (ws' := [(ox, .inr (13, [.ref pl, .ref ru, .ref sh, .ref sp, .ref sl, .ref gr, .ref re, .ref pr, .ref ga, .ref rp, .ref bo, .int 0])), (pl, .inr (1, [.int 0, .ref de, .int 0])), (ru, .inr (1, [.int 0, .ref de, .int 0])), (sh, .inr (1, [.int 0, .ref de, .int 0])), (sp, .inl (cP, 6, .inr (.inr (.inr (.inr (fun _ => none)))))), (ga, .inr (5, [.ref gpl, .ref gin, .int (-1), .int 0, .int 112, .int 0])), (bo, .inr (2, [.ref fa, .ref bbe, .ref bdi, .int 0, .int 0])), (fa, .inl (cI, 96, .inl (fun _ => 0)))]) [0, 1, 2, 3, 4, 5, 6, 7] (by decide) rfl
  have hKc := hK.sub (tys' := [(cP, .object "Levelsmith$Player"), (cI, .int)]) [0, 1] rfl
  have hFc := va_free (wc := [(ox, .inr (13, [.ref pl, .ref ru, .ref sh, .ref sp, .ref sl, .ref gr, .ref re, .ref pr, .ref ga, .ref rp, .ref bo, .int 0])), (pl, .inr (1, [.int 0, .ref de, .int 0])), (ru, .inr (1, [.int 0, .ref de, .int 0])), (sh, .inr (1, [.int 0, .ref de, .int 0])), (sp, .inl (cP, 6, .inr (.inr (.inr (.inr (fun _ => none)))))), (ga, .inr (5, [.ref gpl, .ref gin, .int (-1), .int 0, .int 112, .int 0])), (bo, .inr (2, [.ref fa, .ref bbe, .ref bdi, .int 0, .int 0])), (fa, .inl (cI, 96, .inl (fun _ => 0)))]) hD hS hA [0, 1, 2, 3, 4, 5, 6, 7] rfl
  refine vx_callq (vx_runV (As := [.int a1]) (rest := []) ⟨hx, hb, hml, hown, ht⟩ (c_X11_reachWithLeft l hlt dC dI de (ox) (pl) (ru) (sh) (sp) (sl) (gr) (re) (pr) (ga) (rp) (bo) (fa) (gpl) (gin) (bbe) (bdi) (cP) (cI) (a1) s.heap.size) (cwV 1 ht (gWV (wr_41 _ (List.mem_of_getElem? (i := 7) rfl)) (wr_41 _ (List.mem_of_getElem? (i := 8) rfl)) (wr_41 _ (List.mem_of_getElem? (i := 9) rfl)) (wr_1 _ (List.mem_of_getElem? (i := 2) rfl)) (wr_41 _ (List.mem_of_getElem? (i := 10) rfl))) rfl rfl rfl (by decide +kernel) ⟨Nat.le_of_ble_eq_true rfl, Nat.le_of_ble_eq_true rfl⟩) ⟨PW_blind, va_recv hKc hPc (ci := 13) (q0 := 0) rfl rfl, PW_call hPc hDc hKc hS hG hFc⟩ rfl rfl hl.1 rfl (lv_room (Nat.le_of_ble_eq_true rfl)) dX11_stuckShare_2 ⟨Nat.le_of_ble_eq_true rfl, Nat.le_of_ble_eq_true rfl⟩) hS (fun q _ h => hFc q h) hFc (fun q _ h => hFc q h) (fun E ce q9 u t H1 locs1 ht9 hvm9 _ hR9 hz9 hk9 hS9 hc9 hv9 hcl9 => ?_) (fun r_2 u t H1 locs ht9 hvm hw hB hz1 hk1 hS => False.elim hw)
  exact vx_out (fun x hx => (hex x hx).elim) hlocks hc9 hv9 hcl9 (fun t9 e9 _ => XX_out hR9 hS9 e9) hS9.2.2 (Nat.le_of_ble_eq_true rfl) (Nat.le_of_ble_eq_true rfl)
set_option maxHeartbeats 4000000 in
set_option maxRecDepth 100000 in
theorem c_X11_meanLeft (l : Launch) (hlt : l.stackTraces = false) (dC : Nat → ClassId) (dI : Nat → Nat → Nat) (de : Nat) (ox : Nat) (pl : Nat) (ru : Nat) (sh : Nat) (sp : Nat) (sl : Nat) (gr : Nat) (re : Nat) (pr : Nat) (ga : Nat) (rp : Nat) (bo : Nat) (fa : Nat) (gpl : Nat) (gin : Nat) (bbe : Nat) (bdi : Nat) (cP : ClassId) (cI : ClassId) (a1 : Int32) (sz : Nat) : vx_Met l yX11_meanLeft (.code yX11_meanLeft cX11_meanLeft 4 (some .double) :: wsL_law) { frames := 9, cells := 1, slots := 6, locals := 155 } (va_Pc [.ref ox, .int a1] (PW dC dI de [(cP, .object "Levelsmith$Player"), (cI, .int)] (WX ox pl ru sh sp sl gr re pr ga rp bo fa gpl gin bbe bdi cP cI de) sz)) (va_Qd (fun (_ : UInt64) (_ : Unit) => False) (fun (_ : Unit) (_ : State) => True) (va_A (WX ox pl ru sh sp sl gr re pr ga rp bo fa gpl gin bbe bdi cP cI de) sz)) (XX (fun E => E = "java/lang/IndexOutOfBoundsException") (va_A (WX ox pl ru sh sp sl gr re pr ga rp bo fa gpl gin bbe bdi cP cI de) sz)) 1 6 (va_A (WX ox pl ru sh sp sl gr re pr ga rp bo fa gpl gin bbe bdi cP cI de) sz) := by
  refine vx_ofW (cc := cX11_meanLeft) (maxL := 4) (ret := (some .double)) (by decide) rfl ?_
  intro p e s m args below meth c s₁ B hml hex hv
  obtain ⟨rfl, hsz, hP, hK, hD0, hG⟩ := hv
  have hx := B.exec
  have hb := B.bytes
  have hr := B.returns
  have hts := atoms_spec (ws := .code yX11_meanLeft cX11_meanLeft 4 (some .double) :: wsL_law) B.pre
  have ht : ∀ w ∈ wsL_law, w.before _ s = true := fun w h => hts w (List.mem_cons_of_mem _ h)
  have hown : s.vm.findClass RX11 = some m.cls := findClass_of_methodNamed B.named
  have hlocks := B.notSynchronized
  subst hsz
  have hD := hD0.self (sz := s.heap.size)
  generalize hAe : va_A (WX ox pl ru sh sp sl gr re pr ga rp bo fa gpl gin bbe bdi cP cI de) s.heap.size = A at hD hG ⊢
  have hA : ∀ q : Nat, s.heap.size ≤ q → A q := fun q h => by rw [← hAe]; exact Or.inr h
  have hS : va_S A s.heap s.heap [] := va_S.rf
  have hP : va_P (dC, dI) vwCl [(ox, .inr (13, [.ref pl, .ref ru, .ref sh, .ref sp, .ref sl, .ref gr, .ref re, .ref pr, .ref ga, .ref rp, .ref bo, .int 0])), (pl, .inr (1, [.int 0, .ref de, .int 0])), (ru, .inr (1, [.int 0, .ref de, .int 0])), (sh, .inr (1, [.int 0, .ref de, .int 0])), (sp, .inl (cP, 6, .inr (.inr (.inr (.inr (fun _ => none)))))), (ga, .inr (5, [.ref gpl, .ref gin, .int (-1), .int 0, .int 112, .int 0])), (bo, .inr (2, [.ref fa, .ref bbe, .ref bdi, .int 0, .int 0])), (fa, .inl (cI, 96, .inl (fun _ => 0)))] s.heap := hP
  have hD : va_D A [(ox, .inr (13, [.ref pl, .ref ru, .ref sh, .ref sp, .ref sl, .ref gr, .ref re, .ref pr, .ref ga, .ref rp, .ref bo, .int 0])), (pl, .inr (1, [.int 0, .ref de, .int 0])), (ru, .inr (1, [.int 0, .ref de, .int 0])), (sh, .inr (1, [.int 0, .ref de, .int 0])), (sp, .inl (cP, 6, .inr (.inr (.inr (.inr (fun _ => none)))))), (ga, .inr (5, [.ref gpl, .ref gin, .int (-1), .int 0, .int 112, .int 0])), (bo, .inr (2, [.ref fa, .ref bbe, .ref bdi, .int 0, .int 0])), (fa, .inl (cI, 96, .inl (fun _ => 0)))] := hD
  have hl := lv_entry ([.ref ox, .int a1]) (n := 4) (Nat.le_of_ble_eq_true rfl)
  rw [lg_entry_eq]
  generalize (lg_sl ([.ref ox, .int a1]) ++ List.replicate (4 - (lg_sl ([.ref ox, .int a1])).length) Slot.unset).toArray = ls at hl ⊢
  have hl : lv_has ls 4 [(0, .ref ox), (1, .int a1)] := hl
  refine lv_aload_n hx hb dX11_meanLeft_0 rfl (lv_at hl 0 rfl) ?_
  refine lv_iload_n hx hb dX11_meanLeft_1 rfl (lv_at hl 1 rfl) ?_
  have hPc := hP.sub (ws' := [(ox, .inr (13, [.ref pl, .ref ru, .ref sh, .ref sp, .ref sl, .ref gr, .ref re, .ref pr, .ref ga, .ref rp, .ref bo, .int 0])), (pl, .inr (1, [.int 0, .ref de, .int 0])), (ru, .inr (1, [.int 0, .ref de, .int 0])), (sh, .inr (1, [.int 0, .ref de, .int 0])), (sp, .inl (cP, 6, .inr (.inr (.inr (.inr (fun _ => none)))))), (ga, .inr (5, [.ref gpl, .ref gin, .int (-1), .int 0, .int 112, .int 0])), (bo, .inr (2, [.ref fa, .ref bbe, .ref bdi, .int 0, .int 0])), (fa, .inl (cI, 96, .inl (fun _ => 0)))]) [0, 1, 2, 3, 4, 5, 6, 7] rfl
  have hDc := hD.sub (ws' := [(ox, .inr (13, [.ref pl, .ref ru, .ref sh, .ref sp, .ref sl, .ref gr, .ref re, .ref pr, .ref ga, .ref rp, .ref bo, .int 0])), (pl, .inr (1, [.int 0, .ref de, .int 0])), (ru, .inr (1, [.int 0, .ref de, .int 0])), (sh, .inr (1, [.int 0, .ref de, .int 0])), (sp, .inl (cP, 6, .inr (.inr (.inr (.inr (fun _ => none)))))), (ga, .inr (5, [.ref gpl, .ref gin, .int (-1), .int 0, .int 112, .int 0])), (bo, .inr (2, [.ref fa, .ref bbe, .ref bdi, .int 0, .int 0])), (fa, .inl (cI, 96, .inl (fun _ => 0)))]) [0, 1, 2, 3, 4, 5, 6, 7] (by decide) rfl
  have hKc := hK.sub (tys' := [(cP, .object "Levelsmith$Player"), (cI, .int)]) [0, 1] rfl
  have hFc := va_free (wc := [(ox, .inr (13, [.ref pl, .ref ru, .ref sh, .ref sp, .ref sl, .ref gr, .ref re, .ref pr, .ref ga, .ref rp, .ref bo, .int 0])), (pl, .inr (1, [.int 0, .ref de, .int 0])), (ru, .inr (1, [.int 0, .ref de, .int 0])), (sh, .inr (1, [.int 0, .ref de, .int 0])), (sp, .inl (cP, 6, .inr (.inr (.inr (.inr (fun _ => none)))))), (ga, .inr (5, [.ref gpl, .ref gin, .int (-1), .int 0, .int 112, .int 0])), (bo, .inr (2, [.ref fa, .ref bbe, .ref bdi, .int 0, .int 0])), (fa, .inl (cI, 96, .inl (fun _ => 0)))]) hD hS hA [0, 1, 2, 3, 4, 5, 6, 7] rfl
  refine vx_callq (vx_runV (As := [.int a1]) (rest := []) ⟨hx, hb, hml, hown, ht⟩ (c_X11_wonReachOf l hlt dC dI de (ox) (pl) (ru) (sh) (sp) (sl) (gr) (re) (pr) (ga) (rp) (bo) (fa) (gpl) (gin) (bbe) (bdi) (cP) (cI) (a1) s.heap.size) (cwV 1 ht (gWV (wr_37 _ (List.mem_of_getElem? (i := 23) rfl)) (wr_38 _ (List.mem_of_getElem? (i := 0) rfl)) (wr_38 _ (List.mem_of_getElem? (i := 1) rfl)) (wr_1 _ (List.mem_of_getElem? (i := 2) rfl)) (wr_38 _ (List.mem_of_getElem? (i := 2) rfl))) rfl rfl rfl (by decide +kernel) ⟨Nat.le_of_ble_eq_true rfl, Nat.le_of_ble_eq_true rfl⟩) ⟨PW_blind, va_recv hKc hPc (ci := 13) (q0 := 0) rfl rfl, PW_call hPc hDc hKc hS hG hFc⟩ rfl rfl hl.1 rfl (lv_room (Nat.le_of_ble_eq_true rfl)) dX11_meanLeft_2 ⟨Nat.le_of_ble_eq_true rfl, Nat.le_of_ble_eq_true rfl⟩) hS (fun q _ h => hFc q h) hFc (fun q _ h => hFc q h) (fun E ce q9 u t H1 locs1 ht9 hvm9 _ hR9 hz9 hk9 hS9 hc9 hv9 hcl9 => ?_) (fun r_2 u t H1 locs ht9 hvm hw hB hz1 hk1 hS => False.elim hw)
  exact vx_out (fun x hx => (hex x hx).elim) hlocks hc9 hv9 hcl9 (fun t9 e9 _ => XX_out hR9 hS9 e9) hS9.2.2 (Nat.le_of_ble_eq_true rfl) (Nat.le_of_ble_eq_true rfl)
