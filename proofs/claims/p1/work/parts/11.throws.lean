theorem dX11_runAt_0 : decode cX11_runAt 0 = .ok (.iload_n 1, 1) := by decide +kernel
theorem dX11_runAt_1 : decode cX11_runAt 1 = .ok (.ifCond .lt 14, 3) := by decide +kernel
theorem dX11_runAt_4 : decode cX11_runAt 4 = .ok (.iload_n 1, 1) := by decide +kernel
theorem dX11_runAt_5 : decode cX11_runAt 5 = .ok (.aload_n 0, 1) := by decide +kernel
theorem dX11_runAt_6 : decode cX11_runAt 6 = .ok (.getfield 16, 3) := by decide +kernel
theorem dX11_runAt_9 : decode cX11_runAt 9 = .ok (.invokevirtual 108, 3) := by decide +kernel
theorem dX11_runAt_12 : decode cX11_runAt 12 = .ok (.if_icmp .lt 14, 3) := by decide +kernel
theorem dX11_runAt_15 : decode cX11_runAt 15 = .ok (.new 157, 3) := by decide +kernel
theorem dX11_runAt_18 : decode cX11_runAt 18 = .ok (.dup, 1) := by decide +kernel
theorem dX11_runAt_19 : decode cX11_runAt 19 = .ok (.ldc_w 446, 3) := by decide +kernel
theorem dX11_runAt_22 : decode cX11_runAt 22 = .ok (.invokespecial 161, 3) := by decide +kernel
theorem dX11_runAt_25 : decode cX11_runAt 25 = .ok (.athrow, 1) := by decide +kernel
theorem dX11_makerAt_0 : decode cX11_makerAt 0 = .ok (.iload_n 1, 1) := by decide +kernel
theorem dX11_makerAt_1 : decode cX11_makerAt 1 = .ok (.ifCond .lt 14, 3) := by decide +kernel
theorem dX11_makerAt_4 : decode cX11_makerAt 4 = .ok (.iload_n 1, 1) := by decide +kernel
theorem dX11_makerAt_5 : decode cX11_makerAt 5 = .ok (.aload_n 0, 1) := by decide +kernel
theorem dX11_makerAt_6 : decode cX11_makerAt 6 = .ok (.getfield 19, 3) := by decide +kernel
theorem dX11_makerAt_9 : decode cX11_makerAt 9 = .ok (.invokevirtual 108, 3) := by decide +kernel
theorem dX11_makerAt_12 : decode cX11_makerAt 12 = .ok (.if_icmp .lt 14, 3) := by decide +kernel
theorem dX11_makerAt_15 : decode cX11_makerAt 15 = .ok (.new 157, 3) := by decide +kernel
theorem dX11_makerAt_18 : decode cX11_makerAt 18 = .ok (.dup, 1) := by decide +kernel
theorem dX11_makerAt_19 : decode cX11_makerAt 19 = .ok (.ldc_w 407, 3) := by decide +kernel
theorem dX11_makerAt_22 : decode cX11_makerAt 22 = .ok (.invokespecial 161, 3) := by decide +kernel
theorem dX11_makerAt_25 : decode cX11_makerAt 25 = .ok (.athrow, 1) := by decide +kernel
theorem dX11_planWithCell_0 : decode cX11_planWithCell 0 = .ok (.aload_n 0, 1) := by decide +kernel
theorem dX11_planWithCell_1 : decode cX11_planWithCell 1 = .ok (.iload_n 1, 1) := by decide +kernel
theorem dX11_planWithCell_2 : decode cX11_planWithCell 2 = .ok (.invokevirtual 153, 3) := by decide +kernel
theorem dX11_reachOf_0 : decode cX11_reachOf 0 = .ok (.aload_n 0, 1) := by decide +kernel
theorem dX11_reachOf_1 : decode cX11_reachOf 1 = .ok (.iload_n 1, 1) := by decide +kernel
theorem dX11_reachOf_2 : decode cX11_reachOf 2 = .ok (.invokevirtual 153, 3) := by decide +kernel
theorem dX11_wonReachOf_0 : decode cX11_wonReachOf 0 = .ok (.aload_n 0, 1) := by decide +kernel
theorem dX11_wonReachOf_1 : decode cX11_wonReachOf 1 = .ok (.iload_n 1, 1) := by decide +kernel
theorem dX11_wonReachOf_2 : decode cX11_wonReachOf 2 = .ok (.invokevirtual 176, 3) := by decide +kernel
theorem dX11_reachWithLeft_0 : decode cX11_reachWithLeft 0 = .ok (.aload_n 0, 1) := by decide +kernel
theorem dX11_reachWithLeft_1 : decode cX11_reachWithLeft 1 = .ok (.iload_n 1, 1) := by decide +kernel
theorem dX11_reachWithLeft_2 : decode cX11_reachWithLeft 2 = .ok (.invokevirtual 176, 3) := by decide +kernel
set_option maxHeartbeats 4000000 in
set_option maxRecDepth 100000 in
theorem c_X11_runAt (l : Launch) (hlt : l.stackTraces = false) (dC : Nat → ClassId) (dI : Nat → Nat → Nat) (de : Nat) (ox : Nat) (pl : Nat) (ru : Nat) (sh : Nat) (sp : Nat) (sl : Nat) (gr : Nat) (re : Nat) (pr : Nat) (ga : Nat) (rp : Nat) (bo : Nat) (fa : Nat) (gpl : Nat) (gin : Nat) (bbe : Nat) (bdi : Nat) (cP : ClassId) (cI : ClassId) (a1 : Int32) (sz : Nat) : vx_Met l yX11_runAt (.code yX11_runAt cX11_runAt 2 (some (.object "Levelsmith$Run")) :: wsL_law) { frames := 6, cells := 1, slots := 6, locals := 90 } (va_Pc [.ref ox, .int a1] (PW dC dI de [(cP, .object "Levelsmith$Player"), (cI, .int)] (WX ox pl ru sh sp sl gr re pr ga rp bo fa gpl gin bbe bdi cP cI de) sz)) (va_Qq (fun (_ : Option Nat) (_ : Unit) => False) (fun (_ : Unit) (_ : State) => True) (va_A (WX ox pl ru sh sp sl gr re pr ga rp bo fa gpl gin bbe bdi cP cI de) sz)) (XX (fun E => E = "java/lang/IndexOutOfBoundsException") (va_A (WX ox pl ru sh sp sl gr re pr ga rp bo fa gpl gin bbe bdi cP cI de) sz)) 1 6 (va_A (WX ox pl ru sh sp sl gr re pr ga rp bo fa gpl gin bbe bdi cP cI de) sz) := by
  refine vx_ofW (cc := cX11_runAt) (maxL := 2) (ret := (some (.object "Levelsmith$Run"))) (by decide) rfl ?_
  intro p e s m args below meth c s₁ B hml hex hv
  obtain ⟨rfl, hsz, hP, hK, hD0, hG⟩ := hv
  have hx := B.exec
  have hb := B.bytes
  have hr := B.returns
  have hts := atoms_spec (ws := .code yX11_runAt cX11_runAt 2 (some (.object "Levelsmith$Run")) :: wsL_law) B.pre
  have ht : ∀ w ∈ wsL_law, w.before _ s = true := fun w h => hts w (List.mem_cons_of_mem _ h)
  have hown : s.vm.findClass RX11 = some m.cls := findClass_of_methodNamed B.named
  have hlocks := B.notSynchronized
  subst hsz
  have hD := hD0.self (sz := s.heap.size)
  generalize hAe : va_A (WX ox pl ru sh sp sl gr re pr ga rp bo fa gpl gin bbe bdi cP cI de) s.heap.size = A at hD hG ⊢
  have hA : ∀ q : Nat, s.heap.size ≤ q → A q := fun q h => by rw [← hAe]; exact Or.inr h
  have hS : va_S A s.heap s.heap [] := va_S.rf
  have hP : va_P (dC, dI) vwCl [(ox, .inr (13, [.ref pl, .ref ru, .ref sh, .ref sp, .ref sl, .ref gr, .ref re, .ref pr, .ref ga, .ref rp, .ref bo, .int 0])), (pl, .inr (1, [.int 0, .ref de, .int 0])), (ru, .inr (1, [.int 0, .ref de, .int 0])), (sh, .inr (1, [.int 0, .ref de, .int 0])), (sp, .inl (cP, 6, .inr (.inr (.inr (.inr (fun _ => none)))))), (ga, .inr (5, [.ref gpl, .ref gin, .int (-1), .int 0, .int 112, .int 0])), (bo, .inr (2, [.ref fa, .ref bbe, .ref bdi, .int 0, .int 0])), (fa, .inl (cI, 96, .inl (fun _ => 0)))] s.heap := hP
  have hD : va_D A [(ox, .inr (13, [.ref pl, .ref ru, .ref sh, .ref sp, .ref sl, .ref gr, .ref re, .ref pr, .ref ga, .ref rp, .ref bo, .int 0])), (pl, .inr (1, [.int 0, .ref de, .int 0])), (ru, .inr (1, [.int 0, .ref de, .int 0])), (sh, .inr (1, [.int 0, .ref de, .int 0])), (sp, .inl (cP, 6, .inr (.inr (.inr (.inr (fun _ => none)))))), (ga, .inr (5, [.ref gpl, .ref gin, .int (-1), .int 0, .int 112, .int 0])), (bo, .inr (2, [.ref fa, .ref bbe, .ref bdi, .int 0, .int 0])), (fa, .inl (cI, 96, .inl (fun _ => 0)))] := hD
  have hl := lv_entry ([.ref ox, .int a1]) (n := 2) (Nat.le_of_ble_eq_true rfl)
  rw [lg_entry_eq]
  generalize (lg_sl ([.ref ox, .int a1]) ++ List.replicate (2 - (lg_sl ([.ref ox, .int a1])).length) Slot.unset).toArray = ls at hl ⊢
  have hl : lv_has ls 2 [(0, .ref ox), (1, .int a1)] := hl
  refine lv_iload_n hx hb dX11_runAt_0 rfl (lv_at hl 1 rfl) ?_
  refine lv_if_lt (tgt := 15) hx hb dX11_runAt_1 (by decide) (fun c_1 => ?_) (fun c_1 => ?_)
  · obtain ⟨sa, hstr⟩ := hG.2.1 (446, "no such run") (List.mem_of_getElem? (i := 27) rfl)
    exact vx_throwSW hx hb hlt hown (by decide) (by decide) (ht _ (wr_18 _ (List.mem_of_getElem? (i := 22) rfl))) (ht _ (wr_18 _ (List.mem_of_getElem? (i := 23) rfl))) hstr (vx_hat (fun w h => ht w (wx_2 w h)) te_2 (gx_bad hG (X := "java/lang/IndexOutOfBoundsException") (List.mem_of_getElem? (i := 0) rfl))) tg_2 hG.1.1 hG.1.2.1 hS (by rw [hml]; exact hl.1) dX11_runAt_15 dX11_runAt_18 dX11_runAt_19 dX11_runAt_22 dX11_runAt_25 (fun x hx => (hex x hx).elim) (Nat.le_of_ble_eq_true rfl) (Nat.le_of_ble_eq_true rfl) (Nat.le_of_ble_eq_true rfl) (Nat.le_of_ble_eq_true rfl) hlocks (fun t hv9 h1 h2 => XX_of rfl hS hA h1 h2) hS.2.2 (Nat.le_of_ble_eq_true rfl) (Nat.le_of_ble_eq_true rfl)
  · refine lv_iload_n hx hb dX11_runAt_4 rfl (lv_at hl 1 rfl) ?_
    refine lv_aload_n hx hb dX11_runAt_5 rfl (lv_at hl 0 rfl) ?_
    refine va_get (D := (dC, dI)) (ci := 13) (v := .ref ru) (C := RX11) (T := TX11) (N := 12) hx hb ht inlX11 hown hK hP 0 rfl rfl 1 (by decide) (ht _ (wr_1 _ (List.mem_of_getElem? (i := 18) rfl))) (fun _ h9 => h9) rfl dX11_runAt_6 ?_
    have hPc := hP.sub (ws' := [(ru, .inr (1, [.int 0, .ref de, .int 0]))]) [2] rfl
    have hDc := hD.sub (ws' := [(ru, .inr (1, [.int 0, .ref de, .int 0]))]) [2] (by decide) rfl
    have hKc := hK.sub (tys' := []) [] rfl
    have hFc := va_free (wc := [(ru, .inr (1, [.int 0, .ref de, .int 0]))]) hD hS hA [2] rfl
    refine va_calli (va_runV (As := []) (rest := [.int a1]) ⟨hx, hb, hml, hown, ht⟩ (c_Jx4a65c_size_8abf5 l dC dI de (ru) (0) (.ref de) (0) s.heap.size) (cwV 0 ht (gWV (wr_14 _ (List.mem_of_getElem? (i := 5) rfl)) (wr_14 _ (List.mem_of_getElem? (i := 6) rfl)) (wr_14 _ (List.mem_of_getElem? (i := 7) rfl)) (wr_1 _ (List.mem_of_getElem? (i := 16) rfl)) (wr_14 _ (List.mem_of_getElem? (i := 8) rfl))) rfl rfl rfl (by decide +kernel) ⟨Nat.le_of_ble_eq_true rfl, Nat.le_of_ble_eq_true rfl⟩) ⟨PW_blind, va_recv hKc hPc (ci := 1) (q0 := 0) rfl rfl, PW_call hPc hDc hKc hS hG hFc⟩ rfl rfl hl.1 rfl (lv_room (Nat.le_of_ble_eq_true rfl)) dX11_runAt_9 ⟨Nat.le_of_ble_eq_true rfl, Nat.le_of_ble_eq_true rfl⟩) hS (fun q _ h => hFc q h) hFc (fun r_9 u t H1 locs ht9 hvm hw hB hz1 hk1 hS => ?_)
    obtain ⟨hP1, hK1, hD1⟩ := hB
    rw [ht9] at hP1
    have hK1 := va_K.moved hvm.symm hK1
    obtain ⟨hP, hD⟩ := va_join (wr := [(ox, .inr (13, [.ref pl, .ref ru, .ref sh, .ref sp, .ref sl, .ref gr, .ref re, .ref pr, .ref ga, .ref rp, .ref bo, .int 0])), (pl, .inr (1, [.int 0, .ref de, .int 0])), (sh, .inr (1, [.int 0, .ref de, .int 0])), (sp, .inl (cP, 6, .inr (.inr (.inr (.inr (fun _ => none)))))), (ga, .inr (5, [.ref gpl, .ref gin, .int (-1), .int 0, .int 112, .int 0])), (bo, .inr (2, [.ref fa, .ref bbe, .ref bdi, .int 0, .int 0])), (fa, .inl (cI, 96, .inl (fun _ => 0)))]) (w1 := [(ru, .inr (1, [.int 0, .ref de, .int 0]))]) hP hD [2] [0, 1, 3, 4, 5, 6, 7] rfl rfl (by decide) (by decide) hk1 hFc hP1 hD1
    have hK := (hK.sub (tys' := [(cP, .object "Levelsmith$Player"), (cI, .int)]) [0, 1] rfl).app hK1
    generalize H1 = H at hP hS ⊢
    replace hP : va_P (dC, dI) vwCl [(ox, .inr (13, [.ref pl, .ref ru, .ref sh, .ref sp, .ref sl, .ref gr, .ref re, .ref pr, .ref ga, .ref rp, .ref bo, .int 0])), (pl, .inr (1, [.int 0, .ref de, .int 0])), (sh, .inr (1, [.int 0, .ref de, .int 0])), (sp, .inl (cP, 6, .inr (.inr (.inr (.inr (fun _ => none)))))), (ga, .inr (5, [.ref gpl, .ref gin, .int (-1), .int 0, .int 112, .int 0])), (bo, .inr (2, [.ref fa, .ref bbe, .ref bdi, .int 0, .int 0])), (fa, .inl (cI, 96, .inl (fun _ => 0))), (ru, .inr (1, [.int 0, .ref de, .int 0]))] H := hP
    replace hD : va_D A [(ox, .inr (13, [.ref pl, .ref ru, .ref sh, .ref sp, .ref sl, .ref gr, .ref re, .ref pr, .ref ga, .ref rp, .ref bo, .int 0])), (pl, .inr (1, [.int 0, .ref de, .int 0])), (sh, .inr (1, [.int 0, .ref de, .int 0])), (sp, .inl (cP, 6, .inr (.inr (.inr (.inr (fun _ => none)))))), (ga, .inr (5, [.ref gpl, .ref gin, .int (-1), .int 0, .int 112, .int 0])), (bo, .inr (2, [.ref fa, .ref bbe, .ref bdi, .int 0, .int 0])), (fa, .inl (cI, 96, .inl (fun _ => 0))), (ru, .inr (1, [.int 0, .ref de, .int 0]))] := hD
    have hK : va_K (dC, dI) vwCl [(cP, .object "Levelsmith$Player"), (cI, .int)] s := hK
    have e_9 : r_9 = 0 := hw
    subst e_9
    refine lv_icmp_lt (tgt := 26) hx hb dX11_runAt_12 (by decide) (fun c_12 => absurd c_12 c_1) (fun c_12 => ?_)
    obtain ⟨sa, hstr⟩ := hG.2.1 (446, "no such run") (List.mem_of_getElem? (i := 27) rfl)
    exact vx_throwSW hx hb hlt hown (by decide) (by decide) (ht _ (wr_18 _ (List.mem_of_getElem? (i := 22) rfl))) (ht _ (wr_18 _ (List.mem_of_getElem? (i := 23) rfl))) hstr (vx_hat (fun w h => ht w (wx_2 w h)) te_2 (gx_bad hG (X := "java/lang/IndexOutOfBoundsException") (List.mem_of_getElem? (i := 0) rfl))) tg_2 hG.1.1 hG.1.2.1 hS (by rw [hml]; exact hl.1) dX11_runAt_15 dX11_runAt_18 dX11_runAt_19 dX11_runAt_22 dX11_runAt_25 (fun x hx => (hex x hx).elim) (Nat.le_of_ble_eq_true rfl) (Nat.le_of_ble_eq_true rfl) (Nat.le_of_ble_eq_true rfl) (Nat.le_of_ble_eq_true rfl) hlocks (fun t hv9 h1 h2 => XX_of rfl hS hA h1 h2) hS.2.2 (Nat.le_of_ble_eq_true rfl) (Nat.le_of_ble_eq_true rfl)
set_option maxHeartbeats 4000000 in
set_option maxRecDepth 100000 in
theorem c_X11_makerAt (l : Launch) (hlt : l.stackTraces = false) (dC : Nat → ClassId) (dI : Nat → Nat → Nat) (de : Nat) (ox : Nat) (pl : Nat) (ru : Nat) (sh : Nat) (sp : Nat) (sl : Nat) (gr : Nat) (re : Nat) (pr : Nat) (ga : Nat) (rp : Nat) (bo : Nat) (fa : Nat) (gpl : Nat) (gin : Nat) (bbe : Nat) (bdi : Nat) (cP : ClassId) (cI : ClassId) (a1 : Int32) (sz : Nat) : vx_Met l yX11_makerAt (.code yX11_makerAt cX11_makerAt 5 (some .int) :: wsL_law) { frames := 6, cells := 1, slots := 6, locals := 90 } (va_Pc [.ref ox, .int a1] (PW dC dI de [(cP, .object "Levelsmith$Player"), (cI, .int)] (WX ox pl ru sh sp sl gr re pr ga rp bo fa gpl gin bbe bdi cP cI de) sz)) (va_Qi (fun (_ : Int32) (_ : Unit) => False) (fun (_ : Unit) (_ : State) => True) (va_A (WX ox pl ru sh sp sl gr re pr ga rp bo fa gpl gin bbe bdi cP cI de) sz)) (XX (fun E => E = "java/lang/IndexOutOfBoundsException") (va_A (WX ox pl ru sh sp sl gr re pr ga rp bo fa gpl gin bbe bdi cP cI de) sz)) 1 6 (va_A (WX ox pl ru sh sp sl gr re pr ga rp bo fa gpl gin bbe bdi cP cI de) sz) := by
  refine vx_ofW (cc := cX11_makerAt) (maxL := 5) (ret := (some .int)) (by decide) rfl ?_
  intro p e s m args below meth c s₁ B hml hex hv
  obtain ⟨rfl, hsz, hP, hK, hD0, hG⟩ := hv
  have hx := B.exec
  have hb := B.bytes
  have hr := B.returns
  have hts := atoms_spec (ws := .code yX11_makerAt cX11_makerAt 5 (some .int) :: wsL_law) B.pre
  have ht : ∀ w ∈ wsL_law, w.before _ s = true := fun w h => hts w (List.mem_cons_of_mem _ h)
  have hown : s.vm.findClass RX11 = some m.cls := findClass_of_methodNamed B.named
  have hlocks := B.notSynchronized
  subst hsz
  have hD := hD0.self (sz := s.heap.size)
  generalize hAe : va_A (WX ox pl ru sh sp sl gr re pr ga rp bo fa gpl gin bbe bdi cP cI de) s.heap.size = A at hD hG ⊢
  have hA : ∀ q : Nat, s.heap.size ≤ q → A q := fun q h => by rw [← hAe]; exact Or.inr h
  have hS : va_S A s.heap s.heap [] := va_S.rf
  have hP : va_P (dC, dI) vwCl [(ox, .inr (13, [.ref pl, .ref ru, .ref sh, .ref sp, .ref sl, .ref gr, .ref re, .ref pr, .ref ga, .ref rp, .ref bo, .int 0])), (pl, .inr (1, [.int 0, .ref de, .int 0])), (ru, .inr (1, [.int 0, .ref de, .int 0])), (sh, .inr (1, [.int 0, .ref de, .int 0])), (sp, .inl (cP, 6, .inr (.inr (.inr (.inr (fun _ => none)))))), (ga, .inr (5, [.ref gpl, .ref gin, .int (-1), .int 0, .int 112, .int 0])), (bo, .inr (2, [.ref fa, .ref bbe, .ref bdi, .int 0, .int 0])), (fa, .inl (cI, 96, .inl (fun _ => 0)))] s.heap := hP
  have hD : va_D A [(ox, .inr (13, [.ref pl, .ref ru, .ref sh, .ref sp, .ref sl, .ref gr, .ref re, .ref pr, .ref ga, .ref rp, .ref bo, .int 0])), (pl, .inr (1, [.int 0, .ref de, .int 0])), (ru, .inr (1, [.int 0, .ref de, .int 0])), (sh, .inr (1, [.int 0, .ref de, .int 0])), (sp, .inl (cP, 6, .inr (.inr (.inr (.inr (fun _ => none)))))), (ga, .inr (5, [.ref gpl, .ref gin, .int (-1), .int 0, .int 112, .int 0])), (bo, .inr (2, [.ref fa, .ref bbe, .ref bdi, .int 0, .int 0])), (fa, .inl (cI, 96, .inl (fun _ => 0)))] := hD
  have hl := lv_entry ([.ref ox, .int a1]) (n := 5) (Nat.le_of_ble_eq_true rfl)
  rw [lg_entry_eq]
  generalize (lg_sl ([.ref ox, .int a1]) ++ List.replicate (5 - (lg_sl ([.ref ox, .int a1])).length) Slot.unset).toArray = ls at hl ⊢
  have hl : lv_has ls 5 [(0, .ref ox), (1, .int a1)] := hl
  refine lv_iload_n hx hb dX11_makerAt_0 rfl (lv_at hl 1 rfl) ?_
  refine lv_if_lt (tgt := 15) hx hb dX11_makerAt_1 (by decide) (fun c_1 => ?_) (fun c_1 => ?_)
  · obtain ⟨sa, hstr⟩ := hG.2.1 (407, "no such rank") (List.mem_of_getElem? (i := 35) rfl)
    exact vx_throwSW hx hb hlt hown (by decide) (by decide) (ht _ (wr_18 _ (List.mem_of_getElem? (i := 22) rfl))) (ht _ (wr_18 _ (List.mem_of_getElem? (i := 23) rfl))) hstr (vx_hat (fun w h => ht w (wx_2 w h)) te_2 (gx_bad hG (X := "java/lang/IndexOutOfBoundsException") (List.mem_of_getElem? (i := 0) rfl))) tg_2 hG.1.1 hG.1.2.1 hS (by rw [hml]; exact hl.1) dX11_makerAt_15 dX11_makerAt_18 dX11_makerAt_19 dX11_makerAt_22 dX11_makerAt_25 (fun x hx => (hex x hx).elim) (Nat.le_of_ble_eq_true rfl) (Nat.le_of_ble_eq_true rfl) (Nat.le_of_ble_eq_true rfl) (Nat.le_of_ble_eq_true rfl) hlocks (fun t hv9 h1 h2 => XX_of rfl hS hA h1 h2) hS.2.2 (Nat.le_of_ble_eq_true rfl) (Nat.le_of_ble_eq_true rfl)
  · refine lv_iload_n hx hb dX11_makerAt_4 rfl (lv_at hl 1 rfl) ?_
    refine lv_aload_n hx hb dX11_makerAt_5 rfl (lv_at hl 0 rfl) ?_
    refine va_get (D := (dC, dI)) (ci := 13) (v := .ref sh) (C := RX11) (T := TX11) (N := 12) hx hb ht inlX11 hown hK hP 0 rfl rfl 2 (by decide) (ht _ (wr_1 _ (List.mem_of_getElem? (i := 19) rfl))) (fun _ h9 => h9) rfl dX11_makerAt_6 ?_
    have hPc := hP.sub (ws' := [(sh, .inr (1, [.int 0, .ref de, .int 0]))]) [3] rfl
    have hDc := hD.sub (ws' := [(sh, .inr (1, [.int 0, .ref de, .int 0]))]) [3] (by decide) rfl
    have hKc := hK.sub (tys' := []) [] rfl
    have hFc := va_free (wc := [(sh, .inr (1, [.int 0, .ref de, .int 0]))]) hD hS hA [3] rfl
    refine va_calli (va_runV (As := []) (rest := [.int a1]) ⟨hx, hb, hml, hown, ht⟩ (c_Jx4a65c_size_8abf5 l dC dI de (sh) (0) (.ref de) (0) s.heap.size) (cwV 0 ht (gWV (wr_14 _ (List.mem_of_getElem? (i := 5) rfl)) (wr_14 _ (List.mem_of_getElem? (i := 6) rfl)) (wr_14 _ (List.mem_of_getElem? (i := 7) rfl)) (wr_1 _ (List.mem_of_getElem? (i := 16) rfl)) (wr_14 _ (List.mem_of_getElem? (i := 8) rfl))) rfl rfl rfl (by decide +kernel) ⟨Nat.le_of_ble_eq_true rfl, Nat.le_of_ble_eq_true rfl⟩) ⟨PW_blind, va_recv hKc hPc (ci := 1) (q0 := 0) rfl rfl, PW_call hPc hDc hKc hS hG hFc⟩ rfl rfl hl.1 rfl (lv_room (Nat.le_of_ble_eq_true rfl)) dX11_makerAt_9 ⟨Nat.le_of_ble_eq_true rfl, Nat.le_of_ble_eq_true rfl⟩) hS (fun q _ h => hFc q h) hFc (fun r_9 u t H1 locs ht9 hvm hw hB hz1 hk1 hS => ?_)
    obtain ⟨hP1, hK1, hD1⟩ := hB
    rw [ht9] at hP1
    have hK1 := va_K.moved hvm.symm hK1
    obtain ⟨hP, hD⟩ := va_join (wr := [(ox, .inr (13, [.ref pl, .ref ru, .ref sh, .ref sp, .ref sl, .ref gr, .ref re, .ref pr, .ref ga, .ref rp, .ref bo, .int 0])), (pl, .inr (1, [.int 0, .ref de, .int 0])), (ru, .inr (1, [.int 0, .ref de, .int 0])), (sp, .inl (cP, 6, .inr (.inr (.inr (.inr (fun _ => none)))))), (ga, .inr (5, [.ref gpl, .ref gin, .int (-1), .int 0, .int 112, .int 0])), (bo, .inr (2, [.ref fa, .ref bbe, .ref bdi, .int 0, .int 0])), (fa, .inl (cI, 96, .inl (fun _ => 0)))]) (w1 := [(sh, .inr (1, [.int 0, .ref de, .int 0]))]) hP hD [3] [0, 1, 2, 4, 5, 6, 7] rfl rfl (by decide) (by decide) hk1 hFc hP1 hD1
    have hK := (hK.sub (tys' := [(cP, .object "Levelsmith$Player"), (cI, .int)]) [0, 1] rfl).app hK1
    generalize H1 = H at hP hS ⊢
    replace hP : va_P (dC, dI) vwCl [(ox, .inr (13, [.ref pl, .ref ru, .ref sh, .ref sp, .ref sl, .ref gr, .ref re, .ref pr, .ref ga, .ref rp, .ref bo, .int 0])), (pl, .inr (1, [.int 0, .ref de, .int 0])), (ru, .inr (1, [.int 0, .ref de, .int 0])), (sp, .inl (cP, 6, .inr (.inr (.inr (.inr (fun _ => none)))))), (ga, .inr (5, [.ref gpl, .ref gin, .int (-1), .int 0, .int 112, .int 0])), (bo, .inr (2, [.ref fa, .ref bbe, .ref bdi, .int 0, .int 0])), (fa, .inl (cI, 96, .inl (fun _ => 0))), (sh, .inr (1, [.int 0, .ref de, .int 0]))] H := hP
    replace hD : va_D A [(ox, .inr (13, [.ref pl, .ref ru, .ref sh, .ref sp, .ref sl, .ref gr, .ref re, .ref pr, .ref ga, .ref rp, .ref bo, .int 0])), (pl, .inr (1, [.int 0, .ref de, .int 0])), (ru, .inr (1, [.int 0, .ref de, .int 0])), (sp, .inl (cP, 6, .inr (.inr (.inr (.inr (fun _ => none)))))), (ga, .inr (5, [.ref gpl, .ref gin, .int (-1), .int 0, .int 112, .int 0])), (bo, .inr (2, [.ref fa, .ref bbe, .ref bdi, .int 0, .int 0])), (fa, .inl (cI, 96, .inl (fun _ => 0))), (sh, .inr (1, [.int 0, .ref de, .int 0]))] := hD
    have hK : va_K (dC, dI) vwCl [(cP, .object "Levelsmith$Player"), (cI, .int)] s := hK
    have e_9 : r_9 = 0 := hw
    subst e_9
    refine lv_icmp_lt (tgt := 26) hx hb dX11_makerAt_12 (by decide) (fun c_12 => absurd c_12 c_1) (fun c_12 => ?_)
    obtain ⟨sa, hstr⟩ := hG.2.1 (407, "no such rank") (List.mem_of_getElem? (i := 35) rfl)
    exact vx_throwSW hx hb hlt hown (by decide) (by decide) (ht _ (wr_18 _ (List.mem_of_getElem? (i := 22) rfl))) (ht _ (wr_18 _ (List.mem_of_getElem? (i := 23) rfl))) hstr (vx_hat (fun w h => ht w (wx_2 w h)) te_2 (gx_bad hG (X := "java/lang/IndexOutOfBoundsException") (List.mem_of_getElem? (i := 0) rfl))) tg_2 hG.1.1 hG.1.2.1 hS (by rw [hml]; exact hl.1) dX11_makerAt_15 dX11_makerAt_18 dX11_makerAt_19 dX11_makerAt_22 dX11_makerAt_25 (fun x hx => (hex x hx).elim) (Nat.le_of_ble_eq_true rfl) (Nat.le_of_ble_eq_true rfl) (Nat.le_of_ble_eq_true rfl) (Nat.le_of_ble_eq_true rfl) hlocks (fun t hv9 h1 h2 => XX_of rfl hS hA h1 h2) hS.2.2 (Nat.le_of_ble_eq_true rfl) (Nat.le_of_ble_eq_true rfl)
set_option maxHeartbeats 4000000 in
set_option maxRecDepth 100000 in
theorem c_X11_planWithCell (l : Launch) (hlt : l.stackTraces = false) (dC : Nat → ClassId) (dI : Nat → Nat → Nat) (de : Nat) (ox : Nat) (pl : Nat) (ru : Nat) (sh : Nat) (sp : Nat) (sl : Nat) (gr : Nat) (re : Nat) (pr : Nat) (ga : Nat) (rp : Nat) (bo : Nat) (fa : Nat) (gpl : Nat) (gin : Nat) (bbe : Nat) (bdi : Nat) (cP : ClassId) (cI : ClassId) (a1 : Int32) (a2 : Int32) (a3 : Int32) (sz : Nat) : vx_Met l yX11_planWithCell (.code yX11_planWithCell cX11_planWithCell 5 (some (.object "Levelsmith$Plan")) :: wsL_law) { frames := 7, cells := 1, slots := 6, locals := 111 } (va_Pc [.ref ox, .int a1, .int a2, .int a3] (PW dC dI de [(cP, .object "Levelsmith$Player"), (cI, .int)] (WX ox pl ru sh sp sl gr re pr ga rp bo fa gpl gin bbe bdi cP cI de) sz)) (va_Qq (fun (_ : Option Nat) (_ : Unit) => False) (fun (_ : Unit) (_ : State) => True) (va_A (WX ox pl ru sh sp sl gr re pr ga rp bo fa gpl gin bbe bdi cP cI de) sz)) (XX (fun E => E = "java/lang/IndexOutOfBoundsException") (va_A (WX ox pl ru sh sp sl gr re pr ga rp bo fa gpl gin bbe bdi cP cI de) sz)) 1 6 (va_A (WX ox pl ru sh sp sl gr re pr ga rp bo fa gpl gin bbe bdi cP cI de) sz) := by
  refine vx_ofW (cc := cX11_planWithCell) (maxL := 5) (ret := (some (.object "Levelsmith$Plan"))) (by decide) rfl ?_
  intro p e s m args below meth c s₁ B hml hex hv
  obtain ⟨rfl, hsz, hP, hK, hD0, hG⟩ := hv
  have hx := B.exec
  have hb := B.bytes
  have hr := B.returns
  have hts := atoms_spec (ws := .code yX11_planWithCell cX11_planWithCell 5 (some (.object "Levelsmith$Plan")) :: wsL_law) B.pre
  have ht : ∀ w ∈ wsL_law, w.before _ s = true := fun w h => hts w (List.mem_cons_of_mem _ h)
  have hown : s.vm.findClass RX11 = some m.cls := findClass_of_methodNamed B.named
  have hlocks := B.notSynchronized
  subst hsz
  have hD := hD0.self (sz := s.heap.size)
  generalize hAe : va_A (WX ox pl ru sh sp sl gr re pr ga rp bo fa gpl gin bbe bdi cP cI de) s.heap.size = A at hD hG ⊢
  have hA : ∀ q : Nat, s.heap.size ≤ q → A q := fun q h => by rw [← hAe]; exact Or.inr h
  have hS : va_S A s.heap s.heap [] := va_S.rf
  have hP : va_P (dC, dI) vwCl [(ox, .inr (13, [.ref pl, .ref ru, .ref sh, .ref sp, .ref sl, .ref gr, .ref re, .ref pr, .ref ga, .ref rp, .ref bo, .int 0])), (pl, .inr (1, [.int 0, .ref de, .int 0])), (ru, .inr (1, [.int 0, .ref de, .int 0])), (sh, .inr (1, [.int 0, .ref de, .int 0])), (sp, .inl (cP, 6, .inr (.inr (.inr (.inr (fun _ => none)))))), (ga, .inr (5, [.ref gpl, .ref gin, .int (-1), .int 0, .int 112, .int 0])), (bo, .inr (2, [.ref fa, .ref bbe, .ref bdi, .int 0, .int 0])), (fa, .inl (cI, 96, .inl (fun _ => 0)))] s.heap := hP
  have hD : va_D A [(ox, .inr (13, [.ref pl, .ref ru, .ref sh, .ref sp, .ref sl, .ref gr, .ref re, .ref pr, .ref ga, .ref rp, .ref bo, .int 0])), (pl, .inr (1, [.int 0, .ref de, .int 0])), (ru, .inr (1, [.int 0, .ref de, .int 0])), (sh, .inr (1, [.int 0, .ref de, .int 0])), (sp, .inl (cP, 6, .inr (.inr (.inr (.inr (fun _ => none)))))), (ga, .inr (5, [.ref gpl, .ref gin, .int (-1), .int 0, .int 112, .int 0])), (bo, .inr (2, [.ref fa, .ref bbe, .ref bdi, .int 0, .int 0])), (fa, .inl (cI, 96, .inl (fun _ => 0)))] := hD
  have hl := lv_entry ([.ref ox, .int a1, .int a2, .int a3]) (n := 5) (Nat.le_of_ble_eq_true rfl)
  rw [lg_entry_eq]
  generalize (lg_sl ([.ref ox, .int a1, .int a2, .int a3]) ++ List.replicate (5 - (lg_sl ([.ref ox, .int a1, .int a2, .int a3])).length) Slot.unset).toArray = ls at hl ⊢
  have hl : lv_has ls 5 [(0, .ref ox), (1, .int a1), (2, .int a2), (3, .int a3)] := hl
  refine lv_aload_n hx hb dX11_planWithCell_0 rfl (lv_at hl 0 rfl) ?_
  refine lv_iload_n hx hb dX11_planWithCell_1 rfl (lv_at hl 1 rfl) ?_
  have hPc := hP.sub (ws' := [(ox, .inr (13, [.ref pl, .ref ru, .ref sh, .ref sp, .ref sl, .ref gr, .ref re, .ref pr, .ref ga, .ref rp, .ref bo, .int 0])), (pl, .inr (1, [.int 0, .ref de, .int 0])), (ru, .inr (1, [.int 0, .ref de, .int 0])), (sh, .inr (1, [.int 0, .ref de, .int 0])), (sp, .inl (cP, 6, .inr (.inr (.inr (.inr (fun _ => none)))))), (ga, .inr (5, [.ref gpl, .ref gin, .int (-1), .int 0, .int 112, .int 0])), (bo, .inr (2, [.ref fa, .ref bbe, .ref bdi, .int 0, .int 0])), (fa, .inl (cI, 96, .inl (fun _ => 0)))]) [0, 1, 2, 3, 4, 5, 6, 7] rfl
  have hDc := hD.sub (ws' := [(ox, .inr (13, [.ref pl, .ref ru, .ref sh, .ref sp, .ref sl, .ref gr, .ref re, .ref pr, .ref ga, .ref rp, .ref bo, .int 0])), (pl, .inr (1, [.int 0, .ref de, .int 0])), (ru, .inr (1, [.int 0, .ref de, .int 0])), (sh, .inr (1, [.int 0, .ref de, .int 0])), (sp, .inl (cP, 6, .inr (.inr (.inr (.inr (fun _ => none)))))), (ga, .inr (5, [.ref gpl, .ref gin, .int (-1), .int 0, .int 112, .int 0])), (bo, .inr (2, [.ref fa, .ref bbe, .ref bdi, .int 0, .int 0])), (fa, .inl (cI, 96, .inl (fun _ => 0)))]) [0, 1, 2, 3, 4, 5, 6, 7] (by decide) rfl
  have hKc := hK.sub (tys' := [(cP, .object "Levelsmith$Player"), (cI, .int)]) [0, 1] rfl
  have hFc := va_free (wc := [(ox, .inr (13, [.ref pl, .ref ru, .ref sh, .ref sp, .ref sl, .ref gr, .ref re, .ref pr, .ref ga, .ref rp, .ref bo, .int 0])), (pl, .inr (1, [.int 0, .ref de, .int 0])), (ru, .inr (1, [.int 0, .ref de, .int 0])), (sh, .inr (1, [.int 0, .ref de, .int 0])), (sp, .inl (cP, 6, .inr (.inr (.inr (.inr (fun _ => none)))))), (ga, .inr (5, [.ref gpl, .ref gin, .int (-1), .int 0, .int 112, .int 0])), (bo, .inr (2, [.ref fa, .ref bbe, .ref bdi, .int 0, .int 0])), (fa, .inl (cI, 96, .inl (fun _ => 0)))]) hD hS hA [0, 1, 2, 3, 4, 5, 6, 7] rfl
  refine vx_callq (vx_runV (As := [.int a1]) (rest := []) ⟨hx, hb, hml, hown, ht⟩ (c_X11_planAt l hlt dC dI de (ox) (pl) (ru) (sh) (sp) (sl) (gr) (re) (pr) (ga) (rp) (bo) (fa) (gpl) (gin) (bbe) (bdi) (cP) (cI) (a1) s.heap.size) (cwV 1 ht (gWV (wr_19 _ (List.mem_of_getElem? (i := 0) rfl)) (wr_19 _ (List.mem_of_getElem? (i := 1) rfl)) (wr_19 _ (List.mem_of_getElem? (i := 2) rfl)) (wr_1 _ (List.mem_of_getElem? (i := 2) rfl)) (wr_19 _ (List.mem_of_getElem? (i := 3) rfl))) rfl rfl rfl (by decide +kernel) ⟨Nat.le_of_ble_eq_true rfl, Nat.le_of_ble_eq_true rfl⟩) ⟨PW_blind, va_recv hKc hPc (ci := 13) (q0 := 0) rfl rfl, PW_call hPc hDc hKc hS hG hFc⟩ rfl rfl hl.1 rfl (lv_room (Nat.le_of_ble_eq_true rfl)) dX11_planWithCell_2 ⟨Nat.le_of_ble_eq_true rfl, Nat.le_of_ble_eq_true rfl⟩) hS (fun q _ h => hFc q h) hFc (fun q _ h => hFc q h) (fun E ce q9 u t H1 locs1 ht9 hvm9 _ hR9 hz9 hk9 hS9 hc9 hv9 hcl9 => ?_) (fun r_2 u t H1 locs ht9 hvm hw hB hz1 hk1 hS => False.elim hw)
  exact vx_out (fun x hx => (hex x hx).elim) hlocks hc9 hv9 hcl9 (fun t9 e9 _ => XX_out hR9 hS9 e9) hS9.2.2 (Nat.le_of_ble_eq_true rfl) (Nat.le_of_ble_eq_true rfl)
set_option maxHeartbeats 4000000 in
set_option maxRecDepth 100000 in
theorem c_X11_reachOf (l : Launch) (hlt : l.stackTraces = false) (dC : Nat → ClassId) (dI : Nat → Nat → Nat) (de : Nat) (ox : Nat) (pl : Nat) (ru : Nat) (sh : Nat) (sp : Nat) (sl : Nat) (gr : Nat) (re : Nat) (pr : Nat) (ga : Nat) (rp : Nat) (bo : Nat) (fa : Nat) (gpl : Nat) (gin : Nat) (bbe : Nat) (bdi : Nat) (cP : ClassId) (cI : ClassId) (a1 : Int32) (sz : Nat) : vx_Met l yX11_reachOf (.code yX11_reachOf cX11_reachOf 3 (some (.object "Levelsmith$Reach")) :: wsL_law) { frames := 7, cells := 1, slots := 6, locals := 111 } (va_Pc [.ref ox, .int a1] (PW dC dI de [(cP, .object "Levelsmith$Player"), (cI, .int)] (WX ox pl ru sh sp sl gr re pr ga rp bo fa gpl gin bbe bdi cP cI de) sz)) (va_Qq (fun (_ : Option Nat) (_ : Unit) => False) (fun (_ : Unit) (_ : State) => True) (va_A (WX ox pl ru sh sp sl gr re pr ga rp bo fa gpl gin bbe bdi cP cI de) sz)) (XX (fun E => E = "java/lang/IndexOutOfBoundsException") (va_A (WX ox pl ru sh sp sl gr re pr ga rp bo fa gpl gin bbe bdi cP cI de) sz)) 1 6 (va_A (WX ox pl ru sh sp sl gr re pr ga rp bo fa gpl gin bbe bdi cP cI de) sz) := by
  refine vx_ofW (cc := cX11_reachOf) (maxL := 3) (ret := (some (.object "Levelsmith$Reach"))) (by decide) rfl ?_
  intro p e s m args below meth c s₁ B hml hex hv
  obtain ⟨rfl, hsz, hP, hK, hD0, hG⟩ := hv
  have hx := B.exec
  have hb := B.bytes
  have hr := B.returns
  have hts := atoms_spec (ws := .code yX11_reachOf cX11_reachOf 3 (some (.object "Levelsmith$Reach")) :: wsL_law) B.pre
  have ht : ∀ w ∈ wsL_law, w.before _ s = true := fun w h => hts w (List.mem_cons_of_mem _ h)
  have hown : s.vm.findClass RX11 = some m.cls := findClass_of_methodNamed B.named
  have hlocks := B.notSynchronized
  subst hsz
  have hD := hD0.self (sz := s.heap.size)
  generalize hAe : va_A (WX ox pl ru sh sp sl gr re pr ga rp bo fa gpl gin bbe bdi cP cI de) s.heap.size = A at hD hG ⊢
  have hA : ∀ q : Nat, s.heap.size ≤ q → A q := fun q h => by rw [← hAe]; exact Or.inr h
  have hS : va_S A s.heap s.heap [] := va_S.rf
  have hP : va_P (dC, dI) vwCl [(ox, .inr (13, [.ref pl, .ref ru, .ref sh, .ref sp, .ref sl, .ref gr, .ref re, .ref pr, .ref ga, .ref rp, .ref bo, .int 0])), (pl, .inr (1, [.int 0, .ref de, .int 0])), (ru, .inr (1, [.int 0, .ref de, .int 0])), (sh, .inr (1, [.int 0, .ref de, .int 0])), (sp, .inl (cP, 6, .inr (.inr (.inr (.inr (fun _ => none)))))), (ga, .inr (5, [.ref gpl, .ref gin, .int (-1), .int 0, .int 112, .int 0])), (bo, .inr (2, [.ref fa, .ref bbe, .ref bdi, .int 0, .int 0])), (fa, .inl (cI, 96, .inl (fun _ => 0)))] s.heap := hP
  have hD : va_D A [(ox, .inr (13, [.ref pl, .ref ru, .ref sh, .ref sp, .ref sl, .ref gr, .ref re, .ref pr, .ref ga, .ref rp, .ref bo, .int 0])), (pl, .inr (1, [.int 0, .ref de, .int 0])), (ru, .inr (1, [.int 0, .ref de, .int 0])), (sh, .inr (1, [.int 0, .ref de, .int 0])), (sp, .inl (cP, 6, .inr (.inr (.inr (.inr (fun _ => none)))))), (ga, .inr (5, [.ref gpl, .ref gin, .int (-1), .int 0, .int 112, .int 0])), (bo, .inr (2, [.ref fa, .ref bbe, .ref bdi, .int 0, .int 0])), (fa, .inl (cI, 96, .inl (fun _ => 0)))] := hD
  have hl := lv_entry ([.ref ox, .int a1]) (n := 3) (Nat.le_of_ble_eq_true rfl)
  rw [lg_entry_eq]
  generalize (lg_sl ([.ref ox, .int a1]) ++ List.replicate (3 - (lg_sl ([.ref ox, .int a1])).length) Slot.unset).toArray = ls at hl ⊢
  have hl : lv_has ls 3 [(0, .ref ox), (1, .int a1)] := hl
  refine lv_aload_n hx hb dX11_reachOf_0 rfl (lv_at hl 0 rfl) ?_
  refine lv_iload_n hx hb dX11_reachOf_1 rfl (lv_at hl 1 rfl) ?_
  have hPc := hP.sub (ws' := [(ox, .inr (13, [.ref pl, .ref ru, .ref sh, .ref sp, .ref sl, .ref gr, .ref re, .ref pr, .ref ga, .ref rp, .ref bo, .int 0])), (pl, .inr (1, [.int 0, .ref de, .int 0])), (ru, .inr (1, [.int 0, .ref de, .int 0])), (sh, .inr (1, [.int 0, .ref de, .int 0])), (sp, .inl (cP, 6, .inr (.inr (.inr (.inr (fun _ => none)))))), (ga, .inr (5, [.ref gpl, .ref gin, .int (-1), .int 0, .int 112, .int 0])), (bo, .inr (2, [.ref fa, .ref bbe, .ref bdi, .int 0, .int 0])), (fa, .inl (cI, 96, .inl (fun _ => 0)))]) [0, 1, 2, 3, 4, 5, 6, 7] rfl
  have hDc := hD.sub (ws' := [(ox, .inr (13, [.ref pl, .ref ru, .ref sh, .ref sp, .ref sl, .ref gr, .ref re, .ref pr, .ref ga, .ref rp, .ref bo, .int 0])), (pl, .inr (1, [.int 0, .ref de, .int 0])), (ru, .inr (1, [.int 0, .ref de, .int 0])), (sh, .inr (1, [.int 0, .ref de, .int 0])), (sp, .inl (cP, 6, .inr (.inr (.inr (.inr (fun _ => none)))))), (ga, .inr (5, [.ref gpl, .ref gin, .int (-1), .int 0, .int 112, .int 0])), (bo, .inr (2, [.ref fa, .ref bbe, .ref bdi, .int 0, .int 0])), (fa, .inl (cI, 96, .inl (fun _ => 0)))]) [0, 1, 2, 3, 4, 5, 6, 7] (by decide) rfl
  have hKc := hK.sub (tys' := [(cP, .object "Levelsmith$Player"), (cI, .int)]) [0, 1] rfl
  have hFc := va_free (wc := [(ox, .inr (13, [.ref pl, .ref ru, .ref sh, .ref sp, .ref sl, .ref gr, .ref re, .ref pr, .ref ga, .ref rp, .ref bo, .int 0])), (pl, .inr (1, [.int 0, .ref de, .int 0])), (ru, .inr (1, [.int 0, .ref de, .int 0])), (sh, .inr (1, [.int 0, .ref de, .int 0])), (sp, .inl (cP, 6, .inr (.inr (.inr (.inr (fun _ => none)))))), (ga, .inr (5, [.ref gpl, .ref gin, .int (-1), .int 0, .int 112, .int 0])), (bo, .inr (2, [.ref fa, .ref bbe, .ref bdi, .int 0, .int 0])), (fa, .inl (cI, 96, .inl (fun _ => 0)))]) hD hS hA [0, 1, 2, 3, 4, 5, 6, 7] rfl
  refine vx_callq (vx_runV (As := [.int a1]) (rest := []) ⟨hx, hb, hml, hown, ht⟩ (c_X11_planAt l hlt dC dI de (ox) (pl) (ru) (sh) (sp) (sl) (gr) (re) (pr) (ga) (rp) (bo) (fa) (gpl) (gin) (bbe) (bdi) (cP) (cI) (a1) s.heap.size) (cwV 1 ht (gWV (wr_19 _ (List.mem_of_getElem? (i := 0) rfl)) (wr_19 _ (List.mem_of_getElem? (i := 1) rfl)) (wr_19 _ (List.mem_of_getElem? (i := 2) rfl)) (wr_1 _ (List.mem_of_getElem? (i := 2) rfl)) (wr_19 _ (List.mem_of_getElem? (i := 3) rfl))) rfl rfl rfl (by decide +kernel) ⟨Nat.le_of_ble_eq_true rfl, Nat.le_of_ble_eq_true rfl⟩) ⟨PW_blind, va_recv hKc hPc (ci := 13) (q0 := 0) rfl rfl, PW_call hPc hDc hKc hS hG hFc⟩ rfl rfl hl.1 rfl (lv_room (Nat.le_of_ble_eq_true rfl)) dX11_reachOf_2 ⟨Nat.le_of_ble_eq_true rfl, Nat.le_of_ble_eq_true rfl⟩) hS (fun q _ h => hFc q h) hFc (fun q _ h => hFc q h) (fun E ce q9 u t H1 locs1 ht9 hvm9 _ hR9 hz9 hk9 hS9 hc9 hv9 hcl9 => ?_) (fun r_2 u t H1 locs ht9 hvm hw hB hz1 hk1 hS => False.elim hw)
  exact vx_out (fun x hx => (hex x hx).elim) hlocks hc9 hv9 hcl9 (fun t9 e9 _ => XX_out hR9 hS9 e9) hS9.2.2 (Nat.le_of_ble_eq_true rfl) (Nat.le_of_ble_eq_true rfl)
set_option maxHeartbeats 4000000 in
set_option maxRecDepth 100000 in
theorem c_X11_wonReachOf (l : Launch) (hlt : l.stackTraces = false) (dC : Nat → ClassId) (dI : Nat → Nat → Nat) (de : Nat) (ox : Nat) (pl : Nat) (ru : Nat) (sh : Nat) (sp : Nat) (sl : Nat) (gr : Nat) (re : Nat) (pr : Nat) (ga : Nat) (rp : Nat) (bo : Nat) (fa : Nat) (gpl : Nat) (gin : Nat) (bbe : Nat) (bdi : Nat) (cP : ClassId) (cI : ClassId) (a1 : Int32) (sz : Nat) : vx_Met l yX11_wonReachOf (.code yX11_wonReachOf cX11_wonReachOf 3 (some (.object "Levelsmith$Reach")) :: wsL_law) { frames := 8, cells := 1, slots := 6, locals := 133 } (va_Pc [.ref ox, .int a1] (PW dC dI de [(cP, .object "Levelsmith$Player"), (cI, .int)] (WX ox pl ru sh sp sl gr re pr ga rp bo fa gpl gin bbe bdi cP cI de) sz)) (va_Qq (fun (_ : Option Nat) (_ : Unit) => False) (fun (_ : Unit) (_ : State) => True) (va_A (WX ox pl ru sh sp sl gr re pr ga rp bo fa gpl gin bbe bdi cP cI de) sz)) (XX (fun E => E = "java/lang/IndexOutOfBoundsException") (va_A (WX ox pl ru sh sp sl gr re pr ga rp bo fa gpl gin bbe bdi cP cI de) sz)) 1 6 (va_A (WX ox pl ru sh sp sl gr re pr ga rp bo fa gpl gin bbe bdi cP cI de) sz) := by
  refine vx_ofW (cc := cX11_wonReachOf) (maxL := 3) (ret := (some (.object "Levelsmith$Reach"))) (by decide) rfl ?_
  intro p e s m args below meth c s₁ B hml hex hv
  obtain ⟨rfl, hsz, hP, hK, hD0, hG⟩ := hv
  have hx := B.exec
  have hb := B.bytes
  have hr := B.returns
  have hts := atoms_spec (ws := .code yX11_wonReachOf cX11_wonReachOf 3 (some (.object "Levelsmith$Reach")) :: wsL_law) B.pre
  have ht : ∀ w ∈ wsL_law, w.before _ s = true := fun w h => hts w (List.mem_cons_of_mem _ h)
  have hown : s.vm.findClass RX11 = some m.cls := findClass_of_methodNamed B.named
  have hlocks := B.notSynchronized
  subst hsz
  have hD := hD0.self (sz := s.heap.size)
  generalize hAe : va_A (WX ox pl ru sh sp sl gr re pr ga rp bo fa gpl gin bbe bdi cP cI de) s.heap.size = A at hD hG ⊢
  have hA : ∀ q : Nat, s.heap.size ≤ q → A q := fun q h => by rw [← hAe]; exact Or.inr h
  have hS : va_S A s.heap s.heap [] := va_S.rf
  have hP : va_P (dC, dI) vwCl [(ox, .inr (13, [.ref pl, .ref ru, .ref sh, .ref sp, .ref sl, .ref gr, .ref re, .ref pr, .ref ga, .ref rp, .ref bo, .int 0])), (pl, .inr (1, [.int 0, .ref de, .int 0])), (ru, .inr (1, [.int 0, .ref de, .int 0])), (sh, .inr (1, [.int 0, .ref de, .int 0])), (sp, .inl (cP, 6, .inr (.inr (.inr (.inr (fun _ => none)))))), (ga, .inr (5, [.ref gpl, .ref gin, .int (-1), .int 0, .int 112, .int 0])), (bo, .inr (2, [.ref fa, .ref bbe, .ref bdi, .int 0, .int 0])), (fa, .inl (cI, 96, .inl (fun _ => 0)))] s.heap := hP
  have hD : va_D A [(ox, .inr (13, [.ref pl, .ref ru, .ref sh, .ref sp, .ref sl, .ref gr, .ref re, .ref pr, .ref ga, .ref rp, .ref bo, .int 0])), (pl, .inr (1, [.int 0, .ref de, .int 0])), (ru, .inr (1, [.int 0, .ref de, .int 0])), (sh, .inr (1, [.int 0, .ref de, .int 0])), (sp, .inl (cP, 6, .inr (.inr (.inr (.inr (fun _ => none)))))), (ga, .inr (5, [.ref gpl, .ref gin, .int (-1), .int 0, .int 112, .int 0])), (bo, .inr (2, [.ref fa, .ref bbe, .ref bdi, .int 0, .int 0])), (fa, .inl (cI, 96, .inl (fun _ => 0)))] := hD
  have hl := lv_entry ([.ref ox, .int a1]) (n := 3) (Nat.le_of_ble_eq_true rfl)
  rw [lg_entry_eq]
  generalize (lg_sl ([.ref ox, .int a1]) ++ List.replicate (3 - (lg_sl ([.ref ox, .int a1])).length) Slot.unset).toArray = ls at hl ⊢
  have hl : lv_has ls 3 [(0, .ref ox), (1, .int a1)] := hl
  refine lv_aload_n hx hb dX11_wonReachOf_0 rfl (lv_at hl 0 rfl) ?_
  refine lv_iload_n hx hb dX11_wonReachOf_1 rfl (lv_at hl 1 rfl) ?_
  have hPc := hP.sub (ws' := [(ox, .inr (13, [.ref pl, .ref ru, .ref sh, .ref sp, .ref sl, .ref gr, .ref re, .ref pr, .ref ga, .ref rp, .ref bo, .int 0])), (pl, .inr (1, [.int 0, .ref de, .int 0])), (ru, .inr (1, [.int 0, .ref de, .int 0])), (sh, .inr (1, [.int 0, .ref de, .int 0])), (sp, .inl (cP, 6, .inr (.inr (.inr (.inr (fun _ => none)))))), (ga, .inr (5, [.ref gpl, .ref gin, .int (-1), .int 0, .int 112, .int 0])), (bo, .inr (2, [.ref fa, .ref bbe, .ref bdi, .int 0, .int 0])), (fa, .inl (cI, 96, .inl (fun _ => 0)))]) [0, 1, 2, 3, 4, 5, 6, 7] rfl
  have hDc := hD.sub (ws' := [(ox, .inr (13, [.ref pl, .ref ru, .ref sh, .ref sp, .ref sl, .ref gr, .ref re, .ref pr, .ref ga, .ref rp, .ref bo, .int 0])), (pl, .inr (1, [.int 0, .ref de, .int 0])), (ru, .inr (1, [.int 0, .ref de, .int 0])), (sh, .inr (1, [.int 0, .ref de, .int 0])), (sp, .inl (cP, 6, .inr (.inr (.inr (.inr (fun _ => none)))))), (ga, .inr (5, [.ref gpl, .ref gin, .int (-1), .int 0, .int 112, .int 0])), (bo, .inr (2, [.ref fa, .ref bbe, .ref bdi, .int 0, .int 0])), (fa, .inl (cI, 96, .inl (fun _ => 0)))]) [0, 1, 2, 3, 4, 5, 6, 7] (by decide) rfl
  have hKc := hK.sub (tys' := [(cP, .object "Levelsmith$Player"), (cI, .int)]) [0, 1] rfl
  have hFc := va_free (wc := [(ox, .inr (13, [.ref pl, .ref ru, .ref sh, .ref sp, .ref sl, .ref gr, .ref re, .ref pr, .ref ga, .ref rp, .ref bo, .int 0])), (pl, .inr (1, [.int 0, .ref de, .int 0])), (ru, .inr (1, [.int 0, .ref de, .int 0])), (sh, .inr (1, [.int 0, .ref de, .int 0])), (sp, .inl (cP, 6, .inr (.inr (.inr (.inr (fun _ => none)))))), (ga, .inr (5, [.ref gpl, .ref gin, .int (-1), .int 0, .int 112, .int 0])), (bo, .inr (2, [.ref fa, .ref bbe, .ref bdi, .int 0, .int 0])), (fa, .inl (cI, 96, .inl (fun _ => 0)))]) hD hS hA [0, 1, 2, 3, 4, 5, 6, 7] rfl
  refine vx_callq (vx_runV (As := [.int a1]) (rest := []) ⟨hx, hb, hml, hown, ht⟩ (c_X11_reachOf l hlt dC dI de (ox) (pl) (ru) (sh) (sp) (sl) (gr) (re) (pr) (ga) (rp) (bo) (fa) (gpl) (gin) (bbe) (bdi) (cP) (cI) (a1) s.heap.size) (cwV 1 ht (gWV (wr_28 _ (List.mem_of_getElem? (i := 21) rfl)) (wr_28 _ (List.mem_of_getElem? (i := 22) rfl)) (wr_28 _ (List.mem_of_getElem? (i := 23) rfl)) (wr_1 _ (List.mem_of_getElem? (i := 2) rfl)) (wr_29 _ (List.mem_of_getElem? (i := 0) rfl))) rfl rfl rfl (by decide +kernel) ⟨Nat.le_of_ble_eq_true rfl, Nat.le_of_ble_eq_true rfl⟩) ⟨PW_blind, va_recv hKc hPc (ci := 13) (q0 := 0) rfl rfl, PW_call hPc hDc hKc hS hG hFc⟩ rfl rfl hl.1 rfl (lv_room (Nat.le_of_ble_eq_true rfl)) dX11_wonReachOf_2 ⟨Nat.le_of_ble_eq_true rfl, Nat.le_of_ble_eq_true rfl⟩) hS (fun q _ h => hFc q h) hFc (fun q _ h => hFc q h) (fun E ce q9 u t H1 locs1 ht9 hvm9 _ hR9 hz9 hk9 hS9 hc9 hv9 hcl9 => ?_) (fun r_2 u t H1 locs ht9 hvm hw hB hz1 hk1 hS => False.elim hw)
  exact vx_out (fun x hx => (hex x hx).elim) hlocks hc9 hv9 hcl9 (fun t9 e9 _ => XX_out hR9 hS9 e9) hS9.2.2 (Nat.le_of_ble_eq_true rfl) (Nat.le_of_ble_eq_true rfl)
set_option maxHeartbeats 4000000 in
set_option maxRecDepth 100000 in
theorem c_X11_reachWithLeft (l : Launch) (hlt : l.stackTraces = false) (dC : Nat → ClassId) (dI : Nat → Nat → Nat) (de : Nat) (ox : Nat) (pl : Nat) (ru : Nat) (sh : Nat) (sp : Nat) (sl : Nat) (gr : Nat) (re : Nat) (pr : Nat) (ga : Nat) (rp : Nat) (bo : Nat) (fa : Nat) (gpl : Nat) (gin : Nat) (bbe : Nat) (bdi : Nat) (cP : ClassId) (cI : ClassId) (a1 : Int32) (sz : Nat) : vx_Met l yX11_reachWithLeft (.code yX11_reachWithLeft cX11_reachWithLeft 3 (some (.object "Levelsmith$Reach")) :: wsL_law) { frames := 8, cells := 1, slots := 6, locals := 133 } (va_Pc [.ref ox, .int a1] (PW dC dI de [(cP, .object "Levelsmith$Player"), (cI, .int)] (WX ox pl ru sh sp sl gr re pr ga rp bo fa gpl gin bbe bdi cP cI de) sz)) (va_Qq (fun (_ : Option Nat) (_ : Unit) => False) (fun (_ : Unit) (_ : State) => True) (va_A (WX ox pl ru sh sp sl gr re pr ga rp bo fa gpl gin bbe bdi cP cI de) sz)) (XX (fun E => E = "java/lang/IndexOutOfBoundsException") (va_A (WX ox pl ru sh sp sl gr re pr ga rp bo fa gpl gin bbe bdi cP cI de) sz)) 1 6 (va_A (WX ox pl ru sh sp sl gr re pr ga rp bo fa gpl gin bbe bdi cP cI de) sz) := by
  refine vx_ofW (cc := cX11_reachWithLeft) (maxL := 3) (ret := (some (.object "Levelsmith$Reach"))) (by decide) rfl ?_
  intro p e s m args below meth c s₁ B hml hex hv
  obtain ⟨rfl, hsz, hP, hK, hD0, hG⟩ := hv
  have hx := B.exec
  have hb := B.bytes
  have hr := B.returns
  have hts := atoms_spec (ws := .code yX11_reachWithLeft cX11_reachWithLeft 3 (some (.object "Levelsmith$Reach")) :: wsL_law) B.pre
  have ht : ∀ w ∈ wsL_law, w.before _ s = true := fun w h => hts w (List.mem_cons_of_mem _ h)
  have hown : s.vm.findClass RX11 = some m.cls := findClass_of_methodNamed B.named
  have hlocks := B.notSynchronized
  subst hsz
  have hD := hD0.self (sz := s.heap.size)
  generalize hAe : va_A (WX ox pl ru sh sp sl gr re pr ga rp bo fa gpl gin bbe bdi cP cI de) s.heap.size = A at hD hG ⊢
  have hA : ∀ q : Nat, s.heap.size ≤ q → A q := fun q h => by rw [← hAe]; exact Or.inr h
  have hS : va_S A s.heap s.heap [] := va_S.rf
  have hP : va_P (dC, dI) vwCl [(ox, .inr (13, [.ref pl, .ref ru, .ref sh, .ref sp, .ref sl, .ref gr, .ref re, .ref pr, .ref ga, .ref rp, .ref bo, .int 0])), (pl, .inr (1, [.int 0, .ref de, .int 0])), (ru, .inr (1, [.int 0, .ref de, .int 0])), (sh, .inr (1, [.int 0, .ref de, .int 0])), (sp, .inl (cP, 6, .inr (.inr (.inr (.inr (fun _ => none)))))), (ga, .inr (5, [.ref gpl, .ref gin, .int (-1), .int 0, .int 112, .int 0])), (bo, .inr (2, [.ref fa, .ref bbe, .ref bdi, .int 0, .int 0])), (fa, .inl (cI, 96, .inl (fun _ => 0)))] s.heap := hP
  have hD : va_D A [(ox, .inr (13, [.ref pl, .ref ru, .ref sh, .ref sp, .ref sl, .ref gr, .ref re, .ref pr, .ref ga, .ref rp, .ref bo, .int 0])), (pl, .inr (1, [.int 0, .ref de, .int 0])), (ru, .inr (1, [.int 0, .ref de, .int 0])), (sh, .inr (1, [.int 0, .ref de, .int 0])), (sp, .inl (cP, 6, .inr (.inr (.inr (.inr (fun _ => none)))))), (ga, .inr (5, [.ref gpl, .ref gin, .int (-1), .int 0, .int 112, .int 0])), (bo, .inr (2, [.ref fa, .ref bbe, .ref bdi, .int 0, .int 0])), (fa, .inl (cI, 96, .inl (fun _ => 0)))] := hD
  have hl := lv_entry ([.ref ox, .int a1]) (n := 3) (Nat.le_of_ble_eq_true rfl)
  rw [lg_entry_eq]
  generalize (lg_sl ([.ref ox, .int a1]) ++ List.replicate (3 - (lg_sl ([.ref ox, .int a1])).length) Slot.unset).toArray = ls at hl ⊢
  have hl : lv_has ls 3 [(0, .ref ox), (1, .int a1)] := hl
  refine lv_aload_n hx hb dX11_reachWithLeft_0 rfl (lv_at hl 0 rfl) ?_
  refine lv_iload_n hx hb dX11_reachWithLeft_1 rfl (lv_at hl 1 rfl) ?_
  have hPc := hP.sub (ws' := [(ox, .inr (13, [.ref pl, .ref ru, .ref sh, .ref sp, .ref sl, .ref gr, .ref re, .ref pr, .ref ga, .ref rp, .ref bo, .int 0])), (pl, .inr (1, [.int 0, .ref de, .int 0])), (ru, .inr (1, [.int 0, .ref de, .int 0])), (sh, .inr (1, [.int 0, .ref de, .int 0])), (sp, .inl (cP, 6, .inr (.inr (.inr (.inr (fun _ => none)))))), (ga, .inr (5, [.ref gpl, .ref gin, .int (-1), .int 0, .int 112, .int 0])), (bo, .inr (2, [.ref fa, .ref bbe, .ref bdi, .int 0, .int 0])), (fa, .inl (cI, 96, .inl (fun _ => 0)))]) [0, 1, 2, 3, 4, 5, 6, 7] rfl
  have hDc := hD.sub (ws' := [(ox, .inr (13, [.ref pl, .ref ru, .ref sh, .ref sp, .ref sl, .ref gr, .ref re, .ref pr, .ref ga, .ref rp, .ref bo, .int 0])), (pl, .inr (1, [.int 0, .ref de, .int 0])), (ru, .inr (1, [.int 0, .ref de, .int 0])), (sh, .inr (1, [.int 0, .ref de, .int 0])), (sp, .inl (cP, 6, .inr (.inr (.inr (.inr (fun _ => none)))))), (ga, .inr (5, [.ref gpl, .ref gin, .int (-1), .int 0, .int 112, .int 0])), (bo, .inr (2, [.ref fa, .ref bbe, .ref bdi, .int 0, .int 0])), (fa, .inl (cI, 96, .inl (fun _ => 0)))]) [0, 1, 2, 3, 4, 5, 6, 7] (by decide) rfl
  have hKc := hK.sub (tys' := [(cP, .object "Levelsmith$Player"), (cI, .int)]) [0, 1] rfl
  have hFc := va_free (wc := [(ox, .inr (13, [.ref pl, .ref ru, .ref sh, .ref sp, .ref sl, .ref gr, .ref re, .ref pr, .ref ga, .ref rp, .ref bo, .int 0])), (pl, .inr (1, [.int 0, .ref de, .int 0])), (ru, .inr (1, [.int 0, .ref de, .int 0])), (sh, .inr (1, [.int 0, .ref de, .int 0])), (sp, .inl (cP, 6, .inr (.inr (.inr (.inr (fun _ => none)))))), (ga, .inr (5, [.ref gpl, .ref gin, .int (-1), .int 0, .int 112, .int 0])), (bo, .inr (2, [.ref fa, .ref bbe, .ref bdi, .int 0, .int 0])), (fa, .inl (cI, 96, .inl (fun _ => 0)))]) hD hS hA [0, 1, 2, 3, 4, 5, 6, 7] rfl
  refine vx_callq (vx_runV (As := [.int a1]) (rest := []) ⟨hx, hb, hml, hown, ht⟩ (c_X11_reachOf l hlt dC dI de (ox) (pl) (ru) (sh) (sp) (sl) (gr) (re) (pr) (ga) (rp) (bo) (fa) (gpl) (gin) (bbe) (bdi) (cP) (cI) (a1) s.heap.size) (cwV 1 ht (gWV (wr_28 _ (List.mem_of_getElem? (i := 21) rfl)) (wr_28 _ (List.mem_of_getElem? (i := 22) rfl)) (wr_28 _ (List.mem_of_getElem? (i := 23) rfl)) (wr_1 _ (List.mem_of_getElem? (i := 2) rfl)) (wr_29 _ (List.mem_of_getElem? (i := 0) rfl))) rfl rfl rfl (by decide +kernel) ⟨Nat.le_of_ble_eq_true rfl, Nat.le_of_ble_eq_true rfl⟩) ⟨PW_blind, va_recv hKc hPc (ci := 13) (q0 := 0) rfl rfl, PW_call hPc hDc hKc hS hG hFc⟩ rfl rfl hl.1 rfl (lv_room (Nat.le_of_ble_eq_true rfl)) dX11_reachWithLeft_2 ⟨Nat.le_of_ble_eq_true rfl, Nat.le_of_ble_eq_true rfl⟩) hS (fun q _ h => hFc q h) hFc (fun q _ h => hFc q h) (fun E ce q9 u t H1 locs1 ht9 hvm9 _ hR9 hz9 hk9 hS9 hc9 hv9 hcl9 => ?_) (fun r_2 u t H1 locs ht9 hvm hw hB hz1 hk1 hS => False.elim hw)
  exact vx_out (fun x hx => (hex x hx).elim) hlocks hc9 hv9 hcl9 (fun t9 e9 _ => XX_out hR9 hS9 e9) hS9.2.2 (Nat.le_of_ble_eq_true rfl) (Nat.le_of_ble_eq_true rfl)
