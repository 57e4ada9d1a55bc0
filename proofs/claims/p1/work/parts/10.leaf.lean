abbrev WX (ox pl ru sh sp sl gr re pr ga rp bo fa gpl gin bbe bdi : Nat) (cP cI : ClassId) (de : Nat) : va_W := [(ox, .inr (13, [.ref pl, .ref ru, .ref sh, .ref sp, .ref sl, .ref gr, .ref re, .ref pr, .ref ga, .ref rp, .ref bo, .int 0])), (pl, .inr (1, [.int 0, .ref de, .int 0])), (ru, .inr (1, [.int 0, .ref de, .int 0])), (sh, .inr (1, [.int 0, .ref de, .int 0])), (sp, .inl (cP, 6, .inr (.inr (.inr (.inr (fun _ => none)))))), (ga, .inr (5, [.ref gpl, .ref gin, .int (-1), .int 0, .int 112, .int 0])), (bo, .inr (2, [.ref fa, .ref bbe, .ref bdi, .int 0, .int 0])), (fa, .inl (cI, 96, .inl (fun _ => 0)))]
theorem dJx4a65c_size_8abf5_0 : decode cJx4a65c_size_8abf5 0 = .ok (.aload_n 0, 1) := by decide +kernel
theorem dJx4a65c_size_8abf5_1 : decode cJx4a65c_size_8abf5 1 = .ok (.getfield 48, 3) := by decide +kernel
theorem dJx4a65c_size_8abf5_4 : decode cJx4a65c_size_8abf5 4 = .ok (.ireturn, 1) := by decide +kernel
theorem dX11_planAt_0 : decode cX11_planAt 0 = .ok (.iload_n 1, 1) := by decide +kernel
theorem dX11_planAt_1 : decode cX11_planAt 1 = .ok (.ifCond .lt 14, 3) := by decide +kernel
theorem dX11_planAt_4 : decode cX11_planAt 4 = .ok (.iload_n 1, 1) := by decide +kernel
theorem dX11_planAt_5 : decode cX11_planAt 5 = .ok (.aload_n 0, 1) := by decide +kernel
theorem dX11_planAt_6 : decode cX11_planAt 6 = .ok (.getfield 12, 3) := by decide +kernel
theorem dX11_planAt_9 : decode cX11_planAt 9 = .ok (.invokevirtual 108, 3) := by decide +kernel
theorem dX11_planAt_12 : decode cX11_planAt 12 = .ok (.if_icmp .lt 14, 3) := by decide +kernel
theorem dX11_planAt_15 : decode cX11_planAt 15 = .ok (.new 157, 3) := by decide +kernel
theorem dX11_planAt_18 : decode cX11_planAt 18 = .ok (.dup, 1) := by decide +kernel
theorem dX11_planAt_19 : decode cX11_planAt 19 = .ok (.ldc_w 438, 3) := by decide +kernel
theorem dX11_planAt_22 : decode cX11_planAt 22 = .ok (.invokespecial 161, 3) := by decide +kernel
theorem dX11_planAt_25 : decode cX11_planAt 25 = .ok (.athrow, 1) := by decide +kernel
set_option maxHeartbeats 4000000 in
set_option maxRecDepth 100000 in
theorem c_Jx4a65c_size_8abf5 (l : Launch) (dC : Nat → ClassId) (dI : Nat → Nat → Nat) (de : Nat) (a : Nat) (mo : Int32) (ev : Value) (n0 : Int32) (sz : Nat) : Met l yJx4a65c_size_8abf5 (.code yJx4a65c_size_8abf5 cJx4a65c_size_8abf5 1 (some .int) :: wsL_law) { frames := 0, cells := 0, slots := 0, locals := 0 } (va_Pc [.ref a] (PW dC dI de [] [(a, .inr (1, [.int mo, ev, .int n0]))] sz)) (va_Qi (fun (r : Int32) (u : Unit) => r = n0) (fun (_ : Unit) (t : State) => QW dC dI [] [(a, .inr (1, [.int mo, ev, .int n0]))] (va_A [(a, .inr (1, [.int mo, ev, .int n0]))] sz) t) (va_A [(a, .inr (1, [.int mo, ev, .int n0]))] sz)) 0 0 (va_A [(a, .inr (1, [.int mo, ev, .int n0]))] sz) := by
  refine Met.ofW (cc := cJx4a65c_size_8abf5) (maxL := 1) (ret := (some .int)) (by decide) rfl ?_
  intro p e s m args below meth c s₁ B hml hv
  obtain ⟨rfl, hsz, hP, hK, hD0, hG⟩ := hv
  have hx := B.exec
  have hb := B.bytes
  have hr := B.returns
  have hts := atoms_spec (ws := .code yJx4a65c_size_8abf5 cJx4a65c_size_8abf5 1 (some .int) :: wsL_law) B.pre
  have ht : ∀ w ∈ wsL_law, w.before _ s = true := fun w h => hts w (List.mem_cons_of_mem _ h)
  have hown : s.vm.findClass RJx4a65c = some m.cls := findClass_of_methodNamed B.named
  have hlocks := B.notSynchronized
  subst hsz
  have hD := hD0.self (sz := s.heap.size)
  generalize hAe : va_A [(a, .inr (1, [.int mo, ev, .int n0]))] s.heap.size = A at hD hG ⊢
  have hA : ∀ q : Nat, s.heap.size ≤ q → A q := fun q h => by rw [← hAe]; exact Or.inr h
  have hS : va_S A s.heap s.heap [] := va_S.rf
  have hP : va_P (dC, dI) vwCl [(a, .inr (1, [.int mo, ev, .int n0]))] s.heap := hP
  have hD : va_D A [(a, .inr (1, [.int mo, ev, .int n0]))] := hD
  have hl := lv_entry ([.ref a]) (n := 1) (Nat.le_of_ble_eq_true rfl)
  rw [lg_entry_eq]
  generalize (lg_sl ([.ref a]) ++ List.replicate (1 - (lg_sl ([.ref a])).length) Slot.unset).toArray = ls at hl ⊢
  have hl : lv_has ls 1 [(0, .ref a)] := hl
  refine lv_aload_n hx hb dJx4a65c_size_8abf5_0 rfl (lv_at hl 0 rfl) ?_
  refine va_get (D := (dC, dI)) (ci := 1) (v := .int n0) (C := RJx4a65c) (T := TJx4a65c) (N := 3) hx hb ht inlJx4a65c hown hK hP 0 rfl rfl 2 (by decide) (ht _ (wr_14 _ (List.mem_of_getElem? (i := 9) rfl))) (fun _ h9 => h9) rfl dJx4a65c_size_8abf5_1 ?_
  exact W.iret (v := n0) hx hb hr (fun t htt hW => have ht := htt; ⟨⟨n0, (), rfl, rfl, QW_of ht hW hP hK hD⟩, hS.F ht⟩) hS.2.2 dJx4a65c_size_8abf5_4
set_option maxHeartbeats 4000000 in
set_option maxRecDepth 100000 in
theorem c_X11_planAt (l : Launch) (hlt : l.stackTraces = false) (dC : Nat → ClassId) (dI : Nat → Nat → Nat) (de : Nat) (ox : Nat) (pl : Nat) (ru : Nat) (sh : Nat) (sp : Nat) (sl : Nat) (gr : Nat) (re : Nat) (pr : Nat) (ga : Nat) (rp : Nat) (bo : Nat) (fa : Nat) (gpl : Nat) (gin : Nat) (bbe : Nat) (bdi : Nat) (cP : ClassId) (cI : ClassId) (a1 : Int32) (sz : Nat) : vx_Met l yX11_planAt (.code yX11_planAt cX11_planAt 2 (some (.object "Levelsmith$Plan")) :: wsL_law) { frames := 6, cells := 1, slots := 6, locals := 90 } (va_Pc [.ref ox, .int a1] (PW dC dI de [(cP, .object "Levelsmith$Player"), (cI, .int)] (WX ox pl ru sh sp sl gr re pr ga rp bo fa gpl gin bbe bdi cP cI de) sz)) (va_Qq (fun (_ : Option Nat) (_ : Unit) => False) (fun (_ : Unit) (_ : State) => True) (va_A (WX ox pl ru sh sp sl gr re pr ga rp bo fa gpl gin bbe bdi cP cI de) sz)) (XX (fun E => E = "java/lang/IndexOutOfBoundsException") (va_A (WX ox pl ru sh sp sl gr re pr ga rp bo fa gpl gin bbe bdi cP cI de) sz)) 1 6 (va_A (WX ox pl ru sh sp sl gr re pr ga rp bo fa gpl gin bbe bdi cP cI de) sz) := by
  refine vx_ofW (cc := cX11_planAt) (maxL := 2) (ret := (some (.object "Levelsmith$Plan"))) (by decide) rfl ?_
  intro p e s m args below meth c s₁ B hml hex hv
  obtain ⟨rfl, hsz, hP, hK, hD0, hG⟩ := hv
  have hx := B.exec
  have hb := B.bytes
  have hr := B.returns
  have hts := atoms_spec (ws := .code yX11_planAt cX11_planAt 2 (some (.object "Levelsmith$Plan")) :: wsL_law) B.pre
  have ht : ∀ w ∈ wsL_law, w.before _ s = true := fun w h => hts w (List.mem_cons_of_mem _ h)
  have hown : s.vm.findClass RX11 = some m.cls := findClass_of_methodNamed B.named
  have hlocks := B.notSynchronized
  subst hsz
  have hD := hD0.self (sz := s.heap.size)
  generalize hAe : va_A (WX ox pl ru sh sp sl gr re pr ga rp bo fa gpl gin bbe bdi cP cI de) s.heap.size = A at hD hG ⊢
  have hA : ∀ q : Nat, s.heap.size ≤ q → A q := fun q h => by rw [← hAe]; exact Or.inr h
  have hS : va_S A s.heap s.heap [] := va_S.rf
  have hP : va_P (dC, dI) vwCl [(ox, .inr (13, [.ref pl, .ref ru, .ref sh, .ref sp, .ref sl, .ref gr, .ref re, .ref pr, .ref ga, .ref rp, .ref bo, .int 0])), (pl, .inr (1, [.int 0, .ref de, .int 0])), (ru, .inr (1, [.int 0, .ref de, .int 0])), (sh, .inr (1, [.int 0, .ref de, .int 0])), (sp, .inl (cP, 6, .inr (.inr (.inr (.inr (fun _ => none)))))), (ga, .inr (5, [.ref gpl, .ref gin, .int (-1), .int 0, .int 112, .int 0])), (bo, .inr (2, [.ref fa, .ref bbe, .ref bdi, .int 0, .int 0])), (fa, .inl (cI, 96, .inl (fun _ => 0)))] s.heap := hP
  have hD : va_D A [(ox, .inr (13, [.ref pl, .ref ru, .ref sh, .ref sp, .ref sl, .ref gr, .ref re, .ref pr, .ref ga, .ref rp, .ref bo, .int 0])), (pl, .inr (1, [.int 0, .ref de, .int 0])), (ru, .inr (1, [.int 0, .ref de, .int 0])), (sh, .inr (1, [.int 0, .ref de, .int 0])), (sp, .inl (cP, 6, .inr (.inr (.inr (.inr (fun _ => none)))))), (ga, .inr (5, [.ref gpl, .ref gin, .int (-1), .int 0, .int 112, .int 0])), (bo, .inr (2, [.ref fa, .ref bbe, .ref bdi, .int 0, .int 0])), (fa, .inl (cI, 96, .inl (fun _ => 0)))] := hD
  have hl := lv_entry ([.ref ox, .int a1]) (n := 2) (Nat.le_of_ble_eq_true rfl)
  rw [lg_entry_eq]
  generalize (lg_sl ([.ref ox, .int a1]) ++ List.replicate (2 - (lg_sl ([.ref ox, .int a1])).length) Slot.unset).toArray = ls at hl ⊢
  have hl : lv_has ls 2 [(0, .ref ox), (1, .int a1)] := hl
  refine lv_iload_n hx hb dX11_planAt_0 rfl (lv_at hl 1 rfl) ?_
  refine lv_if_lt (tgt := 15) hx hb dX11_planAt_1 (by decide) (fun c_1 => ?_) (fun c_1 => ?_)
  · obtain ⟨sa, hstr⟩ := hG.2.1 (438, "no such level") (List.mem_of_getElem? (i := 0) rfl)
    exact vx_throwSW hx hb hlt hown (by decide) (by decide) (ht _ (wr_18 _ (List.mem_of_getElem? (i := 22) rfl))) (ht _ (wr_18 _ (List.mem_of_getElem? (i := 23) rfl))) hstr (vx_hat (fun w h => ht w (wx_2 w h)) te_2 (gx_bad hG (X := "java/lang/IndexOutOfBoundsException") (List.mem_of_getElem? (i := 0) rfl))) tg_2 hG.1.1 hG.1.2.1 hS (by rw [hml]; exact hl.1) dX11_planAt_15 dX11_planAt_18 dX11_planAt_19 dX11_planAt_22 dX11_planAt_25 (fun x hx => (hex x hx).elim) (Nat.le_of_ble_eq_true rfl) (Nat.le_of_ble_eq_true rfl) (Nat.le_of_ble_eq_true rfl) (Nat.le_of_ble_eq_true rfl) hlocks (fun t hv9 h1 h2 => XX_of rfl hS hA h1 h2) hS.2.2 (Nat.le_of_ble_eq_true rfl) (Nat.le_of_ble_eq_true rfl)
  · refine lv_iload_n hx hb dX11_planAt_4 rfl (lv_at hl 1 rfl) ?_
    refine lv_aload_n hx hb dX11_planAt_5 rfl (lv_at hl 0 rfl) ?_
    refine va_get (D := (dC, dI)) (ci := 13) (v := .ref pl) (C := RX11) (T := TX11) (N := 12) hx hb ht inlX11 hown hK hP 0 rfl rfl 0 (by decide) (ht _ (wr_1 _ (List.mem_of_getElem? (i := 17) rfl))) (fun _ h9 => h9) rfl dX11_planAt_6 ?_
    have hPc := hP.sub (ws' := [(pl, .inr (1, [.int 0, .ref de, .int 0]))]) [1] rfl
    have hDc := hD.sub (ws' := [(pl, .inr (1, [.int 0, .ref de, .int 0]))]) [1] (by decide) rfl
    have hKc := hK.sub (tys' := []) [] rfl
    have hFc := va_free (wc := [(pl, .inr (1, [.int 0, .ref de, .int 0]))]) hD hS hA [1] rfl
    refine va_calli (va_runV (As := []) (rest := [.int a1]) ⟨hx, hb, hml, hown, ht⟩ (c_Jx4a65c_size_8abf5 l dC dI de (pl) (0) (.ref de) (0) s.heap.size) (cwV 0 ht (gWV (wr_14 _ (List.mem_of_getElem? (i := 5) rfl)) (wr_14 _ (List.mem_of_getElem? (i := 6) rfl)) (wr_14 _ (List.mem_of_getElem? (i := 7) rfl)) (wr_1 _ (List.mem_of_getElem? (i := 16) rfl)) (wr_14 _ (List.mem_of_getElem? (i := 8) rfl))) rfl rfl rfl (by decide +kernel) ⟨Nat.le_of_ble_eq_true rfl, Nat.le_of_ble_eq_true rfl⟩) ⟨PW_blind, va_recv hKc hPc (ci := 1) (q0 := 0) rfl rfl, PW_call hPc hDc hKc hS hG hFc⟩ rfl rfl hl.1 rfl (lv_room (Nat.le_of_ble_eq_true rfl)) dX11_planAt_9 ⟨Nat.le_of_ble_eq_true rfl, Nat.le_of_ble_eq_true rfl⟩) hS (fun q _ h => hFc q h) hFc (fun r_9 u t H1 locs ht9 hvm hw hB hz1 hk1 hS => ?_)
    obtain ⟨hP1, hK1, hD1⟩ := hB
    rw [ht9] at hP1
    have hK1 := va_K.moved hvm.symm hK1
    obtain ⟨hP, hD⟩ := va_join (wr := [(ox, .inr (13, [.ref pl, .ref ru, .ref sh, .ref sp, .ref sl, .ref gr, .ref re, .ref pr, .ref ga, .ref rp, .ref bo, .int 0])), (ru, .inr (1, [.int 0, .ref de, .int 0])), (sh, .inr (1, [.int 0, .ref de, .int 0])), (sp, .inl (cP, 6, .inr (.inr (.inr (.inr (fun _ => none)))))), (ga, .inr (5, [.ref gpl, .ref gin, .int (-1), .int 0, .int 112, .int 0])), (bo, .inr (2, [.ref fa, .ref bbe, .ref bdi, .int 0, .int 0])), (fa, .inl (cI, 96, .inl (fun _ => 0)))]) (w1 := [(pl, .inr (1, [.int 0, .ref de, .int 0]))]) hP hD [1] [0, 2, 3, 4, 5, 6, 7] rfl rfl (by decide) (by decide) hk1 hFc hP1 hD1
    have hK := (hK.sub (tys' := [(cP, .object "Levelsmith$Player"), (cI, .int)]) [0, 1] rfl).app hK1
    generalize H1 = H at hP hS ⊢
    replace hP : va_P (dC, dI) vwCl [(ox, .inr (13, [.ref pl, .ref ru, .ref sh, .ref sp, .ref sl, .ref gr, .ref re, .ref pr, .ref ga, .ref rp, .ref bo, .int 0])), (ru, .inr (1, [.int 0, .ref de, .int 0])), (sh, .inr (1, [.int 0, .ref de, .int 0])), (sp, .inl (cP, 6, .inr (.inr (.inr (.inr (fun _ => none)))))), (ga, .inr (5, [.ref gpl, .ref gin, .int (-1), .int 0, .int 112, .int 0])), (bo, .inr (2, [.ref fa, .ref bbe, .ref bdi, .int 0, .int 0])), (fa, .inl (cI, 96, .inl (fun _ => 0))), (pl, .inr (1, [.int 0, .ref de, .int 0]))] H := hP
    replace hD : va_D A [(ox, .inr (13, [.ref pl, .ref ru, .ref sh, .ref sp, .ref sl, .ref gr, .ref re, .ref pr, .ref ga, .ref rp, .ref bo, .int 0])), (ru, .inr (1, [.int 0, .ref de, .int 0])), (sh, .inr (1, [.int 0, .ref de, .int 0])), (sp, .inl (cP, 6, .inr (.inr (.inr (.inr (fun _ => none)))))), (ga, .inr (5, [.ref gpl, .ref gin, .int (-1), .int 0, .int 112, .int 0])), (bo, .inr (2, [.ref fa, .ref bbe, .ref bdi, .int 0, .int 0])), (fa, .inl (cI, 96, .inl (fun _ => 0))), (pl, .inr (1, [.int 0, .ref de, .int 0]))] := hD
    have hK : va_K (dC, dI) vwCl [(cP, .object "Levelsmith$Player"), (cI, .int)] s := hK
    have e_9 : r_9 = 0 := hw
    subst e_9
    refine lv_icmp_lt (tgt := 26) hx hb dX11_planAt_12 (by decide) (fun c_12 => absurd c_12 c_1) (fun c_12 => ?_)
    obtain ⟨sa, hstr⟩ := hG.2.1 (438, "no such level") (List.mem_of_getElem? (i := 0) rfl)
    exact vx_throwSW hx hb hlt hown (by decide) (by decide) (ht _ (wr_18 _ (List.mem_of_getElem? (i := 22) rfl))) (ht _ (wr_18 _ (List.mem_of_getElem? (i := 23) rfl))) hstr (vx_hat (fun w h => ht w (wx_2 w h)) te_2 (gx_bad hG (X := "java/lang/IndexOutOfBoundsException") (List.mem_of_getElem? (i := 0) rfl))) tg_2 hG.1.1 hG.1.2.1 hS (by rw [hml]; exact hl.1) dX11_planAt_15 dX11_planAt_18 dX11_planAt_19 dX11_planAt_22 dX11_planAt_25 (fun x hx => (hex x hx).elim) (Nat.le_of_ble_eq_true rfl) (Nat.le_of_ble_eq_true rfl) (Nat.le_of_ble_eq_true rfl) (Nat.le_of_ble_eq_true rfl) hlocks (fun t hv9 h1 h2 => XX_of rfl hS hA h1 h2) hS.2.2 (Nat.le_of_ble_eq_true rfl) (Nat.le_of_ble_eq_true rfl)
