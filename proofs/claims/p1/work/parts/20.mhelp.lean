theorem i_nlt {x y : Int32} (h : y ≤ x) : ¬ x < y := by
  rw [Int32.le_iff_toInt_le] at h
  rw [Int32.lt_iff_toInt_lt]
  omega
theorem i_nlt2 {x y : Int32} (h : ¬ x < y) : y ≤ x := by
  rw [Int32.lt_iff_toInt_lt] at h
  rw [Int32.le_iff_toInt_le]
  omega
theorem no_in (x : Int32) : ¬ ((0 : Int32) ≤ x ∧ x ≤ 0 - 1) := by
  intro h
  have h1 := h.1
  have h2 := h.2
  rw [Int32.le_iff_toInt_le, Int32.toInt_zero] at h1
  rw [Int32.le_iff_toInt_le, show (0 - 1 : Int32).toInt = -1 by decide] at h2
  omega
abbrev slotF : Nat → Int32 := upd (upd (upd (upd (upd (upd (fun _ => 0) (0 : Int32).toNatClampNeg ((-1))) (1 : Int32).toNatClampNeg ((-1))) (2 : Int32).toNatClampNeg ((-1))) (3 : Int32).toNatClampNeg ((-1))) (4 : Int32).toNatClampNeg ((-1))) (5 : Int32).toNatClampNeg ((-1))
abbrev WM (om mt qu lv mi ml mss rn sw mf msp : Nat) (cS cF : ClassId) (th : Int32) (de : Nat) : va_W := [(om, .inr (20, [.ref mt, .ref qu, .int 0, .int th, .ref lv, .int (-1), .int 0, .int 0, .ref mi, .int 0, .int 0, .int 0, .int 0, .ref ml, .ref mss, .ref rn, .ref sw, .ref mf, .null, .int 0, .ref msp, .int 0, .int 0, .int 0])), (lv, .inr (1, [.int 0, .ref de, .int 0])), (rn, .inr (1, [.int 0, .ref de, .int 0])), (sw, .inr (1, [.int 0, .ref de, .int 0])), (ml, .inl (cS, 6, .inl (slotF))), (mf, .inl (cF, 96, .inl (fun _ => 0)))]
theorem slot_m1 {x : Int32} (h : 0 ≤ x ∧ x ≤ 5) : slotF x.toNatClampNeg = -1 := by
  obtain ⟨j, hj, rfl⟩ := in_nat (n := 6) (M := 6) (by decide) (show ¬ x < 0 from i_nlt h.1) (show x < 6 from by
    have h2 := h.2
    rw [Int32.le_iff_toInt_le, show (5 : Int32).toInt = 5 by decide] at h2
    rw [Int32.lt_iff_toInt_lt, show (6 : Int32).toInt = 6 by decide]
    omega)
  rw [nI_clamp (by omega)]
  have : ∀ j : Nat, j < 6 → slotF j = -1 := by decide
  exact this j hj
theorem dX18_in_0 : decode cX18_in 0 = .ok (.iload_n 0, 1) := by decide +kernel
theorem dX18_in_1 : decode cX18_in 1 = .ok (.iload_n 1, 1) := by decide +kernel
theorem dX18_in_2 : decode cX18_in 2 = .ok (.if_icmp .lt 12, 3) := by decide +kernel
theorem dX18_in_5 : decode cX18_in 5 = .ok (.iload_n 0, 1) := by decide +kernel
theorem dX18_in_6 : decode cX18_in 6 = .ok (.iload_n 2, 1) := by decide +kernel
theorem dX18_in_7 : decode cX18_in 7 = .ok (.if_icmp .gt 7, 3) := by decide +kernel
theorem dX18_in_10 : decode cX18_in 10 = .ok (.iconst 1, 1) := by decide +kernel
theorem dX18_in_11 : decode cX18_in 11 = .ok (.goto 4, 3) := by decide +kernel
theorem dX18_in_14 : decode cX18_in 14 = .ok (.iconst 0, 1) := by decide +kernel
theorem dX18_in_15 : decode cX18_in 15 = .ok (.ireturn, 1) := by decide +kernel
theorem dX18_noLevel_0 : decode cX18_noLevel 0 = .ok (.aload_n 0, 1) := by decide +kernel
theorem dX18_noLevel_1 : decode cX18_noLevel 1 = .ok (.iload_n 1, 1) := by decide +kernel
theorem dX18_noLevel_2 : decode cX18_noLevel 2 = .ok (.iconst 0, 1) := by decide +kernel
theorem dX18_noLevel_3 : decode cX18_noLevel 3 = .ok (.aload_n 0, 1) := by decide +kernel
theorem dX18_noLevel_4 : decode cX18_noLevel 4 = .ok (.getfield 34, 3) := by decide +kernel
theorem dX18_noLevel_7 : decode cX18_noLevel 7 = .ok (.invokevirtual 69, 3) := by decide +kernel
theorem dX18_noLevel_10 : decode cX18_noLevel 10 = .ok (.iconst 1, 1) := by decide +kernel
theorem dX18_noLevel_11 : decode cX18_noLevel 11 = .ok (.isub, 1) := by decide +kernel
theorem dX18_noLevel_12 : decode cX18_noLevel 12 = .ok (.invokestatic 73, 3) := by decide +kernel
theorem dX18_noLevel_15 : decode cX18_noLevel 15 = .ok (.ifCond .eq 7, 3) := by decide +kernel
theorem dX18_noLevel_22 : decode cX18_noLevel 22 = .ok (.iconst 1, 1) := by decide +kernel
theorem dX18_noLevel_23 : decode cX18_noLevel 23 = .ok (.putfield 66, 3) := by decide +kernel
theorem dX18_noLevel_26 : decode cX18_noLevel 26 = .ok (.aload_n 0, 1) := by decide +kernel
theorem dX18_noLevel_27 : decode cX18_noLevel 27 = .ok (.getfield 66, 3) := by decide +kernel
theorem dX18_noLevel_30 : decode cX18_noLevel 30 = .ok (.ifCond .le 7, 3) := by decide +kernel
theorem dX18_noLevel_33 : decode cX18_noLevel 33 = .ok (.iconst 1, 1) := by decide +kernel
theorem dX18_noLevel_34 : decode cX18_noLevel 34 = .ok (.goto 4, 3) := by decide +kernel
theorem dX18_noLevel_38 : decode cX18_noLevel 38 = .ok (.ireturn, 1) := by decide +kernel
theorem dX18_noRun_0 : decode cX18_noRun 0 = .ok (.aload_n 0, 1) := by decide +kernel
theorem dX18_noRun_1 : decode cX18_noRun 1 = .ok (.iload_n 1, 1) := by decide +kernel
theorem dX18_noRun_2 : decode cX18_noRun 2 = .ok (.iconst 0, 1) := by decide +kernel
theorem dX18_noRun_3 : decode cX18_noRun 3 = .ok (.aload_n 0, 1) := by decide +kernel
theorem dX18_noRun_4 : decode cX18_noRun 4 = .ok (.getfield 50, 3) := by decide +kernel
theorem dX18_noRun_7 : decode cX18_noRun 7 = .ok (.invokevirtual 69, 3) := by decide +kernel
theorem dX18_noRun_10 : decode cX18_noRun 10 = .ok (.iconst 1, 1) := by decide +kernel
theorem dX18_noRun_11 : decode cX18_noRun 11 = .ok (.isub, 1) := by decide +kernel
theorem dX18_noRun_12 : decode cX18_noRun 12 = .ok (.invokestatic 73, 3) := by decide +kernel
theorem dX18_noRun_15 : decode cX18_noRun 15 = .ok (.ifCond .eq 7, 3) := by decide +kernel
theorem dX18_noRun_22 : decode cX18_noRun 22 = .ok (.iconst 1, 1) := by decide +kernel
theorem dX18_noRun_23 : decode cX18_noRun 23 = .ok (.putfield 66, 3) := by decide +kernel
theorem dX18_noRun_26 : decode cX18_noRun 26 = .ok (.aload_n 0, 1) := by decide +kernel
theorem dX18_noRun_27 : decode cX18_noRun 27 = .ok (.getfield 66, 3) := by decide +kernel
theorem dX18_noRun_30 : decode cX18_noRun 30 = .ok (.ifCond .le 7, 3) := by decide +kernel
theorem dX18_noRun_33 : decode cX18_noRun 33 = .ok (.iconst 1, 1) := by decide +kernel
theorem dX18_noRun_34 : decode cX18_noRun 34 = .ok (.goto 4, 3) := by decide +kernel
theorem dX18_noRun_38 : decode cX18_noRun 38 = .ok (.ireturn, 1) := by decide +kernel
theorem dX18_noCell_0 : decode cX18_noCell 0 = .ok (.aload_n 0, 1) := by decide +kernel
theorem dX18_noCell_1 : decode cX18_noCell 1 = .ok (.iload_n 1, 1) := by decide +kernel
theorem dX18_noCell_2 : decode cX18_noCell 2 = .ok (.iconst 0, 1) := by decide +kernel
theorem dX18_noCell_3 : decode cX18_noCell 3 = .ok (.aload_n 0, 1) := by decide +kernel
theorem dX18_noCell_4 : decode cX18_noCell 4 = .ok (.getfield 34, 3) := by decide +kernel
theorem dX18_noCell_7 : decode cX18_noCell 7 = .ok (.invokevirtual 69, 3) := by decide +kernel
theorem dX18_noCell_10 : decode cX18_noCell 10 = .ok (.iconst 1, 1) := by decide +kernel
theorem dX18_noCell_11 : decode cX18_noCell 11 = .ok (.isub, 1) := by decide +kernel
theorem dX18_noCell_12 : decode cX18_noCell 12 = .ok (.invokestatic 73, 3) := by decide +kernel
theorem dX18_noCell_15 : decode cX18_noCell 15 = .ok (.ifCond .eq 26, 3) := by decide +kernel
theorem dX18_noCell_41 : decode cX18_noCell 41 = .ok (.iconst 1, 1) := by decide +kernel
theorem dX18_noCell_42 : decode cX18_noCell 42 = .ok (.putfield 66, 3) := by decide +kernel
theorem dX18_noCell_45 : decode cX18_noCell 45 = .ok (.aload_n 0, 1) := by decide +kernel
theorem dX18_noCell_46 : decode cX18_noCell 46 = .ok (.getfield 66, 3) := by decide +kernel
theorem dX18_noCell_49 : decode cX18_noCell 49 = .ok (.ifCond .le 7, 3) := by decide +kernel
theorem dX18_noCell_52 : decode cX18_noCell 52 = .ok (.iconst 1, 1) := by decide +kernel
theorem dX18_noCell_53 : decode cX18_noCell 53 = .ok (.goto 4, 3) := by decide +kernel
theorem dX18_noCell_57 : decode cX18_noCell 57 = .ok (.ireturn, 1) := by decide +kernel
theorem dX18_raises_0 : decode cX18_raises 0 = .ok (.aload_n 0, 1) := by decide +kernel
theorem dX18_raises_1 : decode cX18_raises 1 = .ok (.iload_n 1, 1) := by decide +kernel
theorem dX18_raises_2 : decode cX18_raises 2 = .ok (.putfield 66, 3) := by decide +kernel
theorem dX18_raises_5 : decode cX18_raises 5 = .ok (.iconst 0, 1) := by decide +kernel
theorem dX18_raises_6 : decode cX18_raises 6 = .ok (.ireturn, 1) := by decide +kernel
theorem dX18_won_0 : decode cX18_won 0 = .ok (.aload_n 0, 1) := by decide +kernel
theorem dX18_won_1 : decode cX18_won 1 = .ok (.iload_n 1, 1) := by decide +kernel
theorem dX18_won_2 : decode cX18_won 2 = .ok (.invokevirtual 151, 3) := by decide +kernel
theorem dX18_won_5 : decode cX18_won 5 = .ok (.ifCond .eq 5, 3) := by decide +kernel
theorem dX18_won_8 : decode cX18_won 8 = .ok (.aconst_null, 1) := by decide +kernel
theorem dX18_won_9 : decode cX18_won 9 = .ok (.areturn, 1) := by decide +kernel
theorem dX18_thrown_0 : decode cX18_thrown 0 = .ok (.aload_n 0, 1) := by decide +kernel
theorem dX18_thrown_1 : decode cX18_thrown 1 = .ok (.getfield 66, 3) := by decide +kernel
theorem dX18_thrown_4 : decode cX18_thrown 4 = .ok (.ireturn, 1) := by decide +kernel
set_option maxHeartbeats 4000000 in
set_option maxRecDepth 100000 in
theorem c_X18_in (l : Launch) (dC : Nat → ClassId) (dI : Nat → Nat → Nat) (de : Nat) (b0 : Int32) (b1 : Int32) (b2 : Int32) (sz : Nat) : Met l yX18_in (.code yX18_in cX18_in 3 (some .boolean) :: wsL_law) { frames := 0, cells := 0, slots := 0, locals := 0 } (va_Pc [.int b0, .int b1, .int b2] (PW dC dI de [] [] sz)) (va_Qi (fun (r : Int32) (u : Unit) => (r = 1 ∧ b1 ≤ b0 ∧ b0 ≤ b2) ∨ (r = 0 ∧ ¬ (b1 ≤ b0 ∧ b0 ≤ b2))) (fun (_ : Unit) (t : State) => QW dC dI [] [] (va_A [] sz) t) (va_A [] sz)) 0 0 (va_A [] sz) := by
  refine Met.ofW (cc := cX18_in) (maxL := 3) (ret := (some .boolean)) (by decide) rfl ?_
  intro p e s m args below meth c s₁ B hml hv
  obtain ⟨rfl, hsz, hP, hK, hD0, hG⟩ := hv
  have hx := B.exec
  have hb := B.bytes
  have hr := B.returns
  have hts := atoms_spec (ws := .code yX18_in cX18_in 3 (some .boolean) :: wsL_law) B.pre
  have ht : ∀ w ∈ wsL_law, w.before _ s = true := fun w h => hts w (List.mem_cons_of_mem _ h)
  have hown : s.vm.findClass RX18 = some m.cls := findClass_of_methodNamed B.named
  have hlocks := B.notSynchronized
  subst hsz
  have hD := hD0.self (sz := s.heap.size)
  generalize hAe : va_A [] s.heap.size = A at hD hG ⊢
  have hA : ∀ q : Nat, s.heap.size ≤ q → A q := fun q h => by rw [← hAe]; exact Or.inr h
  have hS : va_S A s.heap s.heap [] := va_S.rf
  have hP : va_P (dC, dI) vwCl [] s.heap := hP
  have hD : va_D A [] := hD
  have hl := lv_entry ([.int b0, .int b1, .int b2]) (n := 3) (Nat.le_of_ble_eq_true rfl)
  rw [lg_entry_eq]
  generalize (lg_sl ([.int b0, .int b1, .int b2]) ++ List.replicate (3 - (lg_sl ([.int b0, .int b1, .int b2])).length) Slot.unset).toArray = ls at hl ⊢
  have hl : lv_has ls 3 [(0, .int b0), (1, .int b1), (2, .int b2)] := hl
  refine lv_iload_n hx hb dX18_in_0 rfl (lv_at hl 0 rfl) ?_
  refine lv_iload_n hx hb dX18_in_1 rfl (lv_at hl 1 rfl) ?_
  refine lv_icmp_lt (tgt := 14) hx hb dX18_in_2 (by decide) (fun c_2 => ?_) (fun c_2 => ?_)
  · refine lv_iconst (v := 0) hx hb dX18_in_14 (by decide) ?_
    exact W.zret (v := 0) hx hb hr (by decide) (fun t htt hW => have ht := htt; ⟨⟨0, (), rfl, (Or.inr ⟨rfl, fun h => absurd c_2 (i_nlt h.1)⟩), QW_of ht hW hP hK hD⟩, hS.F ht⟩) hS.2.2 dX18_in_15
  · refine lv_iload_n hx hb dX18_in_5 rfl (lv_at hl 0 rfl) ?_
    refine lv_iload_n hx hb dX18_in_6 rfl (lv_at hl 2 rfl) ?_
    refine lv_icmp_gt (tgt := 14) hx hb dX18_in_7 (by decide) (fun c_7 => ?_) (fun c_7 => ?_)
    · refine lv_iconst (v := 0) hx hb dX18_in_14 (by decide) ?_
      exact W.zret (v := 0) hx hb hr (by decide) (fun t htt hW => have ht := htt; ⟨⟨0, (), rfl, (Or.inr ⟨rfl, fun h => absurd c_7 (i_nlt h.2)⟩), QW_of ht hW hP hK hD⟩, hS.F ht⟩) hS.2.2 dX18_in_15
    · refine lv_iconst (v := 1) hx hb dX18_in_10 (by decide) ?_
      refine lv_goto (tgt := 15) hx hb dX18_in_11 (by decide) ?_
      exact W.zret (v := 1) hx hb hr (by decide) (fun t htt hW => have ht := htt; ⟨⟨1, (), rfl, (Or.inl ⟨rfl, i_nlt2 c_2, i_nlt2 c_7⟩), QW_of ht hW hP hK hD⟩, hS.F ht⟩) hS.2.2 dX18_in_15
set_option maxHeartbeats 4000000 in
set_option maxRecDepth 100000 in
theorem c_X18_noLevel (l : Launch) (dC : Nat → ClassId) (dI : Nat → Nat → Nat) (de : Nat) (om : Nat) (mt : Nat) (qu : Nat) (lv : Nat) (mi : Nat) (ml : Nat) (mss : Nat) (rn : Nat) (sw : Nat) (mf : Nat) (msp : Nat) (cS : ClassId) (cF : ClassId) (th : Int32) (a1 : Int32) (sz : Nat) : Met l yX18_noLevel (.code yX18_noLevel cX18_noLevel 2 (some .boolean) :: wsL_law) { frames := 1, cells := 0, slots := 0, locals := 22 } (va_Pc [.ref om, .int a1] (PW dC dI de [(cS, .int), (cF, .int)] (WM om mt qu lv mi ml mss rn sw mf msp cS cF th de) sz)) (va_Qi (fun (r : Int32) (u : Unit) => r = 1) (fun (_ : Unit) (t : State) => QW dC dI [(cS, .int), (cF, .int)] (WM om mt qu lv mi ml mss rn sw mf msp cS cF 1 de) (va_A (WM om mt qu lv mi ml mss rn sw mf msp cS cF th de) sz) t) (va_A (WM om mt qu lv mi ml mss rn sw mf msp cS cF th de) sz)) 0 0 (va_A (WM om mt qu lv mi ml mss rn sw mf msp cS cF th de) sz) := by
  refine Met.ofW (cc := cX18_noLevel) (maxL := 2) (ret := (some .boolean)) (by decide) rfl ?_
  intro p e s m args below meth c s₁ B hml hv
  obtain ⟨rfl, hsz, hP, hK, hD0, hG⟩ := hv
  have hx := B.exec
  have hb := B.bytes
  have hr := B.returns
  have hts := atoms_spec (ws := .code yX18_noLevel cX18_noLevel 2 (some .boolean) :: wsL_law) B.pre
  have ht : ∀ w ∈ wsL_law, w.before _ s = true := fun w h => hts w (List.mem_cons_of_mem _ h)
  have hown : s.vm.findClass RX18 = some m.cls := findClass_of_methodNamed B.named
  have hlocks := B.notSynchronized
  subst hsz
  have hD := hD0.self (sz := s.heap.size)
  generalize hAe : va_A (WM om mt qu lv mi ml mss rn sw mf msp cS cF th de) s.heap.size = A at hD hG ⊢
  have hA : ∀ q : Nat, s.heap.size ≤ q → A q := fun q h => by rw [← hAe]; exact Or.inr h
  have hS : va_S A s.heap s.heap [] := va_S.rf
  have hP : va_P (dC, dI) vwCl [(om, .inr (20, [.ref mt, .ref qu, .int 0, .int th, .ref lv, .int (-1), .int 0, .int 0, .ref mi, .int 0, .int 0, .int 0, .int 0, .ref ml, .ref mss, .ref rn, .ref sw, .ref mf, .null, .int 0, .ref msp, .int 0, .int 0, .int 0])), (lv, .inr (1, [.int 0, .ref de, .int 0])), (rn, .inr (1, [.int 0, .ref de, .int 0])), (sw, .inr (1, [.int 0, .ref de, .int 0])), (ml, .inl (cS, 6, .inl (slotF))), (mf, .inl (cF, 96, .inl (fun _ => 0)))] s.heap := hP
  have hD : va_D A [(om, .inr (20, [.ref mt, .ref qu, .int 0, .int th, .ref lv, .int (-1), .int 0, .int 0, .ref mi, .int 0, .int 0, .int 0, .int 0, .ref ml, .ref mss, .ref rn, .ref sw, .ref mf, .null, .int 0, .ref msp, .int 0, .int 0, .int 0])), (lv, .inr (1, [.int 0, .ref de, .int 0])), (rn, .inr (1, [.int 0, .ref de, .int 0])), (sw, .inr (1, [.int 0, .ref de, .int 0])), (ml, .inl (cS, 6, .inl (slotF))), (mf, .inl (cF, 96, .inl (fun _ => 0)))] := hD
  have hl := lv_entry ([.ref om, .int a1]) (n := 2) (Nat.le_of_ble_eq_true rfl)
  rw [lg_entry_eq]
  generalize (lg_sl ([.ref om, .int a1]) ++ List.replicate (2 - (lg_sl ([.ref om, .int a1])).length) Slot.unset).toArray = ls at hl ⊢
  have hl : lv_has ls 2 [(0, .ref om), (1, .int a1)] := hl
  refine lv_aload_n hx hb dX18_noLevel_0 rfl (lv_at hl 0 rfl) ?_
  refine lv_iload_n hx hb dX18_noLevel_1 rfl (lv_at hl 1 rfl) ?_
  refine lv_iconst (v := 0) hx hb dX18_noLevel_2 (by decide) ?_
  refine lv_aload_n hx hb dX18_noLevel_3 rfl (lv_at hl 0 rfl) ?_
  refine va_get (D := (dC, dI)) (ci := 20) (v := .ref lv) (C := RX18) (T := TX18) (N := 24) hx hb ht inlX18 hown hK hP 0 rfl rfl 4 (by decide) (ht _ (wr_8 _ (List.mem_of_getElem? (i := 7) rfl))) (fun _ h9 => h9) rfl dX18_noLevel_4 ?_
  have hPc := hP.sub (ws' := [(lv, .inr (1, [.int 0, .ref de, .int 0]))]) [1] rfl
  have hDc := hD.sub (ws' := [(lv, .inr (1, [.int 0, .ref de, .int 0]))]) [1] (by decide) rfl
  have hKc := hK.sub (tys' := []) [] rfl
  have hFc := va_free (wc := [(lv, .inr (1, [.int 0, .ref de, .int 0]))]) hD hS hA [1] rfl
  refine va_calli (va_runV (As := []) (rest := [.int 0, .int a1, .ref om]) ⟨hx, hb, hml, hown, ht⟩ (c_Jx4a65c_size_8abf5 l dC dI de (lv) (0) (.ref de) (0) s.heap.size) (cwV 0 ht (gWV (wr_17 _ (List.mem_of_getElem? (i := 16) rfl)) (wr_14 _ (List.mem_of_getElem? (i := 6) rfl)) (wr_14 _ (List.mem_of_getElem? (i := 7) rfl)) (wr_1 _ (List.mem_of_getElem? (i := 16) rfl)) (wr_14 _ (List.mem_of_getElem? (i := 8) rfl))) rfl rfl rfl (by decide +kernel) ⟨Nat.le_of_ble_eq_true rfl, Nat.le_of_ble_eq_true rfl⟩) ⟨PW_blind, va_recv hKc hPc (ci := 1) (q0 := 0) rfl rfl, PW_call hPc hDc hKc hS hG hFc⟩ rfl rfl hl.1 rfl (lv_room (Nat.le_of_ble_eq_true rfl)) dX18_noLevel_7 ⟨Nat.le_of_ble_eq_true rfl, Nat.le_of_ble_eq_true rfl⟩) hS (fun q _ h => hFc q h) hFc (fun r_7 u t H1 locs ht9 hvm hw hB hz1 hk1 hS => ?_)
  obtain ⟨hP1, hK1, hD1⟩ := hB
  rw [ht9] at hP1
  have hK1 := va_K.moved hvm.symm hK1
  obtain ⟨hP, hD⟩ := va_join (wr := [(om, .inr (20, [.ref mt, .ref qu, .int 0, .int th, .ref lv, .int (-1), .int 0, .int 0, .ref mi, .int 0, .int 0, .int 0, .int 0, .ref ml, .ref mss, .ref rn, .ref sw, .ref mf, .null, .int 0, .ref msp, .int 0, .int 0, .int 0])), (rn, .inr (1, [.int 0, .ref de, .int 0])), (sw, .inr (1, [.int 0, .ref de, .int 0])), (ml, .inl (cS, 6, .inl (slotF))), (mf, .inl (cF, 96, .inl (fun _ => 0)))]) (w1 := [(lv, .inr (1, [.int 0, .ref de, .int 0]))]) hP hD [1] [0, 2, 3, 4, 5] rfl rfl (by decide) (by decide) hk1 hFc hP1 hD1
  have hK := (hK.sub (tys' := [(cS, .int), (cF, .int)]) [0, 1] rfl).app hK1
  generalize H1 = H at hP hS ⊢
  replace hP : va_P (dC, dI) vwCl [(om, .inr (20, [.ref mt, .ref qu, .int 0, .int th, .ref lv, .int (-1), .int 0, .int 0, .ref mi, .int 0, .int 0, .int 0, .int 0, .ref ml, .ref mss, .ref rn, .ref sw, .ref mf, .null, .int 0, .ref msp, .int 0, .int 0, .int 0])), (rn, .inr (1, [.int 0, .ref de, .int 0])), (sw, .inr (1, [.int 0, .ref de, .int 0])), (ml, .inl (cS, 6, .inl (slotF))), (mf, .inl (cF, 96, .inl (fun _ => 0))), (lv, .inr (1, [.int 0, .ref de, .int 0]))] H := hP
  replace hD : va_D A [(om, .inr (20, [.ref mt, .ref qu, .int 0, .int th, .ref lv, .int (-1), .int 0, .int 0, .ref mi, .int 0, .int 0, .int 0, .int 0, .ref ml, .ref mss, .ref rn, .ref sw, .ref mf, .null, .int 0, .ref msp, .int 0, .int 0, .int 0])), (rn, .inr (1, [.int 0, .ref de, .int 0])), (sw, .inr (1, [.int 0, .ref de, .int 0])), (ml, .inl (cS, 6, .inl (slotF))), (mf, .inl (cF, 96, .inl (fun _ => 0))), (lv, .inr (1, [.int 0, .ref de, .int 0]))] := hD
  have hK : va_K (dC, dI) vwCl [(cS, .int), (cF, .int)] s := hK
  have e_7 : r_7 = 0 := hw
  subst e_7
  refine lv_iconst (v := 1) hx hb dX18_noLevel_10 (by decide) ?_
  refine lv_isub hx hb dX18_noLevel_11 ?_
  have hPc := hP.sub (ws' := []) [] rfl
  have hDc := hD.sub (ws' := []) [] (by decide) rfl
  have hKc := hK.sub (tys' := []) [] rfl
  have hFc := va_free (wc := []) hD hS hA [] rfl
  refine va_calli (va_runS (As := [.int a1, .int 0, .int (0 - 1)]) (rest := [.ref om]) ⟨hx, hb, hml, hown, ht⟩ (c_X18_in l dC dI de (a1) (0) ((0 - 1)) H.size) (cwS 3 ht (gWS (wr_17 _ (List.mem_of_getElem? (i := 9) rfl)) (wr_17 _ (List.mem_of_getElem? (i := 10) rfl)) (wr_1 _ (List.mem_of_getElem? (i := 5) rfl)) (wr_17 _ (List.mem_of_getElem? (i := 11) rfl))) rfl rfl rfl (by decide +kernel) ⟨Nat.le_of_ble_eq_true rfl, Nat.le_of_ble_eq_true rfl⟩) ⟨PW_blind, PW_call hPc hDc hKc hS hG hFc⟩ rfl rfl hl.1 rfl (lv_room (Nat.le_of_ble_eq_true rfl)) dX18_noLevel_12 ⟨Nat.le_of_ble_eq_true rfl, Nat.le_of_ble_eq_true rfl⟩) hS (fun q _ h => hFc q h) hFc (fun r_12 u t H1 locs ht9 hvm hw hB hz1 hk1 hS => ?_)
  obtain ⟨hP1, hK1, hD1⟩ := hB
  rw [ht9] at hP1
  have hK1 := va_K.moved hvm.symm hK1
  obtain ⟨hP, hD⟩ := va_join (wr := [(om, .inr (20, [.ref mt, .ref qu, .int 0, .int th, .ref lv, .int (-1), .int 0, .int 0, .ref mi, .int 0, .int 0, .int 0, .int 0, .ref ml, .ref mss, .ref rn, .ref sw, .ref mf, .null, .int 0, .ref msp, .int 0, .int 0, .int 0])), (rn, .inr (1, [.int 0, .ref de, .int 0])), (sw, .inr (1, [.int 0, .ref de, .int 0])), (ml, .inl (cS, 6, .inl (slotF))), (mf, .inl (cF, 96, .inl (fun _ => 0))), (lv, .inr (1, [.int 0, .ref de, .int 0]))]) (w1 := []) hP hD [] [0, 1, 2, 3, 4, 5] rfl rfl (by decide) (by decide) hk1 hFc hP1 hD1
  have hK := (hK.sub (tys' := [(cS, .int), (cF, .int)]) [0, 1] rfl).app hK1
  generalize H1 = H at hP hS ⊢
  replace hP : va_P (dC, dI) vwCl [(om, .inr (20, [.ref mt, .ref qu, .int 0, .int th, .ref lv, .int (-1), .int 0, .int 0, .ref mi, .int 0, .int 0, .int 0, .int 0, .ref ml, .ref mss, .ref rn, .ref sw, .ref mf, .null, .int 0, .ref msp, .int 0, .int 0, .int 0])), (rn, .inr (1, [.int 0, .ref de, .int 0])), (sw, .inr (1, [.int 0, .ref de, .int 0])), (ml, .inl (cS, 6, .inl (slotF))), (mf, .inl (cF, 96, .inl (fun _ => 0))), (lv, .inr (1, [.int 0, .ref de, .int 0]))] H := hP
  replace hD : va_D A [(om, .inr (20, [.ref mt, .ref qu, .int 0, .int th, .ref lv, .int (-1), .int 0, .int 0, .ref mi, .int 0, .int 0, .int 0, .int 0, .ref ml, .ref mss, .ref rn, .ref sw, .ref mf, .null, .int 0, .ref msp, .int 0, .int 0, .int 0])), (rn, .inr (1, [.int 0, .ref de, .int 0])), (sw, .inr (1, [.int 0, .ref de, .int 0])), (ml, .inl (cS, 6, .inl (slotF))), (mf, .inl (cF, 96, .inl (fun _ => 0))), (lv, .inr (1, [.int 0, .ref de, .int 0]))] := hD
  have hK : va_K (dC, dI) vwCl [(cS, .int), (cF, .int)] s := hK
  rcases hw with ⟨rfl, m_12⟩ | ⟨rfl, m_12⟩
  · exact absurd (show (0 : Int32) ≤ a1 ∧ a1 ≤ 0 - 1 from m_12) (no_in a1)
  · refine lv_if_eq (tgt := 22) hx hb dX18_noLevel_15 (by decide) (fun c_15 => ?_) (fun c_15 => absurd c_15 (by decide))
    refine lv_iconst (v := 1) hx hb dX18_noLevel_22 (by decide) ?_
    refine va_put (D := (dC, dI)) (ci := 20) (v := .int 1) (ty := .int) (C := RX18) (T := TX18) (N := 24) hx hb ht inlX18 tyX18 tyX18_ok nmX18 hown hK hP hD hS 0 rfl rfl 3 (by decide) (ht _ (wr_17 _ (List.mem_of_getElem? (i := 5) rfl))) (fun _ h9 => h9) rfl (by decide +kernel) rfl rfl (Nat.le_of_ble_eq_true rfl) dX18_noLevel_23 (fun H locs hP hD hS => ?_)
    replace hP : va_P (dC, dI) vwCl [(om, .inr (20, [.ref mt, .ref qu, .int 0, .int 1, .ref lv, .int (-1), .int 0, .int 0, .ref mi, .int 0, .int 0, .int 0, .int 0, .ref ml, .ref mss, .ref rn, .ref sw, .ref mf, .null, .int 0, .ref msp, .int 0, .int 0, .int 0])), (rn, .inr (1, [.int 0, .ref de, .int 0])), (sw, .inr (1, [.int 0, .ref de, .int 0])), (ml, .inl (cS, 6, .inl (slotF))), (mf, .inl (cF, 96, .inl (fun _ => 0))), (lv, .inr (1, [.int 0, .ref de, .int 0]))] H := hP
    replace hD : va_D A [(om, .inr (20, [.ref mt, .ref qu, .int 0, .int 1, .ref lv, .int (-1), .int 0, .int 0, .ref mi, .int 0, .int 0, .int 0, .int 0, .ref ml, .ref mss, .ref rn, .ref sw, .ref mf, .null, .int 0, .ref msp, .int 0, .int 0, .int 0])), (rn, .inr (1, [.int 0, .ref de, .int 0])), (sw, .inr (1, [.int 0, .ref de, .int 0])), (ml, .inl (cS, 6, .inl (slotF))), (mf, .inl (cF, 96, .inl (fun _ => 0))), (lv, .inr (1, [.int 0, .ref de, .int 0]))] := hD
    refine lv_aload_n hx hb dX18_noLevel_26 rfl (lv_at hl 0 rfl) ?_
    refine va_get (D := (dC, dI)) (ci := 20) (v := .int 1) (C := RX18) (T := TX18) (N := 24) hx hb ht inlX18 hown hK hP 0 rfl rfl 3 (by decide) (ht _ (wr_17 _ (List.mem_of_getElem? (i := 5) rfl))) (fun _ h9 => h9) rfl dX18_noLevel_27 ?_
    refine lv_if_le (tgt := 37) hx hb dX18_noLevel_30 (by decide) (fun c_30 => absurd c_30 (by decide)) (fun c_30 => ?_)
    refine lv_iconst (v := 1) hx hb dX18_noLevel_33 (by decide) ?_
    refine lv_goto (tgt := 38) hx hb dX18_noLevel_34 (by decide) ?_
    have hP9 := hP.sub (ws' := [(om, .inr (20, [.ref mt, .ref qu, .int 0, .int 1, .ref lv, .int (-1), .int 0, .int 0, .ref mi, .int 0, .int 0, .int 0, .int 0, .ref ml, .ref mss, .ref rn, .ref sw, .ref mf, .null, .int 0, .ref msp, .int 0, .int 0, .int 0])), (lv, .inr (1, [.int 0, .ref de, .int 0])), (rn, .inr (1, [.int 0, .ref de, .int 0])), (sw, .inr (1, [.int 0, .ref de, .int 0])), (ml, .inl (cS, 6, .inl (slotF))), (mf, .inl (cF, 96, .inl (fun _ => 0)))]) [0, 5, 1, 2, 3, 4] rfl
    have hD9 := hD.sub (ws' := [(om, .inr (20, [.ref mt, .ref qu, .int 0, .int 1, .ref lv, .int (-1), .int 0, .int 0, .ref mi, .int 0, .int 0, .int 0, .int 0, .ref ml, .ref mss, .ref rn, .ref sw, .ref mf, .null, .int 0, .ref msp, .int 0, .int 0, .int 0])), (lv, .inr (1, [.int 0, .ref de, .int 0])), (rn, .inr (1, [.int 0, .ref de, .int 0])), (sw, .inr (1, [.int 0, .ref de, .int 0])), (ml, .inl (cS, 6, .inl (slotF))), (mf, .inl (cF, 96, .inl (fun _ => 0)))]) [0, 5, 1, 2, 3, 4] (by decide) rfl
    have hK9 := hK.sub (tys' := [(cS, .int), (cF, .int)]) [0, 1] rfl
    exact W.zret (v := 1) hx hb hr (by decide) (fun t htt hW => have ht := htt; ⟨⟨1, (), rfl, rfl, QW_of ht hW hP9 hK9 hD9⟩, hS.F ht⟩) hS.2.2 dX18_noLevel_38
set_option maxHeartbeats 4000000 in
set_option maxRecDepth 100000 in
theorem c_X18_noRun (l : Launch) (dC : Nat → ClassId) (dI : Nat → Nat → Nat) (de : Nat) (om : Nat) (mt : Nat) (qu : Nat) (lv : Nat) (mi : Nat) (ml : Nat) (mss : Nat) (rn : Nat) (sw : Nat) (mf : Nat) (msp : Nat) (cS : ClassId) (cF : ClassId) (th : Int32) (a1 : Int32) (sz : Nat) : Met l yX18_noRun (.code yX18_noRun cX18_noRun 2 (some .boolean) :: wsL_law) { frames := 1, cells := 0, slots := 0, locals := 22 } (va_Pc [.ref om, .int a1] (PW dC dI de [(cS, .int), (cF, .int)] (WM om mt qu lv mi ml mss rn sw mf msp cS cF th de) sz)) (va_Qi (fun (r : Int32) (u : Unit) => r = 1) (fun (_ : Unit) (t : State) => QW dC dI [(cS, .int), (cF, .int)] (WM om mt qu lv mi ml mss rn sw mf msp cS cF 1 de) (va_A (WM om mt qu lv mi ml mss rn sw mf msp cS cF th de) sz) t) (va_A (WM om mt qu lv mi ml mss rn sw mf msp cS cF th de) sz)) 0 0 (va_A (WM om mt qu lv mi ml mss rn sw mf msp cS cF th de) sz) := by
  refine Met.ofW (cc := cX18_noRun) (maxL := 2) (ret := (some .boolean)) (by decide) rfl ?_
  intro p e s m args below meth c s₁ B hml hv
  obtain ⟨rfl, hsz, hP, hK, hD0, hG⟩ := hv
  have hx := B.exec
  have hb := B.bytes
  have hr := B.returns
  have hts := atoms_spec (ws := .code yX18_noRun cX18_noRun 2 (some .boolean) :: wsL_law) B.pre
  have ht : ∀ w ∈ wsL_law, w.before _ s = true := fun w h => hts w (List.mem_cons_of_mem _ h)
  have hown : s.vm.findClass RX18 = some m.cls := findClass_of_methodNamed B.named
  have hlocks := B.notSynchronized
  subst hsz
  have hD := hD0.self (sz := s.heap.size)
  generalize hAe : va_A (WM om mt qu lv mi ml mss rn sw mf msp cS cF th de) s.heap.size = A at hD hG ⊢
  have hA : ∀ q : Nat, s.heap.size ≤ q → A q := fun q h => by rw [← hAe]; exact Or.inr h
  have hS : va_S A s.heap s.heap [] := va_S.rf
  have hP : va_P (dC, dI) vwCl [(om, .inr (20, [.ref mt, .ref qu, .int 0, .int th, .ref lv, .int (-1), .int 0, .int 0, .ref mi, .int 0, .int 0, .int 0, .int 0, .ref ml, .ref mss, .ref rn, .ref sw, .ref mf, .null, .int 0, .ref msp, .int 0, .int 0, .int 0])), (lv, .inr (1, [.int 0, .ref de, .int 0])), (rn, .inr (1, [.int 0, .ref de, .int 0])), (sw, .inr (1, [.int 0, .ref de, .int 0])), (ml, .inl (cS, 6, .inl (slotF))), (mf, .inl (cF, 96, .inl (fun _ => 0)))] s.heap := hP
  have hD : va_D A [(om, .inr (20, [.ref mt, .ref qu, .int 0, .int th, .ref lv, .int (-1), .int 0, .int 0, .ref mi, .int 0, .int 0, .int 0, .int 0, .ref ml, .ref mss, .ref rn, .ref sw, .ref mf, .null, .int 0, .ref msp, .int 0, .int 0, .int 0])), (lv, .inr (1, [.int 0, .ref de, .int 0])), (rn, .inr (1, [.int 0, .ref de, .int 0])), (sw, .inr (1, [.int 0, .ref de, .int 0])), (ml, .inl (cS, 6, .inl (slotF))), (mf, .inl (cF, 96, .inl (fun _ => 0)))] := hD
  have hl := lv_entry ([.ref om, .int a1]) (n := 2) (Nat.le_of_ble_eq_true rfl)
  rw [lg_entry_eq]
  generalize (lg_sl ([.ref om, .int a1]) ++ List.replicate (2 - (lg_sl ([.ref om, .int a1])).length) Slot.unset).toArray = ls at hl ⊢
  have hl : lv_has ls 2 [(0, .ref om), (1, .int a1)] := hl
  refine lv_aload_n hx hb dX18_noRun_0 rfl (lv_at hl 0 rfl) ?_
  refine lv_iload_n hx hb dX18_noRun_1 rfl (lv_at hl 1 rfl) ?_
  refine lv_iconst (v := 0) hx hb dX18_noRun_2 (by decide) ?_
  refine lv_aload_n hx hb dX18_noRun_3 rfl (lv_at hl 0 rfl) ?_
  refine va_get (D := (dC, dI)) (ci := 20) (v := .ref rn) (C := RX18) (T := TX18) (N := 24) hx hb ht inlX18 hown hK hP 0 rfl rfl 15 (by decide) (ht _ (wr_8 _ (List.mem_of_getElem? (i := 12) rfl))) (fun _ h9 => h9) rfl dX18_noRun_4 ?_
  have hPc := hP.sub (ws' := [(rn, .inr (1, [.int 0, .ref de, .int 0]))]) [2] rfl
  have hDc := hD.sub (ws' := [(rn, .inr (1, [.int 0, .ref de, .int 0]))]) [2] (by decide) rfl
  have hKc := hK.sub (tys' := []) [] rfl
  have hFc := va_free (wc := [(rn, .inr (1, [.int 0, .ref de, .int 0]))]) hD hS hA [2] rfl
  refine va_calli (va_runV (As := []) (rest := [.int 0, .int a1, .ref om]) ⟨hx, hb, hml, hown, ht⟩ (c_Jx4a65c_size_8abf5 l dC dI de (rn) (0) (.ref de) (0) s.heap.size) (cwV 0 ht (gWV (wr_17 _ (List.mem_of_getElem? (i := 16) rfl)) (wr_14 _ (List.mem_of_getElem? (i := 6) rfl)) (wr_14 _ (List.mem_of_getElem? (i := 7) rfl)) (wr_1 _ (List.mem_of_getElem? (i := 16) rfl)) (wr_14 _ (List.mem_of_getElem? (i := 8) rfl))) rfl rfl rfl (by decide +kernel) ⟨Nat.le_of_ble_eq_true rfl, Nat.le_of_ble_eq_true rfl⟩) ⟨PW_blind, va_recv hKc hPc (ci := 1) (q0 := 0) rfl rfl, PW_call hPc hDc hKc hS hG hFc⟩ rfl rfl hl.1 rfl (lv_room (Nat.le_of_ble_eq_true rfl)) dX18_noRun_7 ⟨Nat.le_of_ble_eq_true rfl, Nat.le_of_ble_eq_true rfl⟩) hS (fun q _ h => hFc q h) hFc (fun r_7 u t H1 locs ht9 hvm hw hB hz1 hk1 hS => ?_)
  obtain ⟨hP1, hK1, hD1⟩ := hB
  rw [ht9] at hP1
  have hK1 := va_K.moved hvm.symm hK1
  obtain ⟨hP, hD⟩ := va_join (wr := [(om, .inr (20, [.ref mt, .ref qu, .int 0, .int th, .ref lv, .int (-1), .int 0, .int 0, .ref mi, .int 0, .int 0, .int 0, .int 0, .ref ml, .ref mss, .ref rn, .ref sw, .ref mf, .null, .int 0, .ref msp, .int 0, .int 0, .int 0])), (lv, .inr (1, [.int 0, .ref de, .int 0])), (sw, .inr (1, [.int 0, .ref de, .int 0])), (ml, .inl (cS, 6, .inl (slotF))), (mf, .inl (cF, 96, .inl (fun _ => 0)))]) (w1 := [(rn, .inr (1, [.int 0, .ref de, .int 0]))]) hP hD [2] [0, 1, 3, 4, 5] rfl rfl (by decide) (by decide) hk1 hFc hP1 hD1
  have hK := (hK.sub (tys' := [(cS, .int), (cF, .int)]) [0, 1] rfl).app hK1
  generalize H1 = H at hP hS ⊢
  replace hP : va_P (dC, dI) vwCl [(om, .inr (20, [.ref mt, .ref qu, .int 0, .int th, .ref lv, .int (-1), .int 0, .int 0, .ref mi, .int 0, .int 0, .int 0, .int 0, .ref ml, .ref mss, .ref rn, .ref sw, .ref mf, .null, .int 0, .ref msp, .int 0, .int 0, .int 0])), (lv, .inr (1, [.int 0, .ref de, .int 0])), (sw, .inr (1, [.int 0, .ref de, .int 0])), (ml, .inl (cS, 6, .inl (slotF))), (mf, .inl (cF, 96, .inl (fun _ => 0))), (rn, .inr (1, [.int 0, .ref de, .int 0]))] H := hP
  replace hD : va_D A [(om, .inr (20, [.ref mt, .ref qu, .int 0, .int th, .ref lv, .int (-1), .int 0, .int 0, .ref mi, .int 0, .int 0, .int 0, .int 0, .ref ml, .ref mss, .ref rn, .ref sw, .ref mf, .null, .int 0, .ref msp, .int 0, .int 0, .int 0])), (lv, .inr (1, [.int 0, .ref de, .int 0])), (sw, .inr (1, [.int 0, .ref de, .int 0])), (ml, .inl (cS, 6, .inl (slotF))), (mf, .inl (cF, 96, .inl (fun _ => 0))), (rn, .inr (1, [.int 0, .ref de, .int 0]))] := hD
  have hK : va_K (dC, dI) vwCl [(cS, .int), (cF, .int)] s := hK
  have e_7 : r_7 = 0 := hw
  subst e_7
  refine lv_iconst (v := 1) hx hb dX18_noRun_10 (by decide) ?_
  refine lv_isub hx hb dX18_noRun_11 ?_
  have hPc := hP.sub (ws' := []) [] rfl
  have hDc := hD.sub (ws' := []) [] (by decide) rfl
  have hKc := hK.sub (tys' := []) [] rfl
  have hFc := va_free (wc := []) hD hS hA [] rfl
  refine va_calli (va_runS (As := [.int a1, .int 0, .int (0 - 1)]) (rest := [.ref om]) ⟨hx, hb, hml, hown, ht⟩ (c_X18_in l dC dI de (a1) (0) ((0 - 1)) H.size) (cwS 3 ht (gWS (wr_17 _ (List.mem_of_getElem? (i := 9) rfl)) (wr_17 _ (List.mem_of_getElem? (i := 10) rfl)) (wr_1 _ (List.mem_of_getElem? (i := 5) rfl)) (wr_17 _ (List.mem_of_getElem? (i := 11) rfl))) rfl rfl rfl (by decide +kernel) ⟨Nat.le_of_ble_eq_true rfl, Nat.le_of_ble_eq_true rfl⟩) ⟨PW_blind, PW_call hPc hDc hKc hS hG hFc⟩ rfl rfl hl.1 rfl (lv_room (Nat.le_of_ble_eq_true rfl)) dX18_noRun_12 ⟨Nat.le_of_ble_eq_true rfl, Nat.le_of_ble_eq_true rfl⟩) hS (fun q _ h => hFc q h) hFc (fun r_12 u t H1 locs ht9 hvm hw hB hz1 hk1 hS => ?_)
  obtain ⟨hP1, hK1, hD1⟩ := hB
  rw [ht9] at hP1
  have hK1 := va_K.moved hvm.symm hK1
  obtain ⟨hP, hD⟩ := va_join (wr := [(om, .inr (20, [.ref mt, .ref qu, .int 0, .int th, .ref lv, .int (-1), .int 0, .int 0, .ref mi, .int 0, .int 0, .int 0, .int 0, .ref ml, .ref mss, .ref rn, .ref sw, .ref mf, .null, .int 0, .ref msp, .int 0, .int 0, .int 0])), (lv, .inr (1, [.int 0, .ref de, .int 0])), (sw, .inr (1, [.int 0, .ref de, .int 0])), (ml, .inl (cS, 6, .inl (slotF))), (mf, .inl (cF, 96, .inl (fun _ => 0))), (rn, .inr (1, [.int 0, .ref de, .int 0]))]) (w1 := []) hP hD [] [0, 1, 2, 3, 4, 5] rfl rfl (by decide) (by decide) hk1 hFc hP1 hD1
  have hK := (hK.sub (tys' := [(cS, .int), (cF, .int)]) [0, 1] rfl).app hK1
  generalize H1 = H at hP hS ⊢
  replace hP : va_P (dC, dI) vwCl [(om, .inr (20, [.ref mt, .ref qu, .int 0, .int th, .ref lv, .int (-1), .int 0, .int 0, .ref mi, .int 0, .int 0, .int 0, .int 0, .ref ml, .ref mss, .ref rn, .ref sw, .ref mf, .null, .int 0, .ref msp, .int 0, .int 0, .int 0])), (lv, .inr (1, [.int 0, .ref de, .int 0])), (sw, .inr (1, [.int 0, .ref de, .int 0])), (ml, .inl (cS, 6, .inl (slotF))), (mf, .inl (cF, 96, .inl (fun _ => 0))), (rn, .inr (1, [.int 0, .ref de, .int 0]))] H := hP
  replace hD : va_D A [(om, .inr (20, [.ref mt, .ref qu, .int 0, .int th, .ref lv, .int (-1), .int 0, .int 0, .ref mi, .int 0, .int 0, .int 0, .int 0, .ref ml, .ref mss, .ref rn, .ref sw, .ref mf, .null, .int 0, .ref msp, .int 0, .int 0, .int 0])), (lv, .inr (1, [.int 0, .ref de, .int 0])), (sw, .inr (1, [.int 0, .ref de, .int 0])), (ml, .inl (cS, 6, .inl (slotF))), (mf, .inl (cF, 96, .inl (fun _ => 0))), (rn, .inr (1, [.int 0, .ref de, .int 0]))] := hD
  have hK : va_K (dC, dI) vwCl [(cS, .int), (cF, .int)] s := hK
  rcases hw with ⟨rfl, m_12⟩ | ⟨rfl, m_12⟩
  · exact absurd (show (0 : Int32) ≤ a1 ∧ a1 ≤ 0 - 1 from m_12) (no_in a1)
  · refine lv_if_eq (tgt := 22) hx hb dX18_noRun_15 (by decide) (fun c_15 => ?_) (fun c_15 => absurd c_15 (by decide))
    refine lv_iconst (v := 1) hx hb dX18_noRun_22 (by decide) ?_
    refine va_put (D := (dC, dI)) (ci := 20) (v := .int 1) (ty := .int) (C := RX18) (T := TX18) (N := 24) hx hb ht inlX18 tyX18 tyX18_ok nmX18 hown hK hP hD hS 0 rfl rfl 3 (by decide) (ht _ (wr_17 _ (List.mem_of_getElem? (i := 5) rfl))) (fun _ h9 => h9) rfl (by decide +kernel) rfl rfl (Nat.le_of_ble_eq_true rfl) dX18_noRun_23 (fun H locs hP hD hS => ?_)
    replace hP : va_P (dC, dI) vwCl [(om, .inr (20, [.ref mt, .ref qu, .int 0, .int 1, .ref lv, .int (-1), .int 0, .int 0, .ref mi, .int 0, .int 0, .int 0, .int 0, .ref ml, .ref mss, .ref rn, .ref sw, .ref mf, .null, .int 0, .ref msp, .int 0, .int 0, .int 0])), (lv, .inr (1, [.int 0, .ref de, .int 0])), (sw, .inr (1, [.int 0, .ref de, .int 0])), (ml, .inl (cS, 6, .inl (slotF))), (mf, .inl (cF, 96, .inl (fun _ => 0))), (rn, .inr (1, [.int 0, .ref de, .int 0]))] H := hP
    replace hD : va_D A [(om, .inr (20, [.ref mt, .ref qu, .int 0, .int 1, .ref lv, .int (-1), .int 0, .int 0, .ref mi, .int 0, .int 0, .int 0, .int 0, .ref ml, .ref mss, .ref rn, .ref sw, .ref mf, .null, .int 0, .ref msp, .int 0, .int 0, .int 0])), (lv, .inr (1, [.int 0, .ref de, .int 0])), (sw, .inr (1, [.int 0, .ref de, .int 0])), (ml, .inl (cS, 6, .inl (slotF))), (mf, .inl (cF, 96, .inl (fun _ => 0))), (rn, .inr (1, [.int 0, .ref de, .int 0]))] := hD
    refine lv_aload_n hx hb dX18_noRun_26 rfl (lv_at hl 0 rfl) ?_
    refine va_get (D := (dC, dI)) (ci := 20) (v := .int 1) (C := RX18) (T := TX18) (N := 24) hx hb ht inlX18 hown hK hP 0 rfl rfl 3 (by decide) (ht _ (wr_17 _ (List.mem_of_getElem? (i := 5) rfl))) (fun _ h9 => h9) rfl dX18_noRun_27 ?_
    refine lv_if_le (tgt := 37) hx hb dX18_noRun_30 (by decide) (fun c_30 => absurd c_30 (by decide)) (fun c_30 => ?_)
    refine lv_iconst (v := 1) hx hb dX18_noRun_33 (by decide) ?_
    refine lv_goto (tgt := 38) hx hb dX18_noRun_34 (by decide) ?_
    have hP9 := hP.sub (ws' := [(om, .inr (20, [.ref mt, .ref qu, .int 0, .int 1, .ref lv, .int (-1), .int 0, .int 0, .ref mi, .int 0, .int 0, .int 0, .int 0, .ref ml, .ref mss, .ref rn, .ref sw, .ref mf, .null, .int 0, .ref msp, .int 0, .int 0, .int 0])), (lv, .inr (1, [.int 0, .ref de, .int 0])), (rn, .inr (1, [.int 0, .ref de, .int 0])), (sw, .inr (1, [.int 0, .ref de, .int 0])), (ml, .inl (cS, 6, .inl (slotF))), (mf, .inl (cF, 96, .inl (fun _ => 0)))]) [0, 1, 5, 2, 3, 4] rfl
    have hD9 := hD.sub (ws' := [(om, .inr (20, [.ref mt, .ref qu, .int 0, .int 1, .ref lv, .int (-1), .int 0, .int 0, .ref mi, .int 0, .int 0, .int 0, .int 0, .ref ml, .ref mss, .ref rn, .ref sw, .ref mf, .null, .int 0, .ref msp, .int 0, .int 0, .int 0])), (lv, .inr (1, [.int 0, .ref de, .int 0])), (rn, .inr (1, [.int 0, .ref de, .int 0])), (sw, .inr (1, [.int 0, .ref de, .int 0])), (ml, .inl (cS, 6, .inl (slotF))), (mf, .inl (cF, 96, .inl (fun _ => 0)))]) [0, 1, 5, 2, 3, 4] (by decide) rfl
    have hK9 := hK.sub (tys' := [(cS, .int), (cF, .int)]) [0, 1] rfl
    exact W.zret (v := 1) hx hb hr (by decide) (fun t htt hW => have ht := htt; ⟨⟨1, (), rfl, rfl, QW_of ht hW hP9 hK9 hD9⟩, hS.F ht⟩) hS.2.2 dX18_noRun_38
set_option maxHeartbeats 4000000 in
set_option maxRecDepth 100000 in
theorem c_X18_noCell (l : Launch) (dC : Nat → ClassId) (dI : Nat → Nat → Nat) (de : Nat) (om : Nat) (mt : Nat) (qu : Nat) (lv : Nat) (mi : Nat) (ml : Nat) (mss : Nat) (rn : Nat) (sw : Nat) (mf : Nat) (msp : Nat) (cS : ClassId) (cF : ClassId) (th : Int32) (a1 : Int32) (a2 : Int32) (a3 : Int32) (sz : Nat) : Met l yX18_noCell (.code yX18_noCell cX18_noCell 4 (some .boolean) :: wsL_law) { frames := 1, cells := 0, slots := 0, locals := 22 } (va_Pc [.ref om, .int a1, .int a2, .int a3] (PW dC dI de [(cS, .int), (cF, .int)] (WM om mt qu lv mi ml mss rn sw mf msp cS cF th de) sz)) (va_Qi (fun (r : Int32) (u : Unit) => r = 1) (fun (_ : Unit) (t : State) => QW dC dI [(cS, .int), (cF, .int)] (WM om mt qu lv mi ml mss rn sw mf msp cS cF 1 de) (va_A (WM om mt qu lv mi ml mss rn sw mf msp cS cF th de) sz) t) (va_A (WM om mt qu lv mi ml mss rn sw mf msp cS cF th de) sz)) 0 0 (va_A (WM om mt qu lv mi ml mss rn sw mf msp cS cF th de) sz) := by
  refine Met.ofW (cc := cX18_noCell) (maxL := 4) (ret := (some .boolean)) (by decide) rfl ?_
  intro p e s m args below meth c s₁ B hml hv
  obtain ⟨rfl, hsz, hP, hK, hD0, hG⟩ := hv
  have hx := B.exec
  have hb := B.bytes
  have hr := B.returns
  have hts := atoms_spec (ws := .code yX18_noCell cX18_noCell 4 (some .boolean) :: wsL_law) B.pre
  have ht : ∀ w ∈ wsL_law, w.before _ s = true := fun w h => hts w (List.mem_cons_of_mem _ h)
  have hown : s.vm.findClass RX18 = some m.cls := findClass_of_methodNamed B.named
  have hlocks := B.notSynchronized
  subst hsz
  have hD := hD0.self (sz := s.heap.size)
  generalize hAe : va_A (WM om mt qu lv mi ml mss rn sw mf msp cS cF th de) s.heap.size = A at hD hG ⊢
  have hA : ∀ q : Nat, s.heap.size ≤ q → A q := fun q h => by rw [← hAe]; exact Or.inr h
  have hS : va_S A s.heap s.heap [] := va_S.rf
  have hP : va_P (dC, dI) vwCl [(om, .inr (20, [.ref mt, .ref qu, .int 0, .int th, .ref lv, .int (-1), .int 0, .int 0, .ref mi, .int 0, .int 0, .int 0, .int 0, .ref ml, .ref mss, .ref rn, .ref sw, .ref mf, .null, .int 0, .ref msp, .int 0, .int 0, .int 0])), (lv, .inr (1, [.int 0, .ref de, .int 0])), (rn, .inr (1, [.int 0, .ref de, .int 0])), (sw, .inr (1, [.int 0, .ref de, .int 0])), (ml, .inl (cS, 6, .inl (slotF))), (mf, .inl (cF, 96, .inl (fun _ => 0)))] s.heap := hP
  have hD : va_D A [(om, .inr (20, [.ref mt, .ref qu, .int 0, .int th, .ref lv, .int (-1), .int 0, .int 0, .ref mi, .int 0, .int 0, .int 0, .int 0, .ref ml, .ref mss, .ref rn, .ref sw, .ref mf, .null, .int 0, .ref msp, .int 0, .int 0, .int 0])), (lv, .inr (1, [.int 0, .ref de, .int 0])), (rn, .inr (1, [.int 0, .ref de, .int 0])), (sw, .inr (1, [.int 0, .ref de, .int 0])), (ml, .inl (cS, 6, .inl (slotF))), (mf, .inl (cF, 96, .inl (fun _ => 0)))] := hD
  have hl := lv_entry ([.ref om, .int a1, .int a2, .int a3]) (n := 4) (Nat.le_of_ble_eq_true rfl)
  rw [lg_entry_eq]
  generalize (lg_sl ([.ref om, .int a1, .int a2, .int a3]) ++ List.replicate (4 - (lg_sl ([.ref om, .int a1, .int a2, .int a3])).length) Slot.unset).toArray = ls at hl ⊢
  have hl : lv_has ls 4 [(0, .ref om), (1, .int a1), (2, .int a2), (3, .int a3)] := hl
  refine lv_aload_n hx hb dX18_noCell_0 rfl (lv_at hl 0 rfl) ?_
  refine lv_iload_n hx hb dX18_noCell_1 rfl (lv_at hl 1 rfl) ?_
  refine lv_iconst (v := 0) hx hb dX18_noCell_2 (by decide) ?_
  refine lv_aload_n hx hb dX18_noCell_3 rfl (lv_at hl 0 rfl) ?_
  refine va_get (D := (dC, dI)) (ci := 20) (v := .ref lv) (C := RX18) (T := TX18) (N := 24) hx hb ht inlX18 hown hK hP 0 rfl rfl 4 (by decide) (ht _ (wr_8 _ (List.mem_of_getElem? (i := 7) rfl))) (fun _ h9 => h9) rfl dX18_noCell_4 ?_
  have hPc := hP.sub (ws' := [(lv, .inr (1, [.int 0, .ref de, .int 0]))]) [1] rfl
  have hDc := hD.sub (ws' := [(lv, .inr (1, [.int 0, .ref de, .int 0]))]) [1] (by decide) rfl
  have hKc := hK.sub (tys' := []) [] rfl
  have hFc := va_free (wc := [(lv, .inr (1, [.int 0, .ref de, .int 0]))]) hD hS hA [1] rfl
  refine va_calli (va_runV (As := []) (rest := [.int 0, .int a1, .ref om]) ⟨hx, hb, hml, hown, ht⟩ (c_Jx4a65c_size_8abf5 l dC dI de (lv) (0) (.ref de) (0) s.heap.size) (cwV 0 ht (gWV (wr_17 _ (List.mem_of_getElem? (i := 16) rfl)) (wr_14 _ (List.mem_of_getElem? (i := 6) rfl)) (wr_14 _ (List.mem_of_getElem? (i := 7) rfl)) (wr_1 _ (List.mem_of_getElem? (i := 16) rfl)) (wr_14 _ (List.mem_of_getElem? (i := 8) rfl))) rfl rfl rfl (by decide +kernel) ⟨Nat.le_of_ble_eq_true rfl, Nat.le_of_ble_eq_true rfl⟩) ⟨PW_blind, va_recv hKc hPc (ci := 1) (q0 := 0) rfl rfl, PW_call hPc hDc hKc hS hG hFc⟩ rfl rfl hl.1 rfl (lv_room (Nat.le_of_ble_eq_true rfl)) dX18_noCell_7 ⟨Nat.le_of_ble_eq_true rfl, Nat.le_of_ble_eq_true rfl⟩) hS (fun q _ h => hFc q h) hFc (fun r_7 u t H1 locs ht9 hvm hw hB hz1 hk1 hS => ?_)
  obtain ⟨hP1, hK1, hD1⟩ := hB
  rw [ht9] at hP1
  have hK1 := va_K.moved hvm.symm hK1
  obtain ⟨hP, hD⟩ := va_join (wr := [(om, .inr (20, [.ref mt, .ref qu, .int 0, .int th, .ref lv, .int (-1), .int 0, .int 0, .ref mi, .int 0, .int 0, .int 0, .int 0, .ref ml, .ref mss, .ref rn, .ref sw, .ref mf, .null, .int 0, .ref msp, .int 0, .int 0, .int 0])), (rn, .inr (1, [.int 0, .ref de, .int 0])), (sw, .inr (1, [.int 0, .ref de, .int 0])), (ml, .inl (cS, 6, .inl (slotF))), (mf, .inl (cF, 96, .inl (fun _ => 0)))]) (w1 := [(lv, .inr (1, [.int 0, .ref de, .int 0]))]) hP hD [1] [0, 2, 3, 4, 5] rfl rfl (by decide) (by decide) hk1 hFc hP1 hD1
  have hK := (hK.sub (tys' := [(cS, .int), (cF, .int)]) [0, 1] rfl).app hK1
  generalize H1 = H at hP hS ⊢
  replace hP : va_P (dC, dI) vwCl [(om, .inr (20, [.ref mt, .ref qu, .int 0, .int th, .ref lv, .int (-1), .int 0, .int 0, .ref mi, .int 0, .int 0, .int 0, .int 0, .ref ml, .ref mss, .ref rn, .ref sw, .ref mf, .null, .int 0, .ref msp, .int 0, .int 0, .int 0])), (rn, .inr (1, [.int 0, .ref de, .int 0])), (sw, .inr (1, [.int 0, .ref de, .int 0])), (ml, .inl (cS, 6, .inl (slotF))), (mf, .inl (cF, 96, .inl (fun _ => 0))), (lv, .inr (1, [.int 0, .ref de, .int 0]))] H := hP
  replace hD : va_D A [(om, .inr (20, [.ref mt, .ref qu, .int 0, .int th, .ref lv, .int (-1), .int 0, .int 0, .ref mi, .int 0, .int 0, .int 0, .int 0, .ref ml, .ref mss, .ref rn, .ref sw, .ref mf, .null, .int 0, .ref msp, .int 0, .int 0, .int 0])), (rn, .inr (1, [.int 0, .ref de, .int 0])), (sw, .inr (1, [.int 0, .ref de, .int 0])), (ml, .inl (cS, 6, .inl (slotF))), (mf, .inl (cF, 96, .inl (fun _ => 0))), (lv, .inr (1, [.int 0, .ref de, .int 0]))] := hD
  have hK : va_K (dC, dI) vwCl [(cS, .int), (cF, .int)] s := hK
  have e_7 : r_7 = 0 := hw
  subst e_7
  refine lv_iconst (v := 1) hx hb dX18_noCell_10 (by decide) ?_
  refine lv_isub hx hb dX18_noCell_11 ?_
  have hPc := hP.sub (ws' := []) [] rfl
  have hDc := hD.sub (ws' := []) [] (by decide) rfl
  have hKc := hK.sub (tys' := []) [] rfl
  have hFc := va_free (wc := []) hD hS hA [] rfl
  refine va_calli (va_runS (As := [.int a1, .int 0, .int (0 - 1)]) (rest := [.ref om]) ⟨hx, hb, hml, hown, ht⟩ (c_X18_in l dC dI de (a1) (0) ((0 - 1)) H.size) (cwS 3 ht (gWS (wr_17 _ (List.mem_of_getElem? (i := 9) rfl)) (wr_17 _ (List.mem_of_getElem? (i := 10) rfl)) (wr_1 _ (List.mem_of_getElem? (i := 5) rfl)) (wr_17 _ (List.mem_of_getElem? (i := 11) rfl))) rfl rfl rfl (by decide +kernel) ⟨Nat.le_of_ble_eq_true rfl, Nat.le_of_ble_eq_true rfl⟩) ⟨PW_blind, PW_call hPc hDc hKc hS hG hFc⟩ rfl rfl hl.1 rfl (lv_room (Nat.le_of_ble_eq_true rfl)) dX18_noCell_12 ⟨Nat.le_of_ble_eq_true rfl, Nat.le_of_ble_eq_true rfl⟩) hS (fun q _ h => hFc q h) hFc (fun r_12 u t H1 locs ht9 hvm hw hB hz1 hk1 hS => ?_)
  obtain ⟨hP1, hK1, hD1⟩ := hB
  rw [ht9] at hP1
  have hK1 := va_K.moved hvm.symm hK1
  obtain ⟨hP, hD⟩ := va_join (wr := [(om, .inr (20, [.ref mt, .ref qu, .int 0, .int th, .ref lv, .int (-1), .int 0, .int 0, .ref mi, .int 0, .int 0, .int 0, .int 0, .ref ml, .ref mss, .ref rn, .ref sw, .ref mf, .null, .int 0, .ref msp, .int 0, .int 0, .int 0])), (rn, .inr (1, [.int 0, .ref de, .int 0])), (sw, .inr (1, [.int 0, .ref de, .int 0])), (ml, .inl (cS, 6, .inl (slotF))), (mf, .inl (cF, 96, .inl (fun _ => 0))), (lv, .inr (1, [.int 0, .ref de, .int 0]))]) (w1 := []) hP hD [] [0, 1, 2, 3, 4, 5] rfl rfl (by decide) (by decide) hk1 hFc hP1 hD1
  have hK := (hK.sub (tys' := [(cS, .int), (cF, .int)]) [0, 1] rfl).app hK1
  generalize H1 = H at hP hS ⊢
  replace hP : va_P (dC, dI) vwCl [(om, .inr (20, [.ref mt, .ref qu, .int 0, .int th, .ref lv, .int (-1), .int 0, .int 0, .ref mi, .int 0, .int 0, .int 0, .int 0, .ref ml, .ref mss, .ref rn, .ref sw, .ref mf, .null, .int 0, .ref msp, .int 0, .int 0, .int 0])), (rn, .inr (1, [.int 0, .ref de, .int 0])), (sw, .inr (1, [.int 0, .ref de, .int 0])), (ml, .inl (cS, 6, .inl (slotF))), (mf, .inl (cF, 96, .inl (fun _ => 0))), (lv, .inr (1, [.int 0, .ref de, .int 0]))] H := hP
  replace hD : va_D A [(om, .inr (20, [.ref mt, .ref qu, .int 0, .int th, .ref lv, .int (-1), .int 0, .int 0, .ref mi, .int 0, .int 0, .int 0, .int 0, .ref ml, .ref mss, .ref rn, .ref sw, .ref mf, .null, .int 0, .ref msp, .int 0, .int 0, .int 0])), (rn, .inr (1, [.int 0, .ref de, .int 0])), (sw, .inr (1, [.int 0, .ref de, .int 0])), (ml, .inl (cS, 6, .inl (slotF))), (mf, .inl (cF, 96, .inl (fun _ => 0))), (lv, .inr (1, [.int 0, .ref de, .int 0]))] := hD
  have hK : va_K (dC, dI) vwCl [(cS, .int), (cF, .int)] s := hK
  rcases hw with ⟨rfl, m_12⟩ | ⟨rfl, m_12⟩
  · exact absurd (show (0 : Int32) ≤ a1 ∧ a1 ≤ 0 - 1 from m_12) (no_in a1)
  · refine lv_if_eq (tgt := 41) hx hb dX18_noCell_15 (by decide) (fun c_15 => ?_) (fun c_15 => absurd c_15 (by decide))
    refine lv_iconst (v := 1) hx hb dX18_noCell_41 (by decide) ?_
    refine va_put (D := (dC, dI)) (ci := 20) (v := .int 1) (ty := .int) (C := RX18) (T := TX18) (N := 24) hx hb ht inlX18 tyX18 tyX18_ok nmX18 hown hK hP hD hS 0 rfl rfl 3 (by decide) (ht _ (wr_17 _ (List.mem_of_getElem? (i := 5) rfl))) (fun _ h9 => h9) rfl (by decide +kernel) rfl rfl (Nat.le_of_ble_eq_true rfl) dX18_noCell_42 (fun H locs hP hD hS => ?_)
    replace hP : va_P (dC, dI) vwCl [(om, .inr (20, [.ref mt, .ref qu, .int 0, .int 1, .ref lv, .int (-1), .int 0, .int 0, .ref mi, .int 0, .int 0, .int 0, .int 0, .ref ml, .ref mss, .ref rn, .ref sw, .ref mf, .null, .int 0, .ref msp, .int 0, .int 0, .int 0])), (rn, .inr (1, [.int 0, .ref de, .int 0])), (sw, .inr (1, [.int 0, .ref de, .int 0])), (ml, .inl (cS, 6, .inl (slotF))), (mf, .inl (cF, 96, .inl (fun _ => 0))), (lv, .inr (1, [.int 0, .ref de, .int 0]))] H := hP
    replace hD : va_D A [(om, .inr (20, [.ref mt, .ref qu, .int 0, .int 1, .ref lv, .int (-1), .int 0, .int 0, .ref mi, .int 0, .int 0, .int 0, .int 0, .ref ml, .ref mss, .ref rn, .ref sw, .ref mf, .null, .int 0, .ref msp, .int 0, .int 0, .int 0])), (rn, .inr (1, [.int 0, .ref de, .int 0])), (sw, .inr (1, [.int 0, .ref de, .int 0])), (ml, .inl (cS, 6, .inl (slotF))), (mf, .inl (cF, 96, .inl (fun _ => 0))), (lv, .inr (1, [.int 0, .ref de, .int 0]))] := hD
    refine lv_aload_n hx hb dX18_noCell_45 rfl (lv_at hl 0 rfl) ?_
    refine va_get (D := (dC, dI)) (ci := 20) (v := .int 1) (C := RX18) (T := TX18) (N := 24) hx hb ht inlX18 hown hK hP 0 rfl rfl 3 (by decide) (ht _ (wr_17 _ (List.mem_of_getElem? (i := 5) rfl))) (fun _ h9 => h9) rfl dX18_noCell_46 ?_
    refine lv_if_le (tgt := 56) hx hb dX18_noCell_49 (by decide) (fun c_49 => absurd c_49 (by decide)) (fun c_49 => ?_)
    refine lv_iconst (v := 1) hx hb dX18_noCell_52 (by decide) ?_
    refine lv_goto (tgt := 57) hx hb dX18_noCell_53 (by decide) ?_
    have hP9 := hP.sub (ws' := [(om, .inr (20, [.ref mt, .ref qu, .int 0, .int 1, .ref lv, .int (-1), .int 0, .int 0, .ref mi, .int 0, .int 0, .int 0, .int 0, .ref ml, .ref mss, .ref rn, .ref sw, .ref mf, .null, .int 0, .ref msp, .int 0, .int 0, .int 0])), (lv, .inr (1, [.int 0, .ref de, .int 0])), (rn, .inr (1, [.int 0, .ref de, .int 0])), (sw, .inr (1, [.int 0, .ref de, .int 0])), (ml, .inl (cS, 6, .inl (slotF))), (mf, .inl (cF, 96, .inl (fun _ => 0)))]) [0, 5, 1, 2, 3, 4] rfl
    have hD9 := hD.sub (ws' := [(om, .inr (20, [.ref mt, .ref qu, .int 0, .int 1, .ref lv, .int (-1), .int 0, .int 0, .ref mi, .int 0, .int 0, .int 0, .int 0, .ref ml, .ref mss, .ref rn, .ref sw, .ref mf, .null, .int 0, .ref msp, .int 0, .int 0, .int 0])), (lv, .inr (1, [.int 0, .ref de, .int 0])), (rn, .inr (1, [.int 0, .ref de, .int 0])), (sw, .inr (1, [.int 0, .ref de, .int 0])), (ml, .inl (cS, 6, .inl (slotF))), (mf, .inl (cF, 96, .inl (fun _ => 0)))]) [0, 5, 1, 2, 3, 4] (by decide) rfl
    have hK9 := hK.sub (tys' := [(cS, .int), (cF, .int)]) [0, 1] rfl
    exact W.zret (v := 1) hx hb hr (by decide) (fun t htt hW => have ht := htt; ⟨⟨1, (), rfl, rfl, QW_of ht hW hP9 hK9 hD9⟩, hS.F ht⟩) hS.2.2 dX18_noCell_57
set_option maxHeartbeats 4000000 in
set_option maxRecDepth 100000 in
theorem c_X18_raises (l : Launch) (dC : Nat → ClassId) (dI : Nat → Nat → Nat) (de : Nat) (om : Nat) (mt : Nat) (qu : Nat) (lv : Nat) (mi : Nat) (ml : Nat) (mss : Nat) (rn : Nat) (sw : Nat) (mf : Nat) (msp : Nat) (cS : ClassId) (cF : ClassId) (th : Int32) (a1 : Int32) (sz : Nat) : Met l yX18_raises (.code yX18_raises cX18_raises 2 (some .int) :: wsL_law) { frames := 0, cells := 0, slots := 0, locals := 0 } (va_Pc [.ref om, .int a1] (PW dC dI de [(cS, .int), (cF, .int)] (WM om mt qu lv mi ml mss rn sw mf msp cS cF th de) sz)) (va_Qi (fun (r : Int32) (u : Unit) => r = 0) (fun (_ : Unit) (t : State) => QW dC dI [(cS, .int), (cF, .int)] (WM om mt qu lv mi ml mss rn sw mf msp cS cF a1 de) (va_A (WM om mt qu lv mi ml mss rn sw mf msp cS cF th de) sz) t) (va_A (WM om mt qu lv mi ml mss rn sw mf msp cS cF th de) sz)) 0 0 (va_A (WM om mt qu lv mi ml mss rn sw mf msp cS cF th de) sz) := by
  refine Met.ofW (cc := cX18_raises) (maxL := 2) (ret := (some .int)) (by decide) rfl ?_
  intro p e s m args below meth c s₁ B hml hv
  obtain ⟨rfl, hsz, hP, hK, hD0, hG⟩ := hv
  have hx := B.exec
  have hb := B.bytes
  have hr := B.returns
  have hts := atoms_spec (ws := .code yX18_raises cX18_raises 2 (some .int) :: wsL_law) B.pre
  have ht : ∀ w ∈ wsL_law, w.before _ s = true := fun w h => hts w (List.mem_cons_of_mem _ h)
  have hown : s.vm.findClass RX18 = some m.cls := findClass_of_methodNamed B.named
  have hlocks := B.notSynchronized
  subst hsz
  have hD := hD0.self (sz := s.heap.size)
  generalize hAe : va_A (WM om mt qu lv mi ml mss rn sw mf msp cS cF th de) s.heap.size = A at hD hG ⊢
  have hA : ∀ q : Nat, s.heap.size ≤ q → A q := fun q h => by rw [← hAe]; exact Or.inr h
  have hS : va_S A s.heap s.heap [] := va_S.rf
  have hP : va_P (dC, dI) vwCl [(om, .inr (20, [.ref mt, .ref qu, .int 0, .int th, .ref lv, .int (-1), .int 0, .int 0, .ref mi, .int 0, .int 0, .int 0, .int 0, .ref ml, .ref mss, .ref rn, .ref sw, .ref mf, .null, .int 0, .ref msp, .int 0, .int 0, .int 0])), (lv, .inr (1, [.int 0, .ref de, .int 0])), (rn, .inr (1, [.int 0, .ref de, .int 0])), (sw, .inr (1, [.int 0, .ref de, .int 0])), (ml, .inl (cS, 6, .inl (slotF))), (mf, .inl (cF, 96, .inl (fun _ => 0)))] s.heap := hP
  have hD : va_D A [(om, .inr (20, [.ref mt, .ref qu, .int 0, .int th, .ref lv, .int (-1), .int 0, .int 0, .ref mi, .int 0, .int 0, .int 0, .int 0, .ref ml, .ref mss, .ref rn, .ref sw, .ref mf, .null, .int 0, .ref msp, .int 0, .int 0, .int 0])), (lv, .inr (1, [.int 0, .ref de, .int 0])), (rn, .inr (1, [.int 0, .ref de, .int 0])), (sw, .inr (1, [.int 0, .ref de, .int 0])), (ml, .inl (cS, 6, .inl (slotF))), (mf, .inl (cF, 96, .inl (fun _ => 0)))] := hD
  have hl := lv_entry ([.ref om, .int a1]) (n := 2) (Nat.le_of_ble_eq_true rfl)
  rw [lg_entry_eq]
  generalize (lg_sl ([.ref om, .int a1]) ++ List.replicate (2 - (lg_sl ([.ref om, .int a1])).length) Slot.unset).toArray = ls at hl ⊢
  have hl : lv_has ls 2 [(0, .ref om), (1, .int a1)] := hl
  refine lv_aload_n hx hb dX18_raises_0 rfl (lv_at hl 0 rfl) ?_
  refine lv_iload_n hx hb dX18_raises_1 rfl (lv_at hl 1 rfl) ?_
  refine va_put (D := (dC, dI)) (ci := 20) (v := .int a1) (ty := .int) (C := RX18) (T := TX18) (N := 24) hx hb ht inlX18 tyX18 tyX18_ok nmX18 hown hK hP hD hS 0 rfl rfl 3 (by decide) (ht _ (wr_17 _ (List.mem_of_getElem? (i := 5) rfl))) (fun _ h9 => h9) rfl (by decide +kernel) rfl rfl (Nat.le_of_ble_eq_true rfl) dX18_raises_2 (fun H locs hP hD hS => ?_)
  replace hP : va_P (dC, dI) vwCl [(om, .inr (20, [.ref mt, .ref qu, .int 0, .int a1, .ref lv, .int (-1), .int 0, .int 0, .ref mi, .int 0, .int 0, .int 0, .int 0, .ref ml, .ref mss, .ref rn, .ref sw, .ref mf, .null, .int 0, .ref msp, .int 0, .int 0, .int 0])), (lv, .inr (1, [.int 0, .ref de, .int 0])), (rn, .inr (1, [.int 0, .ref de, .int 0])), (sw, .inr (1, [.int 0, .ref de, .int 0])), (ml, .inl (cS, 6, .inl (slotF))), (mf, .inl (cF, 96, .inl (fun _ => 0)))] H := hP
  replace hD : va_D A [(om, .inr (20, [.ref mt, .ref qu, .int 0, .int a1, .ref lv, .int (-1), .int 0, .int 0, .ref mi, .int 0, .int 0, .int 0, .int 0, .ref ml, .ref mss, .ref rn, .ref sw, .ref mf, .null, .int 0, .ref msp, .int 0, .int 0, .int 0])), (lv, .inr (1, [.int 0, .ref de, .int 0])), (rn, .inr (1, [.int 0, .ref de, .int 0])), (sw, .inr (1, [.int 0, .ref de, .int 0])), (ml, .inl (cS, 6, .inl (slotF))), (mf, .inl (cF, 96, .inl (fun _ => 0)))] := hD
  refine lv_iconst (v := 0) hx hb dX18_raises_5 (by decide) ?_
  have hP9 := hP.sub (ws' := [(om, .inr (20, [.ref mt, .ref qu, .int 0, .int a1, .ref lv, .int (-1), .int 0, .int 0, .ref mi, .int 0, .int 0, .int 0, .int 0, .ref ml, .ref mss, .ref rn, .ref sw, .ref mf, .null, .int 0, .ref msp, .int 0, .int 0, .int 0])), (lv, .inr (1, [.int 0, .ref de, .int 0])), (rn, .inr (1, [.int 0, .ref de, .int 0])), (sw, .inr (1, [.int 0, .ref de, .int 0])), (ml, .inl (cS, 6, .inl (slotF))), (mf, .inl (cF, 96, .inl (fun _ => 0)))]) [0, 1, 2, 3, 4, 5] rfl
  have hD9 := hD.sub (ws' := [(om, .inr (20, [.ref mt, .ref qu, .int 0, .int a1, .ref lv, .int (-1), .int 0, .int 0, .ref mi, .int 0, .int 0, .int 0, .int 0, .ref ml, .ref mss, .ref rn, .ref sw, .ref mf, .null, .int 0, .ref msp, .int 0, .int 0, .int 0])), (lv, .inr (1, [.int 0, .ref de, .int 0])), (rn, .inr (1, [.int 0, .ref de, .int 0])), (sw, .inr (1, [.int 0, .ref de, .int 0])), (ml, .inl (cS, 6, .inl (slotF))), (mf, .inl (cF, 96, .inl (fun _ => 0)))]) [0, 1, 2, 3, 4, 5] (by decide) rfl
  have hK9 := hK.sub (tys' := [(cS, .int), (cF, .int)]) [0, 1] rfl
  exact W.iret (v := 0) hx hb hr (fun t htt hW => have ht := htt; ⟨⟨0, (), rfl, rfl, QW_of ht hW hP9 hK9 hD9⟩, hS.F ht⟩) hS.2.2 dX18_raises_6
set_option maxHeartbeats 4000000 in
set_option maxRecDepth 100000 in
theorem c_X18_won (l : Launch) (dC : Nat → ClassId) (dI : Nat → Nat → Nat) (de : Nat) (om : Nat) (mt : Nat) (qu : Nat) (lv : Nat) (mi : Nat) (ml : Nat) (mss : Nat) (rn : Nat) (sw : Nat) (mf : Nat) (msp : Nat) (cS : ClassId) (cF : ClassId) (th : Int32) (a1 : Int32) (sz : Nat) : Met l yX18_won (.code yX18_won cX18_won 2 (some (.object "LevelsmithModel$Space")) :: wsL_law) { frames := 2, cells := 0, slots := 0, locals := 43 } (va_Pc [.ref om, .int a1] (PW dC dI de [(cS, .int), (cF, .int)] (WM om mt qu lv mi ml mss rn sw mf msp cS cF th de) sz)) (va_Qq (fun (r : Option Nat) (u : Unit) => r = none) (fun (_ : Unit) (t : State) => QW dC dI [(cS, .int), (cF, .int)] (WM om mt qu lv mi ml mss rn sw mf msp cS cF 1 de) (va_A (WM om mt qu lv mi ml mss rn sw mf msp cS cF th de) sz) t) (va_A (WM om mt qu lv mi ml mss rn sw mf msp cS cF th de) sz)) 0 0 (va_A (WM om mt qu lv mi ml mss rn sw mf msp cS cF th de) sz) := by
  refine Met.ofW (cc := cX18_won) (maxL := 2) (ret := (some (.object "LevelsmithModel$Space"))) (by decide) rfl ?_
  intro p e s m args below meth c s₁ B hml hv
  obtain ⟨rfl, hsz, hP, hK, hD0, hG⟩ := hv
  have hx := B.exec
  have hb := B.bytes
  have hr := B.returns
  have hts := atoms_spec (ws := .code yX18_won cX18_won 2 (some (.object "LevelsmithModel$Space")) :: wsL_law) B.pre
  have ht : ∀ w ∈ wsL_law, w.before _ s = true := fun w h => hts w (List.mem_cons_of_mem _ h)
  have hown : s.vm.findClass RX18 = some m.cls := findClass_of_methodNamed B.named
  have hlocks := B.notSynchronized
  subst hsz
  have hD := hD0.self (sz := s.heap.size)
  generalize hAe : va_A (WM om mt qu lv mi ml mss rn sw mf msp cS cF th de) s.heap.size = A at hD hG ⊢
  have hA : ∀ q : Nat, s.heap.size ≤ q → A q := fun q h => by rw [← hAe]; exact Or.inr h
  have hS : va_S A s.heap s.heap [] := va_S.rf
  have hP : va_P (dC, dI) vwCl [(om, .inr (20, [.ref mt, .ref qu, .int 0, .int th, .ref lv, .int (-1), .int 0, .int 0, .ref mi, .int 0, .int 0, .int 0, .int 0, .ref ml, .ref mss, .ref rn, .ref sw, .ref mf, .null, .int 0, .ref msp, .int 0, .int 0, .int 0])), (lv, .inr (1, [.int 0, .ref de, .int 0])), (rn, .inr (1, [.int 0, .ref de, .int 0])), (sw, .inr (1, [.int 0, .ref de, .int 0])), (ml, .inl (cS, 6, .inl (slotF))), (mf, .inl (cF, 96, .inl (fun _ => 0)))] s.heap := hP
  have hD : va_D A [(om, .inr (20, [.ref mt, .ref qu, .int 0, .int th, .ref lv, .int (-1), .int 0, .int 0, .ref mi, .int 0, .int 0, .int 0, .int 0, .ref ml, .ref mss, .ref rn, .ref sw, .ref mf, .null, .int 0, .ref msp, .int 0, .int 0, .int 0])), (lv, .inr (1, [.int 0, .ref de, .int 0])), (rn, .inr (1, [.int 0, .ref de, .int 0])), (sw, .inr (1, [.int 0, .ref de, .int 0])), (ml, .inl (cS, 6, .inl (slotF))), (mf, .inl (cF, 96, .inl (fun _ => 0)))] := hD
  have hl := lv_entry ([.ref om, .int a1]) (n := 2) (Nat.le_of_ble_eq_true rfl)
  rw [lg_entry_eq]
  generalize (lg_sl ([.ref om, .int a1]) ++ List.replicate (2 - (lg_sl ([.ref om, .int a1])).length) Slot.unset).toArray = ls at hl ⊢
  have hl : lv_has ls 2 [(0, .ref om), (1, .int a1)] := hl
  refine lv_aload_n hx hb dX18_won_0 rfl (lv_at hl 0 rfl) ?_
  refine lv_iload_n hx hb dX18_won_1 rfl (lv_at hl 1 rfl) ?_
  have hPc := hP.sub (ws' := [(om, .inr (20, [.ref mt, .ref qu, .int 0, .int th, .ref lv, .int (-1), .int 0, .int 0, .ref mi, .int 0, .int 0, .int 0, .int 0, .ref ml, .ref mss, .ref rn, .ref sw, .ref mf, .null, .int 0, .ref msp, .int 0, .int 0, .int 0])), (lv, .inr (1, [.int 0, .ref de, .int 0])), (rn, .inr (1, [.int 0, .ref de, .int 0])), (sw, .inr (1, [.int 0, .ref de, .int 0])), (ml, .inl (cS, 6, .inl (slotF))), (mf, .inl (cF, 96, .inl (fun _ => 0)))]) [0, 1, 2, 3, 4, 5] rfl
  have hDc := hD.sub (ws' := [(om, .inr (20, [.ref mt, .ref qu, .int 0, .int th, .ref lv, .int (-1), .int 0, .int 0, .ref mi, .int 0, .int 0, .int 0, .int 0, .ref ml, .ref mss, .ref rn, .ref sw, .ref mf, .null, .int 0, .ref msp, .int 0, .int 0, .int 0])), (lv, .inr (1, [.int 0, .ref de, .int 0])), (rn, .inr (1, [.int 0, .ref de, .int 0])), (sw, .inr (1, [.int 0, .ref de, .int 0])), (ml, .inl (cS, 6, .inl (slotF))), (mf, .inl (cF, 96, .inl (fun _ => 0)))]) [0, 1, 2, 3, 4, 5] (by decide) rfl
  have hKc := hK.sub (tys' := [(cS, .int), (cF, .int)]) [0, 1] rfl
  have hFc := va_free (wc := [(om, .inr (20, [.ref mt, .ref qu, .int 0, .int th, .ref lv, .int (-1), .int 0, .int 0, .ref mi, .int 0, .int 0, .int 0, .int 0, .ref ml, .ref mss, .ref rn, .ref sw, .ref mf, .null, .int 0, .ref msp, .int 0, .int 0, .int 0])), (lv, .inr (1, [.int 0, .ref de, .int 0])), (rn, .inr (1, [.int 0, .ref de, .int 0])), (sw, .inr (1, [.int 0, .ref de, .int 0])), (ml, .inl (cS, 6, .inl (slotF))), (mf, .inl (cF, 96, .inl (fun _ => 0)))]) hD hS hA [0, 1, 2, 3, 4, 5] rfl
  refine va_calli (va_runV (As := [.int a1]) (rest := []) ⟨hx, hb, hml, hown, ht⟩ (c_X18_noLevel l dC dI de (om) (mt) (qu) (lv) (mi) (ml) (mss) (rn) (sw) (mf) (msp) (cS) (cF) (th) (a1) s.heap.size) (cwV 1 ht (gWV (wr_24 _ (List.mem_of_getElem? (i := 8) rfl)) (wr_24 _ (List.mem_of_getElem? (i := 9) rfl)) (wr_24 _ (List.mem_of_getElem? (i := 10) rfl)) (wr_1 _ (List.mem_of_getElem? (i := 5) rfl)) (wr_24 _ (List.mem_of_getElem? (i := 11) rfl))) rfl rfl rfl (by decide +kernel) ⟨Nat.le_of_ble_eq_true rfl, Nat.le_of_ble_eq_true rfl⟩) ⟨PW_blind, va_recv hKc hPc (ci := 20) (q0 := 0) rfl rfl, PW_call hPc hDc hKc hS hG hFc⟩ rfl rfl hl.1 rfl (lv_room (Nat.le_of_ble_eq_true rfl)) dX18_won_2 ⟨Nat.le_of_ble_eq_true rfl, Nat.le_of_ble_eq_true rfl⟩) hS (fun q _ h => hFc q h) hFc (fun r_2 u t H1 locs ht9 hvm hw hB hz1 hk1 hS => ?_)
  obtain ⟨hP1, hK1, hD1⟩ := hB
  rw [ht9] at hP1
  have hK1 := va_K.moved hvm.symm hK1
  obtain ⟨hP, hD⟩ := va_join (wr := []) (w1 := [(om, .inr (20, [.ref mt, .ref qu, .int 0, .int 1, .ref lv, .int (-1), .int 0, .int 0, .ref mi, .int 0, .int 0, .int 0, .int 0, .ref ml, .ref mss, .ref rn, .ref sw, .ref mf, .null, .int 0, .ref msp, .int 0, .int 0, .int 0])), (lv, .inr (1, [.int 0, .ref de, .int 0])), (rn, .inr (1, [.int 0, .ref de, .int 0])), (sw, .inr (1, [.int 0, .ref de, .int 0])), (ml, .inl (cS, 6, .inl (slotF))), (mf, .inl (cF, 96, .inl (fun _ => 0)))]) hP hD [0, 1, 2, 3, 4, 5] [] rfl rfl (by decide) (by decide) hk1 hFc hP1 hD1
  have hK := (hK.sub (tys' := []) [] rfl).app hK1
  generalize H1 = H at hP hS ⊢
  replace hP : va_P (dC, dI) vwCl [(om, .inr (20, [.ref mt, .ref qu, .int 0, .int 1, .ref lv, .int (-1), .int 0, .int 0, .ref mi, .int 0, .int 0, .int 0, .int 0, .ref ml, .ref mss, .ref rn, .ref sw, .ref mf, .null, .int 0, .ref msp, .int 0, .int 0, .int 0])), (lv, .inr (1, [.int 0, .ref de, .int 0])), (rn, .inr (1, [.int 0, .ref de, .int 0])), (sw, .inr (1, [.int 0, .ref de, .int 0])), (ml, .inl (cS, 6, .inl (slotF))), (mf, .inl (cF, 96, .inl (fun _ => 0)))] H := hP
  replace hD : va_D A [(om, .inr (20, [.ref mt, .ref qu, .int 0, .int 1, .ref lv, .int (-1), .int 0, .int 0, .ref mi, .int 0, .int 0, .int 0, .int 0, .ref ml, .ref mss, .ref rn, .ref sw, .ref mf, .null, .int 0, .ref msp, .int 0, .int 0, .int 0])), (lv, .inr (1, [.int 0, .ref de, .int 0])), (rn, .inr (1, [.int 0, .ref de, .int 0])), (sw, .inr (1, [.int 0, .ref de, .int 0])), (ml, .inl (cS, 6, .inl (slotF))), (mf, .inl (cF, 96, .inl (fun _ => 0)))] := hD
  have hK : va_K (dC, dI) vwCl [(cS, .int), (cF, .int)] s := hK
  have e_2 : r_2 = 1 := hw
  subst e_2
  refine lv_if_eq (tgt := 10) hx hb dX18_won_5 (by decide) (fun c_5 => absurd c_5 (by decide)) (fun c_5 => ?_)
  refine lv_null hx hb dX18_won_8 ?_
  have hP9 := hP.sub (ws' := [(om, .inr (20, [.ref mt, .ref qu, .int 0, .int 1, .ref lv, .int (-1), .int 0, .int 0, .ref mi, .int 0, .int 0, .int 0, .int 0, .ref ml, .ref mss, .ref rn, .ref sw, .ref mf, .null, .int 0, .ref msp, .int 0, .int 0, .int 0])), (lv, .inr (1, [.int 0, .ref de, .int 0])), (rn, .inr (1, [.int 0, .ref de, .int 0])), (sw, .inr (1, [.int 0, .ref de, .int 0])), (ml, .inl (cS, 6, .inl (slotF))), (mf, .inl (cF, 96, .inl (fun _ => 0)))]) [0, 1, 2, 3, 4, 5] rfl
  have hD9 := hD.sub (ws' := [(om, .inr (20, [.ref mt, .ref qu, .int 0, .int 1, .ref lv, .int (-1), .int 0, .int 0, .ref mi, .int 0, .int 0, .int 0, .int 0, .ref ml, .ref mss, .ref rn, .ref sw, .ref mf, .null, .int 0, .ref msp, .int 0, .int 0, .int 0])), (lv, .inr (1, [.int 0, .ref de, .int 0])), (rn, .inr (1, [.int 0, .ref de, .int 0])), (sw, .inr (1, [.int 0, .ref de, .int 0])), (ml, .inl (cS, 6, .inl (slotF))), (mf, .inl (cF, 96, .inl (fun _ => 0)))]) [0, 1, 2, 3, 4, 5] (by decide) rfl
  have hK9 := hK.sub (tys' := [(cS, .int), (cF, .int)]) [0, 1] rfl
  exact W.aret (v := .null) hx hb hr (Or.inl ⟨_, rfl⟩) (Or.inl rfl) (fun t htt hW => have ht := htt; ⟨⟨none, (), rfl, rfl, QW_of ht hW hP9 hK9 hD9⟩, hS.F ht⟩) hS.2.2 dX18_won_9
set_option maxHeartbeats 4000000 in
set_option maxRecDepth 100000 in
theorem c_X18_thrown (l : Launch) (dC : Nat → ClassId) (dI : Nat → Nat → Nat) (de : Nat) (om : Nat) (mt : Nat) (qu : Nat) (lv : Nat) (mi : Nat) (ml : Nat) (mss : Nat) (rn : Nat) (sw : Nat) (mf : Nat) (msp : Nat) (cS : ClassId) (cF : ClassId) (th : Int32) (sz : Nat) : Met l yX18_thrown (.code yX18_thrown cX18_thrown 1 (some .int) :: wsL_law) { frames := 0, cells := 0, slots := 0, locals := 0 } (va_Pc [.ref om] (PW dC dI de [(cS, .int), (cF, .int)] (WM om mt qu lv mi ml mss rn sw mf msp cS cF th de) sz)) (va_Qi (fun (r : Int32) (u : Unit) => r = th) (fun (_ : Unit) (t : State) => QW dC dI [(cS, .int), (cF, .int)] (WM om mt qu lv mi ml mss rn sw mf msp cS cF th de) (va_A (WM om mt qu lv mi ml mss rn sw mf msp cS cF th de) sz) t) (va_A (WM om mt qu lv mi ml mss rn sw mf msp cS cF th de) sz)) 0 0 (va_A (WM om mt qu lv mi ml mss rn sw mf msp cS cF th de) sz) := by
  refine Met.ofW (cc := cX18_thrown) (maxL := 1) (ret := (some .int)) (by decide) rfl ?_
  intro p e s m args below meth c s₁ B hml hv
  obtain ⟨rfl, hsz, hP, hK, hD0, hG⟩ := hv
  have hx := B.exec
  have hb := B.bytes
  have hr := B.returns
  have hts := atoms_spec (ws := .code yX18_thrown cX18_thrown 1 (some .int) :: wsL_law) B.pre
  have ht : ∀ w ∈ wsL_law, w.before _ s = true := fun w h => hts w (List.mem_cons_of_mem _ h)
  have hown : s.vm.findClass RX18 = some m.cls := findClass_of_methodNamed B.named
  have hlocks := B.notSynchronized
  subst hsz
  have hD := hD0.self (sz := s.heap.size)
  generalize hAe : va_A (WM om mt qu lv mi ml mss rn sw mf msp cS cF th de) s.heap.size = A at hD hG ⊢
  have hA : ∀ q : Nat, s.heap.size ≤ q → A q := fun q h => by rw [← hAe]; exact Or.inr h
  have hS : va_S A s.heap s.heap [] := va_S.rf
  have hP : va_P (dC, dI) vwCl [(om, .inr (20, [.ref mt, .ref qu, .int 0, .int th, .ref lv, .int (-1), .int 0, .int 0, .ref mi, .int 0, .int 0, .int 0, .int 0, .ref ml, .ref mss, .ref rn, .ref sw, .ref mf, .null, .int 0, .ref msp, .int 0, .int 0, .int 0])), (lv, .inr (1, [.int 0, .ref de, .int 0])), (rn, .inr (1, [.int 0, .ref de, .int 0])), (sw, .inr (1, [.int 0, .ref de, .int 0])), (ml, .inl (cS, 6, .inl (slotF))), (mf, .inl (cF, 96, .inl (fun _ => 0)))] s.heap := hP
  have hD : va_D A [(om, .inr (20, [.ref mt, .ref qu, .int 0, .int th, .ref lv, .int (-1), .int 0, .int 0, .ref mi, .int 0, .int 0, .int 0, .int 0, .ref ml, .ref mss, .ref rn, .ref sw, .ref mf, .null, .int 0, .ref msp, .int 0, .int 0, .int 0])), (lv, .inr (1, [.int 0, .ref de, .int 0])), (rn, .inr (1, [.int 0, .ref de, .int 0])), (sw, .inr (1, [.int 0, .ref de, .int 0])), (ml, .inl (cS, 6, .inl (slotF))), (mf, .inl (cF, 96, .inl (fun _ => 0)))] := hD
  have hl := lv_entry ([.ref om]) (n := 1) (Nat.le_of_ble_eq_true rfl)
  rw [lg_entry_eq]
  generalize (lg_sl ([.ref om]) ++ List.replicate (1 - (lg_sl ([.ref om])).length) Slot.unset).toArray = ls at hl ⊢
  have hl : lv_has ls 1 [(0, .ref om)] := hl
  refine lv_aload_n hx hb dX18_thrown_0 rfl (lv_at hl 0 rfl) ?_
  refine va_get (D := (dC, dI)) (ci := 20) (v := .int th) (C := RX18) (T := TX18) (N := 24) hx hb ht inlX18 hown hK hP 0 rfl rfl 3 (by decide) (ht _ (wr_17 _ (List.mem_of_getElem? (i := 5) rfl))) (fun _ h9 => h9) rfl dX18_thrown_1 ?_
  have hP9 := hP.sub (ws' := [(om, .inr (20, [.ref mt, .ref qu, .int 0, .int th, .ref lv, .int (-1), .int 0, .int 0, .ref mi, .int 0, .int 0, .int 0, .int 0, .ref ml, .ref mss, .ref rn, .ref sw, .ref mf, .null, .int 0, .ref msp, .int 0, .int 0, .int 0])), (lv, .inr (1, [.int 0, .ref de, .int 0])), (rn, .inr (1, [.int 0, .ref de, .int 0])), (sw, .inr (1, [.int 0, .ref de, .int 0])), (ml, .inl (cS, 6, .inl (slotF))), (mf, .inl (cF, 96, .inl (fun _ => 0)))]) [0, 1, 2, 3, 4, 5] rfl
  have hD9 := hD.sub (ws' := [(om, .inr (20, [.ref mt, .ref qu, .int 0, .int th, .ref lv, .int (-1), .int 0, .int 0, .ref mi, .int 0, .int 0, .int 0, .int 0, .ref ml, .ref mss, .ref rn, .ref sw, .ref mf, .null, .int 0, .ref msp, .int 0, .int 0, .int 0])), (lv, .inr (1, [.int 0, .ref de, .int 0])), (rn, .inr (1, [.int 0, .ref de, .int 0])), (sw, .inr (1, [.int 0, .ref de, .int 0])), (ml, .inl (cS, 6, .inl (slotF))), (mf, .inl (cF, 96, .inl (fun _ => 0)))]) [0, 1, 2, 3, 4, 5] (by decide) rfl
  have hK9 := hK.sub (tys' := [(cS, .int), (cF, .int)]) [0, 1] rfl
  exact W.iret (v := th) hx hb hr (fun t htt hW => have ht := htt; ⟨⟨th, (), rfl, rfl, QW_of ht hW hP9 hK9 hD9⟩, hS.F ht⟩) hS.2.2 dX18_thrown_4
