theorem dX11_level_0 : decode cX11_level 0 = .ok (.iload_n 1, 1) := by decide +kernel
theorem dX11_level_1 : decode cX11_level 1 = .ok (.iconst 3, 1) := by decide +kernel
theorem dX11_level_2 : decode cX11_level 2 = .ok (.if_icmp .lt 20, 3) := by decide +kernel
theorem dX11_level_5 : decode cX11_level 5 = .ok (.iload_n 1, 1) := by decide +kernel
theorem dX11_level_6 : decode cX11_level 6 = .ok (.bipush 12, 2) := by decide +kernel
theorem dX11_level_8 : decode cX11_level 8 = .ok (.if_icmp .gt 14, 3) := by decide +kernel
theorem dX11_level_11 : decode cX11_level 11 = .ok (.iload_n 2, 1) := by decide +kernel
theorem dX11_level_12 : decode cX11_level 12 = .ok (.iconst 3, 1) := by decide +kernel
theorem dX11_level_13 : decode cX11_level 13 = .ok (.if_icmp .lt 9, 3) := by decide +kernel
theorem dX11_level_16 : decode cX11_level 16 = .ok (.iload_n 2, 1) := by decide +kernel
theorem dX11_level_17 : decode cX11_level 17 = .ok (.bipush 8, 2) := by decide +kernel
theorem dX11_level_19 : decode cX11_level 19 = .ok (.if_icmp .le 13, 3) := by decide +kernel
theorem dX11_level_22 : decode cX11_level 22 = .ok (.new 74, 3) := by decide +kernel
theorem dX11_level_25 : decode cX11_level 25 = .ok (.dup, 1) := by decide +kernel
theorem dX11_level_26 : decode cX11_level 26 = .ok (.ldc 76, 2) := by decide +kernel
theorem dX11_level_28 : decode cX11_level 28 = .ok (.invokespecial 78, 3) := by decide +kernel
theorem dX11_level_31 : decode cX11_level 31 = .ok (.athrow, 1) := by decide +kernel
theorem dX11_level_32 : decode cX11_level 32 = .ok (.iload_n 3, 1) := by decide +kernel
theorem dX11_level_33 : decode cX11_level 33 = .ok (.invokestatic 81, 3) := by decide +kernel
theorem dX11_level_36 : decode cX11_level 36 = .ok (.aload_n 0, 1) := by decide +kernel
theorem dX11_level_37 : decode cX11_level 37 = .ok (.invokevirtual 85, 3) := by decide +kernel
theorem dX11_level_40 : decode cX11_level 40 = .ok (.new 88, 3) := by decide +kernel
theorem dX11_level_43 : decode cX11_level 43 = .ok (.dup, 1) := by decide +kernel
theorem dX11_level_44 : decode cX11_level 44 = .ok (.invokespecial 90, 3) := by decide +kernel
theorem dX11_level_47 : decode cX11_level 47 = .ok (.astore 4, 2) := by decide +kernel
theorem dX11_level_49 : decode cX11_level 49 = .ok (.aload 4, 2) := by decide +kernel
theorem dX11_level_51 : decode cX11_level 51 = .ok (.iload_n 1, 1) := by decide +kernel
theorem dX11_level_52 : decode cX11_level 52 = .ok (.putfield 91, 3) := by decide +kernel
theorem dX11_level_55 : decode cX11_level 55 = .ok (.aload 4, 2) := by decide +kernel
theorem dX11_level_57 : decode cX11_level 57 = .ok (.iload_n 2, 1) := by decide +kernel
theorem dX11_level_58 : decode cX11_level 58 = .ok (.putfield 94, 3) := by decide +kernel
theorem dX11_level_61 : decode cX11_level 61 = .ok (.aload 4, 2) := by decide +kernel
theorem dX11_level_63 : decode cX11_level 63 = .ok (.iload_n 2, 1) := by decide +kernel
theorem dX11_level_64 : decode cX11_level 64 = .ok (.iconst 1, 1) := by decide +kernel
theorem dX11_level_65 : decode cX11_level 65 = .ok (.isub, 1) := by decide +kernel
theorem dX11_level_66 : decode cX11_level 66 = .ok (.putfield 97, 3) := by decide +kernel
theorem dX11_level_69 : decode cX11_level 69 = .ok (.aload 4, 2) := by decide +kernel
theorem dX11_level_71 : decode cX11_level 71 = .ok (.iconst 0, 1) := by decide +kernel
theorem dX11_level_72 : decode cX11_level 72 = .ok (.iconst 0, 1) := by decide +kernel
theorem dX11_level_73 : decode cX11_level 73 = .ok (.iload_n 1, 1) := by decide +kernel
theorem dX11_level_74 : decode cX11_level 74 = .ok (.iload_n 2, 1) := by decide +kernel
theorem dX11_level_75 : decode cX11_level 75 = .ok (.iload_n 3, 1) := by decide +kernel
theorem dX11_level_76 : decode cX11_level 76 = .ok (.invokevirtual 100, 3) := by decide +kernel
theorem dX11_level_79 : decode cX11_level 79 = .ok (.pop, 1) := by decide +kernel
theorem dX11_level_80 : decode cX11_level 80 = .ok (.aload_n 0, 1) := by decide +kernel
theorem dX11_level_81 : decode cX11_level 81 = .ok (.getfield 12, 3) := by decide +kernel
theorem dX11_level_84 : decode cX11_level 84 = .ok (.aload 4, 2) := by decide +kernel
theorem dX11_level_86 : decode cX11_level 86 = .ok (.invokevirtual 104, 3) := by decide +kernel
theorem dX11_level_89 : decode cX11_level 89 = .ok (.pop, 1) := by decide +kernel
theorem dX11_level_90 : decode cX11_level 90 = .ok (.aload_n 0, 1) := by decide +kernel
theorem dX11_level_91 : decode cX11_level 91 = .ok (.getfield 12, 3) := by decide +kernel
theorem dX11_level_94 : decode cX11_level 94 = .ok (.invokevirtual 108, 3) := by decide +kernel
theorem dX11_level_97 : decode cX11_level 97 = .ok (.iconst 1, 1) := by decide +kernel
theorem dX11_level_98 : decode cX11_level 98 = .ok (.isub, 1) := by decide +kernel
theorem dX11_level_99 : decode cX11_level 99 = .ok (.ireturn, 1) := by decide +kernel
theorem dX18_level_0 : decode cX18_level 0 = .ok (.aload_n 0, 1) := by decide +kernel
theorem dX18_level_1 : decode cX18_level 1 = .ok (.iload_n 1, 1) := by decide +kernel
theorem dX18_level_2 : decode cX18_level 2 = .ok (.iconst 3, 1) := by decide +kernel
theorem dX18_level_3 : decode cX18_level 3 = .ok (.bipush 12, 2) := by decide +kernel
theorem dX18_level_5 : decode cX18_level 5 = .ok (.invokestatic 73, 3) := by decide +kernel
theorem dX18_level_8 : decode cX18_level 8 = .ok (.ifCond .eq 20, 3) := by decide +kernel
theorem dX18_level_11 : decode cX18_level 11 = .ok (.iload_n 2, 1) := by decide +kernel
theorem dX18_level_12 : decode cX18_level 12 = .ok (.iconst 3, 1) := by decide +kernel
theorem dX18_level_13 : decode cX18_level 13 = .ok (.bipush 8, 2) := by decide +kernel
theorem dX18_level_15 : decode cX18_level 15 = .ok (.invokestatic 73, 3) := by decide +kernel
theorem dX18_level_18 : decode cX18_level 18 = .ok (.ifCond .eq 10, 3) := by decide +kernel
theorem dX18_level_21 : decode cX18_level 21 = .ok (.iload_n 3, 1) := by decide +kernel
theorem dX18_level_22 : decode cX18_level 22 = .ok (.invokestatic 106, 3) := by decide +kernel
theorem dX18_level_25 : decode cX18_level 25 = .ok (.ifCond .ne 7, 3) := by decide +kernel
theorem dX18_level_28 : decode cX18_level 28 = .ok (.iconst 1, 1) := by decide +kernel
theorem dX18_level_29 : decode cX18_level 29 = .ok (.goto 19, 3) := by decide +kernel
theorem dX18_level_32 : decode cX18_level 32 = .ok (.aload_n 0, 1) := by decide +kernel
theorem dX18_level_33 : decode cX18_level 33 = .ok (.getfield 34, 3) := by decide +kernel
theorem dX18_level_36 : decode cX18_level 36 = .ok (.invokevirtual 69, 3) := by decide +kernel
theorem dX18_level_39 : decode cX18_level 39 = .ok (.iconst 5, 1) := by decide +kernel
theorem dX18_level_40 : decode cX18_level 40 = .ok (.if_icmp .ne 7, 3) := by decide +kernel
theorem dX18_level_47 : decode cX18_level 47 = .ok (.iconst 0, 1) := by decide +kernel
theorem dX18_level_48 : decode cX18_level 48 = .ok (.putfield 66, 3) := by decide +kernel
theorem dX18_level_51 : decode cX18_level 51 = .ok (.aload_n 0, 1) := by decide +kernel
theorem dX18_level_52 : decode cX18_level 52 = .ok (.getfield 66, 3) := by decide +kernel
theorem dX18_level_55 : decode cX18_level 55 = .ok (.ifCond .le 5, 3) := by decide +kernel
theorem dX18_level_58 : decode cX18_level 58 = .ok (.iconst 0, 1) := by decide +kernel
theorem dX18_level_59 : decode cX18_level 59 = .ok (.ireturn, 1) := by decide +kernel
theorem dX18_level_60 : decode cX18_level 60 = .ok (.aload_n 0, 1) := by decide +kernel
theorem dX18_level_61 : decode cX18_level 61 = .ok (.getfield 34, 3) := by decide +kernel
theorem dX18_level_64 : decode cX18_level 64 = .ok (.new 12, 3) := by decide +kernel
theorem dX18_level_67 : decode cX18_level 67 = .ok (.dup, 1) := by decide +kernel
theorem dX18_level_68 : decode cX18_level 68 = .ok (.iload_n 1, 1) := by decide +kernel
theorem dX18_level_69 : decode cX18_level 69 = .ok (.iload_n 2, 1) := by decide +kernel
theorem dX18_level_70 : decode cX18_level 70 = .ok (.iload_n 3, 1) := by decide +kernel
theorem dX18_level_71 : decode cX18_level 71 = .ok (.invokespecial 110, 3) := by decide +kernel
theorem dX18_level_74 : decode cX18_level 74 = .ok (.invokevirtual 113, 3) := by decide +kernel
theorem dX18_level_77 : decode cX18_level 77 = .ok (.pop, 1) := by decide +kernel
theorem dX18_level_78 : decode cX18_level 78 = .ok (.aload_n 0, 1) := by decide +kernel
theorem dX18_level_79 : decode cX18_level 79 = .ok (.getfield 34, 3) := by decide +kernel
theorem dX18_level_82 : decode cX18_level 82 = .ok (.invokevirtual 69, 3) := by decide +kernel
theorem dX18_level_85 : decode cX18_level 85 = .ok (.iconst 1, 1) := by decide +kernel
theorem dX18_level_86 : decode cX18_level 86 = .ok (.isub, 1) := by decide +kernel
theorem dX18_level_87 : decode cX18_level 87 = .ok (.ireturn, 1) := by decide +kernel
theorem dX18_told_0 : decode cX18_told 0 = .ok (.aload_n 0, 1) := by decide +kernel
theorem dX18_told_1 : decode cX18_told 1 = .ok (.ldc_w 283, 3) := by decide +kernel
theorem dX18_told_4 : decode cX18_told 4 = .ok (.iload_n 1, 1) := by decide +kernel
theorem dX18_told_5 : decode cX18_told 5 = .ok (.invokevirtual 87, 3) := by decide +kernel
theorem dX18_told_8 : decode cX18_told 8 = .ok (.ifCond .ge 7, 3) := by decide +kernel
theorem dX18_told_11 : decode cX18_told 11 = .ok (.iconst 1, 1) := by decide +kernel
theorem dX18_told_12 : decode cX18_told 12 = .ok (.goto 15, 3) := by decide +kernel
theorem dX18_told_15 : decode cX18_told 15 = .ok (.aload_n 0, 1) := by decide +kernel
theorem dX18_told_16 : decode cX18_told 16 = .ok (.getfield 264, 3) := by decide +kernel
theorem dX18_told_19 : decode cX18_told 19 = .ok (.ifCond .ne 7, 3) := by decide +kernel
theorem dX18_told_22 : decode cX18_told 22 = .ok (.iconst 2, 1) := by decide +kernel
theorem dX18_told_23 : decode cX18_told 23 = .ok (.goto 4, 3) := by decide +kernel
theorem dX18_told_27 : decode cX18_told 27 = .ok (.putfield 66, 3) := by decide +kernel
theorem dX18_told_30 : decode cX18_told 30 = .ok (.aload_n 0, 1) := by decide +kernel
theorem dX18_told_31 : decode cX18_told 31 = .ok (.getfield 66, 3) := by decide +kernel
theorem dX18_told_34 : decode cX18_told 34 = .ok (.ifCond .le 5, 3) := by decide +kernel
theorem dX18_told_37 : decode cX18_told 37 = .ok (.iconst 0, 1) := by decide +kernel
theorem dX18_told_38 : decode cX18_told 38 = .ok (.ireturn, 1) := by decide +kernel
set_option maxHeartbeats 4000000 in
set_option maxRecDepth 100000 in
theorem c_X11_level (l : Launch) (hlt : l.stackTraces = false) (dC : Nat → ClassId) (dI : Nat → Nat → Nat) (de : Nat) (ox : Nat) (pl : Nat) (ru : Nat) (sh : Nat) (sp : Nat) (sl : Nat) (gr : Nat) (re : Nat) (pr : Nat) (ga : Nat) (rp : Nat) (bo : Nat) (fa : Nat) (gpl : Nat) (gin : Nat) (bbe : Nat) (bdi : Nat) (cP : ClassId) (cI : ClassId) (a1 : Int32) (a2 : Int32) (a3 : Int32) (sz : Nat) : vx_Met l yX11_level (.code yX11_level cX11_level 5 (some .int) :: wsL_law) { frames := 7, cells := 7, slots := 131, locals := 127 } (va_Pc [.ref ox, .int a1, .int a2, .int a3] (PW dC dI de [(cP, .object "Levelsmith$Player"), (cI, .int)] (WX ox pl ru sh sp sl gr re pr ga rp bo fa gpl gin bbe bdi cP cI de) sz)) (va_Qi (fun (r : Int32) (u : Unit) => r = 0 ∧ VW a1 a2 a3) (fun (_ : Unit) (t : State) => QW dC dI [] [] (va_A (WX ox pl ru sh sp sl gr re pr ga rp bo fa gpl gin bbe bdi cP cI de) sz) t) (va_A (WX ox pl ru sh sp sl gr re pr ga rp bo fa gpl gin bbe bdi cP cI de) sz)) (XX (fun E => E = "java/lang/IllegalArgumentException" ∧ ¬ VW a1 a2 a3) (va_A (WX ox pl ru sh sp sl gr re pr ga rp bo fa gpl gin bbe bdi cP cI de) sz)) 7 131 (va_A (WX ox pl ru sh sp sl gr re pr ga rp bo fa gpl gin bbe bdi cP cI de) sz) := by
  refine vx_ofW (cc := cX11_level) (maxL := 5) (ret := (some .int)) (by decide) rfl ?_
  intro p e s m args below meth c s₁ B hml hex hv
  obtain ⟨rfl, hsz, hP, hK, hD0, hG⟩ := hv
  have hx := B.exec
  have hb := B.bytes
  have hr := B.returns
  have hts := atoms_spec (ws := .code yX11_level cX11_level 5 (some .int) :: wsL_law) B.pre
  have ht : ∀ w ∈ wsL_law, w.before _ s = true := fun w h => hts w (List.mem_cons_of_mem _ h)
  have hown : s.vm.findClass RX11 = some m.cls := findClass_of_methodNamed B.named
  have hlocks := B.notSynchronized
  subst hsz
  have hD := hD0.self (sz := s.heap.size)
  generalize hAe : va_A (WX ox pl ru sh sp sl gr re pr ga rp bo fa gpl gin bbe bdi cP cI de) s.heap.size = A at hD hG ⊢
  have hA : ∀ q : Nat, s.heap.size ≤ q → A q := fun q h => by rw [← hAe]; exact Or.inr h
  have hS : va_S A s.heap s.heap [] := va_S.rf
  have hP : va_P (dC, dI) vwCl [(ox, .inr (13, [.ref pl, .ref ru, .ref sh, .ref sp, .ref sl, .ref gr, .ref re, .ref pr, .ref ga, .ref rp, .ref bo, .int 0])), (pl, .inr (1, [.int 0, .ref de, .int 0])), (ru, .inr (1, [.int 0, .ref de, .int 0])), (sh, .inr (1, [.int 0, .ref de, .int 0])), (sp, .inl (cP, 6, .inr (.inr (.inr (.inr (fun _ => none)))))), (ga, .inr (5, [.ref gpl, .ref gin, .int (-1), .int 0, .int 112, .int 0])), (bo, .inr (2, [.ref fa, .ref bbe, .ref bdi, .int 0, .int 0])), (fa, .inl (cI, 96, .inl (fun _ => 0)))] s.heap := hP
  have hD : va_D A [(ox, .inr (13, [.ref pl, .ref ru, .ref sh, .ref sp, .ref sl, .ref gr, .ref re, .ref pr, .ref ga, .ref rp, .ref bo, .int 0])), (pl, .inr (1, [.int 0, .ref de, .int 0])), (ru, .inr (1, [.int 0, .ref de, .int 0])), (sh, .inr (1, [.int 0, .ref de, .int 0])), (sp, .inl (cP, 6, .inr (.inr (.inr (.inr (fun _ => none)))))), (ga, .inr (5, [.ref gpl, .ref gin, .int (-1), .int 0, .int 112, .int 0])), (bo, .inr (2, [.ref fa, .ref bbe, .ref bdi, .int 0, .int 0])), (fa, .inl (cI, 96, .inl (fun _ => 0)))] := hD
  have hl := lv_entry ([.ref ox, .int a1, .int a2, .int a3]) (n := 5) (Nat.le_of_ble_eq_true rfl)
  rw [lg_entry_eq]
  generalize (lg_sl ([.ref ox, .int a1, .int a2, .int a3]) ++ List.replicate (5 - (lg_sl ([.ref ox, .int a1, .int a2, .int a3])).length) Slot.unset).toArray = ls at hl ⊢
  have hl : lv_has ls 5 [(0, .ref ox), (1, .int a1), (2, .int a2), (3, .int a3)] := hl
  refine lv_iload_n hx hb dX11_level_0 rfl (lv_at hl 1 rfl) ?_
  refine lv_iconst (v := 3) hx hb dX11_level_1 (by decide) ?_
  refine lv_icmp_lt (tgt := 22) hx hb dX11_level_2 (by decide) (fun c_2 => ?_) (fun c_2 => ?_)
  · obtain ⟨sa, hstr⟩ := hG.2.1 (76, "a number is out of range") (List.mem_of_getElem? (i := 1) rfl)
    exact vx_throwS hx hb hlt hown (by decide) (by decide) (ht _ (wr_9 _ (List.mem_of_getElem? (i := 21) rfl))) (ht _ (wr_9 _ (List.mem_of_getElem? (i := 22) rfl))) hstr (vx_hat (fun w h => ht w (wx_0 w h)) te_0 (gx_bad hG (X := "java/lang/IllegalArgumentException") (List.mem_of_getElem? (i := 1) rfl))) tg_0 hG.1.1 hG.1.2.1 hS (by rw [hml]; exact hl.1) dX11_level_22 dX11_level_25 dX11_level_26 dX11_level_28 dX11_level_31 (fun x hx => (hex x hx).elim) (Nat.le_of_ble_eq_true rfl) (Nat.le_of_ble_eq_true rfl) (Nat.le_of_ble_eq_true rfl) (Nat.le_of_ble_eq_true rfl) hlocks (fun t hv9 h1 h2 => XX_of ⟨rfl, fun h => absurd c_2 (i_nlt h.1.1)⟩ hS hA h1 h2) hS.2.2 (Nat.le_of_ble_eq_true rfl) (Nat.le_of_ble_eq_true rfl)
  · refine lv_iload_n hx hb dX11_level_5 rfl (lv_at hl 1 rfl) ?_
    refine lv_bipush (v := 12) hx hb dX11_level_6 (by decide) ?_
    refine lv_icmp_gt (tgt := 22) hx hb dX11_level_8 (by decide) (fun c_8 => ?_) (fun c_8 => ?_)
    · obtain ⟨sa, hstr⟩ := hG.2.1 (76, "a number is out of range") (List.mem_of_getElem? (i := 1) rfl)
      exact vx_throwS hx hb hlt hown (by decide) (by decide) (ht _ (wr_9 _ (List.mem_of_getElem? (i := 21) rfl))) (ht _ (wr_9 _ (List.mem_of_getElem? (i := 22) rfl))) hstr (vx_hat (fun w h => ht w (wx_0 w h)) te_0 (gx_bad hG (X := "java/lang/IllegalArgumentException") (List.mem_of_getElem? (i := 1) rfl))) tg_0 hG.1.1 hG.1.2.1 hS (by rw [hml]; exact hl.1) dX11_level_22 dX11_level_25 dX11_level_26 dX11_level_28 dX11_level_31 (fun x hx => (hex x hx).elim) (Nat.le_of_ble_eq_true rfl) (Nat.le_of_ble_eq_true rfl) (Nat.le_of_ble_eq_true rfl) (Nat.le_of_ble_eq_true rfl) hlocks (fun t hv9 h1 h2 => XX_of ⟨rfl, fun h => absurd c_8 (i_nlt h.1.2)⟩ hS hA h1 h2) hS.2.2 (Nat.le_of_ble_eq_true rfl) (Nat.le_of_ble_eq_true rfl)
    · refine lv_iload_n hx hb dX11_level_11 rfl (lv_at hl 2 rfl) ?_
      refine lv_iconst (v := 3) hx hb dX11_level_12 (by decide) ?_
      refine lv_icmp_lt (tgt := 22) hx hb dX11_level_13 (by decide) (fun c_13 => ?_) (fun c_13 => ?_)
      · obtain ⟨sa, hstr⟩ := hG.2.1 (76, "a number is out of range") (List.mem_of_getElem? (i := 1) rfl)
        exact vx_throwS hx hb hlt hown (by decide) (by decide) (ht _ (wr_9 _ (List.mem_of_getElem? (i := 21) rfl))) (ht _ (wr_9 _ (List.mem_of_getElem? (i := 22) rfl))) hstr (vx_hat (fun w h => ht w (wx_0 w h)) te_0 (gx_bad hG (X := "java/lang/IllegalArgumentException") (List.mem_of_getElem? (i := 1) rfl))) tg_0 hG.1.1 hG.1.2.1 hS (by rw [hml]; exact hl.1) dX11_level_22 dX11_level_25 dX11_level_26 dX11_level_28 dX11_level_31 (fun x hx => (hex x hx).elim) (Nat.le_of_ble_eq_true rfl) (Nat.le_of_ble_eq_true rfl) (Nat.le_of_ble_eq_true rfl) (Nat.le_of_ble_eq_true rfl) hlocks (fun t hv9 h1 h2 => XX_of ⟨rfl, fun h => absurd c_13 (i_nlt h.2.1.1)⟩ hS hA h1 h2) hS.2.2 (Nat.le_of_ble_eq_true rfl) (Nat.le_of_ble_eq_true rfl)
      · refine lv_iload_n hx hb dX11_level_16 rfl (lv_at hl 2 rfl) ?_
        refine lv_bipush (v := 8) hx hb dX11_level_17 (by decide) ?_
        refine lv_icmp_le (tgt := 32) hx hb dX11_level_19 (by decide) (fun c_19 => ?_) (fun c_19 => ?_)
        · refine lv_iload_n hx hb dX11_level_32 rfl (lv_at hl 3 rfl) ?_
          have hPc := hP.sub (ws' := []) [] rfl
          have hDc := hD.sub (ws' := []) [] (by decide) rfl
          have hKc := hK.sub (tys' := []) [] rfl
          have hFc := va_free (wc := []) hD hS hA [] rfl
          refine vx_callv (vx_runS (As := [.int a3]) (rest := []) ⟨hx, hb, hml, hown, ht⟩ (c_X11_checkSign l hlt dC dI de (a3) s.heap.size) (cwS 1 ht (gWS (wr_10 _ (List.mem_of_getElem? (i := 3) rfl)) (wr_10 _ (List.mem_of_getElem? (i := 4) rfl)) (wr_1 _ (List.mem_of_getElem? (i := 2) rfl)) (wr_10 _ (List.mem_of_getElem? (i := 5) rfl))) rfl rfl rfl (by decide +kernel) ⟨Nat.le_of_ble_eq_true rfl, Nat.le_of_ble_eq_true rfl⟩) ⟨PW_blind, PW_call hPc hDc hKc hS hG hFc⟩ rfl rfl hl.1 rfl (lv_room (Nat.le_of_ble_eq_true rfl)) dX11_level_33 ⟨Nat.le_of_ble_eq_true rfl, Nat.le_of_ble_eq_true rfl⟩) hS (fun q _ h => hFc q h) hFc (fun q _ h => hFc q h) (fun E ce q9 u t H1 locs1 ht9 hvm9 _ hR9 hz9 hk9 hS9 hc9 hv9 hcl9 => ?_) (fun u t H1 locs ht9 hvm hw hB hz1 hk1 hS => ?_)
          · exact vx_out (fun x hx => (hex x hx).elim) hlocks hc9 hv9 hcl9 (fun t9 e9 _ => XX_out ⟨hR9.1, fun h => hR9.2 h.2.2⟩ hS9 e9) hS9.2.2 (Nat.le_of_ble_eq_true rfl) (Nat.le_of_ble_eq_true rfl)
          · obtain ⟨hP1, hK1, hD1⟩ := hB
            rw [ht9] at hP1
            have hK1 := va_K.moved hvm.symm hK1
            obtain ⟨hP, hD⟩ := va_join (wr := [(ox, .inr (13, [.ref pl, .ref ru, .ref sh, .ref sp, .ref sl, .ref gr, .ref re, .ref pr, .ref ga, .ref rp, .ref bo, .int 0])), (pl, .inr (1, [.int 0, .ref de, .int 0])), (ru, .inr (1, [.int 0, .ref de, .int 0])), (sh, .inr (1, [.int 0, .ref de, .int 0])), (sp, .inl (cP, 6, .inr (.inr (.inr (.inr (fun _ => none)))))), (ga, .inr (5, [.ref gpl, .ref gin, .int (-1), .int 0, .int 112, .int 0])), (bo, .inr (2, [.ref fa, .ref bbe, .ref bdi, .int 0, .int 0])), (fa, .inl (cI, 96, .inl (fun _ => 0)))]) (w1 := []) hP hD [] [0, 1, 2, 3, 4, 5, 6, 7] rfl rfl (by decide) (by decide) hk1 hFc hP1 hD1
            have hK := (hK.sub (tys' := [(cP, .object "Levelsmith$Player"), (cI, .int)]) [0, 1] rfl).app hK1
            generalize H1 = H at hP hS ⊢
            replace hP : va_P (dC, dI) vwCl [(ox, .inr (13, [.ref pl, .ref ru, .ref sh, .ref sp, .ref sl, .ref gr, .ref re, .ref pr, .ref ga, .ref rp, .ref bo, .int 0])), (pl, .inr (1, [.int 0, .ref de, .int 0])), (ru, .inr (1, [.int 0, .ref de, .int 0])), (sh, .inr (1, [.int 0, .ref de, .int 0])), (sp, .inl (cP, 6, .inr (.inr (.inr (.inr (fun _ => none)))))), (ga, .inr (5, [.ref gpl, .ref gin, .int (-1), .int 0, .int 112, .int 0])), (bo, .inr (2, [.ref fa, .ref bbe, .ref bdi, .int 0, .int 0])), (fa, .inl (cI, 96, .inl (fun _ => 0)))] H := hP
            replace hD : va_D A [(ox, .inr (13, [.ref pl, .ref ru, .ref sh, .ref sp, .ref sl, .ref gr, .ref re, .ref pr, .ref ga, .ref rp, .ref bo, .int 0])), (pl, .inr (1, [.int 0, .ref de, .int 0])), (ru, .inr (1, [.int 0, .ref de, .int 0])), (sh, .inr (1, [.int 0, .ref de, .int 0])), (sp, .inl (cP, 6, .inr (.inr (.inr (.inr (fun _ => none)))))), (ga, .inr (5, [.ref gpl, .ref gin, .int (-1), .int 0, .int 112, .int 0])), (bo, .inr (2, [.ref fa, .ref bbe, .ref bdi, .int 0, .int 0])), (fa, .inl (cI, 96, .inl (fun _ => 0)))] := hD
            have hK : va_K (dC, dI) vwCl [(cP, .object "Levelsmith$Player"), (cI, .int)] s := hK
            refine W.widen (k := 1) (n := 6) (Nat.le_of_ble_eq_true rfl) (Nat.le_of_ble_eq_true rfl) ?_
            have hw_33 := hw
            refine lv_aload_n hx hb dX11_level_36 rfl (lv_at hl 0 rfl) ?_
            have hPc := hP.sub (ws' := [(ox, .inr (13, [.ref pl, .ref ru, .ref sh, .ref sp, .ref sl, .ref gr, .ref re, .ref pr, .ref ga, .ref rp, .ref bo, .int 0])), (pl, .inr (1, [.int 0, .ref de, .int 0])), (ru, .inr (1, [.int 0, .ref de, .int 0])), (sh, .inr (1, [.int 0, .ref de, .int 0])), (sp, .inl (cP, 6, .inr (.inr (.inr (.inr (fun _ => none)))))), (ga, .inr (5, [.ref gpl, .ref gin, .int (-1), .int 0, .int 112, .int 0])), (bo, .inr (2, [.ref fa, .ref bbe, .ref bdi, .int 0, .int 0])), (fa, .inl (cI, 96, .inl (fun _ => 0)))]) [0, 1, 2, 3, 4, 5, 6, 7] rfl
            have hDc := hD.sub (ws' := [(ox, .inr (13, [.ref pl, .ref ru, .ref sh, .ref sp, .ref sl, .ref gr, .ref re, .ref pr, .ref ga, .ref rp, .ref bo, .int 0])), (pl, .inr (1, [.int 0, .ref de, .int 0])), (ru, .inr (1, [.int 0, .ref de, .int 0])), (sh, .inr (1, [.int 0, .ref de, .int 0])), (sp, .inl (cP, 6, .inr (.inr (.inr (.inr (fun _ => none)))))), (ga, .inr (5, [.ref gpl, .ref gin, .int (-1), .int 0, .int 112, .int 0])), (bo, .inr (2, [.ref fa, .ref bbe, .ref bdi, .int 0, .int 0])), (fa, .inl (cI, 96, .inl (fun _ => 0)))]) [0, 1, 2, 3, 4, 5, 6, 7] (by decide) rfl
            have hKc := hK.sub (tys' := [(cP, .object "Levelsmith$Player"), (cI, .int)]) [0, 1] rfl
            have hFc := va_free (wc := [(ox, .inr (13, [.ref pl, .ref ru, .ref sh, .ref sp, .ref sl, .ref gr, .ref re, .ref pr, .ref ga, .ref rp, .ref bo, .int 0])), (pl, .inr (1, [.int 0, .ref de, .int 0])), (ru, .inr (1, [.int 0, .ref de, .int 0])), (sh, .inr (1, [.int 0, .ref de, .int 0])), (sp, .inl (cP, 6, .inr (.inr (.inr (.inr (fun _ => none)))))), (ga, .inr (5, [.ref gpl, .ref gin, .int (-1), .int 0, .int 112, .int 0])), (bo, .inr (2, [.ref fa, .ref bbe, .ref bdi, .int 0, .int 0])), (fa, .inl (cI, 96, .inl (fun _ => 0)))]) hD hS hA [0, 1, 2, 3, 4, 5, 6, 7] rfl
            refine va_callv (va_runV (As := []) (rest := []) ⟨hx, hb, hml, hown, ht⟩ (c_X11_checkRoomForLevel l dC dI de (ox) (pl) (ru) (sh) (sp) (sl) (gr) (re) (pr) (ga) (rp) (bo) (fa) (gpl) (gin) (bbe) (bdi) (cP) (cI) H.size) (cwV 0 ht (gWV (wr_13 _ (List.mem_of_getElem? (i := 23) rfl)) (wr_14 _ (List.mem_of_getElem? (i := 0) rfl)) (wr_14 _ (List.mem_of_getElem? (i := 1) rfl)) (wr_1 _ (List.mem_of_getElem? (i := 2) rfl)) (wr_14 _ (List.mem_of_getElem? (i := 2) rfl))) rfl rfl rfl (by decide +kernel) ⟨Nat.le_of_ble_eq_true rfl, Nat.le_of_ble_eq_true rfl⟩) ⟨PW_blind, va_recv hKc hPc (ci := 13) (q0 := 0) rfl rfl, PW_call hPc hDc hKc hS hG hFc⟩ rfl rfl hl.1 rfl (lv_room (Nat.le_of_ble_eq_true rfl)) dX11_level_37 ⟨Nat.le_of_ble_eq_true rfl, Nat.le_of_ble_eq_true rfl⟩) hS (fun q _ h => hFc q h) hFc (fun u t H1 locs ht9 hvm hw hB hz1 hk1 hS => ?_)
            obtain ⟨hP1, hK1, hD1⟩ := hB
            rw [ht9] at hP1
            have hK1 := va_K.moved hvm.symm hK1
            obtain ⟨hP, hD⟩ := va_join (wr := []) (w1 := [(ox, .inr (13, [.ref pl, .ref ru, .ref sh, .ref sp, .ref sl, .ref gr, .ref re, .ref pr, .ref ga, .ref rp, .ref bo, .int 0])), (pl, .inr (1, [.int 0, .ref de, .int 0])), (ru, .inr (1, [.int 0, .ref de, .int 0])), (sh, .inr (1, [.int 0, .ref de, .int 0])), (sp, .inl (cP, 6, .inr (.inr (.inr (.inr (fun _ => none)))))), (ga, .inr (5, [.ref gpl, .ref gin, .int (-1), .int 0, .int 112, .int 0])), (bo, .inr (2, [.ref fa, .ref bbe, .ref bdi, .int 0, .int 0])), (fa, .inl (cI, 96, .inl (fun _ => 0)))]) hP hD [0, 1, 2, 3, 4, 5, 6, 7] [] rfl rfl (by decide) (by decide) hk1 hFc hP1 hD1
            have hK := (hK.sub (tys' := []) [] rfl).app hK1
            generalize H1 = H at hP hS ⊢
            replace hP : va_P (dC, dI) vwCl [(ox, .inr (13, [.ref pl, .ref ru, .ref sh, .ref sp, .ref sl, .ref gr, .ref re, .ref pr, .ref ga, .ref rp, .ref bo, .int 0])), (pl, .inr (1, [.int 0, .ref de, .int 0])), (ru, .inr (1, [.int 0, .ref de, .int 0])), (sh, .inr (1, [.int 0, .ref de, .int 0])), (sp, .inl (cP, 6, .inr (.inr (.inr (.inr (fun _ => none)))))), (ga, .inr (5, [.ref gpl, .ref gin, .int (-1), .int 0, .int 112, .int 0])), (bo, .inr (2, [.ref fa, .ref bbe, .ref bdi, .int 0, .int 0])), (fa, .inl (cI, 96, .inl (fun _ => 0)))] H := hP
            replace hD : va_D A [(ox, .inr (13, [.ref pl, .ref ru, .ref sh, .ref sp, .ref sl, .ref gr, .ref re, .ref pr, .ref ga, .ref rp, .ref bo, .int 0])), (pl, .inr (1, [.int 0, .ref de, .int 0])), (ru, .inr (1, [.int 0, .ref de, .int 0])), (sh, .inr (1, [.int 0, .ref de, .int 0])), (sp, .inl (cP, 6, .inr (.inr (.inr (.inr (fun _ => none)))))), (ga, .inr (5, [.ref gpl, .ref gin, .int (-1), .int 0, .int 112, .int 0])), (bo, .inr (2, [.ref fa, .ref bbe, .ref bdi, .int 0, .int 0])), (fa, .inl (cI, 96, .inl (fun _ => 0)))] := hD
            have hK : va_K (dC, dI) vwCl [(cP, .object "Levelsmith$Player"), (cI, .int)] s := hK
            have hw_37 := hw
            obtain ⟨wn, hw1, rfl⟩ := nat_of (lo := 3) (n := 12) (Lo := 3) (M := 12) (by decide) (by decide) ⟨i_nlt2 c_2, i_nlt2 c_8⟩
            obtain ⟨hn, hh1, rfl⟩ := nat_of (lo := 3) (n := 8) (Lo := 3) (M := 8) (by decide) (by decide) ⟨i_nlt2 c_13, c_19⟩
            refine va_new (ci := 7) (fs := [.int 0, .int 0, .int 0, .int 0, .int 0, .int 0, .null, .null, .null, .null]) (C := RX5) (T := TX5) (N := 10) hx hb ht inlX5 tyX5 tyX5_ok hown (ht _ (wr_9 _ (List.mem_of_getElem? (i := 23) rfl))) (ht _ (wr_3 _ (List.mem_of_getElem? (i := 21) rfl))) (ht _ (wr_3 _ (List.mem_of_getElem? (i := 22) rfl))) hK hP hD hS hA rfl (fun j hj => match j, hj with | 0, _ => rfl | 1, _ => rfl | 2, _ => rfl | 3, _ => rfl | 4, _ => rfl | 5, _ => rfl | 6, _ => rfl | 7, _ => rfl | 8, _ => rfl | 9, _ => rfl | j + 10, h => absurd h (by omega)) (Nat.le_of_ble_eq_true rfl) (Nat.le_of_ble_eq_true rfl) dX11_level_40 (fun q_1 H hP hD hS => ?_)
            replace hP : va_P (dC, dI) vwCl [(ox, .inr (13, [.ref pl, .ref ru, .ref sh, .ref sp, .ref sl, .ref gr, .ref re, .ref pr, .ref ga, .ref rp, .ref bo, .int 0])), (pl, .inr (1, [.int 0, .ref de, .int 0])), (ru, .inr (1, [.int 0, .ref de, .int 0])), (sh, .inr (1, [.int 0, .ref de, .int 0])), (sp, .inl (cP, 6, .inr (.inr (.inr (.inr (fun _ => none)))))), (ga, .inr (5, [.ref gpl, .ref gin, .int (-1), .int 0, .int 112, .int 0])), (bo, .inr (2, [.ref fa, .ref bbe, .ref bdi, .int 0, .int 0])), (fa, .inl (cI, 96, .inl (fun _ => 0))), (q_1, .inr (7, [.int 0, .int 0, .int 0, .int 0, .int 0, .int 0, .null, .null, .null, .null]))] H := hP
            replace hD : va_D A [(ox, .inr (13, [.ref pl, .ref ru, .ref sh, .ref sp, .ref sl, .ref gr, .ref re, .ref pr, .ref ga, .ref rp, .ref bo, .int 0])), (pl, .inr (1, [.int 0, .ref de, .int 0])), (ru, .inr (1, [.int 0, .ref de, .int 0])), (sh, .inr (1, [.int 0, .ref de, .int 0])), (sp, .inl (cP, 6, .inr (.inr (.inr (.inr (fun _ => none)))))), (ga, .inr (5, [.ref gpl, .ref gin, .int (-1), .int 0, .int 112, .int 0])), (bo, .inr (2, [.ref fa, .ref bbe, .ref bdi, .int 0, .int 0])), (fa, .inl (cI, 96, .inl (fun _ => 0))), (q_1, .inr (7, [.int 0, .int 0, .int 0, .int 0, .int 0, .int 0, .null, .null, .null, .null]))] := hD
            refine W.widen (k := 2) (n := 16) (Nat.le_of_ble_eq_true rfl) (Nat.le_of_ble_eq_true rfl) ?_
            refine lv_dup hx hb dX11_level_43 rfl ?_
            have hPc := hP.sub (ws' := [(q_1, .inr (7, [.int 0, .int 0, .int 0, .int 0, .int 0, .int 0, .null, .null, .null, .null]))]) [8] rfl
            have hDc := hD.sub (ws' := [(q_1, .inr (7, [.int 0, .int 0, .int 0, .int 0, .int 0, .int 0, .null, .null, .null, .null]))]) [8] (by decide) rfl
            have hKc := hK.sub (tys' := []) [] rfl
            have hFc := va_free (wc := [(q_1, .inr (7, [.int 0, .int 0, .int 0, .int 0, .int 0, .int 0, .null, .null, .null, .null]))]) hD hS hA [8] rfl
            refine va_callv (va_runIN (As := []) (rest := [.ref q_1]) ⟨hx, hb, hml, hown, ht⟩ (c_X5_full l dC dI de (q_1) H.size) ⟨va_cnB 0 ht (gWI (wr_4 _ (List.mem_of_getElem? (i := 7) rfl))) rfl rfl rfl (hG.2.2.1 ("Levelsmith", 90, yX5_init, "Levelsmith") (List.mem_of_getElem? (i := 13) rfl)) (ht _ (wr_3 _ (List.mem_of_getElem? (i := 22) rfl))) (by decide +kernel) ⟨Nat.le_of_ble_eq_true rfl, Nat.le_of_ble_eq_true rfl⟩, rfl, (ht _ (wr_4 _ (List.mem_of_getElem? (i := 6) rfl)))⟩ ⟨PW_blind, PW_call hPc hDc hKc hS hG hFc⟩ rfl rfl hl.1 rfl (lv_room (Nat.le_of_ble_eq_true rfl)) dX11_level_44 ⟨Nat.le_of_ble_eq_true rfl, Nat.le_of_ble_eq_true rfl⟩) hS (fun q _ h => hFc q h) hFc (fun u t H1 locs ht9 hvm hw hB hz1 hk1 hS => ?_)
            obtain ⟨pt_2, gx_3, gf_4, gy_5, cT_6, hP1, hK1, hD1⟩ := hB
            rw [ht9] at hP1
            have hK1 := va_K.moved hvm.symm hK1
            obtain ⟨hP, hD⟩ := va_join (wr := [(ox, .inr (13, [.ref pl, .ref ru, .ref sh, .ref sp, .ref sl, .ref gr, .ref re, .ref pr, .ref ga, .ref rp, .ref bo, .int 0])), (pl, .inr (1, [.int 0, .ref de, .int 0])), (ru, .inr (1, [.int 0, .ref de, .int 0])), (sh, .inr (1, [.int 0, .ref de, .int 0])), (sp, .inl (cP, 6, .inr (.inr (.inr (.inr (fun _ => none)))))), (ga, .inr (5, [.ref gpl, .ref gin, .int (-1), .int 0, .int 112, .int 0])), (bo, .inr (2, [.ref fa, .ref bbe, .ref bdi, .int 0, .int 0])), (fa, .inl (cI, 96, .inl (fun _ => 0)))]) (w1 := [(q_1, .inr (7, [.int 3, .int 3, .int 0, .int 0, .int 0, .int 0, .ref pt_2, .ref gx_3, .ref gf_4, .ref gy_5])), (pt_2, .inl (cT_6, 96, .inl (fun _ => 0)))]) hP hD [8] [0, 1, 2, 3, 4, 5, 6, 7] rfl rfl (by decide) (by decide) hk1 hFc hP1 hD1
            have hK := (hK.sub (tys' := [(cP, .object "Levelsmith$Player"), (cI, .int)]) [0, 1] rfl).app hK1
            generalize H1 = H at hP hS ⊢
            replace hP : va_P (dC, dI) vwCl [(ox, .inr (13, [.ref pl, .ref ru, .ref sh, .ref sp, .ref sl, .ref gr, .ref re, .ref pr, .ref ga, .ref rp, .ref bo, .int 0])), (pl, .inr (1, [.int 0, .ref de, .int 0])), (ru, .inr (1, [.int 0, .ref de, .int 0])), (sh, .inr (1, [.int 0, .ref de, .int 0])), (sp, .inl (cP, 6, .inr (.inr (.inr (.inr (fun _ => none)))))), (ga, .inr (5, [.ref gpl, .ref gin, .int (-1), .int 0, .int 112, .int 0])), (bo, .inr (2, [.ref fa, .ref bbe, .ref bdi, .int 0, .int 0])), (fa, .inl (cI, 96, .inl (fun _ => 0))), (q_1, .inr (7, [.int 3, .int 3, .int 0, .int 0, .int 0, .int 0, .ref pt_2, .ref gx_3, .ref gf_4, .ref gy_5])), (pt_2, .inl (cT_6, 96, .inl (fun _ => 0)))] H := hP
            replace hD : va_D A [(ox, .inr (13, [.ref pl, .ref ru, .ref sh, .ref sp, .ref sl, .ref gr, .ref re, .ref pr, .ref ga, .ref rp, .ref bo, .int 0])), (pl, .inr (1, [.int 0, .ref de, .int 0])), (ru, .inr (1, [.int 0, .ref de, .int 0])), (sh, .inr (1, [.int 0, .ref de, .int 0])), (sp, .inl (cP, 6, .inr (.inr (.inr (.inr (fun _ => none)))))), (ga, .inr (5, [.ref gpl, .ref gin, .int (-1), .int 0, .int 112, .int 0])), (bo, .inr (2, [.ref fa, .ref bbe, .ref bdi, .int 0, .int 0])), (fa, .inl (cI, 96, .inl (fun _ => 0))), (q_1, .inr (7, [.int 3, .int 3, .int 0, .int 0, .int 0, .int 0, .ref pt_2, .ref gx_3, .ref gf_4, .ref gy_5])), (pt_2, .inl (cT_6, 96, .inl (fun _ => 0)))] := hD
            have hK : va_K (dC, dI) vwCl [(cP, .object "Levelsmith$Player"), (cI, .int), (cT_6, .char)] s := hK
            refine W.widen (k := 6) (n := 121) (Nat.le_of_ble_eq_true rfl) (Nat.le_of_ble_eq_true rfl) ?_
            have hw_44 := hw
            refine lv_astore (lv' := [(4, .ref q_1), (0, .ref ox), (1, .int (nI wn)), (2, .int (nI hn)), (3, .int a3)]) hx hb dX11_level_47 hl (by decide) rfl (fun ls hl => ?_)
            refine lv_aload hx hb dX11_level_49 (lv_at hl 0 rfl) ?_
            refine lv_iload_n hx hb dX11_level_51 rfl (lv_at hl 2 rfl) ?_
            refine va_put (D := (dC, dI)) (ci := 7) (v := .int (nI wn)) (ty := .int) (C := RX5) (T := TX5) (N := 10) hx hb ht inlX5 tyX5 tyX5_ok nmX5 hown hK hP hD hS 8 rfl rfl 0 (by decide) (ht _ (wr_10 _ (List.mem_of_getElem? (i := 0) rfl))) (fun _ h9 => h9) rfl (by decide +kernel) rfl rfl (Nat.le_of_ble_eq_true rfl) dX11_level_52 (fun H locs hP hD hS => ?_)
            replace hP : va_P (dC, dI) vwCl [(ox, .inr (13, [.ref pl, .ref ru, .ref sh, .ref sp, .ref sl, .ref gr, .ref re, .ref pr, .ref ga, .ref rp, .ref bo, .int 0])), (pl, .inr (1, [.int 0, .ref de, .int 0])), (ru, .inr (1, [.int 0, .ref de, .int 0])), (sh, .inr (1, [.int 0, .ref de, .int 0])), (sp, .inl (cP, 6, .inr (.inr (.inr (.inr (fun _ => none)))))), (ga, .inr (5, [.ref gpl, .ref gin, .int (-1), .int 0, .int 112, .int 0])), (bo, .inr (2, [.ref fa, .ref bbe, .ref bdi, .int 0, .int 0])), (fa, .inl (cI, 96, .inl (fun _ => 0))), (q_1, .inr (7, [.int (nI wn), .int 3, .int 0, .int 0, .int 0, .int 0, .ref pt_2, .ref gx_3, .ref gf_4, .ref gy_5])), (pt_2, .inl (cT_6, 96, .inl (fun _ => 0)))] H := hP
            replace hD : va_D A [(ox, .inr (13, [.ref pl, .ref ru, .ref sh, .ref sp, .ref sl, .ref gr, .ref re, .ref pr, .ref ga, .ref rp, .ref bo, .int 0])), (pl, .inr (1, [.int 0, .ref de, .int 0])), (ru, .inr (1, [.int 0, .ref de, .int 0])), (sh, .inr (1, [.int 0, .ref de, .int 0])), (sp, .inl (cP, 6, .inr (.inr (.inr (.inr (fun _ => none)))))), (ga, .inr (5, [.ref gpl, .ref gin, .int (-1), .int 0, .int 112, .int 0])), (bo, .inr (2, [.ref fa, .ref bbe, .ref bdi, .int 0, .int 0])), (fa, .inl (cI, 96, .inl (fun _ => 0))), (q_1, .inr (7, [.int (nI wn), .int 3, .int 0, .int 0, .int 0, .int 0, .ref pt_2, .ref gx_3, .ref gf_4, .ref gy_5])), (pt_2, .inl (cT_6, 96, .inl (fun _ => 0)))] := hD
            refine lv_aload hx hb dX11_level_55 (lv_at hl 0 rfl) ?_
            refine lv_iload_n hx hb dX11_level_57 rfl (lv_at hl 3 rfl) ?_
            refine va_put (D := (dC, dI)) (ci := 7) (v := .int (nI hn)) (ty := .int) (C := RX5) (T := TX5) (N := 10) hx hb ht inlX5 tyX5 tyX5_ok nmX5 hown hK hP hD hS 8 rfl rfl 1 (by decide) (ht _ (wr_10 _ (List.mem_of_getElem? (i := 1) rfl))) (fun _ h9 => h9) rfl (by decide +kernel) rfl rfl (Nat.le_of_ble_eq_true rfl) dX11_level_58 (fun H locs hP hD hS => ?_)
            replace hP : va_P (dC, dI) vwCl [(ox, .inr (13, [.ref pl, .ref ru, .ref sh, .ref sp, .ref sl, .ref gr, .ref re, .ref pr, .ref ga, .ref rp, .ref bo, .int 0])), (pl, .inr (1, [.int 0, .ref de, .int 0])), (ru, .inr (1, [.int 0, .ref de, .int 0])), (sh, .inr (1, [.int 0, .ref de, .int 0])), (sp, .inl (cP, 6, .inr (.inr (.inr (.inr (fun _ => none)))))), (ga, .inr (5, [.ref gpl, .ref gin, .int (-1), .int 0, .int 112, .int 0])), (bo, .inr (2, [.ref fa, .ref bbe, .ref bdi, .int 0, .int 0])), (fa, .inl (cI, 96, .inl (fun _ => 0))), (q_1, .inr (7, [.int (nI wn), .int (nI hn), .int 0, .int 0, .int 0, .int 0, .ref pt_2, .ref gx_3, .ref gf_4, .ref gy_5])), (pt_2, .inl (cT_6, 96, .inl (fun _ => 0)))] H := hP
            replace hD : va_D A [(ox, .inr (13, [.ref pl, .ref ru, .ref sh, .ref sp, .ref sl, .ref gr, .ref re, .ref pr, .ref ga, .ref rp, .ref bo, .int 0])), (pl, .inr (1, [.int 0, .ref de, .int 0])), (ru, .inr (1, [.int 0, .ref de, .int 0])), (sh, .inr (1, [.int 0, .ref de, .int 0])), (sp, .inl (cP, 6, .inr (.inr (.inr (.inr (fun _ => none)))))), (ga, .inr (5, [.ref gpl, .ref gin, .int (-1), .int 0, .int 112, .int 0])), (bo, .inr (2, [.ref fa, .ref bbe, .ref bdi, .int 0, .int 0])), (fa, .inl (cI, 96, .inl (fun _ => 0))), (q_1, .inr (7, [.int (nI wn), .int (nI hn), .int 0, .int 0, .int 0, .int 0, .ref pt_2, .ref gx_3, .ref gf_4, .ref gy_5])), (pt_2, .inl (cT_6, 96, .inl (fun _ => 0)))] := hD
            refine lv_aload hx hb dX11_level_61 (lv_at hl 0 rfl) ?_
            refine lv_iload_n hx hb dX11_level_63 rfl (lv_at hl 3 rfl) ?_
            refine lv_iconst (v := 1) hx hb dX11_level_64 (by decide) ?_
            refine lv_isub hx hb dX11_level_65 ?_
            refine va_put (D := (dC, dI)) (ci := 7) (v := .int ((nI hn) - 1)) (ty := .int) (C := RX5) (T := TX5) (N := 10) hx hb ht inlX5 tyX5 tyX5_ok nmX5 hown hK hP hD hS 8 rfl rfl 3 (by decide) (ht _ (wr_10 _ (List.mem_of_getElem? (i := 2) rfl))) (fun _ h9 => h9) rfl (by decide +kernel) rfl rfl (Nat.le_of_ble_eq_true rfl) dX11_level_66 (fun H locs hP hD hS => ?_)
            replace hP : va_P (dC, dI) vwCl [(ox, .inr (13, [.ref pl, .ref ru, .ref sh, .ref sp, .ref sl, .ref gr, .ref re, .ref pr, .ref ga, .ref rp, .ref bo, .int 0])), (pl, .inr (1, [.int 0, .ref de, .int 0])), (ru, .inr (1, [.int 0, .ref de, .int 0])), (sh, .inr (1, [.int 0, .ref de, .int 0])), (sp, .inl (cP, 6, .inr (.inr (.inr (.inr (fun _ => none)))))), (ga, .inr (5, [.ref gpl, .ref gin, .int (-1), .int 0, .int 112, .int 0])), (bo, .inr (2, [.ref fa, .ref bbe, .ref bdi, .int 0, .int 0])), (fa, .inl (cI, 96, .inl (fun _ => 0))), (q_1, .inr (7, [.int (nI wn), .int (nI hn), .int 0, .int ((nI hn) - 1), .int 0, .int 0, .ref pt_2, .ref gx_3, .ref gf_4, .ref gy_5])), (pt_2, .inl (cT_6, 96, .inl (fun _ => 0)))] H := hP
            replace hD : va_D A [(ox, .inr (13, [.ref pl, .ref ru, .ref sh, .ref sp, .ref sl, .ref gr, .ref re, .ref pr, .ref ga, .ref rp, .ref bo, .int 0])), (pl, .inr (1, [.int 0, .ref de, .int 0])), (ru, .inr (1, [.int 0, .ref de, .int 0])), (sh, .inr (1, [.int 0, .ref de, .int 0])), (sp, .inl (cP, 6, .inr (.inr (.inr (.inr (fun _ => none)))))), (ga, .inr (5, [.ref gpl, .ref gin, .int (-1), .int 0, .int 112, .int 0])), (bo, .inr (2, [.ref fa, .ref bbe, .ref bdi, .int 0, .int 0])), (fa, .inl (cI, 96, .inl (fun _ => 0))), (q_1, .inr (7, [.int (nI wn), .int (nI hn), .int 0, .int ((nI hn) - 1), .int 0, .int 0, .ref pt_2, .ref gx_3, .ref gf_4, .ref gy_5])), (pt_2, .inl (cT_6, 96, .inl (fun _ => 0)))] := hD
            refine lv_aload hx hb dX11_level_69 (lv_at hl 0 rfl) ?_
            refine lv_iconst (v := 0) hx hb dX11_level_71 (by decide) ?_
            refine lv_iconst (v := 0) hx hb dX11_level_72 (by decide) ?_
            refine lv_iload_n hx hb dX11_level_73 rfl (lv_at hl 2 rfl) ?_
            refine lv_iload_n hx hb dX11_level_74 rfl (lv_at hl 3 rfl) ?_
            refine lv_iload_n hx hb dX11_level_75 rfl (lv_at hl 4 rfl) ?_
            have hPc := hP.sub (ws' := [(q_1, .inr (7, [.int (nI wn), .int (nI hn), .int 0, .int ((nI hn) - 1), .int 0, .int 0, .ref pt_2, .ref gx_3, .ref gf_4, .ref gy_5])), (pt_2, .inl (cT_6, 96, .inl (fun _ => 0)))]) [8, 9] rfl
            have hDc := hD.sub (ws' := [(q_1, .inr (7, [.int (nI wn), .int (nI hn), .int 0, .int ((nI hn) - 1), .int 0, .int 0, .ref pt_2, .ref gx_3, .ref gf_4, .ref gy_5])), (pt_2, .inl (cT_6, 96, .inl (fun _ => 0)))]) [8, 9] (by decide) rfl
            have hKc := hK.sub (tys' := [(cT_6, .char)]) [2] rfl
            have hFc := va_free (wc := [(q_1, .inr (7, [.int (nI wn), .int (nI hn), .int 0, .int ((nI hn) - 1), .int 0, .int 0, .ref pt_2, .ref gx_3, .ref gf_4, .ref gy_5])), (pt_2, .inl (cT_6, 96, .inl (fun _ => 0)))]) hD hS hA [8, 9] rfl
            refine va_calli (va_runV (As := [.int 0, .int 0, .int (nI wn), .int (nI hn), .int a3]) (rest := []) ⟨hx, hb, hml, hown, ht⟩ (c_X5_paint l dC dI de (q_1) (wn) (hn) (0) (((nI hn) - 1)) (0) (0) (pt_2) (gx_3) (gf_4) (gy_5) (cT_6) (fun _ => 0) (a3) H.size CH_0 hw1 hh1) (cwV 5 ht (gWV (wr_14 _ (List.mem_of_getElem? (i := 10) rfl)) (wr_14 _ (List.mem_of_getElem? (i := 11) rfl)) (wr_14 _ (List.mem_of_getElem? (i := 12) rfl)) (wr_3 _ (List.mem_of_getElem? (i := 22) rfl)) (wr_14 _ (List.mem_of_getElem? (i := 13) rfl))) rfl rfl rfl (by decide +kernel) ⟨Nat.le_of_ble_eq_true rfl, Nat.le_of_ble_eq_true rfl⟩) ⟨PW_blind, va_recv hKc hPc (ci := 7) (q0 := 0) rfl rfl, PW_call hPc hDc hKc hS hG hFc⟩ rfl rfl hl.1 rfl (lv_room (Nat.le_of_ble_eq_true rfl)) dX11_level_76 ⟨Nat.le_of_ble_eq_true rfl, Nat.le_of_ble_eq_true rfl⟩) hS (fun q _ h => hFc q h) hFc (fun r_76 u t H1 locs ht9 hvm hw hB hz1 hk1 hS => ?_)
            obtain ⟨f2_7, rfl⟩ : ∃ z, z = u := ⟨_, rfl⟩
            obtain ⟨hP1, hK1, hD1⟩ := hB
            rw [ht9] at hP1
            have hK1 := va_K.moved hvm.symm hK1
            obtain ⟨hP, hD⟩ := va_join (wr := [(ox, .inr (13, [.ref pl, .ref ru, .ref sh, .ref sp, .ref sl, .ref gr, .ref re, .ref pr, .ref ga, .ref rp, .ref bo, .int 0])), (pl, .inr (1, [.int 0, .ref de, .int 0])), (ru, .inr (1, [.int 0, .ref de, .int 0])), (sh, .inr (1, [.int 0, .ref de, .int 0])), (sp, .inl (cP, 6, .inr (.inr (.inr (.inr (fun _ => none)))))), (ga, .inr (5, [.ref gpl, .ref gin, .int (-1), .int 0, .int 112, .int 0])), (bo, .inr (2, [.ref fa, .ref bbe, .ref bdi, .int 0, .int 0])), (fa, .inl (cI, 96, .inl (fun _ => 0)))]) (w1 := [(q_1, .inr (7, [.int (nI wn), .int (nI hn), .int 0, .int ((nI hn) - 1), .int 0, .int 0, .ref pt_2, .ref gx_3, .ref gf_4, .ref gy_5])), (pt_2, .inl (cT_6, 96, .inl (f2_7)))]) hP hD [8, 9] [0, 1, 2, 3, 4, 5, 6, 7] rfl rfl (by decide) (by decide) hk1 hFc hP1 hD1
            have hK := (hK.sub (tys' := [(cP, .object "Levelsmith$Player"), (cI, .int)]) [0, 1] rfl).app hK1
            generalize H1 = H at hP hS ⊢
            replace hP : va_P (dC, dI) vwCl [(ox, .inr (13, [.ref pl, .ref ru, .ref sh, .ref sp, .ref sl, .ref gr, .ref re, .ref pr, .ref ga, .ref rp, .ref bo, .int 0])), (pl, .inr (1, [.int 0, .ref de, .int 0])), (ru, .inr (1, [.int 0, .ref de, .int 0])), (sh, .inr (1, [.int 0, .ref de, .int 0])), (sp, .inl (cP, 6, .inr (.inr (.inr (.inr (fun _ => none)))))), (ga, .inr (5, [.ref gpl, .ref gin, .int (-1), .int 0, .int 112, .int 0])), (bo, .inr (2, [.ref fa, .ref bbe, .ref bdi, .int 0, .int 0])), (fa, .inl (cI, 96, .inl (fun _ => 0))), (q_1, .inr (7, [.int (nI wn), .int (nI hn), .int 0, .int ((nI hn) - 1), .int 0, .int 0, .ref pt_2, .ref gx_3, .ref gf_4, .ref gy_5])), (pt_2, .inl (cT_6, 96, .inl (f2_7)))] H := hP
            replace hD : va_D A [(ox, .inr (13, [.ref pl, .ref ru, .ref sh, .ref sp, .ref sl, .ref gr, .ref re, .ref pr, .ref ga, .ref rp, .ref bo, .int 0])), (pl, .inr (1, [.int 0, .ref de, .int 0])), (ru, .inr (1, [.int 0, .ref de, .int 0])), (sh, .inr (1, [.int 0, .ref de, .int 0])), (sp, .inl (cP, 6, .inr (.inr (.inr (.inr (fun _ => none)))))), (ga, .inr (5, [.ref gpl, .ref gin, .int (-1), .int 0, .int 112, .int 0])), (bo, .inr (2, [.ref fa, .ref bbe, .ref bdi, .int 0, .int 0])), (fa, .inl (cI, 96, .inl (fun _ => 0))), (q_1, .inr (7, [.int (nI wn), .int (nI hn), .int 0, .int ((nI hn) - 1), .int 0, .int 0, .ref pt_2, .ref gx_3, .ref gf_4, .ref gy_5])), (pt_2, .inl (cT_6, 96, .inl (f2_7)))] := hD
            have hK : va_K (dC, dI) vwCl [(cP, .object "Levelsmith$Player"), (cI, .int), (cT_6, .char)] s := hK
            have hw_76 := hw
            refine lv_pop hx hb dX11_level_79 rfl ?_
            refine lv_aload_n hx hb dX11_level_80 rfl (lv_at hl 1 rfl) ?_
            refine va_get (D := (dC, dI)) (ci := 13) (v := .ref pl) (C := RX11) (T := TX11) (N := 12) hx hb ht inlX11 hown hK hP 0 rfl rfl 0 (by decide) (ht _ (wr_1 _ (List.mem_of_getElem? (i := 17) rfl))) (fun _ h9 => h9) rfl dX11_level_81 ?_
            refine lv_aload hx hb dX11_level_84 (lv_at hl 0 rfl) ?_
            have hPc := hP.sub (ws' := [(pl, .inr (1, [.int 0, .ref de, .int 0])), (q_1, .inr (7, [.int (nI wn), .int (nI hn), .int 0, .int ((nI hn) - 1), .int 0, .int 0, .ref pt_2, .ref gx_3, .ref gf_4, .ref gy_5]))]) [1, 8] rfl
            have hDc := hD.sub (ws' := [(pl, .inr (1, [.int 0, .ref de, .int 0])), (q_1, .inr (7, [.int (nI wn), .int (nI hn), .int 0, .int ((nI hn) - 1), .int 0, .int 0, .ref pt_2, .ref gx_3, .ref gf_4, .ref gy_5]))]) [1, 8] (by decide) rfl
            have hKc := hK.sub (tys' := []) [] rfl
            have hFc := va_free (wc := [(pl, .inr (1, [.int 0, .ref de, .int 0])), (q_1, .inr (7, [.int (nI wn), .int (nI hn), .int 0, .int ((nI hn) - 1), .int 0, .int 0, .ref pt_2, .ref gx_3, .ref gf_4, .ref gy_5]))]) hD hS hA [1, 8] rfl
            refine va_calli (va_runV (As := [.ref q_1]) (rest := []) ⟨hx, hb, hml, hown, ht⟩ (c_addP l dC dI de (pl) (0) (q_1) (.int (nI wn)) (.int (nI hn)) (.int 0) (.int ((nI hn) - 1)) (.int 0) (.int 0) (.ref pt_2) (.ref gx_3) (.ref gf_4) (.ref gy_5) H.size) (cwV 1 ht (gWV (wr_15 _ (List.mem_of_getElem? (i := 2) rfl)) (wr_15 _ (List.mem_of_getElem? (i := 3) rfl)) (wr_15 _ (List.mem_of_getElem? (i := 4) rfl)) (wr_1 _ (List.mem_of_getElem? (i := 16) rfl)) (wr_15 _ (List.mem_of_getElem? (i := 5) rfl))) rfl rfl rfl (by decide +kernel) ⟨Nat.le_of_ble_eq_true rfl, Nat.le_of_ble_eq_true rfl⟩) ⟨PW_blind, va_recv hKc hPc (ci := 1) (q0 := 0) rfl rfl, PW_call hPc hDc hKc hS hG hFc⟩ rfl rfl hl.1 rfl (lv_room (Nat.le_of_ble_eq_true rfl)) dX11_level_86 ⟨Nat.le_of_ble_eq_true rfl, Nat.le_of_ble_eq_true rfl⟩) hS (fun q _ h => hFc q h) hFc (fun r_86 u t H1 locs ht9 hvm hw hB hz1 hk1 hS => ?_)
            obtain ⟨m2_8, d2_9, hP1, hK1, hD1⟩ := hB
            rw [ht9] at hP1
            have hK1 := va_K.moved hvm.symm hK1
            obtain ⟨hP, hD⟩ := va_join (wr := [(ox, .inr (13, [.ref pl, .ref ru, .ref sh, .ref sp, .ref sl, .ref gr, .ref re, .ref pr, .ref ga, .ref rp, .ref bo, .int 0])), (ru, .inr (1, [.int 0, .ref de, .int 0])), (sh, .inr (1, [.int 0, .ref de, .int 0])), (sp, .inl (cP, 6, .inr (.inr (.inr (.inr (fun _ => none)))))), (ga, .inr (5, [.ref gpl, .ref gin, .int (-1), .int 0, .int 112, .int 0])), (bo, .inr (2, [.ref fa, .ref bbe, .ref bdi, .int 0, .int 0])), (fa, .inl (cI, 96, .inl (fun _ => 0))), (pt_2, .inl (cT_6, 96, .inl (f2_7)))]) (w1 := [(pl, .inr (1, [.int m2_8, .ref d2_9, .int 1]))]) hP hD [1, 8] [0, 2, 3, 4, 5, 6, 7, 9] rfl rfl (by decide) (by decide) hk1 hFc hP1 hD1
            have hK := (hK.sub (tys' := [(cP, .object "Levelsmith$Player"), (cI, .int), (cT_6, .char)]) [0, 1, 2] rfl).app hK1
            generalize H1 = H at hP hS ⊢
            replace hP : va_P (dC, dI) vwCl [(ox, .inr (13, [.ref pl, .ref ru, .ref sh, .ref sp, .ref sl, .ref gr, .ref re, .ref pr, .ref ga, .ref rp, .ref bo, .int 0])), (ru, .inr (1, [.int 0, .ref de, .int 0])), (sh, .inr (1, [.int 0, .ref de, .int 0])), (sp, .inl (cP, 6, .inr (.inr (.inr (.inr (fun _ => none)))))), (ga, .inr (5, [.ref gpl, .ref gin, .int (-1), .int 0, .int 112, .int 0])), (bo, .inr (2, [.ref fa, .ref bbe, .ref bdi, .int 0, .int 0])), (fa, .inl (cI, 96, .inl (fun _ => 0))), (pt_2, .inl (cT_6, 96, .inl (f2_7))), (pl, .inr (1, [.int m2_8, .ref d2_9, .int 1]))] H := hP
            replace hD : va_D A [(ox, .inr (13, [.ref pl, .ref ru, .ref sh, .ref sp, .ref sl, .ref gr, .ref re, .ref pr, .ref ga, .ref rp, .ref bo, .int 0])), (ru, .inr (1, [.int 0, .ref de, .int 0])), (sh, .inr (1, [.int 0, .ref de, .int 0])), (sp, .inl (cP, 6, .inr (.inr (.inr (.inr (fun _ => none)))))), (ga, .inr (5, [.ref gpl, .ref gin, .int (-1), .int 0, .int 112, .int 0])), (bo, .inr (2, [.ref fa, .ref bbe, .ref bdi, .int 0, .int 0])), (fa, .inl (cI, 96, .inl (fun _ => 0))), (pt_2, .inl (cT_6, 96, .inl (f2_7))), (pl, .inr (1, [.int m2_8, .ref d2_9, .int 1]))] := hD
            have hK : va_K (dC, dI) vwCl [(cP, .object "Levelsmith$Player"), (cI, .int), (cT_6, .char)] s := hK
            refine W.widen (k := 7) (n := 131) (Nat.le_of_ble_eq_true rfl) (Nat.le_of_ble_eq_true rfl) ?_
            have e_86 : r_86 = 1 := hw
            subst e_86
            refine lv_pop hx hb dX11_level_89 rfl ?_
            refine lv_aload_n hx hb dX11_level_90 rfl (lv_at hl 1 rfl) ?_
            refine va_get (D := (dC, dI)) (ci := 13) (v := .ref pl) (C := RX11) (T := TX11) (N := 12) hx hb ht inlX11 hown hK hP 0 rfl rfl 0 (by decide) (ht _ (wr_1 _ (List.mem_of_getElem? (i := 17) rfl))) (fun _ h9 => h9) rfl dX11_level_91 ?_
            have hPc := hP.sub (ws' := [(pl, .inr (1, [.int m2_8, .ref d2_9, .int 1]))]) [8] rfl
            have hDc := hD.sub (ws' := [(pl, .inr (1, [.int m2_8, .ref d2_9, .int 1]))]) [8] (by decide) rfl
            have hKc := hK.sub (tys' := []) [] rfl
            have hFc := va_free (wc := [(pl, .inr (1, [.int m2_8, .ref d2_9, .int 1]))]) hD hS hA [8] rfl
            refine va_calli (va_runV (As := []) (rest := []) ⟨hx, hb, hml, hown, ht⟩ (c_Jx4a65c_size_8abf5 l dC dI de (pl) (m2_8) (.ref d2_9) (1) H.size) (cwV 0 ht (gWV (wr_14 _ (List.mem_of_getElem? (i := 5) rfl)) (wr_14 _ (List.mem_of_getElem? (i := 6) rfl)) (wr_14 _ (List.mem_of_getElem? (i := 7) rfl)) (wr_1 _ (List.mem_of_getElem? (i := 16) rfl)) (wr_14 _ (List.mem_of_getElem? (i := 8) rfl))) rfl rfl rfl (by decide +kernel) ⟨Nat.le_of_ble_eq_true rfl, Nat.le_of_ble_eq_true rfl⟩) ⟨PW_blind, va_recv hKc hPc (ci := 1) (q0 := 0) rfl rfl, PW_call hPc hDc hKc hS hG hFc⟩ rfl rfl hl.1 rfl (lv_room (Nat.le_of_ble_eq_true rfl)) dX11_level_94 ⟨Nat.le_of_ble_eq_true rfl, Nat.le_of_ble_eq_true rfl⟩) hS (fun q _ h => hFc q h) hFc (fun r_94 u t H1 locs ht9 hvm hw hB hz1 hk1 hS => ?_)
            obtain ⟨hP1, hK1, hD1⟩ := hB
            rw [ht9] at hP1
            have hK1 := va_K.moved hvm.symm hK1
            obtain ⟨hP, hD⟩ := va_join (wr := [(ox, .inr (13, [.ref pl, .ref ru, .ref sh, .ref sp, .ref sl, .ref gr, .ref re, .ref pr, .ref ga, .ref rp, .ref bo, .int 0])), (ru, .inr (1, [.int 0, .ref de, .int 0])), (sh, .inr (1, [.int 0, .ref de, .int 0])), (sp, .inl (cP, 6, .inr (.inr (.inr (.inr (fun _ => none)))))), (ga, .inr (5, [.ref gpl, .ref gin, .int (-1), .int 0, .int 112, .int 0])), (bo, .inr (2, [.ref fa, .ref bbe, .ref bdi, .int 0, .int 0])), (fa, .inl (cI, 96, .inl (fun _ => 0))), (pt_2, .inl (cT_6, 96, .inl (f2_7)))]) (w1 := [(pl, .inr (1, [.int m2_8, .ref d2_9, .int 1]))]) hP hD [8] [0, 1, 2, 3, 4, 5, 6, 7] rfl rfl (by decide) (by decide) hk1 hFc hP1 hD1
            have hK := (hK.sub (tys' := [(cP, .object "Levelsmith$Player"), (cI, .int), (cT_6, .char)]) [0, 1, 2] rfl).app hK1
            generalize H1 = H at hP hS ⊢
            replace hP : va_P (dC, dI) vwCl [(ox, .inr (13, [.ref pl, .ref ru, .ref sh, .ref sp, .ref sl, .ref gr, .ref re, .ref pr, .ref ga, .ref rp, .ref bo, .int 0])), (ru, .inr (1, [.int 0, .ref de, .int 0])), (sh, .inr (1, [.int 0, .ref de, .int 0])), (sp, .inl (cP, 6, .inr (.inr (.inr (.inr (fun _ => none)))))), (ga, .inr (5, [.ref gpl, .ref gin, .int (-1), .int 0, .int 112, .int 0])), (bo, .inr (2, [.ref fa, .ref bbe, .ref bdi, .int 0, .int 0])), (fa, .inl (cI, 96, .inl (fun _ => 0))), (pt_2, .inl (cT_6, 96, .inl (f2_7))), (pl, .inr (1, [.int m2_8, .ref d2_9, .int 1]))] H := hP
            replace hD : va_D A [(ox, .inr (13, [.ref pl, .ref ru, .ref sh, .ref sp, .ref sl, .ref gr, .ref re, .ref pr, .ref ga, .ref rp, .ref bo, .int 0])), (ru, .inr (1, [.int 0, .ref de, .int 0])), (sh, .inr (1, [.int 0, .ref de, .int 0])), (sp, .inl (cP, 6, .inr (.inr (.inr (.inr (fun _ => none)))))), (ga, .inr (5, [.ref gpl, .ref gin, .int (-1), .int 0, .int 112, .int 0])), (bo, .inr (2, [.ref fa, .ref bbe, .ref bdi, .int 0, .int 0])), (fa, .inl (cI, 96, .inl (fun _ => 0))), (pt_2, .inl (cT_6, 96, .inl (f2_7))), (pl, .inr (1, [.int m2_8, .ref d2_9, .int 1]))] := hD
            have hK : va_K (dC, dI) vwCl [(cP, .object "Levelsmith$Player"), (cI, .int), (cT_6, .char)] s := hK
            have e_94 : r_94 = 1 := hw
            subst e_94
            refine lv_iconst (v := 1) hx hb dX11_level_97 (by decide) ?_
            refine lv_isub hx hb dX11_level_98 ?_
            refine lv_topi (fun y ey => ?_)
            replace ey : y = 0 := ey.trans (by decide)
            subst ey
            have hP9 := hP.sub (ws' := []) [] rfl
            have hD9 := hD.sub (ws' := []) [] (by decide) rfl
            have hK9 := hK.sub (tys' := []) [] rfl
            exact vx_ret (W.iret (v := 0) hx hb hr (fun t htt hW => have ht := htt; ⟨⟨0, (), rfl, ⟨rfl, ⟨⟨i_nlt2 c_2, i_nlt2 c_8⟩, ⟨i_nlt2 c_13, c_19⟩, hw_33⟩⟩, QW_of ht hW hP9 hK9 hD9⟩, hS.F ht⟩) hS.2.2 dX11_level_99)
        · obtain ⟨sa, hstr⟩ := hG.2.1 (76, "a number is out of range") (List.mem_of_getElem? (i := 1) rfl)
          exact vx_throwS hx hb hlt hown (by decide) (by decide) (ht _ (wr_9 _ (List.mem_of_getElem? (i := 21) rfl))) (ht _ (wr_9 _ (List.mem_of_getElem? (i := 22) rfl))) hstr (vx_hat (fun w h => ht w (wx_0 w h)) te_0 (gx_bad hG (X := "java/lang/IllegalArgumentException") (List.mem_of_getElem? (i := 1) rfl))) tg_0 hG.1.1 hG.1.2.1 hS (by rw [hml]; exact hl.1) dX11_level_22 dX11_level_25 dX11_level_26 dX11_level_28 dX11_level_31 (fun x hx => (hex x hx).elim) (Nat.le_of_ble_eq_true rfl) (Nat.le_of_ble_eq_true rfl) (Nat.le_of_ble_eq_true rfl) (Nat.le_of_ble_eq_true rfl) hlocks (fun t hv9 h1 h2 => XX_of ⟨rfl, fun h => c_19 h.2.1.2⟩ hS hA h1 h2) hS.2.2 (Nat.le_of_ble_eq_true rfl) (Nat.le_of_ble_eq_true rfl)
set_option maxHeartbeats 4000000 in
set_option maxRecDepth 100000 in
theorem c_X18_level (l : Launch) (dC : Nat → ClassId) (dI : Nat → Nat → Nat) (de : Nat) (om : Nat) (mt : Nat) (qu : Nat) (lv : Nat) (mi : Nat) (ml : Nat) (mss : Nat) (rn : Nat) (sw : Nat) (mf : Nat) (msp : Nat) (cS : ClassId) (cF : ClassId) (th : Int32) (a1 : Int32) (a2 : Int32) (a3 : Int32) (sz : Nat) : Met l yX18_level (.code yX18_level cX18_level 4 (some .int) :: wsL_law) { frames := 5, cells := 4, slots := 117, locals := 127 } (va_Pc [.ref om, .int a1, .int a2, .int a3] (PW dC dI de [(cS, .int), (cF, .int)] (WM om mt qu lv mi ml mss rn sw mf msp cS cF th de) sz)) (va_Qi (fun (r : Int32) (th2 : Int32) => (th2 = 1 ∧ ¬ VW a1 a2 a3) ∨ (th2 = 0 ∧ VW a1 a2 a3 ∧ r = 0)) (fun (th2 : Int32) (t : State) => QW dC dI [] [(om, .inr (20, [.ref mt, .ref qu, .int 0, .int th2, .ref lv, .int (-1), .int 0, .int 0, .ref mi, .int 0, .int 0, .int 0, .int 0, .ref ml, .ref mss, .ref rn, .ref sw, .ref mf, .null, .int 0, .ref msp, .int 0, .int 0, .int 0]))] (va_A (WM om mt qu lv mi ml mss rn sw mf msp cS cF th de) sz) t) (va_A (WM om mt qu lv mi ml mss rn sw mf msp cS cF th de) sz)) 4 117 (va_A (WM om mt qu lv mi ml mss rn sw mf msp cS cF th de) sz) := by
  refine Met.ofW (cc := cX18_level) (maxL := 4) (ret := (some .int)) (by decide) rfl ?_
  intro p e s m args below meth c s₁ B hml hv
  obtain ⟨rfl, hsz, hP, hK, hD0, hG⟩ := hv
  have hx := B.exec
  have hb := B.bytes
  have hr := B.returns
  have hts := atoms_spec (ws := .code yX18_level cX18_level 4 (some .int) :: wsL_law) B.pre
  have ht : ∀ w ∈ wsL_law, w.before _ s = true := fun w h => hts w (List.mem_cons_of_mem _ h)
  have hown : s.vm.findClass RX18 = some m.cls := findClass_of_methodNamed B.named
  have hlocks := B.notSynchronized
  subst hsz
  have hD := hD0.self (sz := s.heap.size)
  generalize hAe : va_A (WM om mt qu lv mi ml mss rn sw mf msp cS cF th de) s.heap.size = A at hD hG ⊢
  have hA : ∀ q : Nat, s.heap.size ≤ q → A q := fun q h => by rw [← hAe]; exact Or.inr h
  have hS : va_S A s.heap s.heap [] := va_S.rf
  have hP : va_P (dC, dI) vwCl [(om, .inr (20, [.ref mt, .ref qu, .int 0, .int th, .ref lv, .int (-1), .int 0, .int 0, .ref mi, .int 0, .int 0, .int 0, .int 0, .ref ml, .ref mss, .ref rn, .ref sw, .ref mf, .null, .int 0, .ref msp, .int 0, .int 0, .int 0])), (lv, .inr (1, [.int 0, .ref de, .int 0])), (rn, .inr (1, [.int 0, .ref de, .int 0])), (sw, .inr (1, [.int 0, .ref de, .int 0])), (ml, .inl (cS, 6, .inl (slotF))), (mf, .inl (cF, 96, .inl (fun _ => 0)))] s.heap := hP
  have hD : va_D A [(om, .inr (20, [.ref mt, .ref qu, .int 0, .int th, .ref lv, .int (-1), .int 0, .int 0, .ref mi, .int 0, .int 0, .int 0, .int 0, .ref ml, .ref mss, .ref rn, .ref sw, .ref mf, .null, .int 0, .ref msp, .int 0, .int 0, .int 0])), (lv, .inr (1, [.int 0, .ref de, .int 0])), (rn, .inr (1, [.int 0, .ref de, .int 0])), (sw, .inr (1, [.int 0, .ref de, .int 0])), (ml, .inl (cS, 6, .inl (slotF))), (mf, .inl (cF, 96, .inl (fun _ => 0)))] := hD
  have hl := lv_entry ([.ref om, .int a1, .int a2, .int a3]) (n := 4) (Nat.le_of_ble_eq_true rfl)
  rw [lg_entry_eq]
  generalize (lg_sl ([.ref om, .int a1, .int a2, .int a3]) ++ List.replicate (4 - (lg_sl ([.ref om, .int a1, .int a2, .int a3])).length) Slot.unset).toArray = ls at hl ⊢
  have hl : lv_has ls 4 [(0, .ref om), (1, .int a1), (2, .int a2), (3, .int a3)] := hl
  refine lv_aload_n hx hb dX18_level_0 rfl (lv_at hl 0 rfl) ?_
  refine lv_iload_n hx hb dX18_level_1 rfl (lv_at hl 1 rfl) ?_
  refine lv_iconst (v := 3) hx hb dX18_level_2 (by decide) ?_
  refine lv_bipush (v := 12) hx hb dX18_level_3 (by decide) ?_
  have hPc := hP.sub (ws' := []) [] rfl
  have hDc := hD.sub (ws' := []) [] (by decide) rfl
  have hKc := hK.sub (tys' := []) [] rfl
  have hFc := va_free (wc := []) hD hS hA [] rfl
  refine va_calli (va_runS (As := [.int a1, .int 3, .int 12]) (rest := [.ref om]) ⟨hx, hb, hml, hown, ht⟩ (c_X18_in l dC dI de (a1) (3) (12) s.heap.size) (cwS 3 ht (gWS (wr_17 _ (List.mem_of_getElem? (i := 9) rfl)) (wr_17 _ (List.mem_of_getElem? (i := 10) rfl)) (wr_1 _ (List.mem_of_getElem? (i := 5) rfl)) (wr_17 _ (List.mem_of_getElem? (i := 11) rfl))) rfl rfl rfl (by decide +kernel) ⟨Nat.le_of_ble_eq_true rfl, Nat.le_of_ble_eq_true rfl⟩) ⟨PW_blind, PW_call hPc hDc hKc hS hG hFc⟩ rfl rfl hl.1 rfl (lv_room (Nat.le_of_ble_eq_true rfl)) dX18_level_5 ⟨Nat.le_of_ble_eq_true rfl, Nat.le_of_ble_eq_true rfl⟩) hS (fun q _ h => hFc q h) hFc (fun r_5 u t H1 locs ht9 hvm hw hB hz1 hk1 hS => ?_)
  obtain ⟨hP1, hK1, hD1⟩ := hB
  rw [ht9] at hP1
  have hK1 := va_K.moved hvm.symm hK1
  obtain ⟨hP, hD⟩ := va_join (wr := [(om, .inr (20, [.ref mt, .ref qu, .int 0, .int th, .ref lv, .int (-1), .int 0, .int 0, .ref mi, .int 0, .int 0, .int 0, .int 0, .ref ml, .ref mss, .ref rn, .ref sw, .ref mf, .null, .int 0, .ref msp, .int 0, .int 0, .int 0])), (lv, .inr (1, [.int 0, .ref de, .int 0])), (rn, .inr (1, [.int 0, .ref de, .int 0])), (sw, .inr (1, [.int 0, .ref de, .int 0])), (ml, .inl (cS, 6, .inl (slotF))), (mf, .inl (cF, 96, .inl (fun _ => 0)))]) (w1 := []) hP hD [] [0, 1, 2, 3, 4, 5] rfl rfl (by decide) (by decide) hk1 hFc hP1 hD1
  have hK := (hK.sub (tys' := [(cS, .int), (cF, .int)]) [0, 1] rfl).app hK1
  generalize H1 = H at hP hS ⊢
  replace hP : va_P (dC, dI) vwCl [(om, .inr (20, [.ref mt, .ref qu, .int 0, .int th, .ref lv, .int (-1), .int 0, .int 0, .ref mi, .int 0, .int 0, .int 0, .int 0, .ref ml, .ref mss, .ref rn, .ref sw, .ref mf, .null, .int 0, .ref msp, .int 0, .int 0, .int 0])), (lv, .inr (1, [.int 0, .ref de, .int 0])), (rn, .inr (1, [.int 0, .ref de, .int 0])), (sw, .inr (1, [.int 0, .ref de, .int 0])), (ml, .inl (cS, 6, .inl (slotF))), (mf, .inl (cF, 96, .inl (fun _ => 0)))] H := hP
  replace hD : va_D A [(om, .inr (20, [.ref mt, .ref qu, .int 0, .int th, .ref lv, .int (-1), .int 0, .int 0, .ref mi, .int 0, .int 0, .int 0, .int 0, .ref ml, .ref mss, .ref rn, .ref sw, .ref mf, .null, .int 0, .ref msp, .int 0, .int 0, .int 0])), (lv, .inr (1, [.int 0, .ref de, .int 0])), (rn, .inr (1, [.int 0, .ref de, .int 0])), (sw, .inr (1, [.int 0, .ref de, .int 0])), (ml, .inl (cS, 6, .inl (slotF))), (mf, .inl (cF, 96, .inl (fun _ => 0)))] := hD
  have hK : va_K (dC, dI) vwCl [(cS, .int), (cF, .int)] s := hK
  rcases hw with ⟨rfl, m_5⟩ | ⟨rfl, m_5⟩
  · refine lv_if_eq (tgt := 28) hx hb dX18_level_8 (by decide) (fun c_8 => absurd c_8 (by decide)) (fun c_8 => ?_)
    refine lv_iload_n hx hb dX18_level_11 rfl (lv_at hl 2 rfl) ?_
    refine lv_iconst (v := 3) hx hb dX18_level_12 (by decide) ?_
    refine lv_bipush (v := 8) hx hb dX18_level_13 (by decide) ?_
    have hPc := hP.sub (ws' := []) [] rfl
    have hDc := hD.sub (ws' := []) [] (by decide) rfl
    have hKc := hK.sub (tys' := []) [] rfl
    have hFc := va_free (wc := []) hD hS hA [] rfl
    refine va_calli (va_runS (As := [.int a2, .int 3, .int 8]) (rest := [.ref om]) ⟨hx, hb, hml, hown, ht⟩ (c_X18_in l dC dI de (a2) (3) (8) H.size) (cwS 3 ht (gWS (wr_17 _ (List.mem_of_getElem? (i := 9) rfl)) (wr_17 _ (List.mem_of_getElem? (i := 10) rfl)) (wr_1 _ (List.mem_of_getElem? (i := 5) rfl)) (wr_17 _ (List.mem_of_getElem? (i := 11) rfl))) rfl rfl rfl (by decide +kernel) ⟨Nat.le_of_ble_eq_true rfl, Nat.le_of_ble_eq_true rfl⟩) ⟨PW_blind, PW_call hPc hDc hKc hS hG hFc⟩ rfl rfl hl.1 rfl (lv_room (Nat.le_of_ble_eq_true rfl)) dX18_level_15 ⟨Nat.le_of_ble_eq_true rfl, Nat.le_of_ble_eq_true rfl⟩) hS (fun q _ h => hFc q h) hFc (fun r_15 u t H1 locs ht9 hvm hw hB hz1 hk1 hS => ?_)
    obtain ⟨hP1, hK1, hD1⟩ := hB
    rw [ht9] at hP1
    have hK1 := va_K.moved hvm.symm hK1
    obtain ⟨hP, hD⟩ := va_join (wr := [(om, .inr (20, [.ref mt, .ref qu, .int 0, .int th, .ref lv, .int (-1), .int 0, .int 0, .ref mi, .int 0, .int 0, .int 0, .int 0, .ref ml, .ref mss, .ref rn, .ref sw, .ref mf, .null, .int 0, .ref msp, .int 0, .int 0, .int 0])), (lv, .inr (1, [.int 0, .ref de, .int 0])), (rn, .inr (1, [.int 0, .ref de, .int 0])), (sw, .inr (1, [.int 0, .ref de, .int 0])), (ml, .inl (cS, 6, .inl (slotF))), (mf, .inl (cF, 96, .inl (fun _ => 0)))]) (w1 := []) hP hD [] [0, 1, 2, 3, 4, 5] rfl rfl (by decide) (by decide) hk1 hFc hP1 hD1
    have hK := (hK.sub (tys' := [(cS, .int), (cF, .int)]) [0, 1] rfl).app hK1
    generalize H1 = H at hP hS ⊢
    replace hP : va_P (dC, dI) vwCl [(om, .inr (20, [.ref mt, .ref qu, .int 0, .int th, .ref lv, .int (-1), .int 0, .int 0, .ref mi, .int 0, .int 0, .int 0, .int 0, .ref ml, .ref mss, .ref rn, .ref sw, .ref mf, .null, .int 0, .ref msp, .int 0, .int 0, .int 0])), (lv, .inr (1, [.int 0, .ref de, .int 0])), (rn, .inr (1, [.int 0, .ref de, .int 0])), (sw, .inr (1, [.int 0, .ref de, .int 0])), (ml, .inl (cS, 6, .inl (slotF))), (mf, .inl (cF, 96, .inl (fun _ => 0)))] H := hP
    replace hD : va_D A [(om, .inr (20, [.ref mt, .ref qu, .int 0, .int th, .ref lv, .int (-1), .int 0, .int 0, .ref mi, .int 0, .int 0, .int 0, .int 0, .ref ml, .ref mss, .ref rn, .ref sw, .ref mf, .null, .int 0, .ref msp, .int 0, .int 0, .int 0])), (lv, .inr (1, [.int 0, .ref de, .int 0])), (rn, .inr (1, [.int 0, .ref de, .int 0])), (sw, .inr (1, [.int 0, .ref de, .int 0])), (ml, .inl (cS, 6, .inl (slotF))), (mf, .inl (cF, 96, .inl (fun _ => 0)))] := hD
    have hK : va_K (dC, dI) vwCl [(cS, .int), (cF, .int)] s := hK
    rcases hw with ⟨rfl, m_15⟩ | ⟨rfl, m_15⟩
    · refine lv_if_eq (tgt := 28) hx hb dX18_level_18 (by decide) (fun c_18 => absurd c_18 (by decide)) (fun c_18 => ?_)
      refine lv_iload_n hx hb dX18_level_21 rfl (lv_at hl 3 rfl) ?_
      have hPc := hP.sub (ws' := []) [] rfl
      have hDc := hD.sub (ws' := []) [] (by decide) rfl
      have hKc := hK.sub (tys' := []) [] rfl
      have hFc := va_free (wc := []) hD hS hA [] rfl
      refine va_calli (va_runS (As := [.int a3]) (rest := [.ref om]) ⟨hx, hb, hml, hown, ht⟩ (c_X18_isTile l dC dI de (a3) H.size) (cwS 1 ht (gWS (wr_17 _ (List.mem_of_getElem? (i := 12) rfl)) (wr_17 _ (List.mem_of_getElem? (i := 13) rfl)) (wr_1 _ (List.mem_of_getElem? (i := 5) rfl)) (wr_17 _ (List.mem_of_getElem? (i := 14) rfl))) rfl rfl rfl (by decide +kernel) ⟨Nat.le_of_ble_eq_true rfl, Nat.le_of_ble_eq_true rfl⟩) ⟨PW_blind, PW_call hPc hDc hKc hS hG hFc⟩ rfl rfl hl.1 rfl (lv_room (Nat.le_of_ble_eq_true rfl)) dX18_level_22 ⟨Nat.le_of_ble_eq_true rfl, Nat.le_of_ble_eq_true rfl⟩) hS (fun q _ h => hFc q h) hFc (fun r_22 u t H1 locs ht9 hvm hw hB hz1 hk1 hS => ?_)
      obtain ⟨hP1, hK1, hD1⟩ := hB
      rw [ht9] at hP1
      have hK1 := va_K.moved hvm.symm hK1
      obtain ⟨hP, hD⟩ := va_join (wr := [(om, .inr (20, [.ref mt, .ref qu, .int 0, .int th, .ref lv, .int (-1), .int 0, .int 0, .ref mi, .int 0, .int 0, .int 0, .int 0, .ref ml, .ref mss, .ref rn, .ref sw, .ref mf, .null, .int 0, .ref msp, .int 0, .int 0, .int 0])), (lv, .inr (1, [.int 0, .ref de, .int 0])), (rn, .inr (1, [.int 0, .ref de, .int 0])), (sw, .inr (1, [.int 0, .ref de, .int 0])), (ml, .inl (cS, 6, .inl (slotF))), (mf, .inl (cF, 96, .inl (fun _ => 0)))]) (w1 := []) hP hD [] [0, 1, 2, 3, 4, 5] rfl rfl (by decide) (by decide) hk1 hFc hP1 hD1
      have hK := (hK.sub (tys' := [(cS, .int), (cF, .int)]) [0, 1] rfl).app hK1
      generalize H1 = H at hP hS ⊢
      replace hP : va_P (dC, dI) vwCl [(om, .inr (20, [.ref mt, .ref qu, .int 0, .int th, .ref lv, .int (-1), .int 0, .int 0, .ref mi, .int 0, .int 0, .int 0, .int 0, .ref ml, .ref mss, .ref rn, .ref sw, .ref mf, .null, .int 0, .ref msp, .int 0, .int 0, .int 0])), (lv, .inr (1, [.int 0, .ref de, .int 0])), (rn, .inr (1, [.int 0, .ref de, .int 0])), (sw, .inr (1, [.int 0, .ref de, .int 0])), (ml, .inl (cS, 6, .inl (slotF))), (mf, .inl (cF, 96, .inl (fun _ => 0)))] H := hP
      replace hD : va_D A [(om, .inr (20, [.ref mt, .ref qu, .int 0, .int th, .ref lv, .int (-1), .int 0, .int 0, .ref mi, .int 0, .int 0, .int 0, .int 0, .ref ml, .ref mss, .ref rn, .ref sw, .ref mf, .null, .int 0, .ref msp, .int 0, .int 0, .int 0])), (lv, .inr (1, [.int 0, .ref de, .int 0])), (rn, .inr (1, [.int 0, .ref de, .int 0])), (sw, .inr (1, [.int 0, .ref de, .int 0])), (ml, .inl (cS, 6, .inl (slotF))), (mf, .inl (cF, 96, .inl (fun _ => 0)))] := hD
      have hK : va_K (dC, dI) vwCl [(cS, .int), (cF, .int)] s := hK
      rcases hw with ⟨rfl, m_22⟩ | ⟨rfl, m_22⟩
      · refine lv_if_ne (tgt := 32) hx hb dX18_level_25 (by decide) (fun c_25 => ?_) (fun c_25 => absurd c_25 (by decide))
        refine lv_aload_n hx hb dX18_level_32 rfl (lv_at hl 0 rfl) ?_
        refine va_get (D := (dC, dI)) (ci := 20) (v := .ref lv) (C := RX18) (T := TX18) (N := 24) hx hb ht inlX18 hown hK hP 0 rfl rfl 4 (by decide) (ht _ (wr_8 _ (List.mem_of_getElem? (i := 7) rfl))) (fun _ h9 => h9) rfl dX18_level_33 ?_
        have hPc := hP.sub (ws' := [(lv, .inr (1, [.int 0, .ref de, .int 0]))]) [1] rfl
        have hDc := hD.sub (ws' := [(lv, .inr (1, [.int 0, .ref de, .int 0]))]) [1] (by decide) rfl
        have hKc := hK.sub (tys' := []) [] rfl
        have hFc := va_free (wc := [(lv, .inr (1, [.int 0, .ref de, .int 0]))]) hD hS hA [1] rfl
        refine va_calli (va_runV (As := []) (rest := [.ref om]) ⟨hx, hb, hml, hown, ht⟩ (c_Jx4a65c_size_8abf5 l dC dI de (lv) (0) (.ref de) (0) H.size) (cwV 0 ht (gWV (wr_17 _ (List.mem_of_getElem? (i := 16) rfl)) (wr_14 _ (List.mem_of_getElem? (i := 6) rfl)) (wr_14 _ (List.mem_of_getElem? (i := 7) rfl)) (wr_1 _ (List.mem_of_getElem? (i := 16) rfl)) (wr_14 _ (List.mem_of_getElem? (i := 8) rfl))) rfl rfl rfl (by decide +kernel) ⟨Nat.le_of_ble_eq_true rfl, Nat.le_of_ble_eq_true rfl⟩) ⟨PW_blind, va_recv hKc hPc (ci := 1) (q0 := 0) rfl rfl, PW_call hPc hDc hKc hS hG hFc⟩ rfl rfl hl.1 rfl (lv_room (Nat.le_of_ble_eq_true rfl)) dX18_level_36 ⟨Nat.le_of_ble_eq_true rfl, Nat.le_of_ble_eq_true rfl⟩) hS (fun q _ h => hFc q h) hFc (fun r_36 u t H1 locs ht9 hvm hw hB hz1 hk1 hS => ?_)
        obtain ⟨hP1, hK1, hD1⟩ := hB
        rw [ht9] at hP1
        have hK1 := va_K.moved hvm.symm hK1
        obtain ⟨hP, hD⟩ := va_join (wr := [(om, .inr (20, [.ref mt, .ref qu, .int 0, .int th, .ref lv, .int (-1), .int 0, .int 0, .ref mi, .int 0, .int 0, .int 0, .int 0, .ref ml, .ref mss, .ref rn, .ref sw, .ref mf, .null, .int 0, .ref msp, .int 0, .int 0, .int 0])), (rn, .inr (1, [.int 0, .ref de, .int 0])), (sw, .inr (1, [.int 0, .ref de, .int 0])), (ml, .inl (cS, 6, .inl (slotF))), (mf, .inl (cF, 96, .inl (fun _ => 0)))]) (w1 := [(lv, .inr (1, [.int 0, .ref de, .int 0]))]) hP hD [1] [0, 2, 3, 4, 5] rfl rfl (by decide) (by decide) hk1 hFc hP1 hD1
        have hK := (hK.sub (tys' := [(cS, .int), (cF, .int)]) [0, 1] rfl).app hK1
        generalize H1 = H at hP hS ⊢
        replace hP : va_P (dC, dI) vwCl [(om, .inr (20, [.ref mt, .ref qu, .int 0, .int th, .ref lv, .int (-1), .int 0, .int 0, .ref mi, .int 0, .int 0, .int 0, .int 0, .ref ml, .ref mss, .ref rn, .ref sw, .ref mf, .null, .int 0, .ref msp, .int 0, .int 0, .int 0])), (rn, .inr (1, [.int 0, .ref de, .int 0])), (sw, .inr (1, [.int 0, .ref de, .int 0])), (ml, .inl (cS, 6, .inl (slotF))), (mf, .inl (cF, 96, .inl (fun _ => 0))), (lv, .inr (1, [.int 0, .ref de, .int 0]))] H := hP
        replace hD : va_D A [(om, .inr (20, [.ref mt, .ref qu, .int 0, .int th, .ref lv, .int (-1), .int 0, .int 0, .ref mi, .int 0, .int 0, .int 0, .int 0, .ref ml, .ref mss, .ref rn, .ref sw, .ref mf, .null, .int 0, .ref msp, .int 0, .int 0, .int 0])), (rn, .inr (1, [.int 0, .ref de, .int 0])), (sw, .inr (1, [.int 0, .ref de, .int 0])), (ml, .inl (cS, 6, .inl (slotF))), (mf, .inl (cF, 96, .inl (fun _ => 0))), (lv, .inr (1, [.int 0, .ref de, .int 0]))] := hD
        have hK : va_K (dC, dI) vwCl [(cS, .int), (cF, .int)] s := hK
        have e_36 : r_36 = 0 := hw
        subst e_36
        refine lv_iconst (v := 5) hx hb dX18_level_39 (by decide) ?_
        refine lv_icmp_ne (tgt := 47) hx hb dX18_level_40 (by decide) (fun c_40 => ?_) (fun c_40 => absurd c_40 (by decide))
        refine lv_iconst (v := 0) hx hb dX18_level_47 (by decide) ?_
        refine va_put (D := (dC, dI)) (ci := 20) (v := .int 0) (ty := .int) (C := RX18) (T := TX18) (N := 24) hx hb ht inlX18 tyX18 tyX18_ok nmX18 hown hK hP hD hS 0 rfl rfl 3 (by decide) (ht _ (wr_17 _ (List.mem_of_getElem? (i := 5) rfl))) (fun _ h9 => h9) rfl (by decide +kernel) rfl rfl (Nat.le_of_ble_eq_true rfl) dX18_level_48 (fun H locs hP hD hS => ?_)
        replace hP : va_P (dC, dI) vwCl [(om, .inr (20, [.ref mt, .ref qu, .int 0, .int 0, .ref lv, .int (-1), .int 0, .int 0, .ref mi, .int 0, .int 0, .int 0, .int 0, .ref ml, .ref mss, .ref rn, .ref sw, .ref mf, .null, .int 0, .ref msp, .int 0, .int 0, .int 0])), (rn, .inr (1, [.int 0, .ref de, .int 0])), (sw, .inr (1, [.int 0, .ref de, .int 0])), (ml, .inl (cS, 6, .inl (slotF))), (mf, .inl (cF, 96, .inl (fun _ => 0))), (lv, .inr (1, [.int 0, .ref de, .int 0]))] H := hP
        replace hD : va_D A [(om, .inr (20, [.ref mt, .ref qu, .int 0, .int 0, .ref lv, .int (-1), .int 0, .int 0, .ref mi, .int 0, .int 0, .int 0, .int 0, .ref ml, .ref mss, .ref rn, .ref sw, .ref mf, .null, .int 0, .ref msp, .int 0, .int 0, .int 0])), (rn, .inr (1, [.int 0, .ref de, .int 0])), (sw, .inr (1, [.int 0, .ref de, .int 0])), (ml, .inl (cS, 6, .inl (slotF))), (mf, .inl (cF, 96, .inl (fun _ => 0))), (lv, .inr (1, [.int 0, .ref de, .int 0]))] := hD
        refine lv_aload_n hx hb dX18_level_51 rfl (lv_at hl 0 rfl) ?_
        refine va_get (D := (dC, dI)) (ci := 20) (v := .int 0) (C := RX18) (T := TX18) (N := 24) hx hb ht inlX18 hown hK hP 0 rfl rfl 3 (by decide) (ht _ (wr_17 _ (List.mem_of_getElem? (i := 5) rfl))) (fun _ h9 => h9) rfl dX18_level_52 ?_
        refine lv_if_le (tgt := 60) hx hb dX18_level_55 (by decide) (fun c_55 => ?_) (fun c_55 => absurd c_55 (by decide))
        refine lv_aload_n hx hb dX18_level_60 rfl (lv_at hl 0 rfl) ?_
        refine va_get (D := (dC, dI)) (ci := 20) (v := .ref lv) (C := RX18) (T := TX18) (N := 24) hx hb ht inlX18 hown hK hP 0 rfl rfl 4 (by decide) (ht _ (wr_8 _ (List.mem_of_getElem? (i := 7) rfl))) (fun _ h9 => h9) rfl dX18_level_61 ?_
        obtain ⟨wn, hw1, rfl⟩ := nat_of (lo := 3) (n := 12) (Lo := 3) (M := 12) (by decide) (by decide) m_5
        obtain ⟨hn, hh1, rfl⟩ := nat_of (lo := 3) (n := 8) (Lo := 3) (M := 8) (by decide) (by decide) m_15
        refine va_new (ci := 16) (fs := [.int 0, .int 0, .null, .int 0, .int 0, .null, .int 0, .int 0]) (C := RX14) (T := TX14) (N := 8) hx hb ht inlX14 tyX14 tyX14_ok hown (ht _ (wr_17 _ (List.mem_of_getElem? (i := 6) rfl))) (ht _ (wr_17 _ (List.mem_of_getElem? (i := 7) rfl))) (ht _ (wr_17 _ (List.mem_of_getElem? (i := 8) rfl))) hK hP hD hS hA rfl (fun j hj => match j, hj with | 0, _ => rfl | 1, _ => rfl | 2, _ => rfl | 3, _ => rfl | 4, _ => rfl | 5, _ => rfl | 6, _ => rfl | 7, _ => rfl | j + 8, h => absurd h (by omega)) (Nat.le_of_ble_eq_true rfl) (Nat.le_of_ble_eq_true rfl) dX18_level_64 (fun q_1 H hP hD hS => ?_)
        replace hP : va_P (dC, dI) vwCl [(om, .inr (20, [.ref mt, .ref qu, .int 0, .int 0, .ref lv, .int (-1), .int 0, .int 0, .ref mi, .int 0, .int 0, .int 0, .int 0, .ref ml, .ref mss, .ref rn, .ref sw, .ref mf, .null, .int 0, .ref msp, .int 0, .int 0, .int 0])), (rn, .inr (1, [.int 0, .ref de, .int 0])), (sw, .inr (1, [.int 0, .ref de, .int 0])), (ml, .inl (cS, 6, .inl (slotF))), (mf, .inl (cF, 96, .inl (fun _ => 0))), (lv, .inr (1, [.int 0, .ref de, .int 0])), (q_1, .inr (16, [.int 0, .int 0, .null, .int 0, .int 0, .null, .int 0, .int 0]))] H := hP
        replace hD : va_D A [(om, .inr (20, [.ref mt, .ref qu, .int 0, .int 0, .ref lv, .int (-1), .int 0, .int 0, .ref mi, .int 0, .int 0, .int 0, .int 0, .ref ml, .ref mss, .ref rn, .ref sw, .ref mf, .null, .int 0, .ref msp, .int 0, .int 0, .int 0])), (rn, .inr (1, [.int 0, .ref de, .int 0])), (sw, .inr (1, [.int 0, .ref de, .int 0])), (ml, .inl (cS, 6, .inl (slotF))), (mf, .inl (cF, 96, .inl (fun _ => 0))), (lv, .inr (1, [.int 0, .ref de, .int 0])), (q_1, .inr (16, [.int 0, .int 0, .null, .int 0, .int 0, .null, .int 0, .int 0]))] := hD
        refine W.widen (k := 1) (n := 8) (Nat.le_of_ble_eq_true rfl) (Nat.le_of_ble_eq_true rfl) ?_
        refine lv_dup hx hb dX18_level_67 rfl ?_
        refine lv_iload_n hx hb dX18_level_68 rfl (lv_at hl 1 rfl) ?_
        refine lv_iload_n hx hb dX18_level_69 rfl (lv_at hl 2 rfl) ?_
        refine lv_iload_n hx hb dX18_level_70 rfl (lv_at hl 3 rfl) ?_
        have hPc := hP.sub (ws' := [(q_1, .inr (16, [.int 0, .int 0, .null, .int 0, .int 0, .null, .int 0, .int 0]))]) [6] rfl
        have hDc := hD.sub (ws' := [(q_1, .inr (16, [.int 0, .int 0, .null, .int 0, .int 0, .null, .int 0, .int 0]))]) [6] (by decide) rfl
        have hKc := hK.sub (tys' := []) [] rfl
        have hFc := va_free (wc := [(q_1, .inr (16, [.int 0, .int 0, .null, .int 0, .int 0, .null, .int 0, .int 0]))]) hD hS hA [6] rfl
        refine va_callv (va_runI (As := [.int (nI wn), .int (nI hn), .int a3]) (rest := [.ref q_1, .ref lv]) ⟨hx, hb, hml, hown, ht⟩ (c_X14_init l dC dI de (q_1) (wn) (hn) (a3) H.size hw1 hh1) (cwI 3 ht (gWI (wr_17 _ (List.mem_of_getElem? (i := 19) rfl))) rfl rfl rfl (ht _ (wr_17 _ (List.mem_of_getElem? (i := 8) rfl))) (ht _ (wr_17 _ (List.mem_of_getElem? (i := 17) rfl))) (ht _ (wr_17 _ (List.mem_of_getElem? (i := 18) rfl))) rfl (by decide +kernel) ⟨Nat.le_of_ble_eq_true rfl, Nat.le_of_ble_eq_true rfl⟩) ⟨PW_blind, PW_call hPc hDc hKc hS hG hFc⟩ rfl rfl hl.1 rfl (lv_room (Nat.le_of_ble_eq_true rfl)) dX18_level_71 ⟨Nat.le_of_ble_eq_true rfl, Nat.le_of_ble_eq_true rfl⟩) hS (fun q _ h => hFc q h) hFc (fun u t H1 locs ht9 hvm hw hB hz1 hk1 hS => ?_)
        obtain ⟨tl_2, sy_3, gl_4, hP1, hK1, hD1⟩ := hB
        rw [ht9] at hP1
        have hK1 := va_K.moved hvm.symm hK1
        obtain ⟨hP, hD⟩ := va_join (wr := [(om, .inr (20, [.ref mt, .ref qu, .int 0, .int 0, .ref lv, .int (-1), .int 0, .int 0, .ref mi, .int 0, .int 0, .int 0, .int 0, .ref ml, .ref mss, .ref rn, .ref sw, .ref mf, .null, .int 0, .ref msp, .int 0, .int 0, .int 0])), (rn, .inr (1, [.int 0, .ref de, .int 0])), (sw, .inr (1, [.int 0, .ref de, .int 0])), (ml, .inl (cS, 6, .inl (slotF))), (mf, .inl (cF, 96, .inl (fun _ => 0))), (lv, .inr (1, [.int 0, .ref de, .int 0]))]) (w1 := [(q_1, .inr (16, [.int (nI wn), .int (nI hn), .ref tl_2, .int 0, .int sy_3, .ref gl_4, .int 0, .int 0]))]) hP hD [6] [0, 1, 2, 3, 4, 5] rfl rfl (by decide) (by decide) hk1 hFc hP1 hD1
        have hK := (hK.sub (tys' := [(cS, .int), (cF, .int)]) [0, 1] rfl).app hK1
        generalize H1 = H at hP hS ⊢
        replace hP : va_P (dC, dI) vwCl [(om, .inr (20, [.ref mt, .ref qu, .int 0, .int 0, .ref lv, .int (-1), .int 0, .int 0, .ref mi, .int 0, .int 0, .int 0, .int 0, .ref ml, .ref mss, .ref rn, .ref sw, .ref mf, .null, .int 0, .ref msp, .int 0, .int 0, .int 0])), (rn, .inr (1, [.int 0, .ref de, .int 0])), (sw, .inr (1, [.int 0, .ref de, .int 0])), (ml, .inl (cS, 6, .inl (slotF))), (mf, .inl (cF, 96, .inl (fun _ => 0))), (lv, .inr (1, [.int 0, .ref de, .int 0])), (q_1, .inr (16, [.int (nI wn), .int (nI hn), .ref tl_2, .int 0, .int sy_3, .ref gl_4, .int 0, .int 0]))] H := hP
        replace hD : va_D A [(om, .inr (20, [.ref mt, .ref qu, .int 0, .int 0, .ref lv, .int (-1), .int 0, .int 0, .ref mi, .int 0, .int 0, .int 0, .int 0, .ref ml, .ref mss, .ref rn, .ref sw, .ref mf, .null, .int 0, .ref msp, .int 0, .int 0, .int 0])), (rn, .inr (1, [.int 0, .ref de, .int 0])), (sw, .inr (1, [.int 0, .ref de, .int 0])), (ml, .inl (cS, 6, .inl (slotF))), (mf, .inl (cF, 96, .inl (fun _ => 0))), (lv, .inr (1, [.int 0, .ref de, .int 0])), (q_1, .inr (16, [.int (nI wn), .int (nI hn), .ref tl_2, .int 0, .int sy_3, .ref gl_4, .int 0, .int 0]))] := hD
        have hK : va_K (dC, dI) vwCl [(cS, .int), (cF, .int)] s := hK
        refine W.widen (k := 3) (n := 107) (Nat.le_of_ble_eq_true rfl) (Nat.le_of_ble_eq_true rfl) ?_
        have hw_71 := hw
        have hPc := hP.sub (ws' := [(lv, .inr (1, [.int 0, .ref de, .int 0])), (q_1, .inr (16, [.int (nI wn), .int (nI hn), .ref tl_2, .int 0, .int sy_3, .ref gl_4, .int 0, .int 0]))]) [5, 6] rfl
        have hDc := hD.sub (ws' := [(lv, .inr (1, [.int 0, .ref de, .int 0])), (q_1, .inr (16, [.int (nI wn), .int (nI hn), .ref tl_2, .int 0, .int sy_3, .ref gl_4, .int 0, .int 0]))]) [5, 6] (by decide) rfl
        have hKc := hK.sub (tys' := []) [] rfl
        have hFc := va_free (wc := [(lv, .inr (1, [.int 0, .ref de, .int 0])), (q_1, .inr (16, [.int (nI wn), .int (nI hn), .ref tl_2, .int 0, .int sy_3, .ref gl_4, .int 0, .int 0]))]) hD hS hA [5, 6] rfl
        refine va_calli (va_runV (As := [.ref q_1]) (rest := []) ⟨hx, hb, hml, hown, ht⟩ (c_addL l dC dI de (lv) (0) (q_1) (.int (nI wn)) (.int (nI hn)) (.ref tl_2) (.int 0) (.int sy_3) (.ref gl_4) (.int 0) (.int 0) H.size) (cwV 1 ht (gWV (wr_18 _ (List.mem_of_getElem? (i := 4) rfl)) (wr_15 _ (List.mem_of_getElem? (i := 3) rfl)) (wr_15 _ (List.mem_of_getElem? (i := 4) rfl)) (wr_1 _ (List.mem_of_getElem? (i := 16) rfl)) (wr_15 _ (List.mem_of_getElem? (i := 5) rfl))) rfl rfl rfl (by decide +kernel) ⟨Nat.le_of_ble_eq_true rfl, Nat.le_of_ble_eq_true rfl⟩) ⟨PW_blind, va_recv hKc hPc (ci := 1) (q0 := 0) rfl rfl, PW_call hPc hDc hKc hS hG hFc⟩ rfl rfl hl.1 rfl (lv_room (Nat.le_of_ble_eq_true rfl)) dX18_level_74 ⟨Nat.le_of_ble_eq_true rfl, Nat.le_of_ble_eq_true rfl⟩) hS (fun q _ h => hFc q h) hFc (fun r_74 u t H1 locs ht9 hvm hw hB hz1 hk1 hS => ?_)
        obtain ⟨m2_5, d2_6, hP1, hK1, hD1⟩ := hB
        rw [ht9] at hP1
        have hK1 := va_K.moved hvm.symm hK1
        obtain ⟨hP, hD⟩ := va_join (wr := [(om, .inr (20, [.ref mt, .ref qu, .int 0, .int 0, .ref lv, .int (-1), .int 0, .int 0, .ref mi, .int 0, .int 0, .int 0, .int 0, .ref ml, .ref mss, .ref rn, .ref sw, .ref mf, .null, .int 0, .ref msp, .int 0, .int 0, .int 0])), (rn, .inr (1, [.int 0, .ref de, .int 0])), (sw, .inr (1, [.int 0, .ref de, .int 0])), (ml, .inl (cS, 6, .inl (slotF))), (mf, .inl (cF, 96, .inl (fun _ => 0)))]) (w1 := [(lv, .inr (1, [.int m2_5, .ref d2_6, .int 1]))]) hP hD [5, 6] [0, 1, 2, 3, 4] rfl rfl (by decide) (by decide) hk1 hFc hP1 hD1
        have hK := (hK.sub (tys' := [(cS, .int), (cF, .int)]) [0, 1] rfl).app hK1
        generalize H1 = H at hP hS ⊢
        replace hP : va_P (dC, dI) vwCl [(om, .inr (20, [.ref mt, .ref qu, .int 0, .int 0, .ref lv, .int (-1), .int 0, .int 0, .ref mi, .int 0, .int 0, .int 0, .int 0, .ref ml, .ref mss, .ref rn, .ref sw, .ref mf, .null, .int 0, .ref msp, .int 0, .int 0, .int 0])), (rn, .inr (1, [.int 0, .ref de, .int 0])), (sw, .inr (1, [.int 0, .ref de, .int 0])), (ml, .inl (cS, 6, .inl (slotF))), (mf, .inl (cF, 96, .inl (fun _ => 0))), (lv, .inr (1, [.int m2_5, .ref d2_6, .int 1]))] H := hP
        replace hD : va_D A [(om, .inr (20, [.ref mt, .ref qu, .int 0, .int 0, .ref lv, .int (-1), .int 0, .int 0, .ref mi, .int 0, .int 0, .int 0, .int 0, .ref ml, .ref mss, .ref rn, .ref sw, .ref mf, .null, .int 0, .ref msp, .int 0, .int 0, .int 0])), (rn, .inr (1, [.int 0, .ref de, .int 0])), (sw, .inr (1, [.int 0, .ref de, .int 0])), (ml, .inl (cS, 6, .inl (slotF))), (mf, .inl (cF, 96, .inl (fun _ => 0))), (lv, .inr (1, [.int m2_5, .ref d2_6, .int 1]))] := hD
        have hK : va_K (dC, dI) vwCl [(cS, .int), (cF, .int)] s := hK
        refine W.widen (k := 4) (n := 117) (Nat.le_of_ble_eq_true rfl) (Nat.le_of_ble_eq_true rfl) ?_
        have e_74 : r_74 = 1 := hw
        subst e_74
        refine lv_pop hx hb dX18_level_77 rfl ?_
        refine lv_aload_n hx hb dX18_level_78 rfl (lv_at hl 0 rfl) ?_
        refine va_get (D := (dC, dI)) (ci := 20) (v := .ref lv) (C := RX18) (T := TX18) (N := 24) hx hb ht inlX18 hown hK hP 0 rfl rfl 4 (by decide) (ht _ (wr_8 _ (List.mem_of_getElem? (i := 7) rfl))) (fun _ h9 => h9) rfl dX18_level_79 ?_
        have hPc := hP.sub (ws' := [(lv, .inr (1, [.int m2_5, .ref d2_6, .int 1]))]) [5] rfl
        have hDc := hD.sub (ws' := [(lv, .inr (1, [.int m2_5, .ref d2_6, .int 1]))]) [5] (by decide) rfl
        have hKc := hK.sub (tys' := []) [] rfl
        have hFc := va_free (wc := [(lv, .inr (1, [.int m2_5, .ref d2_6, .int 1]))]) hD hS hA [5] rfl
        refine va_calli (va_runV (As := []) (rest := []) ⟨hx, hb, hml, hown, ht⟩ (c_Jx4a65c_size_8abf5 l dC dI de (lv) (m2_5) (.ref d2_6) (1) H.size) (cwV 0 ht (gWV (wr_17 _ (List.mem_of_getElem? (i := 16) rfl)) (wr_14 _ (List.mem_of_getElem? (i := 6) rfl)) (wr_14 _ (List.mem_of_getElem? (i := 7) rfl)) (wr_1 _ (List.mem_of_getElem? (i := 16) rfl)) (wr_14 _ (List.mem_of_getElem? (i := 8) rfl))) rfl rfl rfl (by decide +kernel) ⟨Nat.le_of_ble_eq_true rfl, Nat.le_of_ble_eq_true rfl⟩) ⟨PW_blind, va_recv hKc hPc (ci := 1) (q0 := 0) rfl rfl, PW_call hPc hDc hKc hS hG hFc⟩ rfl rfl hl.1 rfl (lv_room (Nat.le_of_ble_eq_true rfl)) dX18_level_82 ⟨Nat.le_of_ble_eq_true rfl, Nat.le_of_ble_eq_true rfl⟩) hS (fun q _ h => hFc q h) hFc (fun r_82 u t H1 locs ht9 hvm hw hB hz1 hk1 hS => ?_)
        obtain ⟨hP1, hK1, hD1⟩ := hB
        rw [ht9] at hP1
        have hK1 := va_K.moved hvm.symm hK1
        obtain ⟨hP, hD⟩ := va_join (wr := [(om, .inr (20, [.ref mt, .ref qu, .int 0, .int 0, .ref lv, .int (-1), .int 0, .int 0, .ref mi, .int 0, .int 0, .int 0, .int 0, .ref ml, .ref mss, .ref rn, .ref sw, .ref mf, .null, .int 0, .ref msp, .int 0, .int 0, .int 0])), (rn, .inr (1, [.int 0, .ref de, .int 0])), (sw, .inr (1, [.int 0, .ref de, .int 0])), (ml, .inl (cS, 6, .inl (slotF))), (mf, .inl (cF, 96, .inl (fun _ => 0)))]) (w1 := [(lv, .inr (1, [.int m2_5, .ref d2_6, .int 1]))]) hP hD [5] [0, 1, 2, 3, 4] rfl rfl (by decide) (by decide) hk1 hFc hP1 hD1
        have hK := (hK.sub (tys' := [(cS, .int), (cF, .int)]) [0, 1] rfl).app hK1
        generalize H1 = H at hP hS ⊢
        replace hP : va_P (dC, dI) vwCl [(om, .inr (20, [.ref mt, .ref qu, .int 0, .int 0, .ref lv, .int (-1), .int 0, .int 0, .ref mi, .int 0, .int 0, .int 0, .int 0, .ref ml, .ref mss, .ref rn, .ref sw, .ref mf, .null, .int 0, .ref msp, .int 0, .int 0, .int 0])), (rn, .inr (1, [.int 0, .ref de, .int 0])), (sw, .inr (1, [.int 0, .ref de, .int 0])), (ml, .inl (cS, 6, .inl (slotF))), (mf, .inl (cF, 96, .inl (fun _ => 0))), (lv, .inr (1, [.int m2_5, .ref d2_6, .int 1]))] H := hP
        replace hD : va_D A [(om, .inr (20, [.ref mt, .ref qu, .int 0, .int 0, .ref lv, .int (-1), .int 0, .int 0, .ref mi, .int 0, .int 0, .int 0, .int 0, .ref ml, .ref mss, .ref rn, .ref sw, .ref mf, .null, .int 0, .ref msp, .int 0, .int 0, .int 0])), (rn, .inr (1, [.int 0, .ref de, .int 0])), (sw, .inr (1, [.int 0, .ref de, .int 0])), (ml, .inl (cS, 6, .inl (slotF))), (mf, .inl (cF, 96, .inl (fun _ => 0))), (lv, .inr (1, [.int m2_5, .ref d2_6, .int 1]))] := hD
        have hK : va_K (dC, dI) vwCl [(cS, .int), (cF, .int)] s := hK
        have e_82 : r_82 = 1 := hw
        subst e_82
        refine lv_iconst (v := 1) hx hb dX18_level_85 (by decide) ?_
        refine lv_isub hx hb dX18_level_86 ?_
        refine lv_topi (fun y ey => ?_)
        replace ey : y = 0 := ey.trans (by decide)
        subst ey
        have hP9 := hP.sub (ws' := [(om, .inr (20, [.ref mt, .ref qu, .int 0, .int 0, .ref lv, .int (-1), .int 0, .int 0, .ref mi, .int 0, .int 0, .int 0, .int 0, .ref ml, .ref mss, .ref rn, .ref sw, .ref mf, .null, .int 0, .ref msp, .int 0, .int 0, .int 0]))]) [0] rfl
        have hD9 := hD.sub (ws' := [(om, .inr (20, [.ref mt, .ref qu, .int 0, .int 0, .ref lv, .int (-1), .int 0, .int 0, .ref mi, .int 0, .int 0, .int 0, .int 0, .ref ml, .ref mss, .ref rn, .ref sw, .ref mf, .null, .int 0, .ref msp, .int 0, .int 0, .int 0]))]) [0] (by decide) rfl
        have hK9 := hK.sub (tys' := []) [] rfl
        exact W.iret (v := 0) hx hb hr (fun t htt hW => have ht := htt; ⟨⟨0, 0, rfl, (Or.inr ⟨rfl, ⟨m_5, m_15, m_22⟩, rfl⟩), QW_of ht hW hP9 hK9 hD9⟩, hS.F ht⟩) hS.2.2 dX18_level_87
      · refine lv_if_ne (tgt := 32) hx hb dX18_level_25 (by decide) (fun c_25 => absurd c_25 (by decide)) (fun c_25 => ?_)
        refine lv_iconst (v := 1) hx hb dX18_level_28 (by decide) ?_
        refine lv_goto (tgt := 48) hx hb dX18_level_29 (by decide) ?_
        refine va_put (D := (dC, dI)) (ci := 20) (v := .int 1) (ty := .int) (C := RX18) (T := TX18) (N := 24) hx hb ht inlX18 tyX18 tyX18_ok nmX18 hown hK hP hD hS 0 rfl rfl 3 (by decide) (ht _ (wr_17 _ (List.mem_of_getElem? (i := 5) rfl))) (fun _ h9 => h9) rfl (by decide +kernel) rfl rfl (Nat.le_of_ble_eq_true rfl) dX18_level_48 (fun H locs hP hD hS => ?_)
        replace hP : va_P (dC, dI) vwCl [(om, .inr (20, [.ref mt, .ref qu, .int 0, .int 1, .ref lv, .int (-1), .int 0, .int 0, .ref mi, .int 0, .int 0, .int 0, .int 0, .ref ml, .ref mss, .ref rn, .ref sw, .ref mf, .null, .int 0, .ref msp, .int 0, .int 0, .int 0])), (lv, .inr (1, [.int 0, .ref de, .int 0])), (rn, .inr (1, [.int 0, .ref de, .int 0])), (sw, .inr (1, [.int 0, .ref de, .int 0])), (ml, .inl (cS, 6, .inl (slotF))), (mf, .inl (cF, 96, .inl (fun _ => 0)))] H := hP
        replace hD : va_D A [(om, .inr (20, [.ref mt, .ref qu, .int 0, .int 1, .ref lv, .int (-1), .int 0, .int 0, .ref mi, .int 0, .int 0, .int 0, .int 0, .ref ml, .ref mss, .ref rn, .ref sw, .ref mf, .null, .int 0, .ref msp, .int 0, .int 0, .int 0])), (lv, .inr (1, [.int 0, .ref de, .int 0])), (rn, .inr (1, [.int 0, .ref de, .int 0])), (sw, .inr (1, [.int 0, .ref de, .int 0])), (ml, .inl (cS, 6, .inl (slotF))), (mf, .inl (cF, 96, .inl (fun _ => 0)))] := hD
        refine lv_aload_n hx hb dX18_level_51 rfl (lv_at hl 0 rfl) ?_
        refine va_get (D := (dC, dI)) (ci := 20) (v := .int 1) (C := RX18) (T := TX18) (N := 24) hx hb ht inlX18 hown hK hP 0 rfl rfl 3 (by decide) (ht _ (wr_17 _ (List.mem_of_getElem? (i := 5) rfl))) (fun _ h9 => h9) rfl dX18_level_52 ?_
        refine lv_if_le (tgt := 60) hx hb dX18_level_55 (by decide) (fun c_55 => absurd c_55 (by decide)) (fun c_55 => ?_)
        refine lv_iconst (v := 0) hx hb dX18_level_58 (by decide) ?_
        refine W.widen (k := 4) (n := 117) (Nat.le_of_ble_eq_true rfl) (Nat.le_of_ble_eq_true rfl) ?_
        have hP9 := hP.sub (ws' := [(om, .inr (20, [.ref mt, .ref qu, .int 0, .int 1, .ref lv, .int (-1), .int 0, .int 0, .ref mi, .int 0, .int 0, .int 0, .int 0, .ref ml, .ref mss, .ref rn, .ref sw, .ref mf, .null, .int 0, .ref msp, .int 0, .int 0, .int 0]))]) [0] rfl
        have hD9 := hD.sub (ws' := [(om, .inr (20, [.ref mt, .ref qu, .int 0, .int 1, .ref lv, .int (-1), .int 0, .int 0, .ref mi, .int 0, .int 0, .int 0, .int 0, .ref ml, .ref mss, .ref rn, .ref sw, .ref mf, .null, .int 0, .ref msp, .int 0, .int 0, .int 0]))]) [0] (by decide) rfl
        have hK9 := hK.sub (tys' := []) [] rfl
        exact W.iret (v := 0) hx hb hr (fun t htt hW => have ht := htt; ⟨⟨0, 1, rfl, (Or.inl ⟨rfl, fun h => m_22 h.2.2⟩), QW_of ht hW hP9 hK9 hD9⟩, hS.F ht⟩) hS.2.2 dX18_level_59
    · refine lv_if_eq (tgt := 28) hx hb dX18_level_18 (by decide) (fun c_18 => ?_) (fun c_18 => absurd c_18 (by decide))
      refine lv_iconst (v := 1) hx hb dX18_level_28 (by decide) ?_
      refine lv_goto (tgt := 48) hx hb dX18_level_29 (by decide) ?_
      refine va_put (D := (dC, dI)) (ci := 20) (v := .int 1) (ty := .int) (C := RX18) (T := TX18) (N := 24) hx hb ht inlX18 tyX18 tyX18_ok nmX18 hown hK hP hD hS 0 rfl rfl 3 (by decide) (ht _ (wr_17 _ (List.mem_of_getElem? (i := 5) rfl))) (fun _ h9 => h9) rfl (by decide +kernel) rfl rfl (Nat.le_of_ble_eq_true rfl) dX18_level_48 (fun H locs hP hD hS => ?_)
      replace hP : va_P (dC, dI) vwCl [(om, .inr (20, [.ref mt, .ref qu, .int 0, .int 1, .ref lv, .int (-1), .int 0, .int 0, .ref mi, .int 0, .int 0, .int 0, .int 0, .ref ml, .ref mss, .ref rn, .ref sw, .ref mf, .null, .int 0, .ref msp, .int 0, .int 0, .int 0])), (lv, .inr (1, [.int 0, .ref de, .int 0])), (rn, .inr (1, [.int 0, .ref de, .int 0])), (sw, .inr (1, [.int 0, .ref de, .int 0])), (ml, .inl (cS, 6, .inl (slotF))), (mf, .inl (cF, 96, .inl (fun _ => 0)))] H := hP
      replace hD : va_D A [(om, .inr (20, [.ref mt, .ref qu, .int 0, .int 1, .ref lv, .int (-1), .int 0, .int 0, .ref mi, .int 0, .int 0, .int 0, .int 0, .ref ml, .ref mss, .ref rn, .ref sw, .ref mf, .null, .int 0, .ref msp, .int 0, .int 0, .int 0])), (lv, .inr (1, [.int 0, .ref de, .int 0])), (rn, .inr (1, [.int 0, .ref de, .int 0])), (sw, .inr (1, [.int 0, .ref de, .int 0])), (ml, .inl (cS, 6, .inl (slotF))), (mf, .inl (cF, 96, .inl (fun _ => 0)))] := hD
      refine lv_aload_n hx hb dX18_level_51 rfl (lv_at hl 0 rfl) ?_
      refine va_get (D := (dC, dI)) (ci := 20) (v := .int 1) (C := RX18) (T := TX18) (N := 24) hx hb ht inlX18 hown hK hP 0 rfl rfl 3 (by decide) (ht _ (wr_17 _ (List.mem_of_getElem? (i := 5) rfl))) (fun _ h9 => h9) rfl dX18_level_52 ?_
      refine lv_if_le (tgt := 60) hx hb dX18_level_55 (by decide) (fun c_55 => absurd c_55 (by decide)) (fun c_55 => ?_)
      refine lv_iconst (v := 0) hx hb dX18_level_58 (by decide) ?_
      refine W.widen (k := 4) (n := 117) (Nat.le_of_ble_eq_true rfl) (Nat.le_of_ble_eq_true rfl) ?_
      have hP9 := hP.sub (ws' := [(om, .inr (20, [.ref mt, .ref qu, .int 0, .int 1, .ref lv, .int (-1), .int 0, .int 0, .ref mi, .int 0, .int 0, .int 0, .int 0, .ref ml, .ref mss, .ref rn, .ref sw, .ref mf, .null, .int 0, .ref msp, .int 0, .int 0, .int 0]))]) [0] rfl
      have hD9 := hD.sub (ws' := [(om, .inr (20, [.ref mt, .ref qu, .int 0, .int 1, .ref lv, .int (-1), .int 0, .int 0, .ref mi, .int 0, .int 0, .int 0, .int 0, .ref ml, .ref mss, .ref rn, .ref sw, .ref mf, .null, .int 0, .ref msp, .int 0, .int 0, .int 0]))]) [0] (by decide) rfl
      have hK9 := hK.sub (tys' := []) [] rfl
      exact W.iret (v := 0) hx hb hr (fun t htt hW => have ht := htt; ⟨⟨0, 1, rfl, (Or.inl ⟨rfl, fun h => m_15 h.2.1⟩), QW_of ht hW hP9 hK9 hD9⟩, hS.F ht⟩) hS.2.2 dX18_level_59
  · refine lv_if_eq (tgt := 28) hx hb dX18_level_8 (by decide) (fun c_8 => ?_) (fun c_8 => absurd c_8 (by decide))
    refine lv_iconst (v := 1) hx hb dX18_level_28 (by decide) ?_
    refine lv_goto (tgt := 48) hx hb dX18_level_29 (by decide) ?_
    refine va_put (D := (dC, dI)) (ci := 20) (v := .int 1) (ty := .int) (C := RX18) (T := TX18) (N := 24) hx hb ht inlX18 tyX18 tyX18_ok nmX18 hown hK hP hD hS 0 rfl rfl 3 (by decide) (ht _ (wr_17 _ (List.mem_of_getElem? (i := 5) rfl))) (fun _ h9 => h9) rfl (by decide +kernel) rfl rfl (Nat.le_of_ble_eq_true rfl) dX18_level_48 (fun H locs hP hD hS => ?_)
    replace hP : va_P (dC, dI) vwCl [(om, .inr (20, [.ref mt, .ref qu, .int 0, .int 1, .ref lv, .int (-1), .int 0, .int 0, .ref mi, .int 0, .int 0, .int 0, .int 0, .ref ml, .ref mss, .ref rn, .ref sw, .ref mf, .null, .int 0, .ref msp, .int 0, .int 0, .int 0])), (lv, .inr (1, [.int 0, .ref de, .int 0])), (rn, .inr (1, [.int 0, .ref de, .int 0])), (sw, .inr (1, [.int 0, .ref de, .int 0])), (ml, .inl (cS, 6, .inl (slotF))), (mf, .inl (cF, 96, .inl (fun _ => 0)))] H := hP
    replace hD : va_D A [(om, .inr (20, [.ref mt, .ref qu, .int 0, .int 1, .ref lv, .int (-1), .int 0, .int 0, .ref mi, .int 0, .int 0, .int 0, .int 0, .ref ml, .ref mss, .ref rn, .ref sw, .ref mf, .null, .int 0, .ref msp, .int 0, .int 0, .int 0])), (lv, .inr (1, [.int 0, .ref de, .int 0])), (rn, .inr (1, [.int 0, .ref de, .int 0])), (sw, .inr (1, [.int 0, .ref de, .int 0])), (ml, .inl (cS, 6, .inl (slotF))), (mf, .inl (cF, 96, .inl (fun _ => 0)))] := hD
    refine lv_aload_n hx hb dX18_level_51 rfl (lv_at hl 0 rfl) ?_
    refine va_get (D := (dC, dI)) (ci := 20) (v := .int 1) (C := RX18) (T := TX18) (N := 24) hx hb ht inlX18 hown hK hP 0 rfl rfl 3 (by decide) (ht _ (wr_17 _ (List.mem_of_getElem? (i := 5) rfl))) (fun _ h9 => h9) rfl dX18_level_52 ?_
    refine lv_if_le (tgt := 60) hx hb dX18_level_55 (by decide) (fun c_55 => absurd c_55 (by decide)) (fun c_55 => ?_)
    refine lv_iconst (v := 0) hx hb dX18_level_58 (by decide) ?_
    refine W.widen (k := 4) (n := 117) (Nat.le_of_ble_eq_true rfl) (Nat.le_of_ble_eq_true rfl) ?_
    have hP9 := hP.sub (ws' := [(om, .inr (20, [.ref mt, .ref qu, .int 0, .int 1, .ref lv, .int (-1), .int 0, .int 0, .ref mi, .int 0, .int 0, .int 0, .int 0, .ref ml, .ref mss, .ref rn, .ref sw, .ref mf, .null, .int 0, .ref msp, .int 0, .int 0, .int 0]))]) [0] rfl
    have hD9 := hD.sub (ws' := [(om, .inr (20, [.ref mt, .ref qu, .int 0, .int 1, .ref lv, .int (-1), .int 0, .int 0, .ref mi, .int 0, .int 0, .int 0, .int 0, .ref ml, .ref mss, .ref rn, .ref sw, .ref mf, .null, .int 0, .ref msp, .int 0, .int 0, .int 0]))]) [0] (by decide) rfl
    have hK9 := hK.sub (tys' := []) [] rfl
    exact W.iret (v := 0) hx hb hr (fun t htt hW => have ht := htt; ⟨⟨0, 1, rfl, (Or.inl ⟨rfl, fun h => m_5 h.1⟩), QW_of ht hW hP9 hK9 hD9⟩, hS.F ht⟩) hS.2.2 dX18_level_59
set_option maxHeartbeats 4000000 in
set_option maxRecDepth 100000 in
theorem c_thrown1 (l : Launch) (dC : Nat → ClassId) (dI : Nat → Nat → Nat) (de : Nat) (om : Nat) (mt : Nat) (qu : Nat) (lv : Nat) (mi : Nat) (ml : Nat) (mss : Nat) (rn : Nat) (sw : Nat) (mf : Nat) (msp : Nat) (th : Int32) (sz : Nat) : Met l yX18_thrown (.code yX18_thrown cX18_thrown 1 (some .int) :: wsL_law) { frames := 0, cells := 0, slots := 0, locals := 0 } (va_Pc [.ref om] (PW dC dI de [] [(om, .inr (20, [.ref mt, .ref qu, .int 0, .int th, .ref lv, .int (-1), .int 0, .int 0, .ref mi, .int 0, .int 0, .int 0, .int 0, .ref ml, .ref mss, .ref rn, .ref sw, .ref mf, .null, .int 0, .ref msp, .int 0, .int 0, .int 0]))] sz)) (va_Qi (fun (r : Int32) (u : Unit) => r = th) (fun (_ : Unit) (t : State) => QW dC dI [] [(om, .inr (20, [.ref mt, .ref qu, .int 0, .int th, .ref lv, .int (-1), .int 0, .int 0, .ref mi, .int 0, .int 0, .int 0, .int 0, .ref ml, .ref mss, .ref rn, .ref sw, .ref mf, .null, .int 0, .ref msp, .int 0, .int 0, .int 0]))] (va_A [(om, .inr (20, [.ref mt, .ref qu, .int 0, .int th, .ref lv, .int (-1), .int 0, .int 0, .ref mi, .int 0, .int 0, .int 0, .int 0, .ref ml, .ref mss, .ref rn, .ref sw, .ref mf, .null, .int 0, .ref msp, .int 0, .int 0, .int 0]))] sz) t) (va_A [(om, .inr (20, [.ref mt, .ref qu, .int 0, .int th, .ref lv, .int (-1), .int 0, .int 0, .ref mi, .int 0, .int 0, .int 0, .int 0, .ref ml, .ref mss, .ref rn, .ref sw, .ref mf, .null, .int 0, .ref msp, .int 0, .int 0, .int 0]))] sz)) 0 0 (va_A [(om, .inr (20, [.ref mt, .ref qu, .int 0, .int th, .ref lv, .int (-1), .int 0, .int 0, .ref mi, .int 0, .int 0, .int 0, .int 0, .ref ml, .ref mss, .ref rn, .ref sw, .ref mf, .null, .int 0, .ref msp, .int 0, .int 0, .int 0]))] sz) := by
  refine Met.ofW (cc := cX18_thrown) (maxL := 1) (ret := (some .int)) (by decide) rfl ?_
  intro p e s m args below meth c s₁ B hml hv
  obtain ⟨rfl, hsz, hP, hK, hD0, hG⟩ := hv
  have hx := B.exec
  have hb := B.bytes
  have hr := B.returns
  have hts := atoms_spec (ws := .code yX18_thrown cX18_thrown 1 (some .int) :: wsL_law) B.pre
  have ht : ∀ w ∈ wsL_law, w.before _ s = true := fun w h => hts w (List.mem_cons_of_mem _ h)
  have hown : s.vm.findClass RX18 = some m.cls := findClass_of_methodNamed B.named
  have hlocks := B.notSynchronized
  subst hsz
  have hD := hD0.self (sz := s.heap.size)
  generalize hAe : va_A [(om, .inr (20, [.ref mt, .ref qu, .int 0, .int th, .ref lv, .int (-1), .int 0, .int 0, .ref mi, .int 0, .int 0, .int 0, .int 0, .ref ml, .ref mss, .ref rn, .ref sw, .ref mf, .null, .int 0, .ref msp, .int 0, .int 0, .int 0]))] s.heap.size = A at hD hG ⊢
  have hA : ∀ q : Nat, s.heap.size ≤ q → A q := fun q h => by rw [← hAe]; exact Or.inr h
  have hS : va_S A s.heap s.heap [] := va_S.rf
  have hP : va_P (dC, dI) vwCl [(om, .inr (20, [.ref mt, .ref qu, .int 0, .int th, .ref lv, .int (-1), .int 0, .int 0, .ref mi, .int 0, .int 0, .int 0, .int 0, .ref ml, .ref mss, .ref rn, .ref sw, .ref mf, .null, .int 0, .ref msp, .int 0, .int 0, .int 0]))] s.heap := hP
  have hD : va_D A [(om, .inr (20, [.ref mt, .ref qu, .int 0, .int th, .ref lv, .int (-1), .int 0, .int 0, .ref mi, .int 0, .int 0, .int 0, .int 0, .ref ml, .ref mss, .ref rn, .ref sw, .ref mf, .null, .int 0, .ref msp, .int 0, .int 0, .int 0]))] := hD
  have hl := lv_entry ([.ref om]) (n := 1) (Nat.le_of_ble_eq_true rfl)
  rw [lg_entry_eq]
  generalize (lg_sl ([.ref om]) ++ List.replicate (1 - (lg_sl ([.ref om])).length) Slot.unset).toArray = ls at hl ⊢
  have hl : lv_has ls 1 [(0, .ref om)] := hl
  refine lv_aload_n hx hb dX18_thrown_0 rfl (lv_at hl 0 rfl) ?_
  refine va_get (D := (dC, dI)) (ci := 20) (v := .int th) (C := RX18) (T := TX18) (N := 24) hx hb ht inlX18 hown hK hP 0 rfl rfl 3 (by decide) (ht _ (wr_17 _ (List.mem_of_getElem? (i := 5) rfl))) (fun _ h9 => h9) rfl dX18_thrown_1 ?_
  exact W.iret (v := th) hx hb hr (fun t htt hW => have ht := htt; ⟨⟨th, (), rfl, rfl, QW_of ht hW hP hK hD⟩, hS.F ht⟩) hS.2.2 dX18_thrown_4
set_option maxHeartbeats 4000000 in
set_option maxRecDepth 100000 in
theorem c_X18_told (l : Launch) (dC : Nat → ClassId) (dI : Nat → Nat → Nat) (de : Nat) (om : Nat) (mt : Nat) (qu : Nat) (lv : Nat) (mi : Nat) (ml : Nat) (mss : Nat) (rn : Nat) (sw : Nat) (mf : Nat) (msp : Nat) (cS : ClassId) (cF : ClassId) (th : Int32) (a1 : Int32) (sz : Nat) : Met l yX18_told (.code yX18_told cX18_told 2 (some .int) :: wsL_law) { frames := 4, cells := 0, slots := 0, locals := 106 } (va_Pc [.ref om, .int a1] (PW dC dI de [(cS, .int), (cF, .int)] (WM om mt qu lv mi ml mss rn sw mf msp cS cF th de) sz)) (va_Qi (fun (r : Int32) (th2 : Int32) => (th2 = 1 ∧ ¬ (a1 = 120 ∨ a1 = 121 ∨ a1 = 97 ∨ a1 = 115 ∨ a1 = 106 ∨ a1 = 102)) ∨ (th2 = 2 ∧ (a1 = 120 ∨ a1 = 121 ∨ a1 = 97 ∨ a1 = 115 ∨ a1 = 106 ∨ a1 = 102))) (fun (th2 : Int32) (t : State) => QW dC dI [(cS, .int), (cF, .int)] (WM om mt qu lv mi ml mss rn sw mf msp cS cF th2 de) (va_A (WM om mt qu lv mi ml mss rn sw mf msp cS cF th de) sz) t) (va_A (WM om mt qu lv mi ml mss rn sw mf msp cS cF th de) sz)) 0 0 (va_A (WM om mt qu lv mi ml mss rn sw mf msp cS cF th de) sz) := by
  refine Met.ofW (cc := cX18_told) (maxL := 2) (ret := (some .int)) (by decide) rfl ?_
  intro p e s m args below meth c s₁ B hml hv
  obtain ⟨rfl, hsz, hP, hK, hD0, hG⟩ := hv
  have hx := B.exec
  have hb := B.bytes
  have hr := B.returns
  have hts := atoms_spec (ws := .code yX18_told cX18_told 2 (some .int) :: wsL_law) B.pre
  have ht : ∀ w ∈ wsL_law, w.before _ s = true := fun w h => hts w (List.mem_cons_of_mem _ h)
  have hown : s.vm.findClass RX18 = some m.cls := findClass_of_methodNamed B.named
  have hlocks := B.notSynchronized
  subst hsz
  have hD := hD0.self (sz := s.heap.size)
  generalize hAe : va_A (WM om mt qu lv mi ml mss rn sw mf msp cS cF th de) s.heap.size = A at hD hG ⊢
  have hA : ∀ q : Nat, s.heap.size ≤ q → A q := fun q h => by rw [← hAe]; exact Or.inr h
  have hS : va_S A s.heap s.heap [] := va_S.rf
  have hP : va_P (dC, dI) vwCl [(om, .inr (20, [.ref mt, .ref qu, .int 0, .int th, .ref lv, .int (-1), .int 0, .int 0, .ref mi, .int 0, .int 0, .int 0, .int 0, .ref ml, .ref mss, .ref rn, .ref sw, .ref mf, .null, .int 0, .ref msp, .int 0, .int 0, .int 0])), (lv, .inr (1, [.int 0, .ref de, .int 0])), (rn, .inr (1, [.int 0, .ref de, .int 0])), (sw, .inr (1, [.int 0, .ref de, .int 0])), (ml, .inl (cS, 6, .inl (slotF))), (mf, .inl (cF, 96, .inl (fun _ => 0)))] s.heap := hP
  have hD : va_D A [(om, .inr (20, [.ref mt, .ref qu, .int 0, .int th, .ref lv, .int (-1), .int 0, .int 0, .ref mi, .int 0, .int 0, .int 0, .int 0, .ref ml, .ref mss, .ref rn, .ref sw, .ref mf, .null, .int 0, .ref msp, .int 0, .int 0, .int 0])), (lv, .inr (1, [.int 0, .ref de, .int 0])), (rn, .inr (1, [.int 0, .ref de, .int 0])), (sw, .inr (1, [.int 0, .ref de, .int 0])), (ml, .inl (cS, 6, .inl (slotF))), (mf, .inl (cF, 96, .inl (fun _ => 0)))] := hD
  have hl := lv_entry ([.ref om, .int a1]) (n := 2) (Nat.le_of_ble_eq_true rfl)
  rw [lg_entry_eq]
  generalize (lg_sl ([.ref om, .int a1]) ++ List.replicate (2 - (lg_sl ([.ref om, .int a1])).length) Slot.unset).toArray = ls at hl ⊢
  have hl : lv_has ls 2 [(0, .ref om), (1, .int a1)] := hl
  obtain ⟨q4, hR4, hQ4⟩ := hG.1.2.2.2.2.2.2.2
  obtain ⟨sv4, hO4, -⟩ := id hQ4
  refine lv_aload_n hx hb dX18_told_0 rfl (lv_at hl 0 rfl) ?_
  refine va_ldcSW hx hb hown hR4 dX18_told_1 ?_
  refine lv_iload_n hx hb dX18_told_4 rfl (lv_at hl 1 rfl) ?_
  have hPc := hP.sub (ws' := []) [] rfl
  have hDc := hD.sub (ws' := []) [] (by decide) rfl
  have hKc := hK.sub (tys' := []) [] rfl
  have hFc := va_free (wc := []) hD hS hA [] rfl
  refine va_calli (va_runV (As := [.int a1]) (rest := [.ref om]) ⟨hx, hb, hml, hown, ht⟩ (c_J0_indexOf_0f7a4 l dC dI de (q4) (6) (gx_told) (a1) s.heap.size told_small (by decide) (by decide)) (cwV 1 ht (gWV (wr_17 _ (List.mem_of_getElem? (i := 15) rfl)) (wr_10 _ (List.mem_of_getElem? (i := 7) rfl)) (wr_10 _ (List.mem_of_getElem? (i := 8) rfl)) (wr_10 _ (List.mem_of_getElem? (i := 9) rfl)) (wr_10 _ (List.mem_of_getElem? (i := 10) rfl))) rfl rfl rfl (by decide +kernel) ⟨Nat.le_of_ble_eq_true rfl, Nat.le_of_ble_eq_true rfl⟩) ⟨(PX_blind XQ_same), (va_Orecv hO4 hS), PX_call XQ_go hQ4 hPc hDc hKc hS hG hFc⟩ rfl rfl hl.1 rfl (lv_room (Nat.le_of_ble_eq_true rfl)) dX18_told_5 ⟨Nat.le_of_ble_eq_true rfl, Nat.le_of_ble_eq_true rfl⟩) hS (fun q _ h => hFc q h) hFc (fun r_5 u t H1 locs ht9 hvm hw hB hz1 hk1 hS => ?_)
  obtain ⟨hP1, hK1, hD1⟩ := hB
  rw [ht9] at hP1
  have hK1 := va_K.moved hvm.symm hK1
  obtain ⟨hP, hD⟩ := va_join (wr := [(om, .inr (20, [.ref mt, .ref qu, .int 0, .int th, .ref lv, .int (-1), .int 0, .int 0, .ref mi, .int 0, .int 0, .int 0, .int 0, .ref ml, .ref mss, .ref rn, .ref sw, .ref mf, .null, .int 0, .ref msp, .int 0, .int 0, .int 0])), (lv, .inr (1, [.int 0, .ref de, .int 0])), (rn, .inr (1, [.int 0, .ref de, .int 0])), (sw, .inr (1, [.int 0, .ref de, .int 0])), (ml, .inl (cS, 6, .inl (slotF))), (mf, .inl (cF, 96, .inl (fun _ => 0)))]) (w1 := []) hP hD [] [0, 1, 2, 3, 4, 5] rfl rfl (by decide) (by decide) hk1 hFc hP1 hD1
  have hK := (hK.sub (tys' := [(cS, .int), (cF, .int)]) [0, 1] rfl).app hK1
  generalize H1 = H at hP hS ⊢
  replace hP : va_P (dC, dI) vwCl [(om, .inr (20, [.ref mt, .ref qu, .int 0, .int th, .ref lv, .int (-1), .int 0, .int 0, .ref mi, .int 0, .int 0, .int 0, .int 0, .ref ml, .ref mss, .ref rn, .ref sw, .ref mf, .null, .int 0, .ref msp, .int 0, .int 0, .int 0])), (lv, .inr (1, [.int 0, .ref de, .int 0])), (rn, .inr (1, [.int 0, .ref de, .int 0])), (sw, .inr (1, [.int 0, .ref de, .int 0])), (ml, .inl (cS, 6, .inl (slotF))), (mf, .inl (cF, 96, .inl (fun _ => 0)))] H := hP
  replace hD : va_D A [(om, .inr (20, [.ref mt, .ref qu, .int 0, .int th, .ref lv, .int (-1), .int 0, .int 0, .ref mi, .int 0, .int 0, .int 0, .int 0, .ref ml, .ref mss, .ref rn, .ref sw, .ref mf, .null, .int 0, .ref msp, .int 0, .int 0, .int 0])), (lv, .inr (1, [.int 0, .ref de, .int 0])), (rn, .inr (1, [.int 0, .ref de, .int 0])), (sw, .inr (1, [.int 0, .ref de, .int 0])), (ml, .inl (cS, 6, .inl (slotF))), (mf, .inl (cF, 96, .inl (fun _ => 0)))] := hD
  have hK : va_K (dC, dI) vwCl [(cS, .int), (cF, .int)] s := hK
  have hw_5 := hw
  refine lv_if_ge (tgt := 15) hx hb dX18_told_8 (by decide) (fun c_8 => ?_) (fun c_8 => ?_)
  · refine lv_aload_n hx hb dX18_told_15 rfl (lv_at hl 0 rfl) ?_
    refine va_get (D := (dC, dI)) (ci := 20) (v := .int 0) (C := RX18) (T := TX18) (N := 24) hx hb ht inlX18 hown hK hP 0 rfl rfl 6 (by decide) (ht _ (wr_52 _ (List.mem_of_getElem? (i := 23) rfl))) (fun _ h9 => h9) rfl dX18_told_16 ?_
    refine lv_if_ne (tgt := 26) hx hb dX18_told_19 (by decide) (fun c_19 => absurd c_19 (by decide)) (fun c_19 => ?_)
    refine lv_iconst (v := 2) hx hb dX18_told_22 (by decide) ?_
    refine lv_goto (tgt := 27) hx hb dX18_told_23 (by decide) ?_
    refine va_put (D := (dC, dI)) (ci := 20) (v := .int 2) (ty := .int) (C := RX18) (T := TX18) (N := 24) hx hb ht inlX18 tyX18 tyX18_ok nmX18 hown hK hP hD hS 0 rfl rfl 3 (by decide) (ht _ (wr_17 _ (List.mem_of_getElem? (i := 5) rfl))) (fun _ h9 => h9) rfl (by decide +kernel) rfl rfl (Nat.le_of_ble_eq_true rfl) dX18_told_27 (fun H locs hP hD hS => ?_)
    replace hP : va_P (dC, dI) vwCl [(om, .inr (20, [.ref mt, .ref qu, .int 0, .int 2, .ref lv, .int (-1), .int 0, .int 0, .ref mi, .int 0, .int 0, .int 0, .int 0, .ref ml, .ref mss, .ref rn, .ref sw, .ref mf, .null, .int 0, .ref msp, .int 0, .int 0, .int 0])), (lv, .inr (1, [.int 0, .ref de, .int 0])), (rn, .inr (1, [.int 0, .ref de, .int 0])), (sw, .inr (1, [.int 0, .ref de, .int 0])), (ml, .inl (cS, 6, .inl (slotF))), (mf, .inl (cF, 96, .inl (fun _ => 0)))] H := hP
    replace hD : va_D A [(om, .inr (20, [.ref mt, .ref qu, .int 0, .int 2, .ref lv, .int (-1), .int 0, .int 0, .ref mi, .int 0, .int 0, .int 0, .int 0, .ref ml, .ref mss, .ref rn, .ref sw, .ref mf, .null, .int 0, .ref msp, .int 0, .int 0, .int 0])), (lv, .inr (1, [.int 0, .ref de, .int 0])), (rn, .inr (1, [.int 0, .ref de, .int 0])), (sw, .inr (1, [.int 0, .ref de, .int 0])), (ml, .inl (cS, 6, .inl (slotF))), (mf, .inl (cF, 96, .inl (fun _ => 0)))] := hD
    refine lv_aload_n hx hb dX18_told_30 rfl (lv_at hl 0 rfl) ?_
    refine va_get (D := (dC, dI)) (ci := 20) (v := .int 2) (C := RX18) (T := TX18) (N := 24) hx hb ht inlX18 hown hK hP 0 rfl rfl 3 (by decide) (ht _ (wr_17 _ (List.mem_of_getElem? (i := 5) rfl))) (fun _ h9 => h9) rfl dX18_told_31 ?_
    refine lv_if_le (tgt := 39) hx hb dX18_told_34 (by decide) (fun c_34 => absurd c_34 (by decide)) (fun c_34 => ?_)
    refine lv_iconst (v := 0) hx hb dX18_told_37 (by decide) ?_
    have hP9 := hP.sub (ws' := [(om, .inr (20, [.ref mt, .ref qu, .int 0, .int 2, .ref lv, .int (-1), .int 0, .int 0, .ref mi, .int 0, .int 0, .int 0, .int 0, .ref ml, .ref mss, .ref rn, .ref sw, .ref mf, .null, .int 0, .ref msp, .int 0, .int 0, .int 0])), (lv, .inr (1, [.int 0, .ref de, .int 0])), (rn, .inr (1, [.int 0, .ref de, .int 0])), (sw, .inr (1, [.int 0, .ref de, .int 0])), (ml, .inl (cS, 6, .inl (slotF))), (mf, .inl (cF, 96, .inl (fun _ => 0)))]) [0, 1, 2, 3, 4, 5] rfl
    have hD9 := hD.sub (ws' := [(om, .inr (20, [.ref mt, .ref qu, .int 0, .int 2, .ref lv, .int (-1), .int 0, .int 0, .ref mi, .int 0, .int 0, .int 0, .int 0, .ref ml, .ref mss, .ref rn, .ref sw, .ref mf, .null, .int 0, .ref msp, .int 0, .int 0, .int 0])), (lv, .inr (1, [.int 0, .ref de, .int 0])), (rn, .inr (1, [.int 0, .ref de, .int 0])), (sw, .inr (1, [.int 0, .ref de, .int 0])), (ml, .inl (cS, 6, .inl (slotF))), (mf, .inl (cF, 96, .inl (fun _ => 0)))]) [0, 1, 2, 3, 4, 5] (by decide) rfl
    have hK9 := hK.sub (tys' := [(cS, .int), (cF, .int)]) [0, 1] rfl
    exact W.iret (v := 0) hx hb hr (fun t htt hW => have ht := htt; ⟨⟨0, 2, rfl, (Or.inr ⟨rfl, (told_has.mp (sg_ge hw_5 c_8))⟩), QW_of ht hW hP9 hK9 hD9⟩, hS.F ht⟩) hS.2.2 dX18_told_38
  · refine lv_iconst (v := 1) hx hb dX18_told_11 (by decide) ?_
    refine lv_goto (tgt := 27) hx hb dX18_told_12 (by decide) ?_
    refine va_put (D := (dC, dI)) (ci := 20) (v := .int 1) (ty := .int) (C := RX18) (T := TX18) (N := 24) hx hb ht inlX18 tyX18 tyX18_ok nmX18 hown hK hP hD hS 0 rfl rfl 3 (by decide) (ht _ (wr_17 _ (List.mem_of_getElem? (i := 5) rfl))) (fun _ h9 => h9) rfl (by decide +kernel) rfl rfl (Nat.le_of_ble_eq_true rfl) dX18_told_27 (fun H locs hP hD hS => ?_)
    replace hP : va_P (dC, dI) vwCl [(om, .inr (20, [.ref mt, .ref qu, .int 0, .int 1, .ref lv, .int (-1), .int 0, .int 0, .ref mi, .int 0, .int 0, .int 0, .int 0, .ref ml, .ref mss, .ref rn, .ref sw, .ref mf, .null, .int 0, .ref msp, .int 0, .int 0, .int 0])), (lv, .inr (1, [.int 0, .ref de, .int 0])), (rn, .inr (1, [.int 0, .ref de, .int 0])), (sw, .inr (1, [.int 0, .ref de, .int 0])), (ml, .inl (cS, 6, .inl (slotF))), (mf, .inl (cF, 96, .inl (fun _ => 0)))] H := hP
    replace hD : va_D A [(om, .inr (20, [.ref mt, .ref qu, .int 0, .int 1, .ref lv, .int (-1), .int 0, .int 0, .ref mi, .int 0, .int 0, .int 0, .int 0, .ref ml, .ref mss, .ref rn, .ref sw, .ref mf, .null, .int 0, .ref msp, .int 0, .int 0, .int 0])), (lv, .inr (1, [.int 0, .ref de, .int 0])), (rn, .inr (1, [.int 0, .ref de, .int 0])), (sw, .inr (1, [.int 0, .ref de, .int 0])), (ml, .inl (cS, 6, .inl (slotF))), (mf, .inl (cF, 96, .inl (fun _ => 0)))] := hD
    refine lv_aload_n hx hb dX18_told_30 rfl (lv_at hl 0 rfl) ?_
    refine va_get (D := (dC, dI)) (ci := 20) (v := .int 1) (C := RX18) (T := TX18) (N := 24) hx hb ht inlX18 hown hK hP 0 rfl rfl 3 (by decide) (ht _ (wr_17 _ (List.mem_of_getElem? (i := 5) rfl))) (fun _ h9 => h9) rfl dX18_told_31 ?_
    refine lv_if_le (tgt := 39) hx hb dX18_told_34 (by decide) (fun c_34 => absurd c_34 (by decide)) (fun c_34 => ?_)
    refine lv_iconst (v := 0) hx hb dX18_told_37 (by decide) ?_
    have hP9 := hP.sub (ws' := [(om, .inr (20, [.ref mt, .ref qu, .int 0, .int 1, .ref lv, .int (-1), .int 0, .int 0, .ref mi, .int 0, .int 0, .int 0, .int 0, .ref ml, .ref mss, .ref rn, .ref sw, .ref mf, .null, .int 0, .ref msp, .int 0, .int 0, .int 0])), (lv, .inr (1, [.int 0, .ref de, .int 0])), (rn, .inr (1, [.int 0, .ref de, .int 0])), (sw, .inr (1, [.int 0, .ref de, .int 0])), (ml, .inl (cS, 6, .inl (slotF))), (mf, .inl (cF, 96, .inl (fun _ => 0)))]) [0, 1, 2, 3, 4, 5] rfl
    have hD9 := hD.sub (ws' := [(om, .inr (20, [.ref mt, .ref qu, .int 0, .int 1, .ref lv, .int (-1), .int 0, .int 0, .ref mi, .int 0, .int 0, .int 0, .int 0, .ref ml, .ref mss, .ref rn, .ref sw, .ref mf, .null, .int 0, .ref msp, .int 0, .int 0, .int 0])), (lv, .inr (1, [.int 0, .ref de, .int 0])), (rn, .inr (1, [.int 0, .ref de, .int 0])), (sw, .inr (1, [.int 0, .ref de, .int 0])), (ml, .inl (cS, 6, .inl (slotF))), (mf, .inl (cF, 96, .inl (fun _ => 0)))]) [0, 1, 2, 3, 4, 5] (by decide) rfl
    have hK9 := hK.sub (tys' := [(cS, .int), (cF, .int)]) [0, 1] rfl
    exact W.iret (v := 0) hx hb hr (fun t htt hW => have ht := htt; ⟨⟨0, 1, rfl, (Or.inl ⟨rfl, (fun h => sg_nge hw_5 c_8 (told_has.mpr h))⟩), QW_of ht hW hP9 hK9 hD9⟩, hS.F ht⟩) hS.2.2 dX18_told_38
