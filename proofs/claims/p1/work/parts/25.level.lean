/-- ldc_w of a text -/
theorem va_ldcSW {p : Program} {l : Launch} {e : Env} {R : Room} {s : State} {m : MethodId} {args : Array Value} {below : List Frame} {meth : Method} {c : Code} {H : Heap} {locs : List Loc} {cells slots : Nat} {Q : State → Prop} {cc : ByteArray} {pc : Nat} {ls : Array Slot} {rest : List Value} (hexec : p.tables.exec = Jvm.exec) (hb : c.code = cc) {own tx : String} {index q : Nat} (hown : s.vm.findClass own = some m.cls) (hZ : vk_R own index tx q s) (hdg : decode cc pc = .ok (.ldc_w index, 3))
    (k : W p l e R s m args below meth c H locs cells slots Q (F0 m (pc + 3) ls (.ref q :: rest))) : W p l e R s m args below meth c H locs cells slots Q (F0 m pc ls rest) := by
  intro T hT X
  obtain ⟨t, a1, b1⟩ := k T hT X
  exact ⟨t, X.ldcStringW hexec hown (text := tx) (a := q) hZ.1 hZ.2 (g := F0 m pc ls rest) rfl (by rw [hb]; exact hdg) t a1, b1⟩
theorem sg_ge {n : Nat} {byt : List Int32} {ch r : Int32} (h : SGr n byt ch r) (hr : 0 ≤ r) : Has n byt ch := h.elim (fun q => absurd q.1 (i_nlt hr)) (fun q => q.2)
theorem sg_nge {n : Nat} {byt : List Int32} {ch r : Int32} (h : SGr n byt ch r) (hr : ¬ 0 ≤ r) : ¬ Has n byt ch := h.elim (fun q => q.2) (fun q => absurd (i_nlt2 q.1) hr)
theorem sg_lt {n : Nat} {byt : List Int32} {ch r : Int32} (h : SGr n byt ch r) (hr : r < 0) : ¬ Has n byt ch := h.elim (fun q => q.2) (fun q => absurd hr q.1)
theorem sg_nlt {n : Nat} {byt : List Int32} {ch r : Int32} (h : SGr n byt ch r) (hr : ¬ r < 0) : Has n byt ch := h.elim (fun q => absurd q.1 hr) (fun q => q.2)
/-- a row of chars -/
def CH (f : Nat → Int32) : Prop := ∀ j, narrow .char (.int (f j)) = .int (f j)
theorem CH_0 : CH (fun _ => 0) := fun _ => (show narrow .char (.int 0) = .int 0 by decide)
theorem CH_nar (x : Int32) : narrow .char (.int (vp_nar .char x)) = .int (vp_nar .char x) := by
  have e : vp_nar .char x = (x.toUInt32 % 65536).toInt32 := by
    rw [vp_nar_char]
    simp
  rw [e]
  exact pk_nc x
theorem CH_upd {f : Nat → Int32} (h : CH f) (k : Nat) (x : Int32) : CH (upd f k (vp_nar .char x)) := by
  intro j
  unfold upd
  split
  · exact CH_nar x
  · exact h j
theorem nat_of {x M : Int32} {lo n : Nat} {Lo : Int32} (hLo : Lo.toInt = (lo : Int)) (hM : M.toInt = (n : Int)) (h : Lo ≤ x ∧ x ≤ M) : ∃ j : Nat, j ≤ n ∧ nI j = x := by
  have h1 := h.1
  rw [Int32.le_iff_toInt_le, hLo] at h1
  obtain ⟨j, hj, e⟩ := in_nat2 (x := x) (n := n) hM ⟨by rw [Int32.le_iff_toInt_le, Int32.toInt_zero]; omega, h.2⟩
  exact ⟨j, hj, e.symm⟩
abbrev VW (a1 a2 a3 : Int32) : Prop := (3 ≤ a1 ∧ a1 ≤ 12) ∧ (3 ≤ a2 ∧ a2 ≤ 8) ∧ Has 14 gx_signs a3
theorem dX11_checkSign_0 : decode cX11_checkSign 0 = .ok (.ldc_w 452, 3) := by decide +kernel
theorem dX11_checkSign_3 : decode cX11_checkSign 3 = .ok (.iload_n 0, 1) := by decide +kernel
theorem dX11_checkSign_4 : decode cX11_checkSign 4 = .ok (.invokevirtual 454, 3) := by decide +kernel
theorem dX11_checkSign_7 : decode cX11_checkSign 7 = .ok (.ifCond .ge 14, 3) := by decide +kernel
theorem dX11_checkSign_10 : decode cX11_checkSign 10 = .ok (.new 74, 3) := by decide +kernel
theorem dX11_checkSign_13 : decode cX11_checkSign 13 = .ok (.dup, 1) := by decide +kernel
theorem dX11_checkSign_14 : decode cX11_checkSign 14 = .ok (.ldc_w 459, 3) := by decide +kernel
theorem dX11_checkSign_17 : decode cX11_checkSign 17 = .ok (.invokespecial 78, 3) := by decide +kernel
theorem dX11_checkSign_20 : decode cX11_checkSign 20 = .ok (.athrow, 1) := by decide +kernel
theorem dX11_checkSign_21 : decode cX11_checkSign 21 = .ok (.return_, 1) := by decide +kernel
theorem dX18_isTile_0 : decode cX18_isTile 0 = .ok (.ldc 85, 2) := by decide +kernel
theorem dX18_isTile_2 : decode cX18_isTile 2 = .ok (.iload_n 0, 1) := by decide +kernel
theorem dX18_isTile_3 : decode cX18_isTile 3 = .ok (.invokevirtual 87, 3) := by decide +kernel
theorem dX18_isTile_6 : decode cX18_isTile 6 = .ok (.ifCond .lt 7, 3) := by decide +kernel
theorem dX18_isTile_9 : decode cX18_isTile 9 = .ok (.iconst 1, 1) := by decide +kernel
theorem dX18_isTile_10 : decode cX18_isTile 10 = .ok (.goto 4, 3) := by decide +kernel
theorem dX18_isTile_13 : decode cX18_isTile 13 = .ok (.iconst 0, 1) := by decide +kernel
theorem dX18_isTile_14 : decode cX18_isTile 14 = .ok (.ireturn, 1) := by decide +kernel
theorem dX11_checkRoomForLevel_0 : decode cX11_checkRoomForLevel 0 = .ok (.aload_n 0, 1) := by decide +kernel
theorem dX11_checkRoomForLevel_1 : decode cX11_checkRoomForLevel 1 = .ok (.getfield 12, 3) := by decide +kernel
theorem dX11_checkRoomForLevel_4 : decode cX11_checkRoomForLevel 4 = .ok (.invokevirtual 108, 3) := by decide +kernel
theorem dX11_checkRoomForLevel_7 : decode cX11_checkRoomForLevel 7 = .ok (.iconst 5, 1) := by decide +kernel
theorem dX11_checkRoomForLevel_8 : decode cX11_checkRoomForLevel 8 = .ok (.if_icmp .lt 14, 3) := by decide +kernel
theorem dX11_checkRoomForLevel_22 : decode cX11_checkRoomForLevel 22 = .ok (.return_, 1) := by decide +kernel
theorem dX5_has_0 : decode cX5_has 0 = .ok (.iload_n 1, 1) := by decide +kernel
theorem dX5_has_1 : decode cX5_has 1 = .ok (.ifCond .lt 39, 3) := by decide +kernel
theorem dX5_has_4 : decode cX5_has 4 = .ok (.iload_n 1, 1) := by decide +kernel
theorem dX5_has_5 : decode cX5_has 5 = .ok (.aload_n 0, 1) := by decide +kernel
theorem dX5_has_6 : decode cX5_has 6 = .ok (.getfield 9, 3) := by decide +kernel
theorem dX5_has_9 : decode cX5_has 9 = .ok (.if_icmp .ge 31, 3) := by decide +kernel
theorem dX5_has_12 : decode cX5_has 12 = .ok (.iload_n 1, 1) := by decide +kernel
theorem dX5_has_13 : decode cX5_has 13 = .ok (.bipush 12, 2) := by decide +kernel
theorem dX5_has_15 : decode cX5_has 15 = .ok (.if_icmp .ge 25, 3) := by decide +kernel
theorem dX5_has_18 : decode cX5_has 18 = .ok (.iload_n 2, 1) := by decide +kernel
theorem dX5_has_19 : decode cX5_has 19 = .ok (.ifCond .lt 21, 3) := by decide +kernel
theorem dX5_has_22 : decode cX5_has 22 = .ok (.iload_n 2, 1) := by decide +kernel
theorem dX5_has_23 : decode cX5_has 23 = .ok (.aload_n 0, 1) := by decide +kernel
theorem dX5_has_24 : decode cX5_has 24 = .ok (.getfield 15, 3) := by decide +kernel
theorem dX5_has_27 : decode cX5_has 27 = .ok (.if_icmp .ge 13, 3) := by decide +kernel
theorem dX5_has_30 : decode cX5_has 30 = .ok (.iload_n 2, 1) := by decide +kernel
theorem dX5_has_31 : decode cX5_has 31 = .ok (.bipush 8, 2) := by decide +kernel
theorem dX5_has_33 : decode cX5_has 33 = .ok (.if_icmp .ge 7, 3) := by decide +kernel
theorem dX5_has_36 : decode cX5_has 36 = .ok (.iconst 1, 1) := by decide +kernel
theorem dX5_has_37 : decode cX5_has 37 = .ok (.goto 4, 3) := by decide +kernel
theorem dX5_has_40 : decode cX5_has 40 = .ok (.iconst 0, 1) := by decide +kernel
theorem dX5_has_41 : decode cX5_has 41 = .ok (.ireturn, 1) := by decide +kernel
theorem dX5_tileAt_0 : decode cX5_tileAt 0 = .ok (.iload_n 1, 1) := by decide +kernel
theorem dX5_tileAt_1 : decode cX5_tileAt 1 = .ok (.ifCond .lt 21, 3) := by decide +kernel
theorem dX5_tileAt_4 : decode cX5_tileAt 4 = .ok (.iload_n 1, 1) := by decide +kernel
theorem dX5_tileAt_5 : decode cX5_tileAt 5 = .ok (.aload_n 0, 1) := by decide +kernel
theorem dX5_tileAt_6 : decode cX5_tileAt 6 = .ok (.getfield 9, 3) := by decide +kernel
theorem dX5_tileAt_9 : decode cX5_tileAt 9 = .ok (.if_icmp .ge 13, 3) := by decide +kernel
theorem dX5_tileAt_12 : decode cX5_tileAt 12 = .ok (.iload_n 1, 1) := by decide +kernel
theorem dX5_tileAt_13 : decode cX5_tileAt 13 = .ok (.bipush 12, 2) := by decide +kernel
theorem dX5_tileAt_15 : decode cX5_tileAt 15 = .ok (.if_icmp .ge 7, 3) := by decide +kernel
theorem dX5_tileAt_18 : decode cX5_tileAt 18 = .ok (.iload_n 2, 1) := by decide +kernel
theorem dX5_tileAt_19 : decode cX5_tileAt 19 = .ok (.ifCond .ge 6, 3) := by decide +kernel
theorem dX5_tileAt_22 : decode cX5_tileAt 22 = .ok (.bipush 35, 2) := by decide +kernel
theorem dX5_tileAt_24 : decode cX5_tileAt 24 = .ok (.ireturn, 1) := by decide +kernel
theorem dX5_tileAt_25 : decode cX5_tileAt 25 = .ok (.iload_n 2, 1) := by decide +kernel
theorem dX5_tileAt_26 : decode cX5_tileAt 26 = .ok (.aload_n 0, 1) := by decide +kernel
theorem dX5_tileAt_27 : decode cX5_tileAt 27 = .ok (.getfield 15, 3) := by decide +kernel
theorem dX5_tileAt_30 : decode cX5_tileAt 30 = .ok (.if_icmp .ge 23, 3) := by decide +kernel
theorem dX5_tileAt_33 : decode cX5_tileAt 33 = .ok (.iload_n 2, 1) := by decide +kernel
theorem dX5_tileAt_34 : decode cX5_tileAt 34 = .ok (.bipush 8, 2) := by decide +kernel
theorem dX5_tileAt_36 : decode cX5_tileAt 36 = .ok (.if_icmp .ge 17, 3) := by decide +kernel
theorem dX5_tileAt_39 : decode cX5_tileAt 39 = .ok (.aload_n 0, 1) := by decide +kernel
theorem dX5_tileAt_40 : decode cX5_tileAt 40 = .ok (.getfield 30, 3) := by decide +kernel
theorem dX5_tileAt_43 : decode cX5_tileAt 43 = .ok (.iload_n 1, 1) := by decide +kernel
theorem dX5_tileAt_44 : decode cX5_tileAt 44 = .ok (.bipush 12, 2) := by decide +kernel
theorem dX5_tileAt_46 : decode cX5_tileAt 46 = .ok (.iload_n 2, 1) := by decide +kernel
theorem dX5_tileAt_47 : decode cX5_tileAt 47 = .ok (.imul, 1) := by decide +kernel
theorem dX5_tileAt_48 : decode cX5_tileAt 48 = .ok (.iadd, 1) := by decide +kernel
theorem dX5_tileAt_49 : decode cX5_tileAt 49 = .ok (.caload, 1) := by decide +kernel
theorem dX5_tileAt_50 : decode cX5_tileAt 50 = .ok (.goto 5, 3) := by decide +kernel
theorem dX5_tileAt_53 : decode cX5_tileAt 53 = .ok (.bipush 46, 2) := by decide +kernel
theorem dX5_tileAt_55 : decode cX5_tileAt 55 = .ok (.ireturn, 1) := by decide +kernel
theorem dX5_lay_0 : decode cX5_lay 0 = .ok (.aload_n 0, 1) := by decide +kernel
theorem dX5_lay_1 : decode cX5_lay 1 = .ok (.iload_n 1, 1) := by decide +kernel
theorem dX5_lay_2 : decode cX5_lay 2 = .ok (.iload_n 2, 1) := by decide +kernel
theorem dX5_lay_3 : decode cX5_lay 3 = .ok (.invokevirtual 50, 3) := by decide +kernel
theorem dX5_lay_6 : decode cX5_lay 6 = .ok (.ifCond .eq 15, 3) := by decide +kernel
theorem dX5_lay_9 : decode cX5_lay 9 = .ok (.aload_n 0, 1) := by decide +kernel
theorem dX5_lay_10 : decode cX5_lay 10 = .ok (.getfield 30, 3) := by decide +kernel
theorem dX5_lay_13 : decode cX5_lay 13 = .ok (.iload_n 1, 1) := by decide +kernel
theorem dX5_lay_14 : decode cX5_lay 14 = .ok (.bipush 12, 2) := by decide +kernel
theorem dX5_lay_16 : decode cX5_lay 16 = .ok (.iload_n 2, 1) := by decide +kernel
theorem dX5_lay_17 : decode cX5_lay 17 = .ok (.imul, 1) := by decide +kernel
theorem dX5_lay_18 : decode cX5_lay 18 = .ok (.iadd, 1) := by decide +kernel
theorem dX5_lay_19 : decode cX5_lay 19 = .ok (.iload_n 3, 1) := by decide +kernel
theorem dX5_lay_20 : decode cX5_lay 20 = .ok (.castore, 1) := by decide +kernel
theorem dX5_lay_21 : decode cX5_lay 21 = .ok (.return_, 1) := by decide +kernel
theorem dX5_paint_0 : decode cX5_paint 0 = .ok (.iconst 0, 1) := by decide +kernel
theorem dX5_paint_1 : decode cX5_paint 1 = .ok (.istore 6, 2) := by decide +kernel
theorem dX5_paint_3 : decode cX5_paint 3 = .ok (.iload_n 2, 1) := by decide +kernel
theorem dX5_paint_4 : decode cX5_paint 4 = .ok (.istore 7, 2) := by decide +kernel
theorem dX5_paint_6 : decode cX5_paint 6 = .ok (.iload 7, 2) := by decide +kernel
theorem dX5_paint_8 : decode cX5_paint 8 = .ok (.aload_n 0, 1) := by decide +kernel
theorem dX5_paint_9 : decode cX5_paint 9 = .ok (.getfield 15, 3) := by decide +kernel
theorem dX5_paint_12 : decode cX5_paint 12 = .ok (.if_icmp .ge 77, 3) := by decide +kernel
theorem dX5_paint_15 : decode cX5_paint 15 = .ok (.iload 7, 2) := by decide +kernel
theorem dX5_paint_17 : decode cX5_paint 17 = .ok (.iload_n 2, 1) := by decide +kernel
theorem dX5_paint_18 : decode cX5_paint 18 = .ok (.isub, 1) := by decide +kernel
theorem dX5_paint_19 : decode cX5_paint 19 = .ok (.iload 4, 2) := by decide +kernel
theorem dX5_paint_21 : decode cX5_paint 21 = .ok (.if_icmp .ge 68, 3) := by decide +kernel
theorem dX5_paint_24 : decode cX5_paint 24 = .ok (.iload_n 1, 1) := by decide +kernel
theorem dX5_paint_25 : decode cX5_paint 25 = .ok (.istore 8, 2) := by decide +kernel
theorem dX5_paint_27 : decode cX5_paint 27 = .ok (.iload 8, 2) := by decide +kernel
theorem dX5_paint_29 : decode cX5_paint 29 = .ok (.aload_n 0, 1) := by decide +kernel
theorem dX5_paint_30 : decode cX5_paint 30 = .ok (.getfield 9, 3) := by decide +kernel
theorem dX5_paint_33 : decode cX5_paint 33 = .ok (.if_icmp .ge 50, 3) := by decide +kernel
theorem dX5_paint_36 : decode cX5_paint 36 = .ok (.iload 8, 2) := by decide +kernel
theorem dX5_paint_38 : decode cX5_paint 38 = .ok (.iload_n 1, 1) := by decide +kernel
theorem dX5_paint_39 : decode cX5_paint 39 = .ok (.isub, 1) := by decide +kernel
theorem dX5_paint_40 : decode cX5_paint 40 = .ok (.iload_n 3, 1) := by decide +kernel
theorem dX5_paint_41 : decode cX5_paint 41 = .ok (.if_icmp .ge 42, 3) := by decide +kernel
theorem dX5_paint_44 : decode cX5_paint 44 = .ok (.iload 6, 2) := by decide +kernel
theorem dX5_paint_46 : decode cX5_paint 46 = .ok (.aload_n 0, 1) := by decide +kernel
theorem dX5_paint_47 : decode cX5_paint 47 = .ok (.iload 8, 2) := by decide +kernel
theorem dX5_paint_49 : decode cX5_paint 49 = .ok (.iload 7, 2) := by decide +kernel
theorem dX5_paint_51 : decode cX5_paint 51 = .ok (.invokevirtual 54, 3) := by decide +kernel
theorem dX5_paint_54 : decode cX5_paint 54 = .ok (.iload 5, 2) := by decide +kernel
theorem dX5_paint_56 : decode cX5_paint 56 = .ok (.if_icmp .ne 7, 3) := by decide +kernel
theorem dX5_paint_59 : decode cX5_paint 59 = .ok (.iconst 0, 1) := by decide +kernel
theorem dX5_paint_60 : decode cX5_paint 60 = .ok (.goto 4, 3) := by decide +kernel
theorem dX5_paint_63 : decode cX5_paint 63 = .ok (.iconst 1, 1) := by decide +kernel
theorem dX5_paint_64 : decode cX5_paint 64 = .ok (.iadd, 1) := by decide +kernel
theorem dX5_paint_65 : decode cX5_paint 65 = .ok (.istore 6, 2) := by decide +kernel
theorem dX5_paint_67 : decode cX5_paint 67 = .ok (.aload_n 0, 1) := by decide +kernel
theorem dX5_paint_68 : decode cX5_paint 68 = .ok (.iload 8, 2) := by decide +kernel
theorem dX5_paint_70 : decode cX5_paint 70 = .ok (.iload 7, 2) := by decide +kernel
theorem dX5_paint_72 : decode cX5_paint 72 = .ok (.iload 5, 2) := by decide +kernel
theorem dX5_paint_74 : decode cX5_paint 74 = .ok (.invokevirtual 58, 3) := by decide +kernel
theorem dX5_paint_77 : decode cX5_paint 77 = .ok (.iinc 8 1, 3) := by decide +kernel
theorem dX5_paint_80 : decode cX5_paint 80 = .ok (.goto (-53), 3) := by decide +kernel
theorem dX5_paint_83 : decode cX5_paint 83 = .ok (.iinc 7 1, 3) := by decide +kernel
theorem dX5_paint_86 : decode cX5_paint 86 = .ok (.goto (-80), 3) := by decide +kernel
theorem dX5_paint_89 : decode cX5_paint 89 = .ok (.iload 6, 2) := by decide +kernel
theorem dX5_paint_91 : decode cX5_paint 91 = .ok (.ireturn, 1) := by decide +kernel
set_option maxHeartbeats 4000000 in
set_option maxRecDepth 100000 in
theorem c_X11_checkSign (l : Launch) (hlt : l.stackTraces = false) (dC : Nat → ClassId) (dI : Nat → Nat → Nat) (de : Nat) (a1 : Int32) (sz : Nat) : vx_Met l yX11_checkSign (.code yX11_checkSign cX11_checkSign 1 none :: wsL_law) { frames := 6, cells := 1, slots := 6, locals := 106 } (va_Pc [.int a1] (PW dC dI de [] [] sz)) (va_Qv (fun (u : Unit) => Has 14 gx_signs a1) (fun (_ : Unit) (t : State) => QW dC dI [] [] (va_A [] sz) t) (va_A [] sz)) (XX (fun E => E = "java/lang/IllegalArgumentException" ∧ ¬ Has 14 gx_signs a1) (va_A [] sz)) 1 6 (va_A [] sz) := by
  refine vx_ofW (cc := cX11_checkSign) (maxL := 1) (ret := none) (by decide) rfl ?_
  intro p e s m args below meth c s₁ B hml hex hv
  obtain ⟨rfl, hsz, hP, hK, hD0, hG⟩ := hv
  have hx := B.exec
  have hb := B.bytes
  have hr := B.returns
  have hts := atoms_spec (ws := .code yX11_checkSign cX11_checkSign 1 none :: wsL_law) B.pre
  have ht : ∀ w ∈ wsL_law, w.before _ s = true := fun w h => hts w (List.mem_cons_of_mem _ h)
  have hown : s.vm.findClass RX11 = some m.cls := findClass_of_methodNamed B.named
  have hlocks := B.notSynchronized
  subst hsz
  have hD := hD0.self (sz := s.heap.size)
  generalize hAe : va_A [] s.heap.size = A at hD hG ⊢
  have hA : ∀ q : Nat, s.heap.size ≤ q → A q := fun q h => by rw [← hAe]; exact Or.inr h
  have hS : va_S A s.heap s.heap [] := va_S.rf
  have hP : va_P (dC, dI) vwCl [] s.heap := hP
  have hD : va_D A [] := hD
  have hl := lv_entry ([.int a1]) (n := 1) (Nat.le_of_ble_eq_true rfl)
  rw [lg_entry_eq]
  generalize (lg_sl ([.int a1]) ++ List.replicate (1 - (lg_sl ([.int a1])).length) Slot.unset).toArray = ls at hl ⊢
  have hl : lv_has ls 1 [(0, .int a1)] := hl
  obtain ⟨q4, hR4, hQ4⟩ := hG.1.2.2.2.2.2.1
  obtain ⟨sv4, hO4, -⟩ := id hQ4
  refine va_ldcSW hx hb hown hR4 dX11_checkSign_0 ?_
  refine lv_iload_n hx hb dX11_checkSign_3 rfl (lv_at hl 0 rfl) ?_
  have hPc := hP.sub (ws' := []) [] rfl
  have hDc := hD.sub (ws' := []) [] (by decide) rfl
  have hKc := hK.sub (tys' := []) [] rfl
  have hFc := va_free (wc := []) hD hS hA [] rfl
  refine va_calli (va_runV (As := [.int a1]) (rest := []) ⟨hx, hb, hml, hown, ht⟩ (c_J0_indexOf_0f7a4 l dC dI de (q4) (14) (gx_signs) (a1) s.heap.size signs_small (by decide) (by decide)) (cwV 1 ht (gWV (wr_10 _ (List.mem_of_getElem? (i := 6) rfl)) (wr_10 _ (List.mem_of_getElem? (i := 7) rfl)) (wr_10 _ (List.mem_of_getElem? (i := 8) rfl)) (wr_10 _ (List.mem_of_getElem? (i := 9) rfl)) (wr_10 _ (List.mem_of_getElem? (i := 10) rfl))) rfl rfl rfl (by decide +kernel) ⟨Nat.le_of_ble_eq_true rfl, Nat.le_of_ble_eq_true rfl⟩) ⟨(PX_blind XQ_same), (va_Orecv hO4 hS), PX_call XQ_go hQ4 hPc hDc hKc hS hG hFc⟩ rfl rfl hl.1 rfl (lv_room (Nat.le_of_ble_eq_true rfl)) dX11_checkSign_4 ⟨Nat.le_of_ble_eq_true rfl, Nat.le_of_ble_eq_true rfl⟩) hS (fun q _ h => hFc q h) hFc (fun r_4 u t H1 locs ht9 hvm hw hB hz1 hk1 hS => ?_)
  obtain ⟨hP1, hK1, hD1⟩ := hB
  rw [ht9] at hP1
  have hK1 := va_K.moved hvm.symm hK1
  obtain ⟨hP, hD⟩ := va_join (wr := []) (w1 := []) hP hD [] [] rfl rfl (by decide) (by decide) hk1 hFc hP1 hD1
  have hK := (hK.sub (tys' := []) [] rfl).app hK1
  generalize H1 = H at hP hS ⊢
  replace hP : va_P (dC, dI) vwCl [] H := hP
  replace hD : va_D A [] := hD
  have hK : va_K (dC, dI) vwCl [] s := hK
  have hw_4 := hw
  refine lv_if_ge (tgt := 21) hx hb dX11_checkSign_7 (by decide) (fun c_7 => ?_) (fun c_7 => ?_)
  · refine W.widen (k := 1) (n := 6) (Nat.le_of_ble_eq_true rfl) (Nat.le_of_ble_eq_true rfl) ?_
    exact vx_ret (W.vret hx hb hr (fun t htt hW => have ht := htt; ⟨⟨(), rfl, (sg_ge hw_4 c_7), QW_of ht hW hP hK hD⟩, hS.F ht⟩) hS.2.2 dX11_checkSign_21)
  · obtain ⟨sa, hstr⟩ := hG.2.1 (459, "no such tile") (List.mem_of_getElem? (i := 3) rfl)
    exact vx_throwSW hx hb hlt hown (by decide) (by decide) (ht _ (wr_9 _ (List.mem_of_getElem? (i := 21) rfl))) (ht _ (wr_9 _ (List.mem_of_getElem? (i := 22) rfl))) hstr (vx_hat (fun w h => ht w (wx_0 w h)) te_0 (gx_bad hG (X := "java/lang/IllegalArgumentException") (List.mem_of_getElem? (i := 1) rfl))) tg_0 hG.1.1 hG.1.2.1 hS (by rw [hml]; exact hl.1) dX11_checkSign_10 dX11_checkSign_13 dX11_checkSign_14 dX11_checkSign_17 dX11_checkSign_20 (fun x hx => (hex x hx).elim) (Nat.le_of_ble_eq_true rfl) (Nat.le_of_ble_eq_true rfl) (Nat.le_of_ble_eq_true rfl) (Nat.le_of_ble_eq_true rfl) hlocks (fun t hv9 h1 h2 => XX_of ⟨rfl, sg_nge hw_4 c_7⟩ hS hA h1 h2) hS.2.2 (Nat.le_of_ble_eq_true rfl) (Nat.le_of_ble_eq_true rfl)
set_option maxHeartbeats 4000000 in
set_option maxRecDepth 100000 in
theorem c_X18_isTile (l : Launch) (dC : Nat → ClassId) (dI : Nat → Nat → Nat) (de : Nat) (a1 : Int32) (sz : Nat) : Met l yX18_isTile (.code yX18_isTile cX18_isTile 1 (some .boolean) :: wsL_law) { frames := 4, cells := 0, slots := 0, locals := 106 } (va_Pc [.int a1] (PW dC dI de [] [] sz)) (va_Qi (fun (r : Int32) (u : Unit) => (r = 1 ∧ Has 14 gx_signs a1) ∨ (r = 0 ∧ ¬ Has 14 gx_signs a1)) (fun (_ : Unit) (t : State) => QW dC dI [] [] (va_A [] sz) t) (va_A [] sz)) 0 0 (va_A [] sz) := by
  refine Met.ofW (cc := cX18_isTile) (maxL := 1) (ret := (some .boolean)) (by decide) rfl ?_
  intro p e s m args below meth c s₁ B hml hv
  obtain ⟨rfl, hsz, hP, hK, hD0, hG⟩ := hv
  have hx := B.exec
  have hb := B.bytes
  have hr := B.returns
  have hts := atoms_spec (ws := .code yX18_isTile cX18_isTile 1 (some .boolean) :: wsL_law) B.pre
  have ht : ∀ w ∈ wsL_law, w.before _ s = true := fun w h => hts w (List.mem_cons_of_mem _ h)
  have hown : s.vm.findClass RX18 = some m.cls := findClass_of_methodNamed B.named
  have hlocks := B.notSynchronized
  subst hsz
  have hD := hD0.self (sz := s.heap.size)
  generalize hAe : va_A [] s.heap.size = A at hD hG ⊢
  have hA : ∀ q : Nat, s.heap.size ≤ q → A q := fun q h => by rw [← hAe]; exact Or.inr h
  have hS : va_S A s.heap s.heap [] := va_S.rf
  have hP : va_P (dC, dI) vwCl [] s.heap := hP
  have hD : va_D A [] := hD
  have hl := lv_entry ([.int a1]) (n := 1) (Nat.le_of_ble_eq_true rfl)
  rw [lg_entry_eq]
  generalize (lg_sl ([.int a1]) ++ List.replicate (1 - (lg_sl ([.int a1])).length) Slot.unset).toArray = ls at hl ⊢
  have hl : lv_has ls 1 [(0, .int a1)] := hl
  obtain ⟨q4, hR4, hQ4⟩ := hG.1.2.2.2.2.2.2.1
  obtain ⟨sv4, hO4, -⟩ := id hQ4
  refine va_ldcS hx hb hown hR4 dX18_isTile_0 ?_
  refine lv_iload_n hx hb dX18_isTile_2 rfl (lv_at hl 0 rfl) ?_
  have hPc := hP.sub (ws' := []) [] rfl
  have hDc := hD.sub (ws' := []) [] (by decide) rfl
  have hKc := hK.sub (tys' := []) [] rfl
  have hFc := va_free (wc := []) hD hS hA [] rfl
  refine va_calli (va_runV (As := [.int a1]) (rest := []) ⟨hx, hb, hml, hown, ht⟩ (c_J0_indexOf_0f7a4 l dC dI de (q4) (14) (gx_signs) (a1) s.heap.size signs_small (by decide) (by decide)) (cwV 1 ht (gWV (wr_17 _ (List.mem_of_getElem? (i := 15) rfl)) (wr_10 _ (List.mem_of_getElem? (i := 7) rfl)) (wr_10 _ (List.mem_of_getElem? (i := 8) rfl)) (wr_10 _ (List.mem_of_getElem? (i := 9) rfl)) (wr_10 _ (List.mem_of_getElem? (i := 10) rfl))) rfl rfl rfl (by decide +kernel) ⟨Nat.le_of_ble_eq_true rfl, Nat.le_of_ble_eq_true rfl⟩) ⟨(PX_blind XQ_same), (va_Orecv hO4 hS), PX_call XQ_go hQ4 hPc hDc hKc hS hG hFc⟩ rfl rfl hl.1 rfl (lv_room (Nat.le_of_ble_eq_true rfl)) dX18_isTile_3 ⟨Nat.le_of_ble_eq_true rfl, Nat.le_of_ble_eq_true rfl⟩) hS (fun q _ h => hFc q h) hFc (fun r_3 u t H1 locs ht9 hvm hw hB hz1 hk1 hS => ?_)
  obtain ⟨hP1, hK1, hD1⟩ := hB
  rw [ht9] at hP1
  have hK1 := va_K.moved hvm.symm hK1
  obtain ⟨hP, hD⟩ := va_join (wr := []) (w1 := []) hP hD [] [] rfl rfl (by decide) (by decide) hk1 hFc hP1 hD1
  have hK := (hK.sub (tys' := []) [] rfl).app hK1
  generalize H1 = H at hP hS ⊢
  replace hP : va_P (dC, dI) vwCl [] H := hP
  replace hD : va_D A [] := hD
  have hK : va_K (dC, dI) vwCl [] s := hK
  have hw_3 := hw
  refine lv_if_lt (tgt := 13) hx hb dX18_isTile_6 (by decide) (fun c_6 => ?_) (fun c_6 => ?_)
  · refine lv_iconst (v := 0) hx hb dX18_isTile_13 (by decide) ?_
    exact W.zret (v := 0) hx hb hr (by decide) (fun t htt hW => have ht := htt; ⟨⟨0, (), rfl, (Or.inr ⟨rfl, sg_lt hw_3 c_6⟩), QW_of ht hW hP hK hD⟩, hS.F ht⟩) hS.2.2 dX18_isTile_14
  · refine lv_iconst (v := 1) hx hb dX18_isTile_9 (by decide) ?_
    refine lv_goto (tgt := 14) hx hb dX18_isTile_10 (by decide) ?_
    exact W.zret (v := 1) hx hb hr (by decide) (fun t htt hW => have ht := htt; ⟨⟨1, (), rfl, (Or.inl ⟨rfl, sg_nlt hw_3 c_6⟩), QW_of ht hW hP hK hD⟩, hS.F ht⟩) hS.2.2 dX18_isTile_14
set_option maxHeartbeats 4000000 in
set_option maxRecDepth 100000 in
theorem c_X11_checkRoomForLevel (l : Launch) (dC : Nat → ClassId) (dI : Nat → Nat → Nat) (de : Nat) (ox : Nat) (pl : Nat) (ru : Nat) (sh : Nat) (sp : Nat) (sl : Nat) (gr : Nat) (re : Nat) (pr : Nat) (ga : Nat) (rp : Nat) (bo : Nat) (fa : Nat) (gpl : Nat) (gin : Nat) (bbe : Nat) (bdi : Nat) (cP : ClassId) (cI : ClassId) (sz : Nat) : Met l yX11_checkRoomForLevel (.code yX11_checkRoomForLevel cX11_checkRoomForLevel 1 none :: wsL_law) { frames := 1, cells := 0, slots := 0, locals := 20 } (va_Pc [.ref ox] (PW dC dI de [(cP, .object "Levelsmith$Player"), (cI, .int)] (WX ox pl ru sh sp sl gr re pr ga rp bo fa gpl gin bbe bdi cP cI de) sz)) (va_Qv (fun (u : Unit) => True) (fun (_ : Unit) (t : State) => QW dC dI [(cP, .object "Levelsmith$Player"), (cI, .int)] (WX ox pl ru sh sp sl gr re pr ga rp bo fa gpl gin bbe bdi cP cI de) (va_A (WX ox pl ru sh sp sl gr re pr ga rp bo fa gpl gin bbe bdi cP cI de) sz) t) (va_A (WX ox pl ru sh sp sl gr re pr ga rp bo fa gpl gin bbe bdi cP cI de) sz)) 0 0 (va_A (WX ox pl ru sh sp sl gr re pr ga rp bo fa gpl gin bbe bdi cP cI de) sz) := by
  refine Met.ofW (cc := cX11_checkRoomForLevel) (maxL := 1) (ret := none) (by decide) rfl ?_
  intro p e s m args below meth c s₁ B hml hv
  obtain ⟨rfl, hsz, hP, hK, hD0, hG⟩ := hv
  have hx := B.exec
  have hb := B.bytes
  have hr := B.returns
  have hts := atoms_spec (ws := .code yX11_checkRoomForLevel cX11_checkRoomForLevel 1 none :: wsL_law) B.pre
  have ht : ∀ w ∈ wsL_law, w.before _ s = true := fun w h => hts w (List.mem_cons_of_mem _ h)
  have hown : s.vm.findClass RX11 = some m.cls := findClass_of_methodNamed B.named
  have hlocks := B.notSynchronized
  subst hsz
  have hD := hD0.self (sz := s.heap.size)
  generalize hAe : va_A (WX ox pl ru sh sp sl gr re pr ga rp bo fa gpl gin bbe bdi cP cI de) s.heap.size = A at hD hG ⊢
  have hA : ∀ q : Nat, s.heap.size ≤ q → A q := fun q h => by rw [← hAe]; exact Or.inr h
  have hS : va_S A s.heap s.heap [] := va_S.rf
  have hP : va_P (dC, dI) vwCl [(ox, .inr (13, [.ref pl, .ref ru, .ref sh, .ref sp, .ref sl, .ref gr, .ref re, .ref pr, .ref ga, .ref rp, .ref bo, .int 0])), (pl, .inr (1, [.int 0, .ref de, .int 0])), (ru, .inr (1, [.int 0, .ref de, .int 0])), (sh, .inr (1, [.int 0, .ref de, .int 0])), (sp, .inl (cP, 6, .inr (.inr (.inr (.inr (fun _ => none)))))), (ga, .inr (5, [.ref gpl, .ref gin, .int (-1), .int 0, .int 112, .int 0])), (bo, .inr (2, [.ref fa, .ref bbe, .ref bdi, .int 0, .int 0])), (fa, .inl (cI, 96, .inl (fun _ => 0)))] s.heap := hP
  have hD : va_D A [(ox, .inr (13, [.ref pl, .ref ru, .ref sh, .ref sp, .ref sl, .ref gr, .ref re, .ref pr, .ref ga, .ref rp, .ref bo, .int 0])), (pl, .inr (1, [.int 0, .ref de, .int 0])), (ru, .inr (1, [.int 0, .ref de, .int 0])), (sh, .inr (1, [.int 0, .ref de, .int 0])), (sp, .inl (cP, 6, .inr (.inr (.inr (.inr (fun _ => none)))))), (ga, .inr (5, [.ref gpl, .ref gin, .int (-1), .int 0, .int 112, .int 0])), (bo, .inr (2, [.ref fa, .ref bbe, .ref bdi, .int 0, .int 0])), (fa, .inl (cI, 96, .inl (fun _ => 0)))] := hD
  have hl := lv_entry ([.ref ox]) (n := 1) (Nat.le_of_ble_eq_true rfl)
  rw [lg_entry_eq]
  generalize (lg_sl ([.ref ox]) ++ List.replicate (1 - (lg_sl ([.ref ox])).length) Slot.unset).toArray = ls at hl ⊢
  have hl : lv_has ls 1 [(0, .ref ox)] := hl
  refine lv_aload_n hx hb dX11_checkRoomForLevel_0 rfl (lv_at hl 0 rfl) ?_
  refine va_get (D := (dC, dI)) (ci := 13) (v := .ref pl) (C := RX11) (T := TX11) (N := 12) hx hb ht inlX11 hown hK hP 0 rfl rfl 0 (by decide) (ht _ (wr_1 _ (List.mem_of_getElem? (i := 17) rfl))) (fun _ h9 => h9) rfl dX11_checkRoomForLevel_1 ?_
  have hPc := hP.sub (ws' := [(pl, .inr (1, [.int 0, .ref de, .int 0]))]) [1] rfl
  have hDc := hD.sub (ws' := [(pl, .inr (1, [.int 0, .ref de, .int 0]))]) [1] (by decide) rfl
  have hKc := hK.sub (tys' := []) [] rfl
  have hFc := va_free (wc := [(pl, .inr (1, [.int 0, .ref de, .int 0]))]) hD hS hA [1] rfl
  refine va_calli (va_runV (As := []) (rest := []) ⟨hx, hb, hml, hown, ht⟩ (c_Jx4a65c_size_8abf5 l dC dI de (pl) (0) (.ref de) (0) s.heap.size) (cwV 0 ht (gWV (wr_14 _ (List.mem_of_getElem? (i := 5) rfl)) (wr_14 _ (List.mem_of_getElem? (i := 6) rfl)) (wr_14 _ (List.mem_of_getElem? (i := 7) rfl)) (wr_1 _ (List.mem_of_getElem? (i := 16) rfl)) (wr_14 _ (List.mem_of_getElem? (i := 8) rfl))) rfl rfl rfl (by decide +kernel) ⟨Nat.le_of_ble_eq_true rfl, Nat.le_of_ble_eq_true rfl⟩) ⟨PW_blind, va_recv hKc hPc (ci := 1) (q0 := 0) rfl rfl, PW_call hPc hDc hKc hS hG hFc⟩ rfl rfl hl.1 rfl (lv_room (Nat.le_of_ble_eq_true rfl)) dX11_checkRoomForLevel_4 ⟨Nat.le_of_ble_eq_true rfl, Nat.le_of_ble_eq_true rfl⟩) hS (fun q _ h => hFc q h) hFc (fun r_4 u t H1 locs ht9 hvm hw hB hz1 hk1 hS => ?_)
  obtain ⟨hP1, hK1, hD1⟩ := hB
  rw [ht9] at hP1
  have hK1 := va_K.moved hvm.symm hK1
  obtain ⟨hP, hD⟩ := va_join (wr := [(ox, .inr (13, [.ref pl, .ref ru, .ref sh, .ref sp, .ref sl, .ref gr, .ref re, .ref pr, .ref ga, .ref rp, .ref bo, .int 0])), (ru, .inr (1, [.int 0, .ref de, .int 0])), (sh, .inr (1, [.int 0, .ref de, .int 0])), (sp, .inl (cP, 6, .inr (.inr (.inr (.inr (fun _ => none)))))), (ga, .inr (5, [.ref gpl, .ref gin, .int (-1), .int 0, .int 112, .int 0])), (bo, .inr (2, [.ref fa, .ref bbe, .ref bdi, .int 0, .int 0])), (fa, .inl (cI, 96, .inl (fun _ => 0)))]) (w1 := [(pl, .inr (1, [.int 0, .ref de, .int 0]))]) hP hD [1] [0, 2, 3, 4, 5, 6, 7] rfl rfl (by decide) (by decide) hk1 hFc hP1 hD1
  have hK := (hK.sub (tys' := [(cP, .object "Levelsmith$Player"), (cI, .int)]) [0, 1] rfl).app hK1
  generalize H1 = H at hP hS ⊢
  replace hP : va_P (dC, dI) vwCl [(ox, .inr (13, [.ref pl, .ref ru, .ref sh, .ref sp, .ref sl, .ref gr, .ref re, .ref pr, .ref ga, .ref rp, .ref bo, .int 0])), (ru, .inr (1, [.int 0, .ref de, .int 0])), (sh, .inr (1, [.int 0, .ref de, .int 0])), (sp, .inl (cP, 6, .inr (.inr (.inr (.inr (fun _ => none)))))), (ga, .inr (5, [.ref gpl, .ref gin, .int (-1), .int 0, .int 112, .int 0])), (bo, .inr (2, [.ref fa, .ref bbe, .ref bdi, .int 0, .int 0])), (fa, .inl (cI, 96, .inl (fun _ => 0))), (pl, .inr (1, [.int 0, .ref de, .int 0]))] H := hP
  replace hD : va_D A [(ox, .inr (13, [.ref pl, .ref ru, .ref sh, .ref sp, .ref sl, .ref gr, .ref re, .ref pr, .ref ga, .ref rp, .ref bo, .int 0])), (ru, .inr (1, [.int 0, .ref de, .int 0])), (sh, .inr (1, [.int 0, .ref de, .int 0])), (sp, .inl (cP, 6, .inr (.inr (.inr (.inr (fun _ => none)))))), (ga, .inr (5, [.ref gpl, .ref gin, .int (-1), .int 0, .int 112, .int 0])), (bo, .inr (2, [.ref fa, .ref bbe, .ref bdi, .int 0, .int 0])), (fa, .inl (cI, 96, .inl (fun _ => 0))), (pl, .inr (1, [.int 0, .ref de, .int 0]))] := hD
  have hK : va_K (dC, dI) vwCl [(cP, .object "Levelsmith$Player"), (cI, .int)] s := hK
  have e_4 : r_4 = 0 := hw
  subst e_4
  refine lv_iconst (v := 5) hx hb dX11_checkRoomForLevel_7 (by decide) ?_
  refine lv_icmp_lt (tgt := 22) hx hb dX11_checkRoomForLevel_8 (by decide) (fun c_8 => ?_) (fun c_8 => absurd c_8 (by decide))
  have hP9 := hP.sub (ws' := [(ox, .inr (13, [.ref pl, .ref ru, .ref sh, .ref sp, .ref sl, .ref gr, .ref re, .ref pr, .ref ga, .ref rp, .ref bo, .int 0])), (pl, .inr (1, [.int 0, .ref de, .int 0])), (ru, .inr (1, [.int 0, .ref de, .int 0])), (sh, .inr (1, [.int 0, .ref de, .int 0])), (sp, .inl (cP, 6, .inr (.inr (.inr (.inr (fun _ => none)))))), (ga, .inr (5, [.ref gpl, .ref gin, .int (-1), .int 0, .int 112, .int 0])), (bo, .inr (2, [.ref fa, .ref bbe, .ref bdi, .int 0, .int 0])), (fa, .inl (cI, 96, .inl (fun _ => 0)))]) [0, 7, 1, 2, 3, 4, 5, 6] rfl
  have hD9 := hD.sub (ws' := [(ox, .inr (13, [.ref pl, .ref ru, .ref sh, .ref sp, .ref sl, .ref gr, .ref re, .ref pr, .ref ga, .ref rp, .ref bo, .int 0])), (pl, .inr (1, [.int 0, .ref de, .int 0])), (ru, .inr (1, [.int 0, .ref de, .int 0])), (sh, .inr (1, [.int 0, .ref de, .int 0])), (sp, .inl (cP, 6, .inr (.inr (.inr (.inr (fun _ => none)))))), (ga, .inr (5, [.ref gpl, .ref gin, .int (-1), .int 0, .int 112, .int 0])), (bo, .inr (2, [.ref fa, .ref bbe, .ref bdi, .int 0, .int 0])), (fa, .inl (cI, 96, .inl (fun _ => 0)))]) [0, 7, 1, 2, 3, 4, 5, 6] (by decide) rfl
  have hK9 := hK.sub (tys' := [(cP, .object "Levelsmith$Player"), (cI, .int)]) [0, 1] rfl
  exact W.vret hx hb hr (fun t htt hW => have ht := htt; ⟨⟨(), rfl, trivial, QW_of ht hW hP9 hK9 hD9⟩, hS.F ht⟩) hS.2.2 dX11_checkRoomForLevel_22
set_option maxHeartbeats 4000000 in
set_option maxRecDepth 100000 in
theorem c_X5_has (l : Launch) (dC : Nat → ClassId) (dI : Nat → Nat → Nat) (de : Nat) (pp : Nat) (w : Int32) (h : Int32) (sx : Int32) (sy : Int32) (gn : Int32) (vs : Int32) (pt : Nat) (gx : Nat) (gf : Nat) (gy : Nat) (x : Int32) (y : Int32) (sz : Nat) : Met l yX5_has (.code yX5_has cX5_has 3 (some .boolean) :: wsL_law) { frames := 0, cells := 0, slots := 0, locals := 0 } (va_Pc [.ref pp, .int x, .int y] (PW dC dI de [] [(pp, .inr (7, [.int w, .int h, .int sx, .int sy, .int gn, .int vs, .ref pt, .ref gx, .ref gf, .ref gy]))] sz)) (va_Qi (fun (r : Int32) (u : Unit) => (r = 1 ∧ ¬ x < 0 ∧ x < 12 ∧ ¬ y < 0 ∧ y < 8) ∨ (r = 0 ∧ True)) (fun (_ : Unit) (t : State) => QW dC dI [] [(pp, .inr (7, [.int w, .int h, .int sx, .int sy, .int gn, .int vs, .ref pt, .ref gx, .ref gf, .ref gy]))] (va_A [(pp, .inr (7, [.int w, .int h, .int sx, .int sy, .int gn, .int vs, .ref pt, .ref gx, .ref gf, .ref gy]))] sz) t) (va_A [(pp, .inr (7, [.int w, .int h, .int sx, .int sy, .int gn, .int vs, .ref pt, .ref gx, .ref gf, .ref gy]))] sz)) 0 0 (va_A [(pp, .inr (7, [.int w, .int h, .int sx, .int sy, .int gn, .int vs, .ref pt, .ref gx, .ref gf, .ref gy]))] sz) := by
  refine Met.ofW (cc := cX5_has) (maxL := 3) (ret := (some .boolean)) (by decide) rfl ?_
  intro p e s m args below meth c s₁ B hml hv
  obtain ⟨rfl, hsz, hP, hK, hD0, hG⟩ := hv
  have hx := B.exec
  have hb := B.bytes
  have hr := B.returns
  have hts := atoms_spec (ws := .code yX5_has cX5_has 3 (some .boolean) :: wsL_law) B.pre
  have ht : ∀ w ∈ wsL_law, w.before _ s = true := fun w h => hts w (List.mem_cons_of_mem _ h)
  have hown : s.vm.findClass RX5 = some m.cls := findClass_of_methodNamed B.named
  have hlocks := B.notSynchronized
  subst hsz
  have hD := hD0.self (sz := s.heap.size)
  generalize hAe : va_A [(pp, .inr (7, [.int w, .int h, .int sx, .int sy, .int gn, .int vs, .ref pt, .ref gx, .ref gf, .ref gy]))] s.heap.size = A at hD hG ⊢
  have hA : ∀ q : Nat, s.heap.size ≤ q → A q := fun q h => by rw [← hAe]; exact Or.inr h
  have hS : va_S A s.heap s.heap [] := va_S.rf
  have hP : va_P (dC, dI) vwCl [(pp, .inr (7, [.int w, .int h, .int sx, .int sy, .int gn, .int vs, .ref pt, .ref gx, .ref gf, .ref gy]))] s.heap := hP
  have hD : va_D A [(pp, .inr (7, [.int w, .int h, .int sx, .int sy, .int gn, .int vs, .ref pt, .ref gx, .ref gf, .ref gy]))] := hD
  have hl := lv_entry ([.ref pp, .int x, .int y]) (n := 3) (Nat.le_of_ble_eq_true rfl)
  rw [lg_entry_eq]
  generalize (lg_sl ([.ref pp, .int x, .int y]) ++ List.replicate (3 - (lg_sl ([.ref pp, .int x, .int y])).length) Slot.unset).toArray = ls at hl ⊢
  have hl : lv_has ls 3 [(0, .ref pp), (1, .int x), (2, .int y)] := hl
  refine lv_iload_n hx hb dX5_has_0 rfl (lv_at hl 1 rfl) ?_
  refine lv_if_lt (tgt := 40) hx hb dX5_has_1 (by decide) (fun c_1 => ?_) (fun c_1 => ?_)
  · refine lv_iconst (v := 0) hx hb dX5_has_40 (by decide) ?_
    exact W.zret (v := 0) hx hb hr (by decide) (fun t htt hW => have ht := htt; ⟨⟨0, (), rfl, (Or.inr ⟨rfl, trivial⟩), QW_of ht hW hP hK hD⟩, hS.F ht⟩) hS.2.2 dX5_has_41
  · refine lv_iload_n hx hb dX5_has_4 rfl (lv_at hl 1 rfl) ?_
    refine lv_aload_n hx hb dX5_has_5 rfl (lv_at hl 0 rfl) ?_
    refine va_get (D := (dC, dI)) (ci := 7) (v := .int w) (C := RX5) (T := TX5) (N := 10) hx hb ht inlX5 hown hK hP 0 rfl rfl 0 (by decide) (ht _ (wr_4 _ (List.mem_of_getElem? (i := 9) rfl))) (fun _ h9 => h9) rfl dX5_has_6 ?_
    refine lv_icmp_ge (tgt := 40) hx hb dX5_has_9 (by decide) (fun c_9 => ?_) (fun c_9 => ?_)
    · refine lv_iconst (v := 0) hx hb dX5_has_40 (by decide) ?_
      exact W.zret (v := 0) hx hb hr (by decide) (fun t htt hW => have ht := htt; ⟨⟨0, (), rfl, (Or.inr ⟨rfl, trivial⟩), QW_of ht hW hP hK hD⟩, hS.F ht⟩) hS.2.2 dX5_has_41
    · refine lv_iload_n hx hb dX5_has_12 rfl (lv_at hl 1 rfl) ?_
      refine lv_bipush (v := 12) hx hb dX5_has_13 (by decide) ?_
      refine lv_icmp_ge (tgt := 40) hx hb dX5_has_15 (by decide) (fun c_15 => ?_) (fun c_15 => ?_)
      · refine lv_iconst (v := 0) hx hb dX5_has_40 (by decide) ?_
        exact W.zret (v := 0) hx hb hr (by decide) (fun t htt hW => have ht := htt; ⟨⟨0, (), rfl, (Or.inr ⟨rfl, trivial⟩), QW_of ht hW hP hK hD⟩, hS.F ht⟩) hS.2.2 dX5_has_41
      · refine lv_iload_n hx hb dX5_has_18 rfl (lv_at hl 2 rfl) ?_
        refine lv_if_lt (tgt := 40) hx hb dX5_has_19 (by decide) (fun c_19 => ?_) (fun c_19 => ?_)
        · refine lv_iconst (v := 0) hx hb dX5_has_40 (by decide) ?_
          exact W.zret (v := 0) hx hb hr (by decide) (fun t htt hW => have ht := htt; ⟨⟨0, (), rfl, (Or.inr ⟨rfl, trivial⟩), QW_of ht hW hP hK hD⟩, hS.F ht⟩) hS.2.2 dX5_has_41
        · refine lv_iload_n hx hb dX5_has_22 rfl (lv_at hl 2 rfl) ?_
          refine lv_aload_n hx hb dX5_has_23 rfl (lv_at hl 0 rfl) ?_
          refine va_get (D := (dC, dI)) (ci := 7) (v := .int h) (C := RX5) (T := TX5) (N := 10) hx hb ht inlX5 hown hK hP 0 rfl rfl 1 (by decide) (ht _ (wr_4 _ (List.mem_of_getElem? (i := 10) rfl))) (fun _ h9 => h9) rfl dX5_has_24 ?_
          refine lv_icmp_ge (tgt := 40) hx hb dX5_has_27 (by decide) (fun c_27 => ?_) (fun c_27 => ?_)
          · refine lv_iconst (v := 0) hx hb dX5_has_40 (by decide) ?_
            exact W.zret (v := 0) hx hb hr (by decide) (fun t htt hW => have ht := htt; ⟨⟨0, (), rfl, (Or.inr ⟨rfl, trivial⟩), QW_of ht hW hP hK hD⟩, hS.F ht⟩) hS.2.2 dX5_has_41
          · refine lv_iload_n hx hb dX5_has_30 rfl (lv_at hl 2 rfl) ?_
            refine lv_bipush (v := 8) hx hb dX5_has_31 (by decide) ?_
            refine lv_icmp_ge (tgt := 40) hx hb dX5_has_33 (by decide) (fun c_33 => ?_) (fun c_33 => ?_)
            · refine lv_iconst (v := 0) hx hb dX5_has_40 (by decide) ?_
              exact W.zret (v := 0) hx hb hr (by decide) (fun t htt hW => have ht := htt; ⟨⟨0, (), rfl, (Or.inr ⟨rfl, trivial⟩), QW_of ht hW hP hK hD⟩, hS.F ht⟩) hS.2.2 dX5_has_41
            · refine lv_iconst (v := 1) hx hb dX5_has_36 (by decide) ?_
              refine lv_goto (tgt := 41) hx hb dX5_has_37 (by decide) ?_
              exact W.zret (v := 1) hx hb hr (by decide) (fun t htt hW => have ht := htt; ⟨⟨1, (), rfl, (Or.inl ⟨rfl, c_1, i_lt c_15, c_19, i_lt c_33⟩), QW_of ht hW hP hK hD⟩, hS.F ht⟩) hS.2.2 dX5_has_41
set_option maxHeartbeats 4000000 in
set_option maxRecDepth 100000 in
theorem c_X5_tileAt (l : Launch) (dC : Nat → ClassId) (dI : Nat → Nat → Nat) (de : Nat) (pp : Nat) (w : Int32) (h : Int32) (sx : Int32) (sy : Int32) (gn : Int32) (vs : Int32) (pt : Nat) (gx : Nat) (gf : Nat) (gy : Nat) (cT : ClassId) (f : Nat → Int32) (x : Int32) (y : Int32) (sz : Nat) (hc0 : CH f) : Met l yX5_tileAt (.code yX5_tileAt cX5_tileAt 3 (some .char) :: wsL_law) { frames := 0, cells := 0, slots := 0, locals := 0 } (va_Pc [.ref pp, .int x, .int y] (PW dC dI de [(cT, .char)] [(pp, .inr (7, [.int w, .int h, .int sx, .int sy, .int gn, .int vs, .ref pt, .ref gx, .ref gf, .ref gy])), (pt, .inl (cT, 96, .inl (f)))] sz)) (va_Qi (fun (r : Int32) (u : Unit) => True) (fun (_ : Unit) (t : State) => QW dC dI [(cT, .char)] [(pp, .inr (7, [.int w, .int h, .int sx, .int sy, .int gn, .int vs, .ref pt, .ref gx, .ref gf, .ref gy])), (pt, .inl (cT, 96, .inl (f)))] (va_A [(pp, .inr (7, [.int w, .int h, .int sx, .int sy, .int gn, .int vs, .ref pt, .ref gx, .ref gf, .ref gy])), (pt, .inl (cT, 96, .inl (f)))] sz) t) (va_A [(pp, .inr (7, [.int w, .int h, .int sx, .int sy, .int gn, .int vs, .ref pt, .ref gx, .ref gf, .ref gy])), (pt, .inl (cT, 96, .inl (f)))] sz)) 0 0 (va_A [(pp, .inr (7, [.int w, .int h, .int sx, .int sy, .int gn, .int vs, .ref pt, .ref gx, .ref gf, .ref gy])), (pt, .inl (cT, 96, .inl (f)))] sz) := by
  refine Met.ofW (cc := cX5_tileAt) (maxL := 3) (ret := (some .char)) (by decide) rfl ?_
  intro p e s m args below meth c s₁ B hml hv
  obtain ⟨rfl, hsz, hP, hK, hD0, hG⟩ := hv
  have hx := B.exec
  have hb := B.bytes
  have hr := B.returns
  have hts := atoms_spec (ws := .code yX5_tileAt cX5_tileAt 3 (some .char) :: wsL_law) B.pre
  have ht : ∀ w ∈ wsL_law, w.before _ s = true := fun w h => hts w (List.mem_cons_of_mem _ h)
  have hown : s.vm.findClass RX5 = some m.cls := findClass_of_methodNamed B.named
  have hlocks := B.notSynchronized
  subst hsz
  have hD := hD0.self (sz := s.heap.size)
  generalize hAe : va_A [(pp, .inr (7, [.int w, .int h, .int sx, .int sy, .int gn, .int vs, .ref pt, .ref gx, .ref gf, .ref gy])), (pt, .inl (cT, 96, .inl (f)))] s.heap.size = A at hD hG ⊢
  have hA : ∀ q : Nat, s.heap.size ≤ q → A q := fun q h => by rw [← hAe]; exact Or.inr h
  have hS : va_S A s.heap s.heap [] := va_S.rf
  have hP : va_P (dC, dI) vwCl [(pp, .inr (7, [.int w, .int h, .int sx, .int sy, .int gn, .int vs, .ref pt, .ref gx, .ref gf, .ref gy])), (pt, .inl (cT, 96, .inl (f)))] s.heap := hP
  have hD : va_D A [(pp, .inr (7, [.int w, .int h, .int sx, .int sy, .int gn, .int vs, .ref pt, .ref gx, .ref gf, .ref gy])), (pt, .inl (cT, 96, .inl (f)))] := hD
  have hl := lv_entry ([.ref pp, .int x, .int y]) (n := 3) (Nat.le_of_ble_eq_true rfl)
  rw [lg_entry_eq]
  generalize (lg_sl ([.ref pp, .int x, .int y]) ++ List.replicate (3 - (lg_sl ([.ref pp, .int x, .int y])).length) Slot.unset).toArray = ls at hl ⊢
  have hl : lv_has ls 3 [(0, .ref pp), (1, .int x), (2, .int y)] := hl
  refine lv_iload_n hx hb dX5_tileAt_0 rfl (lv_at hl 1 rfl) ?_
  refine lv_if_lt (tgt := 22) hx hb dX5_tileAt_1 (by decide) (fun c_1 => ?_) (fun c_1 => ?_)
  · refine lv_bipush (v := 35) hx hb dX5_tileAt_22 (by decide) ?_
    exact W.zret (v := 35) hx hb hr (by decide) (fun t htt hW => have ht := htt; ⟨⟨35, (), rfl, trivial, QW_of ht hW hP hK hD⟩, hS.F ht⟩) hS.2.2 dX5_tileAt_24
  · refine lv_iload_n hx hb dX5_tileAt_4 rfl (lv_at hl 1 rfl) ?_
    refine lv_aload_n hx hb dX5_tileAt_5 rfl (lv_at hl 0 rfl) ?_
    refine va_get (D := (dC, dI)) (ci := 7) (v := .int w) (C := RX5) (T := TX5) (N := 10) hx hb ht inlX5 hown hK hP 0 rfl rfl 0 (by decide) (ht _ (wr_4 _ (List.mem_of_getElem? (i := 9) rfl))) (fun _ h9 => h9) rfl dX5_tileAt_6 ?_
    refine lv_icmp_ge (tgt := 22) hx hb dX5_tileAt_9 (by decide) (fun c_9 => ?_) (fun c_9 => ?_)
    · refine lv_bipush (v := 35) hx hb dX5_tileAt_22 (by decide) ?_
      exact W.zret (v := 35) hx hb hr (by decide) (fun t htt hW => have ht := htt; ⟨⟨35, (), rfl, trivial, QW_of ht hW hP hK hD⟩, hS.F ht⟩) hS.2.2 dX5_tileAt_24
    · refine lv_iload_n hx hb dX5_tileAt_12 rfl (lv_at hl 1 rfl) ?_
      refine lv_bipush (v := 12) hx hb dX5_tileAt_13 (by decide) ?_
      refine lv_icmp_ge (tgt := 22) hx hb dX5_tileAt_15 (by decide) (fun c_15 => ?_) (fun c_15 => ?_)
      · refine lv_bipush (v := 35) hx hb dX5_tileAt_22 (by decide) ?_
        exact W.zret (v := 35) hx hb hr (by decide) (fun t htt hW => have ht := htt; ⟨⟨35, (), rfl, trivial, QW_of ht hW hP hK hD⟩, hS.F ht⟩) hS.2.2 dX5_tileAt_24
      · refine lv_iload_n hx hb dX5_tileAt_18 rfl (lv_at hl 2 rfl) ?_
        refine lv_if_ge (tgt := 25) hx hb dX5_tileAt_19 (by decide) (fun c_19 => ?_) (fun c_19 => ?_)
        · refine lv_iload_n hx hb dX5_tileAt_25 rfl (lv_at hl 2 rfl) ?_
          refine lv_aload_n hx hb dX5_tileAt_26 rfl (lv_at hl 0 rfl) ?_
          refine va_get (D := (dC, dI)) (ci := 7) (v := .int h) (C := RX5) (T := TX5) (N := 10) hx hb ht inlX5 hown hK hP 0 rfl rfl 1 (by decide) (ht _ (wr_4 _ (List.mem_of_getElem? (i := 10) rfl))) (fun _ h9 => h9) rfl dX5_tileAt_27 ?_
          refine lv_icmp_ge (tgt := 53) hx hb dX5_tileAt_30 (by decide) (fun c_30 => ?_) (fun c_30 => ?_)
          · refine lv_bipush (v := 46) hx hb dX5_tileAt_53 (by decide) ?_
            exact W.zret (v := 46) hx hb hr (by decide) (fun t htt hW => have ht := htt; ⟨⟨46, (), rfl, trivial, QW_of ht hW hP hK hD⟩, hS.F ht⟩) hS.2.2 dX5_tileAt_55
          · refine lv_iload_n hx hb dX5_tileAt_33 rfl (lv_at hl 2 rfl) ?_
            refine lv_bipush (v := 8) hx hb dX5_tileAt_34 (by decide) ?_
            refine lv_icmp_ge (tgt := 53) hx hb dX5_tileAt_36 (by decide) (fun c_36 => ?_) (fun c_36 => ?_)
            · refine lv_bipush (v := 46) hx hb dX5_tileAt_53 (by decide) ?_
              exact W.zret (v := 46) hx hb hr (by decide) (fun t htt hW => have ht := htt; ⟨⟨46, (), rfl, trivial, QW_of ht hW hP hK hD⟩, hS.F ht⟩) hS.2.2 dX5_tileAt_55
            · refine lv_aload_n hx hb dX5_tileAt_39 rfl (lv_at hl 0 rfl) ?_
              refine va_get (D := (dC, dI)) (ci := 7) (v := .ref pt) (C := RX5) (T := TX5) (N := 10) hx hb ht inlX5 hown hK hP 0 rfl rfl 6 (by decide) (ht _ (wr_4 _ (List.mem_of_getElem? (i := 16) rfl))) (fun _ h9 => h9) rfl dX5_tileAt_40 ?_
              refine lv_iload_n hx hb dX5_tileAt_43 rfl (lv_at hl 1 rfl) ?_
              refine lv_bipush (v := 12) hx hb dX5_tileAt_44 (by decide) ?_
              refine lv_iload_n hx hb dX5_tileAt_46 rfl (lv_at hl 2 rfl) ?_
              refine lv_imul hx hb dX5_tileAt_47 ?_
              refine lv_iadd hx hb dX5_tileAt_48 ?_
              refine va_cald hx hb hK hP 1 0 rfl rfl (in96 c_1 (i_lt c_15) (i_nlt c_19) (i_lt c_36)) dX5_tileAt_49 ?_
              refine lv_goto (tgt := 55) hx hb dX5_tileAt_50 (by decide) ?_
              exact W.zret (v := ((f) ((x + (12 * y))).toNatClampNeg)) hx hb hr (hc0 _) (fun t htt hW => have ht := htt; ⟨⟨((f) ((x + (12 * y))).toNatClampNeg), (), rfl, trivial, QW_of ht hW hP hK hD⟩, hS.F ht⟩) hS.2.2 dX5_tileAt_55
        · refine lv_bipush (v := 35) hx hb dX5_tileAt_22 (by decide) ?_
          exact W.zret (v := 35) hx hb hr (by decide) (fun t htt hW => have ht := htt; ⟨⟨35, (), rfl, trivial, QW_of ht hW hP hK hD⟩, hS.F ht⟩) hS.2.2 dX5_tileAt_24
set_option maxHeartbeats 4000000 in
set_option maxRecDepth 100000 in
theorem c_X5_lay (l : Launch) (dC : Nat → ClassId) (dI : Nat → Nat → Nat) (de : Nat) (pp : Nat) (w : Int32) (h : Int32) (sx : Int32) (sy : Int32) (gn : Int32) (vs : Int32) (pt : Nat) (gx : Nat) (gf : Nat) (gy : Nat) (cT : ClassId) (f : Nat → Int32) (x : Int32) (y : Int32) (ch : Int32) (sz : Nat) (hc0 : CH f) : Met l yX5_lay (.code yX5_lay cX5_lay 4 none :: wsL_law) { frames := 1, cells := 0, slots := 0, locals := 22 } (va_Pc [.ref pp, .int x, .int y, .int ch] (PW dC dI de [(cT, .char)] [(pp, .inr (7, [.int w, .int h, .int sx, .int sy, .int gn, .int vs, .ref pt, .ref gx, .ref gf, .ref gy])), (pt, .inl (cT, 96, .inl (f)))] sz)) (va_Qv (fun (f2 : Nat → Int32) => CH f2) (fun (f2 : Nat → Int32) (t : State) => QW dC dI [(cT, .char)] [(pp, .inr (7, [.int w, .int h, .int sx, .int sy, .int gn, .int vs, .ref pt, .ref gx, .ref gf, .ref gy])), (pt, .inl (cT, 96, .inl (f2)))] (va_A [(pp, .inr (7, [.int w, .int h, .int sx, .int sy, .int gn, .int vs, .ref pt, .ref gx, .ref gf, .ref gy])), (pt, .inl (cT, 96, .inl (f)))] sz) t) (va_A [(pp, .inr (7, [.int w, .int h, .int sx, .int sy, .int gn, .int vs, .ref pt, .ref gx, .ref gf, .ref gy])), (pt, .inl (cT, 96, .inl (f)))] sz)) 0 0 (va_A [(pp, .inr (7, [.int w, .int h, .int sx, .int sy, .int gn, .int vs, .ref pt, .ref gx, .ref gf, .ref gy])), (pt, .inl (cT, 96, .inl (f)))] sz) := by
  refine Met.ofW (cc := cX5_lay) (maxL := 4) (ret := none) (by decide) rfl ?_
  intro p e s m args below meth c s₁ B hml hv
  obtain ⟨rfl, hsz, hP, hK, hD0, hG⟩ := hv
  have hx := B.exec
  have hb := B.bytes
  have hr := B.returns
  have hts := atoms_spec (ws := .code yX5_lay cX5_lay 4 none :: wsL_law) B.pre
  have ht : ∀ w ∈ wsL_law, w.before _ s = true := fun w h => hts w (List.mem_cons_of_mem _ h)
  have hown : s.vm.findClass RX5 = some m.cls := findClass_of_methodNamed B.named
  have hlocks := B.notSynchronized
  subst hsz
  have hD := hD0.self (sz := s.heap.size)
  generalize hAe : va_A [(pp, .inr (7, [.int w, .int h, .int sx, .int sy, .int gn, .int vs, .ref pt, .ref gx, .ref gf, .ref gy])), (pt, .inl (cT, 96, .inl (f)))] s.heap.size = A at hD hG ⊢
  have hA : ∀ q : Nat, s.heap.size ≤ q → A q := fun q h => by rw [← hAe]; exact Or.inr h
  have hS : va_S A s.heap s.heap [] := va_S.rf
  have hP : va_P (dC, dI) vwCl [(pp, .inr (7, [.int w, .int h, .int sx, .int sy, .int gn, .int vs, .ref pt, .ref gx, .ref gf, .ref gy])), (pt, .inl (cT, 96, .inl (f)))] s.heap := hP
  have hD : va_D A [(pp, .inr (7, [.int w, .int h, .int sx, .int sy, .int gn, .int vs, .ref pt, .ref gx, .ref gf, .ref gy])), (pt, .inl (cT, 96, .inl (f)))] := hD
  have hl := lv_entry ([.ref pp, .int x, .int y, .int ch]) (n := 4) (Nat.le_of_ble_eq_true rfl)
  rw [lg_entry_eq]
  generalize (lg_sl ([.ref pp, .int x, .int y, .int ch]) ++ List.replicate (4 - (lg_sl ([.ref pp, .int x, .int y, .int ch])).length) Slot.unset).toArray = ls at hl ⊢
  have hl : lv_has ls 4 [(0, .ref pp), (1, .int x), (2, .int y), (3, .int ch)] := hl
  refine lv_aload_n hx hb dX5_lay_0 rfl (lv_at hl 0 rfl) ?_
  refine lv_iload_n hx hb dX5_lay_1 rfl (lv_at hl 1 rfl) ?_
  refine lv_iload_n hx hb dX5_lay_2 rfl (lv_at hl 2 rfl) ?_
  have hPc := hP.sub (ws' := [(pp, .inr (7, [.int w, .int h, .int sx, .int sy, .int gn, .int vs, .ref pt, .ref gx, .ref gf, .ref gy]))]) [0] rfl
  have hDc := hD.sub (ws' := [(pp, .inr (7, [.int w, .int h, .int sx, .int sy, .int gn, .int vs, .ref pt, .ref gx, .ref gf, .ref gy]))]) [0] (by decide) rfl
  have hKc := hK.sub (tys' := []) [] rfl
  have hFc := va_free (wc := [(pp, .inr (7, [.int w, .int h, .int sx, .int sy, .int gn, .int vs, .ref pt, .ref gx, .ref gf, .ref gy]))]) hD hS hA [0] rfl
  refine va_calli (va_runV (As := [.int x, .int y]) (rest := []) ⟨hx, hb, hml, hown, ht⟩ (c_X5_has l dC dI de (pp) (w) (h) (sx) (sy) (gn) (vs) (pt) (gx) (gf) (gy) (x) (y) s.heap.size) (cwV 2 ht (gWV (wr_14 _ (List.mem_of_getElem? (i := 22) rfl)) (wr_14 _ (List.mem_of_getElem? (i := 23) rfl)) (wr_15 _ (List.mem_of_getElem? (i := 0) rfl)) (wr_3 _ (List.mem_of_getElem? (i := 22) rfl)) (wr_15 _ (List.mem_of_getElem? (i := 1) rfl))) rfl rfl rfl (by decide +kernel) ⟨Nat.le_of_ble_eq_true rfl, Nat.le_of_ble_eq_true rfl⟩) ⟨PW_blind, va_recv hKc hPc (ci := 7) (q0 := 0) rfl rfl, PW_call hPc hDc hKc hS hG hFc⟩ rfl rfl hl.1 rfl (lv_room (Nat.le_of_ble_eq_true rfl)) dX5_lay_3 ⟨Nat.le_of_ble_eq_true rfl, Nat.le_of_ble_eq_true rfl⟩) hS (fun q _ h => hFc q h) hFc (fun r_3 u t H1 locs ht9 hvm hw hB hz1 hk1 hS => ?_)
  obtain ⟨hP1, hK1, hD1⟩ := hB
  rw [ht9] at hP1
  have hK1 := va_K.moved hvm.symm hK1
  obtain ⟨hP, hD⟩ := va_join (wr := [(pt, .inl (cT, 96, .inl (f)))]) (w1 := [(pp, .inr (7, [.int w, .int h, .int sx, .int sy, .int gn, .int vs, .ref pt, .ref gx, .ref gf, .ref gy]))]) hP hD [0] [1] rfl rfl (by decide) (by decide) hk1 hFc hP1 hD1
  have hK := (hK.sub (tys' := [(cT, .char)]) [0] rfl).app hK1
  generalize H1 = H at hP hS ⊢
  replace hP : va_P (dC, dI) vwCl [(pt, .inl (cT, 96, .inl (f))), (pp, .inr (7, [.int w, .int h, .int sx, .int sy, .int gn, .int vs, .ref pt, .ref gx, .ref gf, .ref gy]))] H := hP
  replace hD : va_D A [(pt, .inl (cT, 96, .inl (f))), (pp, .inr (7, [.int w, .int h, .int sx, .int sy, .int gn, .int vs, .ref pt, .ref gx, .ref gf, .ref gy]))] := hD
  have hK : va_K (dC, dI) vwCl [(cT, .char)] s := hK
  rcases hw with ⟨rfl, m_3⟩ | ⟨rfl, m_3⟩
  · refine lv_if_eq (tgt := 21) hx hb dX5_lay_6 (by decide) (fun c_6 => absurd c_6 (by decide)) (fun c_6 => ?_)
    refine lv_aload_n hx hb dX5_lay_9 rfl (lv_at hl 0 rfl) ?_
    refine va_get (D := (dC, dI)) (ci := 7) (v := .ref pt) (C := RX5) (T := TX5) (N := 10) hx hb ht inlX5 hown hK hP 1 rfl rfl 6 (by decide) (ht _ (wr_4 _ (List.mem_of_getElem? (i := 16) rfl))) (fun _ h9 => h9) rfl dX5_lay_10 ?_
    refine lv_iload_n hx hb dX5_lay_13 rfl (lv_at hl 1 rfl) ?_
    refine lv_bipush (v := 12) hx hb dX5_lay_14 (by decide) ?_
    refine lv_iload_n hx hb dX5_lay_16 rfl (lv_at hl 2 rfl) ?_
    refine lv_imul hx hb dX5_lay_17 ?_
    refine lv_iadd hx hb dX5_lay_18 ?_
    refine lv_iload_n hx hb dX5_lay_19 rfl (lv_at hl 3 rfl) ?_
    refine va_cast hx hb hK hP hD hS 0 0 rfl rfl (in96 m_3.1 m_3.2.1 m_3.2.2.1 m_3.2.2.2) dX5_lay_20 (fun H locs hP hD hS => ?_)
    replace hP : va_P (dC, dI) vwCl [(pt, .inl (cT, 96, .inl (upd (f) ((x + (12 * y))).toNatClampNeg (vp_nar .char (ch))))), (pp, .inr (7, [.int w, .int h, .int sx, .int sy, .int gn, .int vs, .ref pt, .ref gx, .ref gf, .ref gy]))] H := hP
    replace hD : va_D A [(pt, .inl (cT, 96, .inl (upd (f) ((x + (12 * y))).toNatClampNeg (vp_nar .char (ch))))), (pp, .inr (7, [.int w, .int h, .int sx, .int sy, .int gn, .int vs, .ref pt, .ref gx, .ref gf, .ref gy]))] := hD
    have hP9 := hP.sub (ws' := [(pp, .inr (7, [.int w, .int h, .int sx, .int sy, .int gn, .int vs, .ref pt, .ref gx, .ref gf, .ref gy])), (pt, .inl (cT, 96, .inl (upd (f) ((x + (12 * y))).toNatClampNeg (vp_nar .char (ch)))))]) [1, 0] rfl
    have hD9 := hD.sub (ws' := [(pp, .inr (7, [.int w, .int h, .int sx, .int sy, .int gn, .int vs, .ref pt, .ref gx, .ref gf, .ref gy])), (pt, .inl (cT, 96, .inl (upd (f) ((x + (12 * y))).toNatClampNeg (vp_nar .char (ch)))))]) [1, 0] (by decide) rfl
    have hK9 := hK.sub (tys' := [(cT, .char)]) [0] rfl
    exact W.vret hx hb hr (fun t htt hW => have ht := htt; ⟨⟨_, rfl, (CH_upd hc0 _ _), QW_of ht hW hP9 hK9 hD9⟩, hS.F ht⟩) hS.2.2 dX5_lay_21
  · refine lv_if_eq (tgt := 21) hx hb dX5_lay_6 (by decide) (fun c_6 => ?_) (fun c_6 => absurd c_6 (by decide))
    have hP9 := hP.sub (ws' := [(pp, .inr (7, [.int w, .int h, .int sx, .int sy, .int gn, .int vs, .ref pt, .ref gx, .ref gf, .ref gy])), (pt, .inl (cT, 96, .inl (f)))]) [1, 0] rfl
    have hD9 := hD.sub (ws' := [(pp, .inr (7, [.int w, .int h, .int sx, .int sy, .int gn, .int vs, .ref pt, .ref gx, .ref gf, .ref gy])), (pt, .inl (cT, 96, .inl (f)))]) [1, 0] (by decide) rfl
    have hK9 := hK.sub (tys' := [(cT, .char)]) [0] rfl
    exact W.vret hx hb hr (fun t htt hW => have ht := htt; ⟨⟨_, rfl, hc0, QW_of ht hW hP9 hK9 hD9⟩, hS.F ht⟩) hS.2.2 dX5_lay_21
set_option maxHeartbeats 4000000 in
set_option maxRecDepth 100000 in
theorem c_X5_paint (l : Launch) (dC : Nat → ClassId) (dI : Nat → Nat → Nat) (de : Nat) (pp : Nat) (wn : Nat) (hn : Nat) (sx : Int32) (sy : Int32) (gn : Int32) (vs : Int32) (pt : Nat) (gx : Nat) (gf : Nat) (gy : Nat) (cT : ClassId) (f : Nat → Int32) (ch : Int32) (sz : Nat) (hc0 : CH f) (hw1 : wn ≤ 12) (hh1 : hn ≤ 8) : Met l yX5_paint (.code yX5_paint cX5_paint 9 (some .int) :: wsL_law) { frames := 2, cells := 0, slots := 0, locals := 45 } (va_Pc [.ref pp, .int 0, .int 0, .int (nI wn), .int (nI hn), .int ch] (PW dC dI de [(cT, .char)] [(pp, .inr (7, [.int (nI wn), .int (nI hn), .int sx, .int sy, .int gn, .int vs, .ref pt, .ref gx, .ref gf, .ref gy])), (pt, .inl (cT, 96, .inl (f)))] sz)) (va_Qi (fun (r : Int32) (f2 : Nat → Int32) => True) (fun (f2 : Nat → Int32) (t : State) => QW dC dI [(cT, .char)] [(pp, .inr (7, [.int (nI wn), .int (nI hn), .int sx, .int sy, .int gn, .int vs, .ref pt, .ref gx, .ref gf, .ref gy])), (pt, .inl (cT, 96, .inl (f2)))] (va_A [(pp, .inr (7, [.int (nI wn), .int (nI hn), .int sx, .int sy, .int gn, .int vs, .ref pt, .ref gx, .ref gf, .ref gy])), (pt, .inl (cT, 96, .inl (f)))] sz) t) (va_A [(pp, .inr (7, [.int (nI wn), .int (nI hn), .int sx, .int sy, .int gn, .int vs, .ref pt, .ref gx, .ref gf, .ref gy])), (pt, .inl (cT, 96, .inl (f)))] sz)) 0 0 (va_A [(pp, .inr (7, [.int (nI wn), .int (nI hn), .int sx, .int sy, .int gn, .int vs, .ref pt, .ref gx, .ref gf, .ref gy])), (pt, .inl (cT, 96, .inl (f)))] sz) := by
  refine Met.ofW (cc := cX5_paint) (maxL := 9) (ret := (some .int)) (by decide) rfl ?_
  intro p e s m args below meth c s₁ B hml hv
  obtain ⟨rfl, hsz, hP, hK, hD0, hG⟩ := hv
  have hx := B.exec
  have hb := B.bytes
  have hr := B.returns
  have hts := atoms_spec (ws := .code yX5_paint cX5_paint 9 (some .int) :: wsL_law) B.pre
  have ht : ∀ w ∈ wsL_law, w.before _ s = true := fun w h => hts w (List.mem_cons_of_mem _ h)
  have hown : s.vm.findClass RX5 = some m.cls := findClass_of_methodNamed B.named
  have hlocks := B.notSynchronized
  subst hsz
  have hD := hD0.self (sz := s.heap.size)
  generalize hAe : va_A [(pp, .inr (7, [.int (nI wn), .int (nI hn), .int sx, .int sy, .int gn, .int vs, .ref pt, .ref gx, .ref gf, .ref gy])), (pt, .inl (cT, 96, .inl (f)))] s.heap.size = A at hD hG ⊢
  have hA : ∀ q : Nat, s.heap.size ≤ q → A q := fun q h => by rw [← hAe]; exact Or.inr h
  have hS : va_S A s.heap s.heap [] := va_S.rf
  have hP : va_P (dC, dI) vwCl [(pp, .inr (7, [.int (nI wn), .int (nI hn), .int sx, .int sy, .int gn, .int vs, .ref pt, .ref gx, .ref gf, .ref gy])), (pt, .inl (cT, 96, .inl (f)))] s.heap := hP
  have hD : va_D A [(pp, .inr (7, [.int (nI wn), .int (nI hn), .int sx, .int sy, .int gn, .int vs, .ref pt, .ref gx, .ref gf, .ref gy])), (pt, .inl (cT, 96, .inl (f)))] := hD
  have hl := lv_entry ([.ref pp, .int 0, .int 0, .int (nI wn), .int (nI hn), .int ch]) (n := 9) (Nat.le_of_ble_eq_true rfl)
  rw [lg_entry_eq]
  generalize (lg_sl ([.ref pp, .int 0, .int 0, .int (nI wn), .int (nI hn), .int ch]) ++ List.replicate (9 - (lg_sl ([.ref pp, .int 0, .int 0, .int (nI wn), .int (nI hn), .int ch])).length) Slot.unset).toArray = ls at hl ⊢
  have hl : lv_has ls 9 [(0, .ref pp), (1, .int 0), (2, .int 0), (3, .int (nI wn)), (4, .int (nI hn)), (5, .int ch)] := hl
  refine lv_iconst (v := 0) hx hb dX5_paint_0 (by decide) ?_
  refine lv_istore (lv' := [(6, .int 0), (0, .ref pp), (1, .int 0), (2, .int 0), (3, .int (nI wn)), (4, .int (nI hn)), (5, .int ch)]) hx hb dX5_paint_1 hl (by decide) rfl (fun ls hl => ?_)
  refine lv_iload_n hx hb dX5_paint_3 rfl (lv_at hl 3 rfl) ?_
  refine lv_istore (lv' := [(7, .int 0), (6, .int 0), (0, .ref pp), (1, .int 0), (2, .int 0), (3, .int (nI wn)), (4, .int (nI hn)), (5, .int ch)]) hx hb dX5_paint_4 hl (by decide) rfl (fun ls hl => ?_)
  obtain ⟨nA, iA, hiA, hnA⟩ : ∃ nA iA : Nat, iA = 0 ∧ iA + nA = hn := ⟨hn, 0, rfl, Nat.zero_add _⟩
  obtain ⟨v6, hvv6⟩ : ∃ y : Int32, y = 0 := ⟨_, rfl⟩
  replace hl : lv_has ls 9 [(7, .int (nI iA)), (6, .int v6), (0, .ref pp), (1, .int 0), (2, .int 0), (3, .int (nI wn)), (4, .int (nI hn)), (5, .int ch)] := by rw [hiA, hvv6]; exact hl
  clear hiA hvv6
  generalize hHe : s.heap = H at hP ⊢
  generalize hLe : ([] : List Loc) = locs
  have hS : va_S A s.heap H locs := by rw [← hHe, ← hLe]; exact hS
  clear hHe hLe
  obtain ⟨fA, hqfA⟩ : ∃ y : Nat → Int32, y = f := ⟨_, rfl⟩
  replace hP : va_P (dC, dI) vwCl [(pp, .inr (7, [.int (nI wn), .int (nI hn), .int sx, .int sy, .int gn, .int vs, .ref pt, .ref gx, .ref gf, .ref gy])), (pt, .inl (cT, 96, .inl (fA)))] H := by rw [hqfA]; exact hP
  replace hD : va_D A [(pp, .inr (7, [.int (nI wn), .int (nI hn), .int sx, .int sy, .int gn, .int vs, .ref pt, .ref gx, .ref gf, .ref gy])), (pt, .inl (cT, 96, .inl (fA)))] := by rw [hqfA]; exact hD
  have hfA : CH fA := by rw [hqfA]; exact hc0
  clear hqfA
  induction nA generalizing iA ls H locs fA v6 with
  | zero =>
    refine lv_iload hx hb dX5_paint_6 (lv_at hl 0 rfl) ?_
    refine lv_aload_n hx hb dX5_paint_8 rfl (lv_at hl 2 rfl) ?_
    refine va_get (D := (dC, dI)) (ci := 7) (v := .int (nI hn)) (C := RX5) (T := TX5) (N := 10) hx hb ht inlX5 hown hK hP 0 rfl rfl 1 (by decide) (ht _ (wr_4 _ (List.mem_of_getElem? (i := 10) rfl))) (fun _ h9 => h9) rfl dX5_paint_9 ?_
    refine lv_icmp_ge (tgt := 89) hx hb dX5_paint_12 (by decide) (fun c_12 => ?_) (fun c_12 => absurd (nI_le (a := hn) (b := iA) (by omega) (by omega)) c_12)
    refine lv_iload hx hb dX5_paint_89 (lv_at hl 1 rfl) ?_
    have hP9 := hP.sub (ws' := [(pp, .inr (7, [.int (nI wn), .int (nI hn), .int sx, .int sy, .int gn, .int vs, .ref pt, .ref gx, .ref gf, .ref gy])), (pt, .inl (cT, 96, .inl (fA)))]) [0, 1] rfl
    have hD9 := hD.sub (ws' := [(pp, .inr (7, [.int (nI wn), .int (nI hn), .int sx, .int sy, .int gn, .int vs, .ref pt, .ref gx, .ref gf, .ref gy])), (pt, .inl (cT, 96, .inl (fA)))]) [0, 1] (by decide) rfl
    have hK9 := hK.sub (tys' := [(cT, .char)]) [0] rfl
    exact W.iret (v := v6) hx hb hr (fun t htt hW => have ht := htt; ⟨⟨v6, _, rfl, trivial, QW_of ht hW hP9 hK9 hD9⟩, hS.F ht⟩) hS.2.2 dX5_paint_91
  | succ nA ihA =>
    refine lv_iload hx hb dX5_paint_6 (lv_at hl 0 rfl) ?_
    refine lv_aload_n hx hb dX5_paint_8 rfl (lv_at hl 2 rfl) ?_
    refine va_get (D := (dC, dI)) (ci := 7) (v := .int (nI hn)) (C := RX5) (T := TX5) (N := 10) hx hb ht inlX5 hown hK hP 0 rfl rfl 1 (by decide) (ht _ (wr_4 _ (List.mem_of_getElem? (i := 10) rfl))) (fun _ h9 => h9) rfl dX5_paint_9 ?_
    refine lv_icmp_ge (tgt := 89) hx hb dX5_paint_12 (by decide) (fun c_12 => absurd c_12 (nI_ge (a := iA) (b := hn) (by omega) (by omega))) (fun c_12 => ?_)
    refine lv_iload hx hb dX5_paint_15 (lv_at hl 0 rfl) ?_
    refine lv_iload_n hx hb dX5_paint_17 rfl (lv_at hl 4 rfl) ?_
    refine lv_isub hx hb dX5_paint_18 ?_
    refine lv_topi (fun y ey => ?_)
    replace ey : y = (nI iA) := ey.trans (by simp)
    subst ey
    refine lv_iload hx hb dX5_paint_19 (lv_at hl 6 rfl) ?_
    refine lv_icmp_ge (tgt := 89) hx hb dX5_paint_21 (by decide) (fun c_21 => absurd c_21 (nI_ge (a := iA) (b := hn) (by omega) (by omega))) (fun c_21 => ?_)
    refine lv_iload_n hx hb dX5_paint_24 rfl (lv_at hl 3 rfl) ?_
    refine lv_istore (lv' := [(8, .int 0), (7, .int (nI iA)), (6, .int v6), (0, .ref pp), (1, .int 0), (2, .int 0), (3, .int (nI wn)), (4, .int (nI hn)), (5, .int ch)]) hx hb dX5_paint_25 hl (by decide) rfl (fun ls hl => ?_)
    obtain ⟨nB, iB, hiB, hnB⟩ : ∃ nB iB : Nat, iB = 0 ∧ iB + nB = wn := ⟨wn, 0, rfl, Nat.zero_add _⟩
    obtain ⟨v7, hvv7⟩ : ∃ y : Int32, y = v6 := ⟨_, rfl⟩
    replace hl : lv_has ls 9 [(8, .int (nI iB)), (7, .int (nI iA)), (6, .int v7), (0, .ref pp), (1, .int 0), (2, .int 0), (3, .int (nI wn)), (4, .int (nI hn)), (5, .int ch)] := by rw [hiB, hvv7]; exact hl
    clear hiB hvv7
    obtain ⟨fB, hqfB⟩ : ∃ y : Nat → Int32, y = fA := ⟨_, rfl⟩
    replace hP : va_P (dC, dI) vwCl [(pp, .inr (7, [.int (nI wn), .int (nI hn), .int sx, .int sy, .int gn, .int vs, .ref pt, .ref gx, .ref gf, .ref gy])), (pt, .inl (cT, 96, .inl (fB)))] H := by rw [hqfB]; exact hP
    replace hD : va_D A [(pp, .inr (7, [.int (nI wn), .int (nI hn), .int sx, .int sy, .int gn, .int vs, .ref pt, .ref gx, .ref gf, .ref gy])), (pt, .inl (cT, 96, .inl (fB)))] := by rw [hqfB]; exact hD
    have hfB : CH fB := by rw [hqfB]; exact hfA
    clear hqfB
    induction nB generalizing iB ls H locs fB v7 with
    | zero =>
      refine lv_iload hx hb dX5_paint_27 (lv_at hl 0 rfl) ?_
      refine lv_aload_n hx hb dX5_paint_29 rfl (lv_at hl 3 rfl) ?_
      refine va_get (D := (dC, dI)) (ci := 7) (v := .int (nI wn)) (C := RX5) (T := TX5) (N := 10) hx hb ht inlX5 hown hK hP 0 rfl rfl 0 (by decide) (ht _ (wr_4 _ (List.mem_of_getElem? (i := 9) rfl))) (fun _ h9 => h9) rfl dX5_paint_30 ?_
      refine lv_icmp_ge (tgt := 83) hx hb dX5_paint_33 (by decide) (fun c_33 => ?_) (fun c_33 => absurd (nI_le (a := wn) (b := iB) (by omega) (by omega)) c_33)
      obtain ⟨i_1, ei_1⟩ : ∃ y : Int32, y = (nI iA) + 1 := ⟨_, rfl⟩
      refine lv_iinc (v := i_1) (lv' := [(7, .int i_1), (8, .int (nI iB)), (6, .int v7), (0, .ref pp), (1, .int 0), (2, .int 0), (3, .int (nI wn)), (4, .int (nI hn)), (5, .int ch)]) hx hb dX5_paint_83 hl (k := 1) rfl (by rw [ei_1]; rfl) (by decide) rfl (fun ls hl => ?_)
      refine lv_goto (tgt := 6) hx hb dX5_paint_86 (by decide) ?_
      have e9 : i_1 = nI (iA + 1) := ei_1.trans (nI_1 iA)
      subst e9
      exact ihA (iA := iA + 1) (ls := ls) (hnA := by omega) (hl := lv_sub hl [0, 2, 3, 4, 5, 6, 7, 8] rfl) (H := _) (locs := _) (fA := _) (hfA := hfB) (hP := hP.sub [0, 1] rfl) (hD := hD.sub [0, 1] (by decide) rfl) (hS := hS) (v6 := _)
    | succ nB ihB =>
      refine lv_iload hx hb dX5_paint_27 (lv_at hl 0 rfl) ?_
      refine lv_aload_n hx hb dX5_paint_29 rfl (lv_at hl 3 rfl) ?_
      refine va_get (D := (dC, dI)) (ci := 7) (v := .int (nI wn)) (C := RX5) (T := TX5) (N := 10) hx hb ht inlX5 hown hK hP 0 rfl rfl 0 (by decide) (ht _ (wr_4 _ (List.mem_of_getElem? (i := 9) rfl))) (fun _ h9 => h9) rfl dX5_paint_30 ?_
      refine lv_icmp_ge (tgt := 83) hx hb dX5_paint_33 (by decide) (fun c_33 => absurd c_33 (nI_ge (a := iB) (b := wn) (by omega) (by omega))) (fun c_33 => ?_)
      refine lv_iload hx hb dX5_paint_36 (lv_at hl 0 rfl) ?_
      refine lv_iload_n hx hb dX5_paint_38 rfl (lv_at hl 4 rfl) ?_
      refine lv_isub hx hb dX5_paint_39 ?_
      refine lv_topi (fun y ey => ?_)
      replace ey : y = (nI iB) := ey.trans (by simp)
      subst ey
      refine lv_iload_n hx hb dX5_paint_40 rfl (lv_at hl 6 rfl) ?_
      refine lv_icmp_ge (tgt := 83) hx hb dX5_paint_41 (by decide) (fun c_41 => absurd c_41 (nI_ge (a := iB) (b := wn) (by omega) (by omega))) (fun c_41 => ?_)
      refine lv_iload hx hb dX5_paint_44 (lv_at hl 2 rfl) ?_
      refine lv_aload_n hx hb dX5_paint_46 rfl (lv_at hl 3 rfl) ?_
      refine lv_iload hx hb dX5_paint_47 (lv_at hl 0 rfl) ?_
      refine lv_iload hx hb dX5_paint_49 (lv_at hl 1 rfl) ?_
      have hPc := hP.sub (ws' := [(pp, .inr (7, [.int (nI wn), .int (nI hn), .int sx, .int sy, .int gn, .int vs, .ref pt, .ref gx, .ref gf, .ref gy])), (pt, .inl (cT, 96, .inl (fB)))]) [0, 1] rfl
      have hDc := hD.sub (ws' := [(pp, .inr (7, [.int (nI wn), .int (nI hn), .int sx, .int sy, .int gn, .int vs, .ref pt, .ref gx, .ref gf, .ref gy])), (pt, .inl (cT, 96, .inl (fB)))]) [0, 1] (by decide) rfl
      have hKc := hK.sub (tys' := [(cT, .char)]) [0] rfl
      have hFc := va_free (wc := [(pp, .inr (7, [.int (nI wn), .int (nI hn), .int sx, .int sy, .int gn, .int vs, .ref pt, .ref gx, .ref gf, .ref gy])), (pt, .inl (cT, 96, .inl (fB)))]) hD hS hA [0, 1] rfl
      refine va_calli (va_runV (As := [.int (nI iB), .int (nI iA)]) (rest := [.int v7]) ⟨hx, hb, hml, hown, ht⟩ (c_X5_tileAt l dC dI de (pp) ((nI wn)) ((nI hn)) (sx) (sy) (gn) (vs) (pt) (gx) (gf) (gy) (cT) (fB) ((nI iB)) ((nI iA)) H.size hfB) (cwV 2 ht (gWV (wr_14 _ (List.mem_of_getElem? (i := 14) rfl)) (wr_14 _ (List.mem_of_getElem? (i := 15) rfl)) (wr_14 _ (List.mem_of_getElem? (i := 16) rfl)) (wr_3 _ (List.mem_of_getElem? (i := 22) rfl)) (wr_14 _ (List.mem_of_getElem? (i := 17) rfl))) rfl rfl rfl (by decide +kernel) ⟨Nat.le_of_ble_eq_true rfl, Nat.le_of_ble_eq_true rfl⟩) ⟨PW_blind, va_recv hKc hPc (ci := 7) (q0 := 0) rfl rfl, PW_call hPc hDc hKc hS hG hFc⟩ rfl rfl hl.1 rfl (lv_room (Nat.le_of_ble_eq_true rfl)) dX5_paint_51 ⟨Nat.le_of_ble_eq_true rfl, Nat.le_of_ble_eq_true rfl⟩) hS (fun q _ h => hFc q h) hFc (fun r_51 u t H1 locs ht9 hvm hw hB hz1 hk1 hS => ?_)
      obtain ⟨hP1, hK1, hD1⟩ := hB
      rw [ht9] at hP1
      have hK1 := va_K.moved hvm.symm hK1
      obtain ⟨hP, hD⟩ := va_join (wr := []) (w1 := [(pp, .inr (7, [.int (nI wn), .int (nI hn), .int sx, .int sy, .int gn, .int vs, .ref pt, .ref gx, .ref gf, .ref gy])), (pt, .inl (cT, 96, .inl (fB)))]) hP hD [0, 1] [] rfl rfl (by decide) (by decide) hk1 hFc hP1 hD1
      have hK := (hK.sub (tys' := []) [] rfl).app hK1
      generalize H1 = H at hP hS ⊢
      replace hP : va_P (dC, dI) vwCl [(pp, .inr (7, [.int (nI wn), .int (nI hn), .int sx, .int sy, .int gn, .int vs, .ref pt, .ref gx, .ref gf, .ref gy])), (pt, .inl (cT, 96, .inl (fB)))] H := hP
      replace hD : va_D A [(pp, .inr (7, [.int (nI wn), .int (nI hn), .int sx, .int sy, .int gn, .int vs, .ref pt, .ref gx, .ref gf, .ref gy])), (pt, .inl (cT, 96, .inl (fB)))] := hD
      have hK : va_K (dC, dI) vwCl [(cT, .char)] s := hK
      have hw_51 := hw
      refine lv_iload hx hb dX5_paint_54 (lv_at hl 8 rfl) ?_
      refine lv_icmp_ne (tgt := 63) hx hb dX5_paint_56 (by decide) (fun c_56 => ?_) (fun c_56 => ?_)
      · refine lv_iconst (v := 1) hx hb dX5_paint_63 (by decide) ?_
        refine lv_iadd hx hb dX5_paint_64 ?_
        refine lv_istore (lv' := [(6, .int (v7 + 1)), (8, .int (nI iB)), (7, .int (nI iA)), (0, .ref pp), (1, .int 0), (2, .int 0), (3, .int (nI wn)), (4, .int (nI hn)), (5, .int ch)]) hx hb dX5_paint_65 hl (by decide) rfl (fun ls hl => ?_)
        refine lv_aload_n hx hb dX5_paint_67 rfl (lv_at hl 3 rfl) ?_
        refine lv_iload hx hb dX5_paint_68 (lv_at hl 1 rfl) ?_
        refine lv_iload hx hb dX5_paint_70 (lv_at hl 2 rfl) ?_
        refine lv_iload hx hb dX5_paint_72 (lv_at hl 8 rfl) ?_
        have hPc := hP.sub (ws' := [(pp, .inr (7, [.int (nI wn), .int (nI hn), .int sx, .int sy, .int gn, .int vs, .ref pt, .ref gx, .ref gf, .ref gy])), (pt, .inl (cT, 96, .inl (fB)))]) [0, 1] rfl
        have hDc := hD.sub (ws' := [(pp, .inr (7, [.int (nI wn), .int (nI hn), .int sx, .int sy, .int gn, .int vs, .ref pt, .ref gx, .ref gf, .ref gy])), (pt, .inl (cT, 96, .inl (fB)))]) [0, 1] (by decide) rfl
        have hKc := hK.sub (tys' := [(cT, .char)]) [0] rfl
        have hFc := va_free (wc := [(pp, .inr (7, [.int (nI wn), .int (nI hn), .int sx, .int sy, .int gn, .int vs, .ref pt, .ref gx, .ref gf, .ref gy])), (pt, .inl (cT, 96, .inl (fB)))]) hD hS hA [0, 1] rfl
        refine va_callv (va_runV (As := [.int (nI iB), .int (nI iA), .int ch]) (rest := []) ⟨hx, hb, hml, hown, ht⟩ (c_X5_lay l dC dI de (pp) ((nI wn)) ((nI hn)) (sx) (sy) (gn) (vs) (pt) (gx) (gf) (gy) (cT) (fB) ((nI iB)) ((nI iA)) (ch) H.size hfB) (cwV 3 ht (gWV (wr_14 _ (List.mem_of_getElem? (i := 18) rfl)) (wr_14 _ (List.mem_of_getElem? (i := 19) rfl)) (wr_14 _ (List.mem_of_getElem? (i := 20) rfl)) (wr_3 _ (List.mem_of_getElem? (i := 22) rfl)) (wr_14 _ (List.mem_of_getElem? (i := 21) rfl))) rfl rfl rfl (by decide +kernel) ⟨Nat.le_of_ble_eq_true rfl, Nat.le_of_ble_eq_true rfl⟩) ⟨PW_blind, va_recv hKc hPc (ci := 7) (q0 := 0) rfl rfl, PW_call hPc hDc hKc hS hG hFc⟩ rfl rfl hl.1 rfl (lv_room (Nat.le_of_ble_eq_true rfl)) dX5_paint_74 ⟨Nat.le_of_ble_eq_true rfl, Nat.le_of_ble_eq_true rfl⟩) hS (fun q _ h => hFc q h) hFc (fun u t H1 locs ht9 hvm hw hB hz1 hk1 hS => ?_)
        obtain ⟨f2_2, rfl⟩ : ∃ z, z = u := ⟨_, rfl⟩
        obtain ⟨hP1, hK1, hD1⟩ := hB
        rw [ht9] at hP1
        have hK1 := va_K.moved hvm.symm hK1
        obtain ⟨hP, hD⟩ := va_join (wr := []) (w1 := [(pp, .inr (7, [.int (nI wn), .int (nI hn), .int sx, .int sy, .int gn, .int vs, .ref pt, .ref gx, .ref gf, .ref gy])), (pt, .inl (cT, 96, .inl (f2_2)))]) hP hD [0, 1] [] rfl rfl (by decide) (by decide) hk1 hFc hP1 hD1
        have hK := (hK.sub (tys' := []) [] rfl).app hK1
        generalize H1 = H at hP hS ⊢
        replace hP : va_P (dC, dI) vwCl [(pp, .inr (7, [.int (nI wn), .int (nI hn), .int sx, .int sy, .int gn, .int vs, .ref pt, .ref gx, .ref gf, .ref gy])), (pt, .inl (cT, 96, .inl (f2_2)))] H := hP
        replace hD : va_D A [(pp, .inr (7, [.int (nI wn), .int (nI hn), .int sx, .int sy, .int gn, .int vs, .ref pt, .ref gx, .ref gf, .ref gy])), (pt, .inl (cT, 96, .inl (f2_2)))] := hD
        have hK : va_K (dC, dI) vwCl [(cT, .char)] s := hK
        have hw_74 := hw
        obtain ⟨i_3, ei_3⟩ : ∃ y : Int32, y = (nI iB) + 1 := ⟨_, rfl⟩
        refine lv_iinc (v := i_3) (lv' := [(8, .int i_3), (6, .int (v7 + 1)), (7, .int (nI iA)), (0, .ref pp), (1, .int 0), (2, .int 0), (3, .int (nI wn)), (4, .int (nI hn)), (5, .int ch)]) hx hb dX5_paint_77 hl (k := 1) rfl (by rw [ei_3]; rfl) (by decide) rfl (fun ls hl => ?_)
        refine lv_goto (tgt := 27) hx hb dX5_paint_80 (by decide) ?_
        have e9 : i_3 = nI (iB + 1) := ei_3.trans (nI_1 iB)
        subst e9
        exact ihB (iB := iB + 1) (ls := ls) (hnB := by omega) (hl := lv_sub hl [0, 2, 1, 3, 4, 5, 6, 7, 8] rfl) (H := _) (locs := _) (fB := _) (hfB := hw_74) (hP := hP.sub [0, 1] rfl) (hD := hD.sub [0, 1] (by decide) rfl) (hS := hS) (v7 := _)
      · refine lv_iconst (v := 0) hx hb dX5_paint_59 (by decide) ?_
        refine lv_goto (tgt := 64) hx hb dX5_paint_60 (by decide) ?_
        refine lv_iadd hx hb dX5_paint_64 ?_
        refine lv_istore (lv' := [(6, .int (v7 + 0)), (8, .int (nI iB)), (7, .int (nI iA)), (0, .ref pp), (1, .int 0), (2, .int 0), (3, .int (nI wn)), (4, .int (nI hn)), (5, .int ch)]) hx hb dX5_paint_65 hl (by decide) rfl (fun ls hl => ?_)
        refine lv_aload_n hx hb dX5_paint_67 rfl (lv_at hl 3 rfl) ?_
        refine lv_iload hx hb dX5_paint_68 (lv_at hl 1 rfl) ?_
        refine lv_iload hx hb dX5_paint_70 (lv_at hl 2 rfl) ?_
        refine lv_iload hx hb dX5_paint_72 (lv_at hl 8 rfl) ?_
        have hPc := hP.sub (ws' := [(pp, .inr (7, [.int (nI wn), .int (nI hn), .int sx, .int sy, .int gn, .int vs, .ref pt, .ref gx, .ref gf, .ref gy])), (pt, .inl (cT, 96, .inl (fB)))]) [0, 1] rfl
        have hDc := hD.sub (ws' := [(pp, .inr (7, [.int (nI wn), .int (nI hn), .int sx, .int sy, .int gn, .int vs, .ref pt, .ref gx, .ref gf, .ref gy])), (pt, .inl (cT, 96, .inl (fB)))]) [0, 1] (by decide) rfl
        have hKc := hK.sub (tys' := [(cT, .char)]) [0] rfl
        have hFc := va_free (wc := [(pp, .inr (7, [.int (nI wn), .int (nI hn), .int sx, .int sy, .int gn, .int vs, .ref pt, .ref gx, .ref gf, .ref gy])), (pt, .inl (cT, 96, .inl (fB)))]) hD hS hA [0, 1] rfl
        refine va_callv (va_runV (As := [.int (nI iB), .int (nI iA), .int ch]) (rest := []) ⟨hx, hb, hml, hown, ht⟩ (c_X5_lay l dC dI de (pp) ((nI wn)) ((nI hn)) (sx) (sy) (gn) (vs) (pt) (gx) (gf) (gy) (cT) (fB) ((nI iB)) ((nI iA)) (ch) H.size hfB) (cwV 3 ht (gWV (wr_14 _ (List.mem_of_getElem? (i := 18) rfl)) (wr_14 _ (List.mem_of_getElem? (i := 19) rfl)) (wr_14 _ (List.mem_of_getElem? (i := 20) rfl)) (wr_3 _ (List.mem_of_getElem? (i := 22) rfl)) (wr_14 _ (List.mem_of_getElem? (i := 21) rfl))) rfl rfl rfl (by decide +kernel) ⟨Nat.le_of_ble_eq_true rfl, Nat.le_of_ble_eq_true rfl⟩) ⟨PW_blind, va_recv hKc hPc (ci := 7) (q0 := 0) rfl rfl, PW_call hPc hDc hKc hS hG hFc⟩ rfl rfl hl.1 rfl (lv_room (Nat.le_of_ble_eq_true rfl)) dX5_paint_74 ⟨Nat.le_of_ble_eq_true rfl, Nat.le_of_ble_eq_true rfl⟩) hS (fun q _ h => hFc q h) hFc (fun u t H1 locs ht9 hvm hw hB hz1 hk1 hS => ?_)
        obtain ⟨f2_4, rfl⟩ : ∃ z, z = u := ⟨_, rfl⟩
        obtain ⟨hP1, hK1, hD1⟩ := hB
        rw [ht9] at hP1
        have hK1 := va_K.moved hvm.symm hK1
        obtain ⟨hP, hD⟩ := va_join (wr := []) (w1 := [(pp, .inr (7, [.int (nI wn), .int (nI hn), .int sx, .int sy, .int gn, .int vs, .ref pt, .ref gx, .ref gf, .ref gy])), (pt, .inl (cT, 96, .inl (f2_4)))]) hP hD [0, 1] [] rfl rfl (by decide) (by decide) hk1 hFc hP1 hD1
        have hK := (hK.sub (tys' := []) [] rfl).app hK1
        generalize H1 = H at hP hS ⊢
        replace hP : va_P (dC, dI) vwCl [(pp, .inr (7, [.int (nI wn), .int (nI hn), .int sx, .int sy, .int gn, .int vs, .ref pt, .ref gx, .ref gf, .ref gy])), (pt, .inl (cT, 96, .inl (f2_4)))] H := hP
        replace hD : va_D A [(pp, .inr (7, [.int (nI wn), .int (nI hn), .int sx, .int sy, .int gn, .int vs, .ref pt, .ref gx, .ref gf, .ref gy])), (pt, .inl (cT, 96, .inl (f2_4)))] := hD
        have hK : va_K (dC, dI) vwCl [(cT, .char)] s := hK
        have hw_74 := hw
        obtain ⟨i_5, ei_5⟩ : ∃ y : Int32, y = (nI iB) + 1 := ⟨_, rfl⟩
        refine lv_iinc (v := i_5) (lv' := [(8, .int i_5), (6, .int (v7 + 0)), (7, .int (nI iA)), (0, .ref pp), (1, .int 0), (2, .int 0), (3, .int (nI wn)), (4, .int (nI hn)), (5, .int ch)]) hx hb dX5_paint_77 hl (k := 1) rfl (by rw [ei_5]; rfl) (by decide) rfl (fun ls hl => ?_)
        refine lv_goto (tgt := 27) hx hb dX5_paint_80 (by decide) ?_
        have e9 : i_5 = nI (iB + 1) := ei_5.trans (nI_1 iB)
        subst e9
        exact ihB (iB := iB + 1) (ls := ls) (hnB := by omega) (hl := lv_sub hl [0, 2, 1, 3, 4, 5, 6, 7, 8] rfl) (H := _) (locs := _) (fB := _) (hfB := hw_74) (hP := hP.sub [0, 1] rfl) (hD := hD.sub [0, 1] (by decide) rfl) (hS := hS) (v7 := _)
set_option maxHeartbeats 4000000 in
set_option maxRecDepth 100000 in
theorem c_X5_full (l : Launch) (dC : Nat → ClassId) (dI : Nat → Nat → Nat) (de : Nat) (a : Nat) (sz : Nat) : Met l yX5_init (.code yX5_init cX5_init 1 none :: wsL_law) { frames := 1, cells := 4, slots := 105, locals := 12 } (va_Pc [.ref a] (PW dC dI de [] [(a, .inr (7, [.int 0, .int 0, .int 0, .int 0, .int 0, .int 0, .null, .null, .null, .null]))] sz)) (va_Qv (fun (u : Unit) => True) (fun (_ : Unit) (t : State) => ∃ pt : Nat, ∃ gx : Nat, ∃ gf : Nat, ∃ gy : Nat, ∃ cT : ClassId, QW dC dI [(cT, .char)] [(a, .inr (7, [.int 3, .int 3, .int 0, .int 0, .int 0, .int 0, .ref pt, .ref gx, .ref gf, .ref gy])), (pt, .inl (cT, 96, .inl (fun _ => 0)))] (va_A [(a, .inr (7, [.int 0, .int 0, .int 0, .int 0, .int 0, .int 0, .null, .null, .null, .null]))] sz) t) (va_A [(a, .inr (7, [.int 0, .int 0, .int 0, .int 0, .int 0, .int 0, .null, .null, .null, .null]))] sz)) 4 105 (va_A [(a, .inr (7, [.int 0, .int 0, .int 0, .int 0, .int 0, .int 0, .null, .null, .null, .null]))] sz) := by
  refine Met.ofW (cc := cX5_init) (maxL := 1) (ret := none) (by decide) rfl ?_
  intro p e s m args below meth c s₁ B hml hv
  obtain ⟨rfl, hsz, hP, hK, hD0, hG⟩ := hv
  have hx := B.exec
  have hb := B.bytes
  have hr := B.returns
  have hts := atoms_spec (ws := .code yX5_init cX5_init 1 none :: wsL_law) B.pre
  have ht : ∀ w ∈ wsL_law, w.before _ s = true := fun w h => hts w (List.mem_cons_of_mem _ h)
  have hown : s.vm.findClass RX5 = some m.cls := findClass_of_methodNamed B.named
  have hlocks := B.notSynchronized
  have hin : meth.name = "<init>" := (name_of_methodNamed B.named B.method).1
  subst hsz
  have hD := hD0.self (sz := s.heap.size)
  generalize hAe : va_A [(a, .inr (7, [.int 0, .int 0, .int 0, .int 0, .int 0, .int 0, .null, .null, .null, .null]))] s.heap.size = A at hD hG ⊢
  have hA : ∀ q : Nat, s.heap.size ≤ q → A q := fun q h => by rw [← hAe]; exact Or.inr h
  have hS : va_S A s.heap s.heap [] := va_S.rf
  have hP : va_P (dC, dI) vwCl [(a, .inr (7, [.int 0, .int 0, .int 0, .int 0, .int 0, .int 0, .null, .null, .null, .null]))] s.heap := hP
  have hD : va_D A [(a, .inr (7, [.int 0, .int 0, .int 0, .int 0, .int 0, .int 0, .null, .null, .null, .null]))] := hD
  have hl := lv_entry ([.ref a]) (n := 1) (Nat.le_of_ble_eq_true rfl)
  rw [lg_entry_eq]
  generalize (lg_sl ([.ref a]) ++ List.replicate (1 - (lg_sl ([.ref a])).length) Slot.unset).toArray = ls at hl ⊢
  have hl : lv_has ls 1 [(0, .ref a)] := hl
  refine lv_aload_n hx hb dX5_init_0 rfl (lv_at hl 0 rfl) ?_
  refine W.objInit hx hb hown (ht _ (wr_4 _ (List.mem_of_getElem? (i := 8) rfl))) (ht _ (wr_1 _ (List.mem_of_getElem? (i := 12) rfl))) (ht _ (wr_1 _ (List.mem_of_getElem? (i := 13) rfl))) rfl (by rw [hml]; exact hl.1) rfl dX5_init_1 (Nat.le_of_ble_eq_true rfl) (Nat.le_of_ble_eq_true rfl) ?_
  refine W.eq (g2 := F0 m 4 ls []) rfl ?_
  refine lv_aload_n hx hb dX5_init_4 rfl (lv_at hl 0 rfl) ?_
  refine lv_iconst (v := 3) hx hb dX5_init_5 (by decide) ?_
  refine va_put (D := (dC, dI)) (ci := 7) (v := .int 3) (ty := .int) (C := RX5) (T := TX5) (N := 10) hx hb ht inlX5 tyX5 tyX5_ok nmX5 hown hK hP hD hS 0 rfl rfl 0 (by decide) (ht _ (wr_4 _ (List.mem_of_getElem? (i := 9) rfl))) (fun _ h9 => h9) rfl (by decide +kernel) rfl rfl (Nat.le_of_ble_eq_true rfl) dX5_init_6 (fun H locs hP hD hS => ?_)
  replace hP : va_P (dC, dI) vwCl [(a, .inr (7, [.int 3, .int 0, .int 0, .int 0, .int 0, .int 0, .null, .null, .null, .null]))] H := hP
  replace hD : va_D A [(a, .inr (7, [.int 3, .int 0, .int 0, .int 0, .int 0, .int 0, .null, .null, .null, .null]))] := hD
  refine lv_aload_n hx hb dX5_init_9 rfl (lv_at hl 0 rfl) ?_
  refine lv_iconst (v := 3) hx hb dX5_init_10 (by decide) ?_
  refine va_put (D := (dC, dI)) (ci := 7) (v := .int 3) (ty := .int) (C := RX5) (T := TX5) (N := 10) hx hb ht inlX5 tyX5 tyX5_ok nmX5 hown hK hP hD hS 0 rfl rfl 1 (by decide) (ht _ (wr_4 _ (List.mem_of_getElem? (i := 10) rfl))) (fun _ h9 => h9) rfl (by decide +kernel) rfl rfl (Nat.le_of_ble_eq_true rfl) dX5_init_11 (fun H locs hP hD hS => ?_)
  replace hP : va_P (dC, dI) vwCl [(a, .inr (7, [.int 3, .int 3, .int 0, .int 0, .int 0, .int 0, .null, .null, .null, .null]))] H := hP
  replace hD : va_D A [(a, .inr (7, [.int 3, .int 3, .int 0, .int 0, .int 0, .int 0, .null, .null, .null, .null]))] := hD
  refine lv_aload_n hx hb dX5_init_14 rfl (lv_at hl 0 rfl) ?_
  refine lv_iconst (v := 0) hx hb dX5_init_15 (by decide) ?_
  refine va_put (D := (dC, dI)) (ci := 7) (v := .int 0) (ty := .int) (C := RX5) (T := TX5) (N := 10) hx hb ht inlX5 tyX5 tyX5_ok nmX5 hown hK hP hD hS 0 rfl rfl 2 (by decide) (ht _ (wr_4 _ (List.mem_of_getElem? (i := 11) rfl))) (fun _ h9 => h9) rfl (by decide +kernel) rfl rfl (Nat.le_of_ble_eq_true rfl) dX5_init_16 (fun H locs hP hD hS => ?_)
  replace hP : va_P (dC, dI) vwCl [(a, .inr (7, [.int 3, .int 3, .int 0, .int 0, .int 0, .int 0, .null, .null, .null, .null]))] H := hP
  replace hD : va_D A [(a, .inr (7, [.int 3, .int 3, .int 0, .int 0, .int 0, .int 0, .null, .null, .null, .null]))] := hD
  refine lv_aload_n hx hb dX5_init_19 rfl (lv_at hl 0 rfl) ?_
  refine lv_iconst (v := 0) hx hb dX5_init_20 (by decide) ?_
  refine va_put (D := (dC, dI)) (ci := 7) (v := .int 0) (ty := .int) (C := RX5) (T := TX5) (N := 10) hx hb ht inlX5 tyX5 tyX5_ok nmX5 hown hK hP hD hS 0 rfl rfl 3 (by decide) (ht _ (wr_4 _ (List.mem_of_getElem? (i := 12) rfl))) (fun _ h9 => h9) rfl (by decide +kernel) rfl rfl (Nat.le_of_ble_eq_true rfl) dX5_init_21 (fun H locs hP hD hS => ?_)
  replace hP : va_P (dC, dI) vwCl [(a, .inr (7, [.int 3, .int 3, .int 0, .int 0, .int 0, .int 0, .null, .null, .null, .null]))] H := hP
  replace hD : va_D A [(a, .inr (7, [.int 3, .int 3, .int 0, .int 0, .int 0, .int 0, .null, .null, .null, .null]))] := hD
  refine lv_aload_n hx hb dX5_init_24 rfl (lv_at hl 0 rfl) ?_
  refine lv_iconst (v := 0) hx hb dX5_init_25 (by decide) ?_
  refine va_put (D := (dC, dI)) (ci := 7) (v := .int 0) (ty := .int) (C := RX5) (T := TX5) (N := 10) hx hb ht inlX5 tyX5 tyX5_ok nmX5 hown hK hP hD hS 0 rfl rfl 4 (by decide) (ht _ (wr_4 _ (List.mem_of_getElem? (i := 13) rfl))) (fun _ h9 => h9) rfl (by decide +kernel) rfl rfl (Nat.le_of_ble_eq_true rfl) dX5_init_26 (fun H locs hP hD hS => ?_)
  replace hP : va_P (dC, dI) vwCl [(a, .inr (7, [.int 3, .int 3, .int 0, .int 0, .int 0, .int 0, .null, .null, .null, .null]))] H := hP
  replace hD : va_D A [(a, .inr (7, [.int 3, .int 3, .int 0, .int 0, .int 0, .int 0, .null, .null, .null, .null]))] := hD
  refine lv_aload_n hx hb dX5_init_29 rfl (lv_at hl 0 rfl) ?_
  refine lv_iconst (v := 0) hx hb dX5_init_30 (by decide) ?_
  refine va_put (D := (dC, dI)) (ci := 7) (v := .int 0) (ty := .int) (C := RX5) (T := TX5) (N := 10) hx hb ht inlX5 tyX5 tyX5_ok nmX5 hown hK hP hD hS 0 rfl rfl 5 (by decide) (ht _ (wr_4 _ (List.mem_of_getElem? (i := 14) rfl))) (fun _ h9 => h9) rfl (by decide +kernel) rfl rfl (Nat.le_of_ble_eq_true rfl) dX5_init_31 (fun H locs hP hD hS => ?_)
  replace hP : va_P (dC, dI) vwCl [(a, .inr (7, [.int 3, .int 3, .int 0, .int 0, .int 0, .int 0, .null, .null, .null, .null]))] H := hP
  replace hD : va_D A [(a, .inr (7, [.int 3, .int 3, .int 0, .int 0, .int 0, .int 0, .null, .null, .null, .null]))] := hD
  refine lv_aload_n hx hb dX5_init_34 rfl (lv_at hl 0 rfl) ?_
  refine lv_bipush (v := 96) hx hb dX5_init_35 (by decide) ?_
  refine va_newa (atype := .char) (ty := .char) (N' := 96) (a0 := (96, .inl (fun _ => 0))) hx hb (ht _ (wr_4 _ (List.mem_of_getElem? (i := 15) rfl))) rfl hK hP hD hS hA (fun _ => rfl) (by decide +kernel) (by decide +kernel) (Nat.le_of_ble_eq_true rfl) (Nat.le_of_ble_eq_true rfl) (Nat.le_of_ble_eq_true rfl) dX5_init_37 (fun q_1 cA_2 H hK hP hD hS => ?_)
  replace hP : va_P (dC, dI) vwCl [(a, .inr (7, [.int 3, .int 3, .int 0, .int 0, .int 0, .int 0, .null, .null, .null, .null])), (q_1, .inl (cA_2, 96, .inl (fun _ => 0)))] H := hP
  replace hD : va_D A [(a, .inr (7, [.int 3, .int 3, .int 0, .int 0, .int 0, .int 0, .null, .null, .null, .null])), (q_1, .inl (cA_2, 96, .inl (fun _ => 0)))] := hD
  have hK : va_K (dC, dI) vwCl [(cA_2, .char)] s := hK
  refine W.widen (k := 1) (n := 96) (Nat.le_of_ble_eq_true rfl) (Nat.le_of_ble_eq_true rfl) ?_
  refine va_putF (D := (dC, dI)) (ci := 7) (v := .ref q_1) (ty := .array .char) (C := RX5) (T := TX5) (N := 10) hx hb ht inlX5 tyX5 tyX5_ok nmX5 hown hK hP hD hS 0 rfl rfl 6 (by decide) (ht _ (wr_4 _ (List.mem_of_getElem? (i := 16) rfl))) (fun _ h9 => h9) rfl hin rfl (by decide +kernel) rfl rfl (Nat.le_of_ble_eq_true rfl) dX5_init_39 (fun H locs hP hD hS => ?_)
  replace hP : va_P (dC, dI) vwCl [(a, .inr (7, [.int 3, .int 3, .int 0, .int 0, .int 0, .int 0, .ref q_1, .null, .null, .null])), (q_1, .inl (cA_2, 96, .inl (fun _ => 0)))] H := hP
  replace hD : va_D A [(a, .inr (7, [.int 3, .int 3, .int 0, .int 0, .int 0, .int 0, .ref q_1, .null, .null, .null])), (q_1, .inl (cA_2, 96, .inl (fun _ => 0)))] := hD
  refine lv_aload_n hx hb dX5_init_42 rfl (lv_at hl 0 rfl) ?_
  refine lv_iconst (v := 3) hx hb dX5_init_43 (by decide) ?_
  refine va_newa (atype := .int) (ty := .int) (N' := 3) (a0 := (3, .inl (fun _ => 0))) hx hb (ht _ (wr_1 _ (List.mem_of_getElem? (i := 22) rfl))) rfl hK hP hD hS hA (fun _ => rfl) (by decide +kernel) (by decide +kernel) (Nat.le_of_ble_eq_true rfl) (Nat.le_of_ble_eq_true rfl) (Nat.le_of_ble_eq_true rfl) dX5_init_44 (fun q_3 cA_4 H hK hP hD hS => ?_)
  replace hP : va_P (dC, dI) vwCl [(a, .inr (7, [.int 3, .int 3, .int 0, .int 0, .int 0, .int 0, .ref q_1, .null, .null, .null])), (q_1, .inl (cA_2, 96, .inl (fun _ => 0))), (q_3, .inl (cA_4, 3, .inl (fun _ => 0)))] H := hP
  replace hD : va_D A [(a, .inr (7, [.int 3, .int 3, .int 0, .int 0, .int 0, .int 0, .ref q_1, .null, .null, .null])), (q_1, .inl (cA_2, 96, .inl (fun _ => 0))), (q_3, .inl (cA_4, 3, .inl (fun _ => 0)))] := hD
  have hK : va_K (dC, dI) vwCl [(cA_2, .char), (cA_4, .int)] s := hK
  refine W.widen (k := 2) (n := 99) (Nat.le_of_ble_eq_true rfl) (Nat.le_of_ble_eq_true rfl) ?_
  refine va_putF (D := (dC, dI)) (ci := 7) (v := .ref q_3) (ty := .array .int) (C := RX5) (T := TX5) (N := 10) hx hb ht inlX5 tyX5 tyX5_ok nmX5 hown hK hP hD hS 0 rfl rfl 7 (by decide) (ht _ (wr_4 _ (List.mem_of_getElem? (i := 17) rfl))) (fun _ h9 => h9) rfl hin rfl (by decide +kernel) rfl rfl (Nat.le_of_ble_eq_true rfl) dX5_init_46 (fun H locs hP hD hS => ?_)
  replace hP : va_P (dC, dI) vwCl [(a, .inr (7, [.int 3, .int 3, .int 0, .int 0, .int 0, .int 0, .ref q_1, .ref q_3, .null, .null])), (q_1, .inl (cA_2, 96, .inl (fun _ => 0))), (q_3, .inl (cA_4, 3, .inl (fun _ => 0)))] H := hP
  replace hD : va_D A [(a, .inr (7, [.int 3, .int 3, .int 0, .int 0, .int 0, .int 0, .ref q_1, .ref q_3, .null, .null])), (q_1, .inl (cA_2, 96, .inl (fun _ => 0))), (q_3, .inl (cA_4, 3, .inl (fun _ => 0)))] := hD
  refine lv_aload_n hx hb dX5_init_49 rfl (lv_at hl 0 rfl) ?_
  refine lv_iconst (v := 3) hx hb dX5_init_50 (by decide) ?_
  refine va_newa (atype := .int) (ty := .int) (N' := 3) (a0 := (3, .inl (fun _ => 0))) hx hb (ht _ (wr_1 _ (List.mem_of_getElem? (i := 22) rfl))) rfl hK hP hD hS hA (fun _ => rfl) (by decide +kernel) (by decide +kernel) (Nat.le_of_ble_eq_true rfl) (Nat.le_of_ble_eq_true rfl) (Nat.le_of_ble_eq_true rfl) dX5_init_51 (fun q_5 cA_6 H hK hP hD hS => ?_)
  replace hP : va_P (dC, dI) vwCl [(a, .inr (7, [.int 3, .int 3, .int 0, .int 0, .int 0, .int 0, .ref q_1, .ref q_3, .null, .null])), (q_1, .inl (cA_2, 96, .inl (fun _ => 0))), (q_3, .inl (cA_4, 3, .inl (fun _ => 0))), (q_5, .inl (cA_6, 3, .inl (fun _ => 0)))] H := hP
  replace hD : va_D A [(a, .inr (7, [.int 3, .int 3, .int 0, .int 0, .int 0, .int 0, .ref q_1, .ref q_3, .null, .null])), (q_1, .inl (cA_2, 96, .inl (fun _ => 0))), (q_3, .inl (cA_4, 3, .inl (fun _ => 0))), (q_5, .inl (cA_6, 3, .inl (fun _ => 0)))] := hD
  have hK : va_K (dC, dI) vwCl [(cA_2, .char), (cA_4, .int), (cA_6, .int)] s := hK
  refine W.widen (k := 3) (n := 102) (Nat.le_of_ble_eq_true rfl) (Nat.le_of_ble_eq_true rfl) ?_
  refine va_putF (D := (dC, dI)) (ci := 7) (v := .ref q_5) (ty := .array .int) (C := RX5) (T := TX5) (N := 10) hx hb ht inlX5 tyX5 tyX5_ok nmX5 hown hK hP hD hS 0 rfl rfl 8 (by decide) (ht _ (wr_4 _ (List.mem_of_getElem? (i := 18) rfl))) (fun _ h9 => h9) rfl hin rfl (by decide +kernel) rfl rfl (Nat.le_of_ble_eq_true rfl) dX5_init_53 (fun H locs hP hD hS => ?_)
  replace hP : va_P (dC, dI) vwCl [(a, .inr (7, [.int 3, .int 3, .int 0, .int 0, .int 0, .int 0, .ref q_1, .ref q_3, .ref q_5, .null])), (q_1, .inl (cA_2, 96, .inl (fun _ => 0))), (q_3, .inl (cA_4, 3, .inl (fun _ => 0))), (q_5, .inl (cA_6, 3, .inl (fun _ => 0)))] H := hP
  replace hD : va_D A [(a, .inr (7, [.int 3, .int 3, .int 0, .int 0, .int 0, .int 0, .ref q_1, .ref q_3, .ref q_5, .null])), (q_1, .inl (cA_2, 96, .inl (fun _ => 0))), (q_3, .inl (cA_4, 3, .inl (fun _ => 0))), (q_5, .inl (cA_6, 3, .inl (fun _ => 0)))] := hD
  refine lv_aload_n hx hb dX5_init_56 rfl (lv_at hl 0 rfl) ?_
  refine lv_iconst (v := 3) hx hb dX5_init_57 (by decide) ?_
  refine va_newa (atype := .int) (ty := .int) (N' := 3) (a0 := (3, .inl (fun _ => 0))) hx hb (ht _ (wr_1 _ (List.mem_of_getElem? (i := 22) rfl))) rfl hK hP hD hS hA (fun _ => rfl) (by decide +kernel) (by decide +kernel) (Nat.le_of_ble_eq_true rfl) (Nat.le_of_ble_eq_true rfl) (Nat.le_of_ble_eq_true rfl) dX5_init_58 (fun q_7 cA_8 H hK hP hD hS => ?_)
  replace hP : va_P (dC, dI) vwCl [(a, .inr (7, [.int 3, .int 3, .int 0, .int 0, .int 0, .int 0, .ref q_1, .ref q_3, .ref q_5, .null])), (q_1, .inl (cA_2, 96, .inl (fun _ => 0))), (q_3, .inl (cA_4, 3, .inl (fun _ => 0))), (q_5, .inl (cA_6, 3, .inl (fun _ => 0))), (q_7, .inl (cA_8, 3, .inl (fun _ => 0)))] H := hP
  replace hD : va_D A [(a, .inr (7, [.int 3, .int 3, .int 0, .int 0, .int 0, .int 0, .ref q_1, .ref q_3, .ref q_5, .null])), (q_1, .inl (cA_2, 96, .inl (fun _ => 0))), (q_3, .inl (cA_4, 3, .inl (fun _ => 0))), (q_5, .inl (cA_6, 3, .inl (fun _ => 0))), (q_7, .inl (cA_8, 3, .inl (fun _ => 0)))] := hD
  have hK : va_K (dC, dI) vwCl [(cA_2, .char), (cA_4, .int), (cA_6, .int), (cA_8, .int)] s := hK
  refine W.widen (k := 4) (n := 105) (Nat.le_of_ble_eq_true rfl) (Nat.le_of_ble_eq_true rfl) ?_
  refine va_putF (D := (dC, dI)) (ci := 7) (v := .ref q_7) (ty := .array .int) (C := RX5) (T := TX5) (N := 10) hx hb ht inlX5 tyX5 tyX5_ok nmX5 hown hK hP hD hS 0 rfl rfl 9 (by decide) (ht _ (wr_4 _ (List.mem_of_getElem? (i := 19) rfl))) (fun _ h9 => h9) rfl hin rfl (by decide +kernel) rfl rfl (Nat.le_of_ble_eq_true rfl) dX5_init_60 (fun H locs hP hD hS => ?_)
  replace hP : va_P (dC, dI) vwCl [(a, .inr (7, [.int 3, .int 3, .int 0, .int 0, .int 0, .int 0, .ref q_1, .ref q_3, .ref q_5, .ref q_7])), (q_1, .inl (cA_2, 96, .inl (fun _ => 0))), (q_3, .inl (cA_4, 3, .inl (fun _ => 0))), (q_5, .inl (cA_6, 3, .inl (fun _ => 0))), (q_7, .inl (cA_8, 3, .inl (fun _ => 0)))] H := hP
  replace hD : va_D A [(a, .inr (7, [.int 3, .int 3, .int 0, .int 0, .int 0, .int 0, .ref q_1, .ref q_3, .ref q_5, .ref q_7])), (q_1, .inl (cA_2, 96, .inl (fun _ => 0))), (q_3, .inl (cA_4, 3, .inl (fun _ => 0))), (q_5, .inl (cA_6, 3, .inl (fun _ => 0))), (q_7, .inl (cA_8, 3, .inl (fun _ => 0)))] := hD
  have hP9 := hP.sub (ws' := [(a, .inr (7, [.int 3, .int 3, .int 0, .int 0, .int 0, .int 0, .ref q_1, .ref q_3, .ref q_5, .ref q_7])), (q_1, .inl (cA_2, 96, .inl (fun _ => 0)))]) [0, 1] rfl
  have hD9 := hD.sub (ws' := [(a, .inr (7, [.int 3, .int 3, .int 0, .int 0, .int 0, .int 0, .ref q_1, .ref q_3, .ref q_5, .ref q_7])), (q_1, .inl (cA_2, 96, .inl (fun _ => 0)))]) [0, 1] (by decide) rfl
  have hK9 := hK.sub (tys' := [(cA_2, .char)]) [0] rfl
  exact W.vret hx hb hr (fun t htt hW => have ht := htt; ⟨⟨(), rfl, trivial, ⟨q_1, q_3, q_5, q_7, cA_2, QW_of ht hW hP9 hK9 hD9⟩⟩, hS.F ht⟩) hS.2.2 dX5_init_63
