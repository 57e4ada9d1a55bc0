theorem dX8_init_0 : decode cX8_init 0 = .ok (.aload_n 0, 1) := by decide +kernel
theorem dX8_init_1 : decode cX8_init 1 = .ok (.invokespecial 5, 3) := by decide +kernel
theorem dX8_init_4 : decode cX8_init 4 = .ok (.aload_n 0, 1) := by decide +kernel
theorem dX8_init_5 : decode cX8_init 5 = .ok (.iconst (-1), 1) := by decide +kernel
theorem dX8_init_6 : decode cX8_init 6 = .ok (.putfield 11, 3) := by decide +kernel
theorem dX8_init_9 : decode cX8_init 9 = .ok (.aload_n 0, 1) := by decide +kernel
theorem dX8_init_10 : decode cX8_init 10 = .ok (.iconst (-1), 1) := by decide +kernel
theorem dX8_init_11 : decode cX8_init 11 = .ok (.putfield 15, 3) := by decide +kernel
theorem dX8_init_14 : decode cX8_init 14 = .ok (.aload_n 0, 1) := by decide +kernel
theorem dX8_init_15 : decode cX8_init 15 = .ok (.iconst 0, 1) := by decide +kernel
theorem dX8_init_16 : decode cX8_init 16 = .ok (.putfield 18, 3) := by decide +kernel
theorem dX8_init_19 : decode cX8_init 19 = .ok (.aload_n 0, 1) := by decide +kernel
theorem dX8_init_20 : decode cX8_init 20 = .ok (.new 21, 3) := by decide +kernel
theorem dX8_init_23 : decode cX8_init 23 = .ok (.dup, 1) := by decide +kernel
theorem dX8_init_24 : decode cX8_init 24 = .ok (.invokespecial 23, 3) := by decide +kernel
theorem dX8_init_27 : decode cX8_init 27 = .ok (.putfield 24, 3) := by decide +kernel
theorem dX8_init_30 : decode cX8_init 30 = .ok (.aload_n 0, 1) := by decide +kernel
theorem dX8_init_31 : decode cX8_init 31 = .ok (.ldc 28, 2) := by decide +kernel
theorem dX8_init_33 : decode cX8_init 33 = .ok (.newarray .int, 2) := by decide +kernel
theorem dX8_init_35 : decode cX8_init 35 = .ok (.putfield 29, 3) := by decide +kernel
theorem dX8_init_38 : decode cX8_init 38 = .ok (.aload_n 0, 1) := by decide +kernel
theorem dX8_init_39 : decode cX8_init 39 = .ok (.ldc 33, 2) := by decide +kernel
theorem dX8_init_41 : decode cX8_init 41 = .ok (.newarray .long, 2) := by decide +kernel
theorem dX8_init_43 : decode cX8_init 43 = .ok (.putfield 34, 3) := by decide +kernel
theorem dX8_init_46 : decode cX8_init 46 = .ok (.aload_n 0, 1) := by decide +kernel
theorem dX8_init_47 : decode cX8_init 47 = .ok (.ldc 28, 2) := by decide +kernel
theorem dX8_init_49 : decode cX8_init 49 = .ok (.newarray .int, 2) := by decide +kernel
theorem dX8_init_51 : decode cX8_init 51 = .ok (.putfield 38, 3) := by decide +kernel
theorem dX8_init_54 : decode cX8_init 54 = .ok (.aload_n 0, 1) := by decide +kernel
theorem dX8_init_55 : decode cX8_init 55 = .ok (.new 41, 3) := by decide +kernel
theorem dX8_init_58 : decode cX8_init 58 = .ok (.dup, 1) := by decide +kernel
theorem dX8_init_59 : decode cX8_init 59 = .ok (.invokespecial 43, 3) := by decide +kernel
theorem dX8_init_62 : decode cX8_init 62 = .ok (.putfield 44, 3) := by decide +kernel
theorem dX8_init_65 : decode cX8_init 65 = .ok (.aload_n 0, 1) := by decide +kernel
theorem dX8_init_66 : decode cX8_init 66 = .ok (.new 41, 3) := by decide +kernel
theorem dX8_init_69 : decode cX8_init 69 = .ok (.dup, 1) := by decide +kernel
theorem dX8_init_70 : decode cX8_init 70 = .ok (.invokespecial 43, 3) := by decide +kernel
theorem dX8_init_73 : decode cX8_init 73 = .ok (.putfield 48, 3) := by decide +kernel
theorem dX8_init_76 : decode cX8_init 76 = .ok (.aload_n 0, 1) := by decide +kernel
theorem dX8_init_77 : decode cX8_init 77 = .ok (.bipush 96, 2) := by decide +kernel
theorem dX8_init_79 : decode cX8_init 79 = .ok (.newarray .int, 2) := by decide +kernel
theorem dX8_init_81 : decode cX8_init 81 = .ok (.putfield 51, 3) := by decide +kernel
theorem dX8_init_84 : decode cX8_init 84 = .ok (.aload_n 0, 1) := by decide +kernel
theorem dX8_init_85 : decode cX8_init 85 = .ok (.iconst (-1), 1) := by decide +kernel
theorem dX8_init_86 : decode cX8_init 86 = .ok (.putfield 54, 3) := by decide +kernel
theorem dX8_init_89 : decode cX8_init 89 = .ok (.aload_n 0, 1) := by decide +kernel
theorem dX8_init_90 : decode cX8_init 90 = .ok (.iconst 0, 1) := by decide +kernel
theorem dX8_init_91 : decode cX8_init 91 = .ok (.putfield 57, 3) := by decide +kernel
theorem dX8_init_94 : decode cX8_init 94 = .ok (.aload_n 0, 1) := by decide +kernel
theorem dX8_init_95 : decode cX8_init 95 = .ok (.iconst 0, 1) := by decide +kernel
theorem dX8_init_96 : decode cX8_init 96 = .ok (.putfield 60, 3) := by decide +kernel
theorem dX8_init_99 : decode cX8_init 99 = .ok (.return_, 1) := by decide +kernel
theorem dX7_init_0 : decode cX7_init 0 = .ok (.aload_n 0, 1) := by decide +kernel
theorem dX7_init_1 : decode cX7_init 1 = .ok (.invokespecial 3, 3) := by decide +kernel
theorem dX7_init_4 : decode cX7_init 4 = .ok (.aload_n 0, 1) := by decide +kernel
theorem dX7_init_5 : decode cX7_init 5 = .ok (.iconst (-1), 1) := by decide +kernel
theorem dX7_init_6 : decode cX7_init 6 = .ok (.putfield 9, 3) := by decide +kernel
theorem dX7_init_9 : decode cX7_init 9 = .ok (.aload_n 0, 1) := by decide +kernel
theorem dX7_init_10 : decode cX7_init 10 = .ok (.bipush 61, 2) := by decide +kernel
theorem dX7_init_12 : decode cX7_init 12 = .ok (.putfield 15, 3) := by decide +kernel
theorem dX7_init_15 : decode cX7_init 15 = .ok (.aload_n 0, 1) := by decide +kernel
theorem dX7_init_16 : decode cX7_init 16 = .ok (.iconst (-1), 1) := by decide +kernel
theorem dX7_init_17 : decode cX7_init 17 = .ok (.putfield 19, 3) := by decide +kernel
theorem dX7_init_20 : decode cX7_init 20 = .ok (.aload_n 0, 1) := by decide +kernel
theorem dX7_init_21 : decode cX7_init 21 = .ok (.iconst (-1), 1) := by decide +kernel
theorem dX7_init_22 : decode cX7_init 22 = .ok (.putfield 22, 3) := by decide +kernel
theorem dX7_init_25 : decode cX7_init 25 = .ok (.aload_n 0, 1) := by decide +kernel
theorem dX7_init_26 : decode cX7_init 26 = .ok (.new 25, 3) := by decide +kernel
theorem dX7_init_29 : decode cX7_init 29 = .ok (.dup, 1) := by decide +kernel
theorem dX7_init_30 : decode cX7_init 30 = .ok (.invokespecial 27, 3) := by decide +kernel
theorem dX7_init_33 : decode cX7_init 33 = .ok (.putfield 28, 3) := by decide +kernel
theorem dX7_init_36 : decode cX7_init 36 = .ok (.aload_n 0, 1) := by decide +kernel
theorem dX7_init_37 : decode cX7_init 37 = .ok (.ldc 32, 2) := by decide +kernel
theorem dX7_init_39 : decode cX7_init 39 = .ok (.newarray .int, 2) := by decide +kernel
theorem dX7_init_41 : decode cX7_init 41 = .ok (.putfield 33, 3) := by decide +kernel
theorem dX7_init_44 : decode cX7_init 44 = .ok (.aload_n 0, 1) := by decide +kernel
theorem dX7_init_45 : decode cX7_init 45 = .ok (.sipush 864, 3) := by decide +kernel
theorem dX7_init_48 : decode cX7_init 48 = .ok (.newarray .long, 2) := by decide +kernel
theorem dX7_init_50 : decode cX7_init 50 = .ok (.putfield 37, 3) := by decide +kernel
theorem dX7_init_53 : decode cX7_init 53 = .ok (.aload_n 0, 1) := by decide +kernel
theorem dX7_init_54 : decode cX7_init 54 = .ok (.iconst 0, 1) := by decide +kernel
theorem dX7_init_55 : decode cX7_init 55 = .ok (.putfield 41, 3) := by decide +kernel
theorem dX7_init_58 : decode cX7_init 58 = .ok (.aload_n 0, 1) := by decide +kernel
theorem dX7_init_59 : decode cX7_init 59 = .ok (.new 44, 3) := by decide +kernel
theorem dX7_init_62 : decode cX7_init 62 = .ok (.dup, 1) := by decide +kernel
theorem dX7_init_63 : decode cX7_init 63 = .ok (.invokespecial 46, 3) := by decide +kernel
theorem dX7_init_66 : decode cX7_init 66 = .ok (.putfield 47, 3) := by decide +kernel
theorem dX7_init_69 : decode cX7_init 69 = .ok (.aload_n 0, 1) := by decide +kernel
theorem dX7_init_70 : decode cX7_init 70 = .ok (.new 44, 3) := by decide +kernel
theorem dX7_init_73 : decode cX7_init 73 = .ok (.dup, 1) := by decide +kernel
theorem dX7_init_74 : decode cX7_init 74 = .ok (.invokespecial 46, 3) := by decide +kernel
theorem dX7_init_77 : decode cX7_init 77 = .ok (.putfield 51, 3) := by decide +kernel
theorem dX7_init_80 : decode cX7_init 80 = .ok (.return_, 1) := by decide +kernel
theorem dX11_init_0 : decode cX11_init 0 = .ok (.aload_n 0, 1) := by decide +kernel
theorem dX11_init_1 : decode cX11_init 1 = .ok (.invokespecial 3, 3) := by decide +kernel
theorem dX11_init_4 : decode cX11_init 4 = .ok (.aload_n 0, 1) := by decide +kernel
theorem dX11_init_5 : decode cX11_init 5 = .ok (.new 9, 3) := by decide +kernel
theorem dX11_init_8 : decode cX11_init 8 = .ok (.dup, 1) := by decide +kernel
theorem dX11_init_9 : decode cX11_init 9 = .ok (.invokespecial 11, 3) := by decide +kernel
theorem dX11_init_12 : decode cX11_init 12 = .ok (.putfield 12, 3) := by decide +kernel
theorem dX11_init_15 : decode cX11_init 15 = .ok (.aload_n 0, 1) := by decide +kernel
theorem dX11_init_16 : decode cX11_init 16 = .ok (.new 9, 3) := by decide +kernel
theorem dX11_init_19 : decode cX11_init 19 = .ok (.dup, 1) := by decide +kernel
theorem dX11_init_20 : decode cX11_init 20 = .ok (.invokespecial 11, 3) := by decide +kernel
theorem dX11_init_23 : decode cX11_init 23 = .ok (.putfield 16, 3) := by decide +kernel
theorem dX11_init_26 : decode cX11_init 26 = .ok (.aload_n 0, 1) := by decide +kernel
theorem dX11_init_27 : decode cX11_init 27 = .ok (.new 9, 3) := by decide +kernel
theorem dX11_init_30 : decode cX11_init 30 = .ok (.dup, 1) := by decide +kernel
theorem dX11_init_31 : decode cX11_init 31 = .ok (.invokespecial 11, 3) := by decide +kernel
theorem dX11_init_34 : decode cX11_init 34 = .ok (.putfield 19, 3) := by decide +kernel
theorem dX11_init_37 : decode cX11_init 37 = .ok (.aload_n 0, 1) := by decide +kernel
theorem dX11_init_38 : decode cX11_init 38 = .ok (.bipush 6, 2) := by decide +kernel
theorem dX11_init_40 : decode cX11_init 40 = .ok (.anewarray 22, 3) := by decide +kernel
theorem dX11_init_43 : decode cX11_init 43 = .ok (.putfield 24, 3) := by decide +kernel
theorem dX11_init_46 : decode cX11_init 46 = .ok (.aload_n 0, 1) := by decide +kernel
theorem dX11_init_47 : decode cX11_init 47 = .ok (.bipush 6, 2) := by decide +kernel
theorem dX11_init_49 : decode cX11_init 49 = .ok (.newarray .int, 2) := by decide +kernel
theorem dX11_init_51 : decode cX11_init 51 = .ok (.putfield 28, 3) := by decide +kernel
theorem dX11_init_54 : decode cX11_init 54 = .ok (.aload_n 0, 1) := by decide +kernel
theorem dX11_init_55 : decode cX11_init 55 = .ok (.new 32, 3) := by decide +kernel
theorem dX11_init_58 : decode cX11_init 58 = .ok (.dup, 1) := by decide +kernel
theorem dX11_init_59 : decode cX11_init 59 = .ok (.invokespecial 34, 3) := by decide +kernel
theorem dX11_init_62 : decode cX11_init 62 = .ok (.putfield 35, 3) := by decide +kernel
theorem dX11_init_65 : decode cX11_init 65 = .ok (.aload_n 0, 1) := by decide +kernel
theorem dX11_init_66 : decode cX11_init 66 = .ok (.new 39, 3) := by decide +kernel
theorem dX11_init_69 : decode cX11_init 69 = .ok (.dup, 1) := by decide +kernel
theorem dX11_init_70 : decode cX11_init 70 = .ok (.invokespecial 41, 3) := by decide +kernel
theorem dX11_init_73 : decode cX11_init 73 = .ok (.putfield 42, 3) := by decide +kernel
theorem dX11_init_76 : decode cX11_init 76 = .ok (.aload_n 0, 1) := by decide +kernel
theorem dX11_init_77 : decode cX11_init 77 = .ok (.new 46, 3) := by decide +kernel
theorem dX11_init_80 : decode cX11_init 80 = .ok (.dup, 1) := by decide +kernel
theorem dX11_init_81 : decode cX11_init 81 = .ok (.invokespecial 48, 3) := by decide +kernel
theorem dX11_init_84 : decode cX11_init 84 = .ok (.putfield 49, 3) := by decide +kernel
theorem dX11_init_87 : decode cX11_init 87 = .ok (.aload_n 0, 1) := by decide +kernel
theorem dX11_init_88 : decode cX11_init 88 = .ok (.new 53, 3) := by decide +kernel
theorem dX11_init_91 : decode cX11_init 91 = .ok (.dup, 1) := by decide +kernel
theorem dX11_init_92 : decode cX11_init 92 = .ok (.invokespecial 55, 3) := by decide +kernel
theorem dX11_init_95 : decode cX11_init 95 = .ok (.putfield 56, 3) := by decide +kernel
theorem dX11_init_98 : decode cX11_init 98 = .ok (.aload_n 0, 1) := by decide +kernel
theorem dX11_init_99 : decode cX11_init 99 = .ok (.new 53, 3) := by decide +kernel
theorem dX11_init_102 : decode cX11_init 102 = .ok (.dup, 1) := by decide +kernel
theorem dX11_init_103 : decode cX11_init 103 = .ok (.invokespecial 55, 3) := by decide +kernel
theorem dX11_init_106 : decode cX11_init 106 = .ok (.putfield 60, 3) := by decide +kernel
theorem dX11_init_109 : decode cX11_init 109 = .ok (.aload_n 0, 1) := by decide +kernel
theorem dX11_init_110 : decode cX11_init 110 = .ok (.new 63, 3) := by decide +kernel
theorem dX11_init_113 : decode cX11_init 113 = .ok (.dup, 1) := by decide +kernel
theorem dX11_init_114 : decode cX11_init 114 = .ok (.invokespecial 65, 3) := by decide +kernel
theorem dX11_init_117 : decode cX11_init 117 = .ok (.putfield 66, 3) := by decide +kernel
theorem dX11_init_120 : decode cX11_init 120 = .ok (.aload_n 0, 1) := by decide +kernel
theorem dX11_init_121 : decode cX11_init 121 = .ok (.iconst 0, 1) := by decide +kernel
theorem dX11_init_122 : decode cX11_init 122 = .ok (.putfield 70, 3) := by decide +kernel
theorem dX11_init_125 : decode cX11_init 125 = .ok (.return_, 1) := by decide +kernel
set_option maxHeartbeats 4000000 in
set_option maxRecDepth 100000 in
theorem c_X8_init (l : Launch) (dC : Nat → ClassId) (dI : Nat → Nat → Nat) (de : Nat) (a : Nat) (sz : Nat) : Met l yX8_init (.code yX8_init cX8_init 1 none :: wsL_law) { frames := 2, cells := 9, slots := 331887, locals := 32 } (va_Pc [.ref a] (PW dC dI de [] [(a, .inr (10, [.int 0, .int 0, .int 0, .null, .null, .null, .null, .null, .null, .null, .int 0, .int 0, .int 0]))] sz)) (va_Qv (fun (u : Unit) => True) (fun (_ : Unit) (t : State) => QW dC dI [] [] (va_A [(a, .inr (10, [.int 0, .int 0, .int 0, .null, .null, .null, .null, .null, .null, .null, .int 0, .int 0, .int 0]))] sz) t) (va_A [(a, .inr (10, [.int 0, .int 0, .int 0, .null, .null, .null, .null, .null, .null, .null, .int 0, .int 0, .int 0]))] sz)) 9 331887 (va_A [(a, .inr (10, [.int 0, .int 0, .int 0, .null, .null, .null, .null, .null, .null, .null, .int 0, .int 0, .int 0]))] sz) := by
  refine Met.ofW (cc := cX8_init) (maxL := 1) (ret := none) (by decide) rfl ?_
  intro p e s m args below meth c s₁ B hml hv
  obtain ⟨rfl, hsz, hP, hK, hD0, hG⟩ := hv
  have hx := B.exec
  have hb := B.bytes
  have hr := B.returns
  have hts := atoms_spec (ws := .code yX8_init cX8_init 1 none :: wsL_law) B.pre
  have ht : ∀ w ∈ wsL_law, w.before _ s = true := fun w h => hts w (List.mem_cons_of_mem _ h)
  have hown : s.vm.findClass RX8 = some m.cls := findClass_of_methodNamed B.named
  have hlocks := B.notSynchronized
  have hin : meth.name = "<init>" := (name_of_methodNamed B.named B.method).1
  subst hsz
  have hD := hD0.self (sz := s.heap.size)
  generalize hAe : va_A [(a, .inr (10, [.int 0, .int 0, .int 0, .null, .null, .null, .null, .null, .null, .null, .int 0, .int 0, .int 0]))] s.heap.size = A at hD hG ⊢
  have hA : ∀ q : Nat, s.heap.size ≤ q → A q := fun q h => by rw [← hAe]; exact Or.inr h
  have hS : va_S A s.heap s.heap [] := va_S.rf
  have hP : va_P (dC, dI) vwCl [(a, .inr (10, [.int 0, .int 0, .int 0, .null, .null, .null, .null, .null, .null, .null, .int 0, .int 0, .int 0]))] s.heap := hP
  have hD : va_D A [(a, .inr (10, [.int 0, .int 0, .int 0, .null, .null, .null, .null, .null, .null, .null, .int 0, .int 0, .int 0]))] := hD
  have hl := lv_entry ([.ref a]) (n := 1) (Nat.le_of_ble_eq_true rfl)
  rw [lg_entry_eq]
  generalize (lg_sl ([.ref a]) ++ List.replicate (1 - (lg_sl ([.ref a])).length) Slot.unset).toArray = ls at hl ⊢
  have hl : lv_has ls 1 [(0, .ref a)] := hl
  refine lv_aload_n hx hb dX8_init_0 rfl (lv_at hl 0 rfl) ?_
  refine W.objInit hx hb hown (ht _ (wr_4 _ (List.mem_of_getElem? (i := 22) rfl))) (ht _ (wr_1 _ (List.mem_of_getElem? (i := 12) rfl))) (ht _ (wr_1 _ (List.mem_of_getElem? (i := 13) rfl))) rfl (by rw [hml]; exact hl.1) rfl dX8_init_1 (Nat.le_of_ble_eq_true rfl) (Nat.le_of_ble_eq_true rfl) ?_
  refine W.eq (g2 := F0 m 4 ls []) rfl ?_
  refine lv_aload_n hx hb dX8_init_4 rfl (lv_at hl 0 rfl) ?_
  refine lv_iconst (v := -1) hx hb dX8_init_5 (by decide) ?_
  refine va_put (D := (dC, dI)) (ci := 10) (v := .int (-1)) (ty := .int) (C := RX8) (T := TX8) (N := 13) hx hb ht inlX8 tyX8 tyX8_ok nmX8 hown hK hP hD hS 0 rfl rfl 0 (by decide) (ht _ (wr_4 _ (List.mem_of_getElem? (i := 23) rfl))) (fun _ h9 => h9) rfl (by decide +kernel) rfl rfl (Nat.le_of_ble_eq_true rfl) dX8_init_6 (fun H locs hP hD hS => ?_)
  replace hP : va_P (dC, dI) vwCl [(a, .inr (10, [.int (-1), .int 0, .int 0, .null, .null, .null, .null, .null, .null, .null, .int 0, .int 0, .int 0]))] H := hP
  replace hD : va_D A [(a, .inr (10, [.int (-1), .int 0, .int 0, .null, .null, .null, .null, .null, .null, .null, .int 0, .int 0, .int 0]))] := hD
  refine lv_aload_n hx hb dX8_init_9 rfl (lv_at hl 0 rfl) ?_
  refine lv_iconst (v := -1) hx hb dX8_init_10 (by decide) ?_
  refine va_put (D := (dC, dI)) (ci := 10) (v := .int (-1)) (ty := .int) (C := RX8) (T := TX8) (N := 13) hx hb ht inlX8 tyX8 tyX8_ok nmX8 hown hK hP hD hS 0 rfl rfl 1 (by decide) (ht _ (wr_5 _ (List.mem_of_getElem? (i := 0) rfl))) (fun _ h9 => h9) rfl (by decide +kernel) rfl rfl (Nat.le_of_ble_eq_true rfl) dX8_init_11 (fun H locs hP hD hS => ?_)
  replace hP : va_P (dC, dI) vwCl [(a, .inr (10, [.int (-1), .int (-1), .int 0, .null, .null, .null, .null, .null, .null, .null, .int 0, .int 0, .int 0]))] H := hP
  replace hD : va_D A [(a, .inr (10, [.int (-1), .int (-1), .int 0, .null, .null, .null, .null, .null, .null, .null, .int 0, .int 0, .int 0]))] := hD
  refine lv_aload_n hx hb dX8_init_14 rfl (lv_at hl 0 rfl) ?_
  refine lv_iconst (v := 0) hx hb dX8_init_15 (by decide) ?_
  refine va_put (D := (dC, dI)) (ci := 10) (v := .int 0) (ty := .int) (C := RX8) (T := TX8) (N := 13) hx hb ht inlX8 tyX8 tyX8_ok nmX8 hown hK hP hD hS 0 rfl rfl 2 (by decide) (ht _ (wr_5 _ (List.mem_of_getElem? (i := 1) rfl))) (fun _ h9 => h9) rfl (by decide +kernel) rfl rfl (Nat.le_of_ble_eq_true rfl) dX8_init_16 (fun H locs hP hD hS => ?_)
  replace hP : va_P (dC, dI) vwCl [(a, .inr (10, [.int (-1), .int (-1), .int 0, .null, .null, .null, .null, .null, .null, .null, .int 0, .int 0, .int 0]))] H := hP
  replace hD : va_D A [(a, .inr (10, [.int (-1), .int (-1), .int 0, .null, .null, .null, .null, .null, .null, .null, .int 0, .int 0, .int 0]))] := hD
  refine lv_aload_n hx hb dX8_init_19 rfl (lv_at hl 0 rfl) ?_
  refine va_new (ci := 3) (fs := [.null, .null, .int 0]) (C := RX1) (T := TX1) (N := 3) hx hb ht inlX1 tyX1 tyX1_ok hown (ht _ (wr_5 _ (List.mem_of_getElem? (i := 2) rfl))) (ht _ (wr_5 _ (List.mem_of_getElem? (i := 3) rfl))) (ht _ (wr_5 _ (List.mem_of_getElem? (i := 4) rfl))) hK hP hD hS hA rfl (fun j hj => match j, hj with | 0, _ => rfl | 1, _ => rfl | 2, _ => rfl | j + 3, h => absurd h (by omega)) (Nat.le_of_ble_eq_true rfl) (Nat.le_of_ble_eq_true rfl) dX8_init_20 (fun q_1 H hP hD hS => ?_)
  replace hP : va_P (dC, dI) vwCl [(a, .inr (10, [.int (-1), .int (-1), .int 0, .null, .null, .null, .null, .null, .null, .null, .int 0, .int 0, .int 0])), (q_1, .inr (3, [.null, .null, .int 0]))] H := hP
  replace hD : va_D A [(a, .inr (10, [.int (-1), .int (-1), .int 0, .null, .null, .null, .null, .null, .null, .null, .int 0, .int 0, .int 0])), (q_1, .inr (3, [.null, .null, .int 0]))] := hD
  refine W.widen (k := 1) (n := 3) (Nat.le_of_ble_eq_true rfl) (Nat.le_of_ble_eq_true rfl) ?_
  refine lv_dup hx hb dX8_init_23 rfl ?_
  have hPc := hP.sub (ws' := [(q_1, .inr (3, [.null, .null, .int 0]))]) [1] rfl
  have hDc := hD.sub (ws' := [(q_1, .inr (3, [.null, .null, .int 0]))]) [1] (by decide) rfl
  have hKc := hK.sub (tys' := []) [] rfl
  have hFc := va_free (wc := [(q_1, .inr (3, [.null, .null, .int 0]))]) hD hS hA [1] rfl
  refine va_callv (va_runIN (As := []) (rest := [.ref q_1, .ref a]) ⟨hx, hb, hml, hown, ht⟩ (c_X1_init l dC dI de (q_1) H.size) ⟨va_cnB 0 ht (gWI (wr_5 _ (List.mem_of_getElem? (i := 21) rfl))) rfl rfl rfl (hG.2.2.1 ("Levelsmith$Reach", 23, yX1_init, "Levelsmith") (List.mem_of_getElem? (i := 4) rfl)) (ht _ (wr_5 _ (List.mem_of_getElem? (i := 4) rfl))) (by decide +kernel) ⟨Nat.le_of_ble_eq_true rfl, Nat.le_of_ble_eq_true rfl⟩, rfl, (ht _ (wr_5 _ (List.mem_of_getElem? (i := 20) rfl)))⟩ ⟨PW_blind, PW_call hPc hDc hKc hS hG hFc⟩ rfl rfl hl.1 rfl (lv_room (Nat.le_of_ble_eq_true rfl)) dX8_init_24 ⟨Nat.le_of_ble_eq_true rfl, Nat.le_of_ble_eq_true rfl⟩) hS (fun q _ h => hFc q h) hFc (fun u t H1 locs ht9 hvm hw hB hz1 hk1 hS => ?_)
  obtain ⟨hP1, hK1, hD1⟩ := hB
  rw [ht9] at hP1
  have hK1 := va_K.moved hvm.symm hK1
  obtain ⟨hP, hD⟩ := va_join (wr := [(a, .inr (10, [.int (-1), .int (-1), .int 0, .null, .null, .null, .null, .null, .null, .null, .int 0, .int 0, .int 0]))]) (w1 := []) hP hD [1] [0] rfl rfl (by decide) (by decide) hk1 hFc hP1 hD1
  have hK := (hK.sub (tys' := []) [] rfl).app hK1
  generalize H1 = H at hP hS ⊢
  replace hP : va_P (dC, dI) vwCl [(a, .inr (10, [.int (-1), .int (-1), .int 0, .null, .null, .null, .null, .null, .null, .null, .int 0, .int 0, .int 0]))] H := hP
  replace hD : va_D A [(a, .inr (10, [.int (-1), .int (-1), .int 0, .null, .null, .null, .null, .null, .null, .null, .int 0, .int 0, .int 0]))] := hD
  have hK : va_K (dC, dI) vwCl [] s := hK
  refine W.widen (k := 3) (n := 110595) (Nat.le_of_ble_eq_true rfl) (Nat.le_of_ble_eq_true rfl) ?_
  have hw_24 := hw
  refine va_putF (D := (dC, dI)) (ci := 10) (v := .ref q_1) (ty := .object "Levelsmith$Codes") (C := RX8) (T := TX8) (N := 13) hx hb ht inlX8 tyX8 tyX8_ok nmX8 hown hK hP hD hS 0 rfl rfl 3 (by decide) (ht _ (wr_5 _ (List.mem_of_getElem? (i := 5) rfl))) (fun _ h9 => h9) rfl hin rfl (by decide +kernel) rfl rfl (Nat.le_of_ble_eq_true rfl) dX8_init_27 (fun H locs hP hD hS => ?_)
  replace hP : va_P (dC, dI) vwCl [(a, .inr (10, [.int (-1), .int (-1), .int 0, .ref q_1, .null, .null, .null, .null, .null, .null, .int 0, .int 0, .int 0]))] H := hP
  replace hD : va_D A [(a, .inr (10, [.int (-1), .int (-1), .int 0, .ref q_1, .null, .null, .null, .null, .null, .null, .int 0, .int 0, .int 0]))] := hD
  refine lv_aload_n hx hb dX8_init_30 rfl (lv_at hl 0 rfl) ?_
  refine lv_ldc (v := 55296) hx hb hown (ht _ (wr_5 _ (List.mem_of_getElem? (i := 6) rfl))) dX8_init_31 ?_
  refine va_newa (atype := .int) (ty := .int) (N' := 55296) (a0 := (55296, .inl (fun _ => 0))) hx hb (ht _ (wr_1 _ (List.mem_of_getElem? (i := 22) rfl))) rfl hK hP hD hS hA (fun _ => rfl) (by decide +kernel) (by decide +kernel) (Nat.le_of_ble_eq_true rfl) (Nat.le_of_ble_eq_true rfl) (Nat.le_of_ble_eq_true rfl) dX8_init_33 (fun q_2 cA_3 H hK hP hD hS => ?_)
  replace hP : va_P (dC, dI) vwCl [(a, .inr (10, [.int (-1), .int (-1), .int 0, .ref q_1, .null, .null, .null, .null, .null, .null, .int 0, .int 0, .int 0])), (q_2, .inl (cA_3, 55296, .inl (fun _ => 0)))] H := hP
  replace hD : va_D A [(a, .inr (10, [.int (-1), .int (-1), .int 0, .ref q_1, .null, .null, .null, .null, .null, .null, .int 0, .int 0, .int 0])), (q_2, .inl (cA_3, 55296, .inl (fun _ => 0)))] := hD
  have hK : va_K (dC, dI) vwCl [(cA_3, .int)] s := hK
  refine W.widen (k := 4) (n := 165891) (Nat.le_of_ble_eq_true rfl) (Nat.le_of_ble_eq_true rfl) ?_
  refine va_putF (D := (dC, dI)) (ci := 10) (v := .ref q_2) (ty := .array .int) (C := RX8) (T := TX8) (N := 13) hx hb ht inlX8 tyX8 tyX8_ok nmX8 hown hK hP hD hS 0 rfl rfl 4 (by decide) (ht _ (wr_5 _ (List.mem_of_getElem? (i := 7) rfl))) (fun _ h9 => h9) rfl hin rfl (by decide +kernel) rfl rfl (Nat.le_of_ble_eq_true rfl) dX8_init_35 (fun H locs hP hD hS => ?_)
  replace hP : va_P (dC, dI) vwCl [(a, .inr (10, [.int (-1), .int (-1), .int 0, .ref q_1, .ref q_2, .null, .null, .null, .null, .null, .int 0, .int 0, .int 0])), (q_2, .inl (cA_3, 55296, .inl (fun _ => 0)))] H := hP
  replace hD : va_D A [(a, .inr (10, [.int (-1), .int (-1), .int 0, .ref q_1, .ref q_2, .null, .null, .null, .null, .null, .int 0, .int 0, .int 0])), (q_2, .inl (cA_3, 55296, .inl (fun _ => 0)))] := hD
  refine lv_aload_n hx hb dX8_init_38 rfl (lv_at hl 0 rfl) ?_
  refine lv_ldc (v := 110592) hx hb hown (ht _ (wr_5 _ (List.mem_of_getElem? (i := 8) rfl))) dX8_init_39 ?_
  refine va_newa (atype := .long) (ty := .long) (N' := 110592) (a0 := (110592, .inr (.inl (fun _ => 0)))) hx hb (ht _ (wr_1 _ (List.mem_of_getElem? (i := 6) rfl))) rfl hK hP hD hS hA (fun _ => rfl) (by decide +kernel) (by decide +kernel) (Nat.le_of_ble_eq_true rfl) (Nat.le_of_ble_eq_true rfl) (Nat.le_of_ble_eq_true rfl) dX8_init_41 (fun q_4 cA_5 H hK hP hD hS => ?_)
  replace hP : va_P (dC, dI) vwCl [(a, .inr (10, [.int (-1), .int (-1), .int 0, .ref q_1, .ref q_2, .null, .null, .null, .null, .null, .int 0, .int 0, .int 0])), (q_2, .inl (cA_3, 55296, .inl (fun _ => 0))), (q_4, .inl (cA_5, 110592, .inr (.inl (fun _ => 0))))] H := hP
  replace hD : va_D A [(a, .inr (10, [.int (-1), .int (-1), .int 0, .ref q_1, .ref q_2, .null, .null, .null, .null, .null, .int 0, .int 0, .int 0])), (q_2, .inl (cA_3, 55296, .inl (fun _ => 0))), (q_4, .inl (cA_5, 110592, .inr (.inl (fun _ => 0))))] := hD
  have hK : va_K (dC, dI) vwCl [(cA_3, .int), (cA_5, .long)] s := hK
  refine W.widen (k := 5) (n := 276483) (Nat.le_of_ble_eq_true rfl) (Nat.le_of_ble_eq_true rfl) ?_
  refine va_putF (D := (dC, dI)) (ci := 10) (v := .ref q_4) (ty := .array .long) (C := RX8) (T := TX8) (N := 13) hx hb ht inlX8 tyX8 tyX8_ok nmX8 hown hK hP hD hS 0 rfl rfl 5 (by decide) (ht _ (wr_5 _ (List.mem_of_getElem? (i := 9) rfl))) (fun _ h9 => h9) rfl hin rfl (by decide +kernel) rfl rfl (Nat.le_of_ble_eq_true rfl) dX8_init_43 (fun H locs hP hD hS => ?_)
  replace hP : va_P (dC, dI) vwCl [(a, .inr (10, [.int (-1), .int (-1), .int 0, .ref q_1, .ref q_2, .ref q_4, .null, .null, .null, .null, .int 0, .int 0, .int 0])), (q_2, .inl (cA_3, 55296, .inl (fun _ => 0))), (q_4, .inl (cA_5, 110592, .inr (.inl (fun _ => 0))))] H := hP
  replace hD : va_D A [(a, .inr (10, [.int (-1), .int (-1), .int 0, .ref q_1, .ref q_2, .ref q_4, .null, .null, .null, .null, .int 0, .int 0, .int 0])), (q_2, .inl (cA_3, 55296, .inl (fun _ => 0))), (q_4, .inl (cA_5, 110592, .inr (.inl (fun _ => 0))))] := hD
  refine lv_aload_n hx hb dX8_init_46 rfl (lv_at hl 0 rfl) ?_
  refine lv_ldc (v := 55296) hx hb hown (ht _ (wr_5 _ (List.mem_of_getElem? (i := 6) rfl))) dX8_init_47 ?_
  refine va_newa (atype := .int) (ty := .int) (N' := 55296) (a0 := (55296, .inl (fun _ => 0))) hx hb (ht _ (wr_1 _ (List.mem_of_getElem? (i := 22) rfl))) rfl hK hP hD hS hA (fun _ => rfl) (by decide +kernel) (by decide +kernel) (Nat.le_of_ble_eq_true rfl) (Nat.le_of_ble_eq_true rfl) (Nat.le_of_ble_eq_true rfl) dX8_init_49 (fun q_6 cA_7 H hK hP hD hS => ?_)
  replace hP : va_P (dC, dI) vwCl [(a, .inr (10, [.int (-1), .int (-1), .int 0, .ref q_1, .ref q_2, .ref q_4, .null, .null, .null, .null, .int 0, .int 0, .int 0])), (q_2, .inl (cA_3, 55296, .inl (fun _ => 0))), (q_4, .inl (cA_5, 110592, .inr (.inl (fun _ => 0)))), (q_6, .inl (cA_7, 55296, .inl (fun _ => 0)))] H := hP
  replace hD : va_D A [(a, .inr (10, [.int (-1), .int (-1), .int 0, .ref q_1, .ref q_2, .ref q_4, .null, .null, .null, .null, .int 0, .int 0, .int 0])), (q_2, .inl (cA_3, 55296, .inl (fun _ => 0))), (q_4, .inl (cA_5, 110592, .inr (.inl (fun _ => 0)))), (q_6, .inl (cA_7, 55296, .inl (fun _ => 0)))] := hD
  have hK : va_K (dC, dI) vwCl [(cA_3, .int), (cA_5, .long), (cA_7, .int)] s := hK
  refine W.widen (k := 6) (n := 331779) (Nat.le_of_ble_eq_true rfl) (Nat.le_of_ble_eq_true rfl) ?_
  refine va_putF (D := (dC, dI)) (ci := 10) (v := .ref q_6) (ty := .array .int) (C := RX8) (T := TX8) (N := 13) hx hb ht inlX8 tyX8 tyX8_ok nmX8 hown hK hP hD hS 0 rfl rfl 6 (by decide) (ht _ (wr_5 _ (List.mem_of_getElem? (i := 10) rfl))) (fun _ h9 => h9) rfl hin rfl (by decide +kernel) rfl rfl (Nat.le_of_ble_eq_true rfl) dX8_init_51 (fun H locs hP hD hS => ?_)
  replace hP : va_P (dC, dI) vwCl [(a, .inr (10, [.int (-1), .int (-1), .int 0, .ref q_1, .ref q_2, .ref q_4, .ref q_6, .null, .null, .null, .int 0, .int 0, .int 0])), (q_2, .inl (cA_3, 55296, .inl (fun _ => 0))), (q_4, .inl (cA_5, 110592, .inr (.inl (fun _ => 0)))), (q_6, .inl (cA_7, 55296, .inl (fun _ => 0)))] H := hP
  replace hD : va_D A [(a, .inr (10, [.int (-1), .int (-1), .int 0, .ref q_1, .ref q_2, .ref q_4, .ref q_6, .null, .null, .null, .int 0, .int 0, .int 0])), (q_2, .inl (cA_3, 55296, .inl (fun _ => 0))), (q_4, .inl (cA_5, 110592, .inr (.inl (fun _ => 0)))), (q_6, .inl (cA_7, 55296, .inl (fun _ => 0)))] := hD
  refine lv_aload_n hx hb dX8_init_54 rfl (lv_at hl 0 rfl) ?_
  refine va_new (ci := 8) (fs := [.int 0, .int 0, .int 0, .int 0, .int 0, .int 0]) (C := RX6) (T := TX6) (N := 6) hx hb ht inlX6 tyX6 tyX6_ok hown (ht _ (wr_5 _ (List.mem_of_getElem? (i := 11) rfl))) (ht _ (wr_5 _ (List.mem_of_getElem? (i := 12) rfl))) (ht _ (wr_5 _ (List.mem_of_getElem? (i := 13) rfl))) hK hP hD hS hA rfl (fun j hj => match j, hj with | 0, _ => rfl | 1, _ => rfl | 2, _ => rfl | 3, _ => rfl | 4, _ => rfl | 5, _ => rfl | j + 6, h => absurd h (by omega)) (Nat.le_of_ble_eq_true rfl) (Nat.le_of_ble_eq_true rfl) dX8_init_55 (fun q_8 H hP hD hS => ?_)
  replace hP : va_P (dC, dI) vwCl [(a, .inr (10, [.int (-1), .int (-1), .int 0, .ref q_1, .ref q_2, .ref q_4, .ref q_6, .null, .null, .null, .int 0, .int 0, .int 0])), (q_2, .inl (cA_3, 55296, .inl (fun _ => 0))), (q_4, .inl (cA_5, 110592, .inr (.inl (fun _ => 0)))), (q_6, .inl (cA_7, 55296, .inl (fun _ => 0))), (q_8, .inr (8, [.int 0, .int 0, .int 0, .int 0, .int 0, .int 0]))] H := hP
  replace hD : va_D A [(a, .inr (10, [.int (-1), .int (-1), .int 0, .ref q_1, .ref q_2, .ref q_4, .ref q_6, .null, .null, .null, .int 0, .int 0, .int 0])), (q_2, .inl (cA_3, 55296, .inl (fun _ => 0))), (q_4, .inl (cA_5, 110592, .inr (.inl (fun _ => 0)))), (q_6, .inl (cA_7, 55296, .inl (fun _ => 0))), (q_8, .inr (8, [.int 0, .int 0, .int 0, .int 0, .int 0, .int 0]))] := hD
  refine W.widen (k := 7) (n := 331785) (Nat.le_of_ble_eq_true rfl) (Nat.le_of_ble_eq_true rfl) ?_
  refine lv_dup hx hb dX8_init_58 rfl ?_
  have hPc := hP.sub (ws' := [(q_8, .inr (8, [.int 0, .int 0, .int 0, .int 0, .int 0, .int 0]))]) [4] rfl
  have hDc := hD.sub (ws' := [(q_8, .inr (8, [.int 0, .int 0, .int 0, .int 0, .int 0, .int 0]))]) [4] (by decide) rfl
  have hKc := hK.sub (tys' := []) [] rfl
  have hFc := va_free (wc := [(q_8, .inr (8, [.int 0, .int 0, .int 0, .int 0, .int 0, .int 0]))]) hD hS hA [4] rfl
  refine va_callv (va_runIN (As := []) (rest := [.ref q_8, .ref a]) ⟨hx, hb, hml, hown, ht⟩ (c_X6_init l dC dI de (q_8) H.size) ⟨va_cnB 0 ht (gWI (wr_6 _ (List.mem_of_getElem? (i := 4) rfl))) rfl rfl rfl (hG.2.2.1 ("Levelsmith$Reach", 43, yX6_init, "Levelsmith") (List.mem_of_getElem? (i := 5) rfl)) (ht _ (wr_5 _ (List.mem_of_getElem? (i := 13) rfl))) (by decide +kernel) ⟨Nat.le_of_ble_eq_true rfl, Nat.le_of_ble_eq_true rfl⟩, rfl, (ht _ (wr_6 _ (List.mem_of_getElem? (i := 3) rfl)))⟩ ⟨PW_blind, PW_call hPc hDc hKc hS hG hFc⟩ rfl rfl hl.1 rfl (lv_room (Nat.le_of_ble_eq_true rfl)) dX8_init_59 ⟨Nat.le_of_ble_eq_true rfl, Nat.le_of_ble_eq_true rfl⟩) hS (fun q _ h => hFc q h) hFc (fun u t H1 locs ht9 hvm hw hB hz1 hk1 hS => ?_)
  obtain ⟨hP1, hK1, hD1⟩ := hB
  rw [ht9] at hP1
  have hK1 := va_K.moved hvm.symm hK1
  obtain ⟨hP, hD⟩ := va_join (wr := [(a, .inr (10, [.int (-1), .int (-1), .int 0, .ref q_1, .ref q_2, .ref q_4, .ref q_6, .null, .null, .null, .int 0, .int 0, .int 0])), (q_2, .inl (cA_3, 55296, .inl (fun _ => 0))), (q_4, .inl (cA_5, 110592, .inr (.inl (fun _ => 0)))), (q_6, .inl (cA_7, 55296, .inl (fun _ => 0)))]) (w1 := []) hP hD [4] [0, 1, 2, 3] rfl rfl (by decide) (by decide) hk1 hFc hP1 hD1
  have hK := (hK.sub (tys' := [(cA_3, .int), (cA_5, .long), (cA_7, .int)]) [0, 1, 2] rfl).app hK1
  generalize H1 = H at hP hS ⊢
  replace hP : va_P (dC, dI) vwCl [(a, .inr (10, [.int (-1), .int (-1), .int 0, .ref q_1, .ref q_2, .ref q_4, .ref q_6, .null, .null, .null, .int 0, .int 0, .int 0])), (q_2, .inl (cA_3, 55296, .inl (fun _ => 0))), (q_4, .inl (cA_5, 110592, .inr (.inl (fun _ => 0)))), (q_6, .inl (cA_7, 55296, .inl (fun _ => 0)))] H := hP
  replace hD : va_D A [(a, .inr (10, [.int (-1), .int (-1), .int 0, .ref q_1, .ref q_2, .ref q_4, .ref q_6, .null, .null, .null, .int 0, .int 0, .int 0])), (q_2, .inl (cA_3, 55296, .inl (fun _ => 0))), (q_4, .inl (cA_5, 110592, .inr (.inl (fun _ => 0)))), (q_6, .inl (cA_7, 55296, .inl (fun _ => 0)))] := hD
  have hK : va_K (dC, dI) vwCl [(cA_3, .int), (cA_5, .long), (cA_7, .int)] s := hK
  have hw_59 := hw
  refine va_putF (D := (dC, dI)) (ci := 10) (v := .ref q_8) (ty := .object "Levelsmith$Player") (C := RX8) (T := TX8) (N := 13) hx hb ht inlX8 tyX8 tyX8_ok nmX8 hown hK hP hD hS 0 rfl rfl 7 (by decide) (ht _ (wr_5 _ (List.mem_of_getElem? (i := 14) rfl))) (fun _ h9 => h9) rfl hin rfl (by decide +kernel) rfl rfl (Nat.le_of_ble_eq_true rfl) dX8_init_62 (fun H locs hP hD hS => ?_)
  replace hP : va_P (dC, dI) vwCl [(a, .inr (10, [.int (-1), .int (-1), .int 0, .ref q_1, .ref q_2, .ref q_4, .ref q_6, .ref q_8, .null, .null, .int 0, .int 0, .int 0])), (q_2, .inl (cA_3, 55296, .inl (fun _ => 0))), (q_4, .inl (cA_5, 110592, .inr (.inl (fun _ => 0)))), (q_6, .inl (cA_7, 55296, .inl (fun _ => 0)))] H := hP
  replace hD : va_D A [(a, .inr (10, [.int (-1), .int (-1), .int 0, .ref q_1, .ref q_2, .ref q_4, .ref q_6, .ref q_8, .null, .null, .int 0, .int 0, .int 0])), (q_2, .inl (cA_3, 55296, .inl (fun _ => 0))), (q_4, .inl (cA_5, 110592, .inr (.inl (fun _ => 0)))), (q_6, .inl (cA_7, 55296, .inl (fun _ => 0)))] := hD
  refine lv_aload_n hx hb dX8_init_65 rfl (lv_at hl 0 rfl) ?_
  refine va_new (ci := 8) (fs := [.int 0, .int 0, .int 0, .int 0, .int 0, .int 0]) (C := RX6) (T := TX6) (N := 6) hx hb ht inlX6 tyX6 tyX6_ok hown (ht _ (wr_5 _ (List.mem_of_getElem? (i := 11) rfl))) (ht _ (wr_5 _ (List.mem_of_getElem? (i := 12) rfl))) (ht _ (wr_5 _ (List.mem_of_getElem? (i := 13) rfl))) hK hP hD hS hA rfl (fun j hj => match j, hj with | 0, _ => rfl | 1, _ => rfl | 2, _ => rfl | 3, _ => rfl | 4, _ => rfl | 5, _ => rfl | j + 6, h => absurd h (by omega)) (Nat.le_of_ble_eq_true rfl) (Nat.le_of_ble_eq_true rfl) dX8_init_66 (fun q_9 H hP hD hS => ?_)
  replace hP : va_P (dC, dI) vwCl [(a, .inr (10, [.int (-1), .int (-1), .int 0, .ref q_1, .ref q_2, .ref q_4, .ref q_6, .ref q_8, .null, .null, .int 0, .int 0, .int 0])), (q_2, .inl (cA_3, 55296, .inl (fun _ => 0))), (q_4, .inl (cA_5, 110592, .inr (.inl (fun _ => 0)))), (q_6, .inl (cA_7, 55296, .inl (fun _ => 0))), (q_9, .inr (8, [.int 0, .int 0, .int 0, .int 0, .int 0, .int 0]))] H := hP
  replace hD : va_D A [(a, .inr (10, [.int (-1), .int (-1), .int 0, .ref q_1, .ref q_2, .ref q_4, .ref q_6, .ref q_8, .null, .null, .int 0, .int 0, .int 0])), (q_2, .inl (cA_3, 55296, .inl (fun _ => 0))), (q_4, .inl (cA_5, 110592, .inr (.inl (fun _ => 0)))), (q_6, .inl (cA_7, 55296, .inl (fun _ => 0))), (q_9, .inr (8, [.int 0, .int 0, .int 0, .int 0, .int 0, .int 0]))] := hD
  refine W.widen (k := 8) (n := 331791) (Nat.le_of_ble_eq_true rfl) (Nat.le_of_ble_eq_true rfl) ?_
  refine lv_dup hx hb dX8_init_69 rfl ?_
  have hPc := hP.sub (ws' := [(q_9, .inr (8, [.int 0, .int 0, .int 0, .int 0, .int 0, .int 0]))]) [4] rfl
  have hDc := hD.sub (ws' := [(q_9, .inr (8, [.int 0, .int 0, .int 0, .int 0, .int 0, .int 0]))]) [4] (by decide) rfl
  have hKc := hK.sub (tys' := []) [] rfl
  have hFc := va_free (wc := [(q_9, .inr (8, [.int 0, .int 0, .int 0, .int 0, .int 0, .int 0]))]) hD hS hA [4] rfl
  refine va_callv (va_runIN (As := []) (rest := [.ref q_9, .ref a]) ⟨hx, hb, hml, hown, ht⟩ (c_X6_init l dC dI de (q_9) H.size) ⟨va_cnB 0 ht (gWI (wr_6 _ (List.mem_of_getElem? (i := 4) rfl))) rfl rfl rfl (hG.2.2.1 ("Levelsmith$Reach", 43, yX6_init, "Levelsmith") (List.mem_of_getElem? (i := 5) rfl)) (ht _ (wr_5 _ (List.mem_of_getElem? (i := 13) rfl))) (by decide +kernel) ⟨Nat.le_of_ble_eq_true rfl, Nat.le_of_ble_eq_true rfl⟩, rfl, (ht _ (wr_6 _ (List.mem_of_getElem? (i := 3) rfl)))⟩ ⟨PW_blind, PW_call hPc hDc hKc hS hG hFc⟩ rfl rfl hl.1 rfl (lv_room (Nat.le_of_ble_eq_true rfl)) dX8_init_70 ⟨Nat.le_of_ble_eq_true rfl, Nat.le_of_ble_eq_true rfl⟩) hS (fun q _ h => hFc q h) hFc (fun u t H1 locs ht9 hvm hw hB hz1 hk1 hS => ?_)
  obtain ⟨hP1, hK1, hD1⟩ := hB
  rw [ht9] at hP1
  have hK1 := va_K.moved hvm.symm hK1
  obtain ⟨hP, hD⟩ := va_join (wr := [(a, .inr (10, [.int (-1), .int (-1), .int 0, .ref q_1, .ref q_2, .ref q_4, .ref q_6, .ref q_8, .null, .null, .int 0, .int 0, .int 0])), (q_2, .inl (cA_3, 55296, .inl (fun _ => 0))), (q_4, .inl (cA_5, 110592, .inr (.inl (fun _ => 0)))), (q_6, .inl (cA_7, 55296, .inl (fun _ => 0)))]) (w1 := []) hP hD [4] [0, 1, 2, 3] rfl rfl (by decide) (by decide) hk1 hFc hP1 hD1
  have hK := (hK.sub (tys' := [(cA_3, .int), (cA_5, .long), (cA_7, .int)]) [0, 1, 2] rfl).app hK1
  generalize H1 = H at hP hS ⊢
  replace hP : va_P (dC, dI) vwCl [(a, .inr (10, [.int (-1), .int (-1), .int 0, .ref q_1, .ref q_2, .ref q_4, .ref q_6, .ref q_8, .null, .null, .int 0, .int 0, .int 0])), (q_2, .inl (cA_3, 55296, .inl (fun _ => 0))), (q_4, .inl (cA_5, 110592, .inr (.inl (fun _ => 0)))), (q_6, .inl (cA_7, 55296, .inl (fun _ => 0)))] H := hP
  replace hD : va_D A [(a, .inr (10, [.int (-1), .int (-1), .int 0, .ref q_1, .ref q_2, .ref q_4, .ref q_6, .ref q_8, .null, .null, .int 0, .int 0, .int 0])), (q_2, .inl (cA_3, 55296, .inl (fun _ => 0))), (q_4, .inl (cA_5, 110592, .inr (.inl (fun _ => 0)))), (q_6, .inl (cA_7, 55296, .inl (fun _ => 0)))] := hD
  have hK : va_K (dC, dI) vwCl [(cA_3, .int), (cA_5, .long), (cA_7, .int)] s := hK
  have hw_70 := hw
  refine va_putF (D := (dC, dI)) (ci := 10) (v := .ref q_9) (ty := .object "Levelsmith$Player") (C := RX8) (T := TX8) (N := 13) hx hb ht inlX8 tyX8 tyX8_ok nmX8 hown hK hP hD hS 0 rfl rfl 8 (by decide) (ht _ (wr_5 _ (List.mem_of_getElem? (i := 15) rfl))) (fun _ h9 => h9) rfl hin rfl (by decide +kernel) rfl rfl (Nat.le_of_ble_eq_true rfl) dX8_init_73 (fun H locs hP hD hS => ?_)
  replace hP : va_P (dC, dI) vwCl [(a, .inr (10, [.int (-1), .int (-1), .int 0, .ref q_1, .ref q_2, .ref q_4, .ref q_6, .ref q_8, .ref q_9, .null, .int 0, .int 0, .int 0])), (q_2, .inl (cA_3, 55296, .inl (fun _ => 0))), (q_4, .inl (cA_5, 110592, .inr (.inl (fun _ => 0)))), (q_6, .inl (cA_7, 55296, .inl (fun _ => 0)))] H := hP
  replace hD : va_D A [(a, .inr (10, [.int (-1), .int (-1), .int 0, .ref q_1, .ref q_2, .ref q_4, .ref q_6, .ref q_8, .ref q_9, .null, .int 0, .int 0, .int 0])), (q_2, .inl (cA_3, 55296, .inl (fun _ => 0))), (q_4, .inl (cA_5, 110592, .inr (.inl (fun _ => 0)))), (q_6, .inl (cA_7, 55296, .inl (fun _ => 0)))] := hD
  refine lv_aload_n hx hb dX8_init_76 rfl (lv_at hl 0 rfl) ?_
  refine lv_bipush (v := 96) hx hb dX8_init_77 (by decide) ?_
  refine va_newa (atype := .int) (ty := .int) (N' := 96) (a0 := (96, .inl (fun _ => 0))) hx hb (ht _ (wr_1 _ (List.mem_of_getElem? (i := 22) rfl))) rfl hK hP hD hS hA (fun _ => rfl) (by decide +kernel) (by decide +kernel) (Nat.le_of_ble_eq_true rfl) (Nat.le_of_ble_eq_true rfl) (Nat.le_of_ble_eq_true rfl) dX8_init_79 (fun q_10 cA_11 H hK hP hD hS => ?_)
  replace hP : va_P (dC, dI) vwCl [(a, .inr (10, [.int (-1), .int (-1), .int 0, .ref q_1, .ref q_2, .ref q_4, .ref q_6, .ref q_8, .ref q_9, .null, .int 0, .int 0, .int 0])), (q_2, .inl (cA_3, 55296, .inl (fun _ => 0))), (q_4, .inl (cA_5, 110592, .inr (.inl (fun _ => 0)))), (q_6, .inl (cA_7, 55296, .inl (fun _ => 0))), (q_10, .inl (cA_11, 96, .inl (fun _ => 0)))] H := hP
  replace hD : va_D A [(a, .inr (10, [.int (-1), .int (-1), .int 0, .ref q_1, .ref q_2, .ref q_4, .ref q_6, .ref q_8, .ref q_9, .null, .int 0, .int 0, .int 0])), (q_2, .inl (cA_3, 55296, .inl (fun _ => 0))), (q_4, .inl (cA_5, 110592, .inr (.inl (fun _ => 0)))), (q_6, .inl (cA_7, 55296, .inl (fun _ => 0))), (q_10, .inl (cA_11, 96, .inl (fun _ => 0)))] := hD
  have hK : va_K (dC, dI) vwCl [(cA_3, .int), (cA_5, .long), (cA_7, .int), (cA_11, .int)] s := hK
  refine W.widen (k := 9) (n := 331887) (Nat.le_of_ble_eq_true rfl) (Nat.le_of_ble_eq_true rfl) ?_
  refine va_putF (D := (dC, dI)) (ci := 10) (v := .ref q_10) (ty := .array .int) (C := RX8) (T := TX8) (N := 13) hx hb ht inlX8 tyX8 tyX8_ok nmX8 hown hK hP hD hS 0 rfl rfl 9 (by decide) (ht _ (wr_5 _ (List.mem_of_getElem? (i := 16) rfl))) (fun _ h9 => h9) rfl hin rfl (by decide +kernel) rfl rfl (Nat.le_of_ble_eq_true rfl) dX8_init_81 (fun H locs hP hD hS => ?_)
  replace hP : va_P (dC, dI) vwCl [(a, .inr (10, [.int (-1), .int (-1), .int 0, .ref q_1, .ref q_2, .ref q_4, .ref q_6, .ref q_8, .ref q_9, .ref q_10, .int 0, .int 0, .int 0])), (q_2, .inl (cA_3, 55296, .inl (fun _ => 0))), (q_4, .inl (cA_5, 110592, .inr (.inl (fun _ => 0)))), (q_6, .inl (cA_7, 55296, .inl (fun _ => 0))), (q_10, .inl (cA_11, 96, .inl (fun _ => 0)))] H := hP
  replace hD : va_D A [(a, .inr (10, [.int (-1), .int (-1), .int 0, .ref q_1, .ref q_2, .ref q_4, .ref q_6, .ref q_8, .ref q_9, .ref q_10, .int 0, .int 0, .int 0])), (q_2, .inl (cA_3, 55296, .inl (fun _ => 0))), (q_4, .inl (cA_5, 110592, .inr (.inl (fun _ => 0)))), (q_6, .inl (cA_7, 55296, .inl (fun _ => 0))), (q_10, .inl (cA_11, 96, .inl (fun _ => 0)))] := hD
  refine lv_aload_n hx hb dX8_init_84 rfl (lv_at hl 0 rfl) ?_
  refine lv_iconst (v := -1) hx hb dX8_init_85 (by decide) ?_
  refine va_put (D := (dC, dI)) (ci := 10) (v := .int (-1)) (ty := .int) (C := RX8) (T := TX8) (N := 13) hx hb ht inlX8 tyX8 tyX8_ok nmX8 hown hK hP hD hS 0 rfl rfl 10 (by decide) (ht _ (wr_5 _ (List.mem_of_getElem? (i := 17) rfl))) (fun _ h9 => h9) rfl (by decide +kernel) rfl rfl (Nat.le_of_ble_eq_true rfl) dX8_init_86 (fun H locs hP hD hS => ?_)
  replace hP : va_P (dC, dI) vwCl [(a, .inr (10, [.int (-1), .int (-1), .int 0, .ref q_1, .ref q_2, .ref q_4, .ref q_6, .ref q_8, .ref q_9, .ref q_10, .int (-1), .int 0, .int 0])), (q_2, .inl (cA_3, 55296, .inl (fun _ => 0))), (q_4, .inl (cA_5, 110592, .inr (.inl (fun _ => 0)))), (q_6, .inl (cA_7, 55296, .inl (fun _ => 0))), (q_10, .inl (cA_11, 96, .inl (fun _ => 0)))] H := hP
  replace hD : va_D A [(a, .inr (10, [.int (-1), .int (-1), .int 0, .ref q_1, .ref q_2, .ref q_4, .ref q_6, .ref q_8, .ref q_9, .ref q_10, .int (-1), .int 0, .int 0])), (q_2, .inl (cA_3, 55296, .inl (fun _ => 0))), (q_4, .inl (cA_5, 110592, .inr (.inl (fun _ => 0)))), (q_6, .inl (cA_7, 55296, .inl (fun _ => 0))), (q_10, .inl (cA_11, 96, .inl (fun _ => 0)))] := hD
  refine lv_aload_n hx hb dX8_init_89 rfl (lv_at hl 0 rfl) ?_
  refine lv_iconst (v := 0) hx hb dX8_init_90 (by decide) ?_
  refine va_put (D := (dC, dI)) (ci := 10) (v := .int 0) (ty := .int) (C := RX8) (T := TX8) (N := 13) hx hb ht inlX8 tyX8 tyX8_ok nmX8 hown hK hP hD hS 0 rfl rfl 11 (by decide) (ht _ (wr_5 _ (List.mem_of_getElem? (i := 18) rfl))) (fun _ h9 => h9) rfl (by decide +kernel) rfl rfl (Nat.le_of_ble_eq_true rfl) dX8_init_91 (fun H locs hP hD hS => ?_)
  replace hP : va_P (dC, dI) vwCl [(a, .inr (10, [.int (-1), .int (-1), .int 0, .ref q_1, .ref q_2, .ref q_4, .ref q_6, .ref q_8, .ref q_9, .ref q_10, .int (-1), .int 0, .int 0])), (q_2, .inl (cA_3, 55296, .inl (fun _ => 0))), (q_4, .inl (cA_5, 110592, .inr (.inl (fun _ => 0)))), (q_6, .inl (cA_7, 55296, .inl (fun _ => 0))), (q_10, .inl (cA_11, 96, .inl (fun _ => 0)))] H := hP
  replace hD : va_D A [(a, .inr (10, [.int (-1), .int (-1), .int 0, .ref q_1, .ref q_2, .ref q_4, .ref q_6, .ref q_8, .ref q_9, .ref q_10, .int (-1), .int 0, .int 0])), (q_2, .inl (cA_3, 55296, .inl (fun _ => 0))), (q_4, .inl (cA_5, 110592, .inr (.inl (fun _ => 0)))), (q_6, .inl (cA_7, 55296, .inl (fun _ => 0))), (q_10, .inl (cA_11, 96, .inl (fun _ => 0)))] := hD
  refine lv_aload_n hx hb dX8_init_94 rfl (lv_at hl 0 rfl) ?_
  refine lv_iconst (v := 0) hx hb dX8_init_95 (by decide) ?_
  refine va_put (D := (dC, dI)) (ci := 10) (v := .int 0) (ty := .boolean) (C := RX8) (T := TX8) (N := 13) hx hb ht inlX8 tyX8 tyX8_ok nmX8 hown hK hP hD hS 0 rfl rfl 12 (by decide) (ht _ (wr_5 _ (List.mem_of_getElem? (i := 19) rfl))) (fun _ h9 => h9) rfl (by decide +kernel) (by decide) (by decide) (Nat.le_of_ble_eq_true rfl) dX8_init_96 (fun H locs hP hD hS => ?_)
  replace hP : va_P (dC, dI) vwCl [(a, .inr (10, [.int (-1), .int (-1), .int 0, .ref q_1, .ref q_2, .ref q_4, .ref q_6, .ref q_8, .ref q_9, .ref q_10, .int (-1), .int 0, .int 0])), (q_2, .inl (cA_3, 55296, .inl (fun _ => 0))), (q_4, .inl (cA_5, 110592, .inr (.inl (fun _ => 0)))), (q_6, .inl (cA_7, 55296, .inl (fun _ => 0))), (q_10, .inl (cA_11, 96, .inl (fun _ => 0)))] H := hP
  replace hD : va_D A [(a, .inr (10, [.int (-1), .int (-1), .int 0, .ref q_1, .ref q_2, .ref q_4, .ref q_6, .ref q_8, .ref q_9, .ref q_10, .int (-1), .int 0, .int 0])), (q_2, .inl (cA_3, 55296, .inl (fun _ => 0))), (q_4, .inl (cA_5, 110592, .inr (.inl (fun _ => 0)))), (q_6, .inl (cA_7, 55296, .inl (fun _ => 0))), (q_10, .inl (cA_11, 96, .inl (fun _ => 0)))] := hD
  have hP9 := hP.sub (ws' := []) [] rfl
  have hD9 := hD.sub (ws' := []) [] (by decide) rfl
  have hK9 := hK.sub (tys' := []) [] rfl
  exact W.vret hx hb hr (fun t htt hW => have ht := htt; ⟨⟨(), rfl, trivial, QW_of ht hW hP9 hK9 hD9⟩, hS.F ht⟩) hS.2.2 dX8_init_99
set_option maxHeartbeats 4000000 in
set_option maxRecDepth 100000 in
theorem c_X7_init (l : Launch) (dC : Nat → ClassId) (dI : Nat → Nat → Nat) (de : Nat) (a : Nat) (sz : Nat) : Met l yX7_init (.code yX7_init cX7_init 1 none :: wsL_law) { frames := 2, cells := 9, slots := 56287, locals := 32 } (va_Pc [.ref a] (PW dC dI de [] [(a, .inr (9, [.int 0, .int 0, .int 0, .int 0, .null, .null, .null, .int 0, .null, .null]))] sz)) (va_Qv (fun (u : Unit) => True) (fun (_ : Unit) (t : State) => QW dC dI [] [] (va_A [(a, .inr (9, [.int 0, .int 0, .int 0, .int 0, .null, .null, .null, .int 0, .null, .null]))] sz) t) (va_A [(a, .inr (9, [.int 0, .int 0, .int 0, .int 0, .null, .null, .null, .int 0, .null, .null]))] sz)) 9 56287 (va_A [(a, .inr (9, [.int 0, .int 0, .int 0, .int 0, .null, .null, .null, .int 0, .null, .null]))] sz) := by
  refine Met.ofW (cc := cX7_init) (maxL := 1) (ret := none) (by decide) rfl ?_
  intro p e s m args below meth c s₁ B hml hv
  obtain ⟨rfl, hsz, hP, hK, hD0, hG⟩ := hv
  have hx := B.exec
  have hb := B.bytes
  have hr := B.returns
  have hts := atoms_spec (ws := .code yX7_init cX7_init 1 none :: wsL_law) B.pre
  have ht : ∀ w ∈ wsL_law, w.before _ s = true := fun w h => hts w (List.mem_cons_of_mem _ h)
  have hown : s.vm.findClass RX7 = some m.cls := findClass_of_methodNamed B.named
  have hlocks := B.notSynchronized
  have hin : meth.name = "<init>" := (name_of_methodNamed B.named B.method).1
  subst hsz
  have hD := hD0.self (sz := s.heap.size)
  generalize hAe : va_A [(a, .inr (9, [.int 0, .int 0, .int 0, .int 0, .null, .null, .null, .int 0, .null, .null]))] s.heap.size = A at hD hG ⊢
  have hA : ∀ q : Nat, s.heap.size ≤ q → A q := fun q h => by rw [← hAe]; exact Or.inr h
  have hS : va_S A s.heap s.heap [] := va_S.rf
  have hP : va_P (dC, dI) vwCl [(a, .inr (9, [.int 0, .int 0, .int 0, .int 0, .null, .null, .null, .int 0, .null, .null]))] s.heap := hP
  have hD : va_D A [(a, .inr (9, [.int 0, .int 0, .int 0, .int 0, .null, .null, .null, .int 0, .null, .null]))] := hD
  have hl := lv_entry ([.ref a]) (n := 1) (Nat.le_of_ble_eq_true rfl)
  rw [lg_entry_eq]
  generalize (lg_sl ([.ref a]) ++ List.replicate (1 - (lg_sl ([.ref a])).length) Slot.unset).toArray = ls at hl ⊢
  have hl : lv_has ls 1 [(0, .ref a)] := hl
  refine lv_aload_n hx hb dX7_init_0 rfl (lv_at hl 0 rfl) ?_
  refine W.objInit hx hb hown (ht _ (wr_6 _ (List.mem_of_getElem? (i := 14) rfl))) (ht _ (wr_1 _ (List.mem_of_getElem? (i := 12) rfl))) (ht _ (wr_1 _ (List.mem_of_getElem? (i := 13) rfl))) rfl (by rw [hml]; exact hl.1) rfl dX7_init_1 (Nat.le_of_ble_eq_true rfl) (Nat.le_of_ble_eq_true rfl) ?_
  refine W.eq (g2 := F0 m 4 ls []) rfl ?_
  refine lv_aload_n hx hb dX7_init_4 rfl (lv_at hl 0 rfl) ?_
  refine lv_iconst (v := -1) hx hb dX7_init_5 (by decide) ?_
  refine va_put (D := (dC, dI)) (ci := 9) (v := .int (-1)) (ty := .int) (C := RX7) (T := TX7) (N := 10) hx hb ht inlX7 tyX7 tyX7_ok nmX7 hown hK hP hD hS 0 rfl rfl 0 (by decide) (ht _ (wr_6 _ (List.mem_of_getElem? (i := 15) rfl))) (fun _ h9 => h9) rfl (by decide +kernel) rfl rfl (Nat.le_of_ble_eq_true rfl) dX7_init_6 (fun H locs hP hD hS => ?_)
  replace hP : va_P (dC, dI) vwCl [(a, .inr (9, [.int (-1), .int 0, .int 0, .int 0, .null, .null, .null, .int 0, .null, .null]))] H := hP
  replace hD : va_D A [(a, .inr (9, [.int (-1), .int 0, .int 0, .int 0, .null, .null, .null, .int 0, .null, .null]))] := hD
  refine lv_aload_n hx hb dX7_init_9 rfl (lv_at hl 0 rfl) ?_
  refine lv_bipush (v := 61) hx hb dX7_init_10 (by decide) ?_
  refine va_put (D := (dC, dI)) (ci := 9) (v := .int 61) (ty := .char) (C := RX7) (T := TX7) (N := 10) hx hb ht inlX7 tyX7 tyX7_ok nmX7 hown hK hP hD hS 0 rfl rfl 1 (by decide) (ht _ (wr_6 _ (List.mem_of_getElem? (i := 16) rfl))) (fun _ h9 => h9) rfl (by decide +kernel) (by decide) (by decide) (Nat.le_of_ble_eq_true rfl) dX7_init_12 (fun H locs hP hD hS => ?_)
  replace hP : va_P (dC, dI) vwCl [(a, .inr (9, [.int (-1), .int 61, .int 0, .int 0, .null, .null, .null, .int 0, .null, .null]))] H := hP
  replace hD : va_D A [(a, .inr (9, [.int (-1), .int 61, .int 0, .int 0, .null, .null, .null, .int 0, .null, .null]))] := hD
  refine lv_aload_n hx hb dX7_init_15 rfl (lv_at hl 0 rfl) ?_
  refine lv_iconst (v := -1) hx hb dX7_init_16 (by decide) ?_
  refine va_put (D := (dC, dI)) (ci := 9) (v := .int (-1)) (ty := .int) (C := RX7) (T := TX7) (N := 10) hx hb ht inlX7 tyX7 tyX7_ok nmX7 hown hK hP hD hS 0 rfl rfl 2 (by decide) (ht _ (wr_6 _ (List.mem_of_getElem? (i := 17) rfl))) (fun _ h9 => h9) rfl (by decide +kernel) rfl rfl (Nat.le_of_ble_eq_true rfl) dX7_init_17 (fun H locs hP hD hS => ?_)
  replace hP : va_P (dC, dI) vwCl [(a, .inr (9, [.int (-1), .int 61, .int (-1), .int 0, .null, .null, .null, .int 0, .null, .null]))] H := hP
  replace hD : va_D A [(a, .inr (9, [.int (-1), .int 61, .int (-1), .int 0, .null, .null, .null, .int 0, .null, .null]))] := hD
  refine lv_aload_n hx hb dX7_init_20 rfl (lv_at hl 0 rfl) ?_
  refine lv_iconst (v := -1) hx hb dX7_init_21 (by decide) ?_
  refine va_put (D := (dC, dI)) (ci := 9) (v := .int (-1)) (ty := .int) (C := RX7) (T := TX7) (N := 10) hx hb ht inlX7 tyX7 tyX7_ok nmX7 hown hK hP hD hS 0 rfl rfl 3 (by decide) (ht _ (wr_6 _ (List.mem_of_getElem? (i := 18) rfl))) (fun _ h9 => h9) rfl (by decide +kernel) rfl rfl (Nat.le_of_ble_eq_true rfl) dX7_init_22 (fun H locs hP hD hS => ?_)
  replace hP : va_P (dC, dI) vwCl [(a, .inr (9, [.int (-1), .int 61, .int (-1), .int (-1), .null, .null, .null, .int 0, .null, .null]))] H := hP
  replace hD : va_D A [(a, .inr (9, [.int (-1), .int 61, .int (-1), .int (-1), .null, .null, .null, .int 0, .null, .null]))] := hD
  refine lv_aload_n hx hb dX7_init_25 rfl (lv_at hl 0 rfl) ?_
  refine va_new (ci := 7) (fs := [.int 0, .int 0, .int 0, .int 0, .int 0, .int 0, .null, .null, .null, .null]) (C := RX5) (T := TX5) (N := 10) hx hb ht inlX5 tyX5 tyX5_ok hown (ht _ (wr_6 _ (List.mem_of_getElem? (i := 19) rfl))) (ht _ (wr_3 _ (List.mem_of_getElem? (i := 21) rfl))) (ht _ (wr_3 _ (List.mem_of_getElem? (i := 22) rfl))) hK hP hD hS hA rfl (fun j hj => match j, hj with | 0, _ => rfl | 1, _ => rfl | 2, _ => rfl | 3, _ => rfl | 4, _ => rfl | 5, _ => rfl | 6, _ => rfl | 7, _ => rfl | 8, _ => rfl | 9, _ => rfl | j + 10, h => absurd h (by omega)) (Nat.le_of_ble_eq_true rfl) (Nat.le_of_ble_eq_true rfl) dX7_init_26 (fun q_1 H hP hD hS => ?_)
  replace hP : va_P (dC, dI) vwCl [(a, .inr (9, [.int (-1), .int 61, .int (-1), .int (-1), .null, .null, .null, .int 0, .null, .null])), (q_1, .inr (7, [.int 0, .int 0, .int 0, .int 0, .int 0, .int 0, .null, .null, .null, .null]))] H := hP
  replace hD : va_D A [(a, .inr (9, [.int (-1), .int 61, .int (-1), .int (-1), .null, .null, .null, .int 0, .null, .null])), (q_1, .inr (7, [.int 0, .int 0, .int 0, .int 0, .int 0, .int 0, .null, .null, .null, .null]))] := hD
  refine W.widen (k := 1) (n := 10) (Nat.le_of_ble_eq_true rfl) (Nat.le_of_ble_eq_true rfl) ?_
  refine lv_dup hx hb dX7_init_29 rfl ?_
  have hPc := hP.sub (ws' := [(q_1, .inr (7, [.int 0, .int 0, .int 0, .int 0, .int 0, .int 0, .null, .null, .null, .null]))]) [1] rfl
  have hDc := hD.sub (ws' := [(q_1, .inr (7, [.int 0, .int 0, .int 0, .int 0, .int 0, .int 0, .null, .null, .null, .null]))]) [1] (by decide) rfl
  have hKc := hK.sub (tys' := []) [] rfl
  have hFc := va_free (wc := [(q_1, .inr (7, [.int 0, .int 0, .int 0, .int 0, .int 0, .int 0, .null, .null, .null, .null]))]) hD hS hA [1] rfl
  refine va_callv (va_runIN (As := []) (rest := [.ref q_1, .ref a]) ⟨hx, hb, hml, hown, ht⟩ (c_X5_init l dC dI de (q_1) H.size) ⟨va_cnB 0 ht (gWI (wr_4 _ (List.mem_of_getElem? (i := 7) rfl))) rfl rfl rfl (hG.2.2.1 ("Levelsmith$Probe", 27, yX5_init, "Levelsmith") (List.mem_of_getElem? (i := 7) rfl)) (ht _ (wr_3 _ (List.mem_of_getElem? (i := 22) rfl))) (by decide +kernel) ⟨Nat.le_of_ble_eq_true rfl, Nat.le_of_ble_eq_true rfl⟩, rfl, (ht _ (wr_4 _ (List.mem_of_getElem? (i := 6) rfl)))⟩ ⟨PW_blind, PW_call hPc hDc hKc hS hG hFc⟩ rfl rfl hl.1 rfl (lv_room (Nat.le_of_ble_eq_true rfl)) dX7_init_30 ⟨Nat.le_of_ble_eq_true rfl, Nat.le_of_ble_eq_true rfl⟩) hS (fun q _ h => hFc q h) hFc (fun u t H1 locs ht9 hvm hw hB hz1 hk1 hS => ?_)
  obtain ⟨hP1, hK1, hD1⟩ := hB
  rw [ht9] at hP1
  have hK1 := va_K.moved hvm.symm hK1
  obtain ⟨hP, hD⟩ := va_join (wr := [(a, .inr (9, [.int (-1), .int 61, .int (-1), .int (-1), .null, .null, .null, .int 0, .null, .null]))]) (w1 := []) hP hD [1] [0] rfl rfl (by decide) (by decide) hk1 hFc hP1 hD1
  have hK := (hK.sub (tys' := []) [] rfl).app hK1
  generalize H1 = H at hP hS ⊢
  replace hP : va_P (dC, dI) vwCl [(a, .inr (9, [.int (-1), .int 61, .int (-1), .int (-1), .null, .null, .null, .int 0, .null, .null]))] H := hP
  replace hD : va_D A [(a, .inr (9, [.int (-1), .int 61, .int (-1), .int (-1), .null, .null, .null, .int 0, .null, .null]))] := hD
  have hK : va_K (dC, dI) vwCl [] s := hK
  refine W.widen (k := 5) (n := 115) (Nat.le_of_ble_eq_true rfl) (Nat.le_of_ble_eq_true rfl) ?_
  have hw_30 := hw
  refine va_putF (D := (dC, dI)) (ci := 9) (v := .ref q_1) (ty := .object "Levelsmith$Plan") (C := RX7) (T := TX7) (N := 10) hx hb ht inlX7 tyX7 tyX7_ok nmX7 hown hK hP hD hS 0 rfl rfl 4 (by decide) (ht _ (wr_6 _ (List.mem_of_getElem? (i := 20) rfl))) (fun _ h9 => h9) rfl hin rfl (by decide +kernel) rfl rfl (Nat.le_of_ble_eq_true rfl) dX7_init_33 (fun H locs hP hD hS => ?_)
  replace hP : va_P (dC, dI) vwCl [(a, .inr (9, [.int (-1), .int 61, .int (-1), .int (-1), .ref q_1, .null, .null, .int 0, .null, .null]))] H := hP
  replace hD : va_D A [(a, .inr (9, [.int (-1), .int 61, .int (-1), .int (-1), .ref q_1, .null, .null, .int 0, .null, .null]))] := hD
  refine lv_aload_n hx hb dX7_init_36 rfl (lv_at hl 0 rfl) ?_
  refine lv_ldc (v := 55296) hx hb hown (ht _ (wr_6 _ (List.mem_of_getElem? (i := 21) rfl))) dX7_init_37 ?_
  refine va_newa (atype := .int) (ty := .int) (N' := 55296) (a0 := (55296, .inl (fun _ => 0))) hx hb (ht _ (wr_1 _ (List.mem_of_getElem? (i := 22) rfl))) rfl hK hP hD hS hA (fun _ => rfl) (by decide +kernel) (by decide +kernel) (Nat.le_of_ble_eq_true rfl) (Nat.le_of_ble_eq_true rfl) (Nat.le_of_ble_eq_true rfl) dX7_init_39 (fun q_2 cA_3 H hK hP hD hS => ?_)
  replace hP : va_P (dC, dI) vwCl [(a, .inr (9, [.int (-1), .int 61, .int (-1), .int (-1), .ref q_1, .null, .null, .int 0, .null, .null])), (q_2, .inl (cA_3, 55296, .inl (fun _ => 0)))] H := hP
  replace hD : va_D A [(a, .inr (9, [.int (-1), .int 61, .int (-1), .int (-1), .ref q_1, .null, .null, .int 0, .null, .null])), (q_2, .inl (cA_3, 55296, .inl (fun _ => 0)))] := hD
  have hK : va_K (dC, dI) vwCl [(cA_3, .int)] s := hK
  refine W.widen (k := 6) (n := 55411) (Nat.le_of_ble_eq_true rfl) (Nat.le_of_ble_eq_true rfl) ?_
  refine va_putF (D := (dC, dI)) (ci := 9) (v := .ref q_2) (ty := .array .int) (C := RX7) (T := TX7) (N := 10) hx hb ht inlX7 tyX7 tyX7_ok nmX7 hown hK hP hD hS 0 rfl rfl 5 (by decide) (ht _ (wr_6 _ (List.mem_of_getElem? (i := 22) rfl))) (fun _ h9 => h9) rfl hin rfl (by decide +kernel) rfl rfl (Nat.le_of_ble_eq_true rfl) dX7_init_41 (fun H locs hP hD hS => ?_)
  replace hP : va_P (dC, dI) vwCl [(a, .inr (9, [.int (-1), .int 61, .int (-1), .int (-1), .ref q_1, .ref q_2, .null, .int 0, .null, .null])), (q_2, .inl (cA_3, 55296, .inl (fun _ => 0)))] H := hP
  replace hD : va_D A [(a, .inr (9, [.int (-1), .int 61, .int (-1), .int (-1), .ref q_1, .ref q_2, .null, .int 0, .null, .null])), (q_2, .inl (cA_3, 55296, .inl (fun _ => 0)))] := hD
  refine lv_aload_n hx hb dX7_init_44 rfl (lv_at hl 0 rfl) ?_
  refine lv_sipush (v := 864) hx hb dX7_init_45 (by decide) ?_
  refine va_newa (atype := .long) (ty := .long) (N' := 864) (a0 := (864, .inr (.inl (fun _ => 0)))) hx hb (ht _ (wr_1 _ (List.mem_of_getElem? (i := 6) rfl))) rfl hK hP hD hS hA (fun _ => rfl) (by decide +kernel) (by decide +kernel) (Nat.le_of_ble_eq_true rfl) (Nat.le_of_ble_eq_true rfl) (Nat.le_of_ble_eq_true rfl) dX7_init_48 (fun q_4 cA_5 H hK hP hD hS => ?_)
  replace hP : va_P (dC, dI) vwCl [(a, .inr (9, [.int (-1), .int 61, .int (-1), .int (-1), .ref q_1, .ref q_2, .null, .int 0, .null, .null])), (q_2, .inl (cA_3, 55296, .inl (fun _ => 0))), (q_4, .inl (cA_5, 864, .inr (.inl (fun _ => 0))))] H := hP
  replace hD : va_D A [(a, .inr (9, [.int (-1), .int 61, .int (-1), .int (-1), .ref q_1, .ref q_2, .null, .int 0, .null, .null])), (q_2, .inl (cA_3, 55296, .inl (fun _ => 0))), (q_4, .inl (cA_5, 864, .inr (.inl (fun _ => 0))))] := hD
  have hK : va_K (dC, dI) vwCl [(cA_3, .int), (cA_5, .long)] s := hK
  refine W.widen (k := 7) (n := 56275) (Nat.le_of_ble_eq_true rfl) (Nat.le_of_ble_eq_true rfl) ?_
  refine va_putF (D := (dC, dI)) (ci := 9) (v := .ref q_4) (ty := .array .long) (C := RX7) (T := TX7) (N := 10) hx hb ht inlX7 tyX7 tyX7_ok nmX7 hown hK hP hD hS 0 rfl rfl 6 (by decide) (ht _ (wr_6 _ (List.mem_of_getElem? (i := 23) rfl))) (fun _ h9 => h9) rfl hin rfl (by decide +kernel) rfl rfl (Nat.le_of_ble_eq_true rfl) dX7_init_50 (fun H locs hP hD hS => ?_)
  replace hP : va_P (dC, dI) vwCl [(a, .inr (9, [.int (-1), .int 61, .int (-1), .int (-1), .ref q_1, .ref q_2, .ref q_4, .int 0, .null, .null])), (q_2, .inl (cA_3, 55296, .inl (fun _ => 0))), (q_4, .inl (cA_5, 864, .inr (.inl (fun _ => 0))))] H := hP
  replace hD : va_D A [(a, .inr (9, [.int (-1), .int 61, .int (-1), .int (-1), .ref q_1, .ref q_2, .ref q_4, .int 0, .null, .null])), (q_2, .inl (cA_3, 55296, .inl (fun _ => 0))), (q_4, .inl (cA_5, 864, .inr (.inl (fun _ => 0))))] := hD
  refine lv_aload_n hx hb dX7_init_53 rfl (lv_at hl 0 rfl) ?_
  refine lv_iconst (v := 0) hx hb dX7_init_54 (by decide) ?_
  refine va_put (D := (dC, dI)) (ci := 9) (v := .int 0) (ty := .int) (C := RX7) (T := TX7) (N := 10) hx hb ht inlX7 tyX7 tyX7_ok nmX7 hown hK hP hD hS 0 rfl rfl 7 (by decide) (ht _ (wr_7 _ (List.mem_of_getElem? (i := 0) rfl))) (fun _ h9 => h9) rfl (by decide +kernel) rfl rfl (Nat.le_of_ble_eq_true rfl) dX7_init_55 (fun H locs hP hD hS => ?_)
  replace hP : va_P (dC, dI) vwCl [(a, .inr (9, [.int (-1), .int 61, .int (-1), .int (-1), .ref q_1, .ref q_2, .ref q_4, .int 0, .null, .null])), (q_2, .inl (cA_3, 55296, .inl (fun _ => 0))), (q_4, .inl (cA_5, 864, .inr (.inl (fun _ => 0))))] H := hP
  replace hD : va_D A [(a, .inr (9, [.int (-1), .int 61, .int (-1), .int (-1), .ref q_1, .ref q_2, .ref q_4, .int 0, .null, .null])), (q_2, .inl (cA_3, 55296, .inl (fun _ => 0))), (q_4, .inl (cA_5, 864, .inr (.inl (fun _ => 0))))] := hD
  refine lv_aload_n hx hb dX7_init_58 rfl (lv_at hl 0 rfl) ?_
  refine va_new (ci := 8) (fs := [.int 0, .int 0, .int 0, .int 0, .int 0, .int 0]) (C := RX6) (T := TX6) (N := 6) hx hb ht inlX6 tyX6 tyX6_ok hown (ht _ (wr_7 _ (List.mem_of_getElem? (i := 1) rfl))) (ht _ (wr_5 _ (List.mem_of_getElem? (i := 12) rfl))) (ht _ (wr_5 _ (List.mem_of_getElem? (i := 13) rfl))) hK hP hD hS hA rfl (fun j hj => match j, hj with | 0, _ => rfl | 1, _ => rfl | 2, _ => rfl | 3, _ => rfl | 4, _ => rfl | 5, _ => rfl | j + 6, h => absurd h (by omega)) (Nat.le_of_ble_eq_true rfl) (Nat.le_of_ble_eq_true rfl) dX7_init_59 (fun q_6 H hP hD hS => ?_)
  replace hP : va_P (dC, dI) vwCl [(a, .inr (9, [.int (-1), .int 61, .int (-1), .int (-1), .ref q_1, .ref q_2, .ref q_4, .int 0, .null, .null])), (q_2, .inl (cA_3, 55296, .inl (fun _ => 0))), (q_4, .inl (cA_5, 864, .inr (.inl (fun _ => 0)))), (q_6, .inr (8, [.int 0, .int 0, .int 0, .int 0, .int 0, .int 0]))] H := hP
  replace hD : va_D A [(a, .inr (9, [.int (-1), .int 61, .int (-1), .int (-1), .ref q_1, .ref q_2, .ref q_4, .int 0, .null, .null])), (q_2, .inl (cA_3, 55296, .inl (fun _ => 0))), (q_4, .inl (cA_5, 864, .inr (.inl (fun _ => 0)))), (q_6, .inr (8, [.int 0, .int 0, .int 0, .int 0, .int 0, .int 0]))] := hD
  refine W.widen (k := 8) (n := 56281) (Nat.le_of_ble_eq_true rfl) (Nat.le_of_ble_eq_true rfl) ?_
  refine lv_dup hx hb dX7_init_62 rfl ?_
  have hPc := hP.sub (ws' := [(q_6, .inr (8, [.int 0, .int 0, .int 0, .int 0, .int 0, .int 0]))]) [3] rfl
  have hDc := hD.sub (ws' := [(q_6, .inr (8, [.int 0, .int 0, .int 0, .int 0, .int 0, .int 0]))]) [3] (by decide) rfl
  have hKc := hK.sub (tys' := []) [] rfl
  have hFc := va_free (wc := [(q_6, .inr (8, [.int 0, .int 0, .int 0, .int 0, .int 0, .int 0]))]) hD hS hA [3] rfl
  refine va_callv (va_runIN (As := []) (rest := [.ref q_6, .ref a]) ⟨hx, hb, hml, hown, ht⟩ (c_X6_init l dC dI de (q_6) H.size) ⟨va_cnB 0 ht (gWI (wr_6 _ (List.mem_of_getElem? (i := 4) rfl))) rfl rfl rfl (hG.2.2.1 ("Levelsmith$Probe", 46, yX6_init, "Levelsmith") (List.mem_of_getElem? (i := 8) rfl)) (ht _ (wr_5 _ (List.mem_of_getElem? (i := 13) rfl))) (by decide +kernel) ⟨Nat.le_of_ble_eq_true rfl, Nat.le_of_ble_eq_true rfl⟩, rfl, (ht _ (wr_6 _ (List.mem_of_getElem? (i := 3) rfl)))⟩ ⟨PW_blind, PW_call hPc hDc hKc hS hG hFc⟩ rfl rfl hl.1 rfl (lv_room (Nat.le_of_ble_eq_true rfl)) dX7_init_63 ⟨Nat.le_of_ble_eq_true rfl, Nat.le_of_ble_eq_true rfl⟩) hS (fun q _ h => hFc q h) hFc (fun u t H1 locs ht9 hvm hw hB hz1 hk1 hS => ?_)
  obtain ⟨hP1, hK1, hD1⟩ := hB
  rw [ht9] at hP1
  have hK1 := va_K.moved hvm.symm hK1
  obtain ⟨hP, hD⟩ := va_join (wr := [(a, .inr (9, [.int (-1), .int 61, .int (-1), .int (-1), .ref q_1, .ref q_2, .ref q_4, .int 0, .null, .null])), (q_2, .inl (cA_3, 55296, .inl (fun _ => 0))), (q_4, .inl (cA_5, 864, .inr (.inl (fun _ => 0))))]) (w1 := []) hP hD [3] [0, 1, 2] rfl rfl (by decide) (by decide) hk1 hFc hP1 hD1
  have hK := (hK.sub (tys' := [(cA_3, .int), (cA_5, .long)]) [0, 1] rfl).app hK1
  generalize H1 = H at hP hS ⊢
  replace hP : va_P (dC, dI) vwCl [(a, .inr (9, [.int (-1), .int 61, .int (-1), .int (-1), .ref q_1, .ref q_2, .ref q_4, .int 0, .null, .null])), (q_2, .inl (cA_3, 55296, .inl (fun _ => 0))), (q_4, .inl (cA_5, 864, .inr (.inl (fun _ => 0))))] H := hP
  replace hD : va_D A [(a, .inr (9, [.int (-1), .int 61, .int (-1), .int (-1), .ref q_1, .ref q_2, .ref q_4, .int 0, .null, .null])), (q_2, .inl (cA_3, 55296, .inl (fun _ => 0))), (q_4, .inl (cA_5, 864, .inr (.inl (fun _ => 0))))] := hD
  have hK : va_K (dC, dI) vwCl [(cA_3, .int), (cA_5, .long)] s := hK
  have hw_63 := hw
  refine va_putF (D := (dC, dI)) (ci := 9) (v := .ref q_6) (ty := .object "Levelsmith$Player") (C := RX7) (T := TX7) (N := 10) hx hb ht inlX7 tyX7 tyX7_ok nmX7 hown hK hP hD hS 0 rfl rfl 8 (by decide) (ht _ (wr_7 _ (List.mem_of_getElem? (i := 2) rfl))) (fun _ h9 => h9) rfl hin rfl (by decide +kernel) rfl rfl (Nat.le_of_ble_eq_true rfl) dX7_init_66 (fun H locs hP hD hS => ?_)
  replace hP : va_P (dC, dI) vwCl [(a, .inr (9, [.int (-1), .int 61, .int (-1), .int (-1), .ref q_1, .ref q_2, .ref q_4, .int 0, .ref q_6, .null])), (q_2, .inl (cA_3, 55296, .inl (fun _ => 0))), (q_4, .inl (cA_5, 864, .inr (.inl (fun _ => 0))))] H := hP
  replace hD : va_D A [(a, .inr (9, [.int (-1), .int 61, .int (-1), .int (-1), .ref q_1, .ref q_2, .ref q_4, .int 0, .ref q_6, .null])), (q_2, .inl (cA_3, 55296, .inl (fun _ => 0))), (q_4, .inl (cA_5, 864, .inr (.inl (fun _ => 0))))] := hD
  refine lv_aload_n hx hb dX7_init_69 rfl (lv_at hl 0 rfl) ?_
  refine va_new (ci := 8) (fs := [.int 0, .int 0, .int 0, .int 0, .int 0, .int 0]) (C := RX6) (T := TX6) (N := 6) hx hb ht inlX6 tyX6 tyX6_ok hown (ht _ (wr_7 _ (List.mem_of_getElem? (i := 1) rfl))) (ht _ (wr_5 _ (List.mem_of_getElem? (i := 12) rfl))) (ht _ (wr_5 _ (List.mem_of_getElem? (i := 13) rfl))) hK hP hD hS hA rfl (fun j hj => match j, hj with | 0, _ => rfl | 1, _ => rfl | 2, _ => rfl | 3, _ => rfl | 4, _ => rfl | 5, _ => rfl | j + 6, h => absurd h (by omega)) (Nat.le_of_ble_eq_true rfl) (Nat.le_of_ble_eq_true rfl) dX7_init_70 (fun q_7 H hP hD hS => ?_)
  replace hP : va_P (dC, dI) vwCl [(a, .inr (9, [.int (-1), .int 61, .int (-1), .int (-1), .ref q_1, .ref q_2, .ref q_4, .int 0, .ref q_6, .null])), (q_2, .inl (cA_3, 55296, .inl (fun _ => 0))), (q_4, .inl (cA_5, 864, .inr (.inl (fun _ => 0)))), (q_7, .inr (8, [.int 0, .int 0, .int 0, .int 0, .int 0, .int 0]))] H := hP
  replace hD : va_D A [(a, .inr (9, [.int (-1), .int 61, .int (-1), .int (-1), .ref q_1, .ref q_2, .ref q_4, .int 0, .ref q_6, .null])), (q_2, .inl (cA_3, 55296, .inl (fun _ => 0))), (q_4, .inl (cA_5, 864, .inr (.inl (fun _ => 0)))), (q_7, .inr (8, [.int 0, .int 0, .int 0, .int 0, .int 0, .int 0]))] := hD
  refine W.widen (k := 9) (n := 56287) (Nat.le_of_ble_eq_true rfl) (Nat.le_of_ble_eq_true rfl) ?_
  refine lv_dup hx hb dX7_init_73 rfl ?_
  have hPc := hP.sub (ws' := [(q_7, .inr (8, [.int 0, .int 0, .int 0, .int 0, .int 0, .int 0]))]) [3] rfl
  have hDc := hD.sub (ws' := [(q_7, .inr (8, [.int 0, .int 0, .int 0, .int 0, .int 0, .int 0]))]) [3] (by decide) rfl
  have hKc := hK.sub (tys' := []) [] rfl
  have hFc := va_free (wc := [(q_7, .inr (8, [.int 0, .int 0, .int 0, .int 0, .int 0, .int 0]))]) hD hS hA [3] rfl
  refine va_callv (va_runIN (As := []) (rest := [.ref q_7, .ref a]) ⟨hx, hb, hml, hown, ht⟩ (c_X6_init l dC dI de (q_7) H.size) ⟨va_cnB 0 ht (gWI (wr_6 _ (List.mem_of_getElem? (i := 4) rfl))) rfl rfl rfl (hG.2.2.1 ("Levelsmith$Probe", 46, yX6_init, "Levelsmith") (List.mem_of_getElem? (i := 8) rfl)) (ht _ (wr_5 _ (List.mem_of_getElem? (i := 13) rfl))) (by decide +kernel) ⟨Nat.le_of_ble_eq_true rfl, Nat.le_of_ble_eq_true rfl⟩, rfl, (ht _ (wr_6 _ (List.mem_of_getElem? (i := 3) rfl)))⟩ ⟨PW_blind, PW_call hPc hDc hKc hS hG hFc⟩ rfl rfl hl.1 rfl (lv_room (Nat.le_of_ble_eq_true rfl)) dX7_init_74 ⟨Nat.le_of_ble_eq_true rfl, Nat.le_of_ble_eq_true rfl⟩) hS (fun q _ h => hFc q h) hFc (fun u t H1 locs ht9 hvm hw hB hz1 hk1 hS => ?_)
  obtain ⟨hP1, hK1, hD1⟩ := hB
  rw [ht9] at hP1
  have hK1 := va_K.moved hvm.symm hK1
  obtain ⟨hP, hD⟩ := va_join (wr := [(a, .inr (9, [.int (-1), .int 61, .int (-1), .int (-1), .ref q_1, .ref q_2, .ref q_4, .int 0, .ref q_6, .null])), (q_2, .inl (cA_3, 55296, .inl (fun _ => 0))), (q_4, .inl (cA_5, 864, .inr (.inl (fun _ => 0))))]) (w1 := []) hP hD [3] [0, 1, 2] rfl rfl (by decide) (by decide) hk1 hFc hP1 hD1
  have hK := (hK.sub (tys' := [(cA_3, .int), (cA_5, .long)]) [0, 1] rfl).app hK1
  generalize H1 = H at hP hS ⊢
  replace hP : va_P (dC, dI) vwCl [(a, .inr (9, [.int (-1), .int 61, .int (-1), .int (-1), .ref q_1, .ref q_2, .ref q_4, .int 0, .ref q_6, .null])), (q_2, .inl (cA_3, 55296, .inl (fun _ => 0))), (q_4, .inl (cA_5, 864, .inr (.inl (fun _ => 0))))] H := hP
  replace hD : va_D A [(a, .inr (9, [.int (-1), .int 61, .int (-1), .int (-1), .ref q_1, .ref q_2, .ref q_4, .int 0, .ref q_6, .null])), (q_2, .inl (cA_3, 55296, .inl (fun _ => 0))), (q_4, .inl (cA_5, 864, .inr (.inl (fun _ => 0))))] := hD
  have hK : va_K (dC, dI) vwCl [(cA_3, .int), (cA_5, .long)] s := hK
  have hw_74 := hw
  refine va_putF (D := (dC, dI)) (ci := 9) (v := .ref q_7) (ty := .object "Levelsmith$Player") (C := RX7) (T := TX7) (N := 10) hx hb ht inlX7 tyX7 tyX7_ok nmX7 hown hK hP hD hS 0 rfl rfl 9 (by decide) (ht _ (wr_7 _ (List.mem_of_getElem? (i := 3) rfl))) (fun _ h9 => h9) rfl hin rfl (by decide +kernel) rfl rfl (Nat.le_of_ble_eq_true rfl) dX7_init_77 (fun H locs hP hD hS => ?_)
  replace hP : va_P (dC, dI) vwCl [(a, .inr (9, [.int (-1), .int 61, .int (-1), .int (-1), .ref q_1, .ref q_2, .ref q_4, .int 0, .ref q_6, .ref q_7])), (q_2, .inl (cA_3, 55296, .inl (fun _ => 0))), (q_4, .inl (cA_5, 864, .inr (.inl (fun _ => 0))))] H := hP
  replace hD : va_D A [(a, .inr (9, [.int (-1), .int 61, .int (-1), .int (-1), .ref q_1, .ref q_2, .ref q_4, .int 0, .ref q_6, .ref q_7])), (q_2, .inl (cA_3, 55296, .inl (fun _ => 0))), (q_4, .inl (cA_5, 864, .inr (.inl (fun _ => 0))))] := hD
  have hP9 := hP.sub (ws' := []) [] rfl
  have hD9 := hD.sub (ws' := []) [] (by decide) rfl
  have hK9 := hK.sub (tys' := []) [] rfl
  exact W.vret hx hb hr (fun t htt hW => have ht := htt; ⟨⟨(), rfl, trivial, QW_of ht hW hP9 hK9 hD9⟩, hS.F ht⟩) hS.2.2 dX7_init_80
set_option maxHeartbeats 4000000 in
set_option maxRecDepth 100000 in
theorem c_X11_init (l : Launch) (dC : Nat → ClassId) (dI : Nat → Nat → Nat) (de : Nat) (ox : Nat) (sz : Nat) : Met l yX11_init (.code yX11_init cX11_init 1 none :: wsL_law) { frames := 4, cells := 42, slots := 388964, locals := 72 } (va_Pc [.ref ox] (PW dC dI de [] [(ox, .inr (13, [.null, .null, .null, .null, .null, .null, .null, .null, .null, .null, .null, .int 0]))] sz)) (va_Qv (fun (u : Unit) => True) (fun (_ : Unit) (t : State) => ∃ pl : Nat, ∃ ru : Nat, ∃ sh : Nat, ∃ sp : Nat, ∃ sl : Nat, ∃ gr : Nat, ∃ re : Nat, ∃ pr : Nat, ∃ ga : Nat, ∃ rp : Nat, ∃ bo : Nat, ∃ fa : Nat, ∃ gpl : Nat, ∃ gin : Nat, ∃ bbe : Nat, ∃ bdi : Nat, ∃ cP : ClassId, ∃ cI : ClassId, QW dC dI [(cP, .object "Levelsmith$Player"), (cI, .int)] (WX ox pl ru sh sp sl gr re pr ga rp bo fa gpl gin bbe bdi cP cI de) (va_A [(ox, .inr (13, [.null, .null, .null, .null, .null, .null, .null, .null, .null, .null, .null, .int 0]))] sz) t) (va_A [(ox, .inr (13, [.null, .null, .null, .null, .null, .null, .null, .null, .null, .null, .null, .int 0]))] sz)) 42 388964 (va_A [(ox, .inr (13, [.null, .null, .null, .null, .null, .null, .null, .null, .null, .null, .null, .int 0]))] sz) := by
  refine Met.ofW (cc := cX11_init) (maxL := 1) (ret := none) (by decide) rfl ?_
  intro p e s m args below meth c s₁ B hml hv
  obtain ⟨rfl, hsz, hP, hK, hD0, hG⟩ := hv
  have hx := B.exec
  have hb := B.bytes
  have hr := B.returns
  have hts := atoms_spec (ws := .code yX11_init cX11_init 1 none :: wsL_law) B.pre
  have ht : ∀ w ∈ wsL_law, w.before _ s = true := fun w h => hts w (List.mem_cons_of_mem _ h)
  have hown : s.vm.findClass RX11 = some m.cls := findClass_of_methodNamed B.named
  have hlocks := B.notSynchronized
  have hin : meth.name = "<init>" := (name_of_methodNamed B.named B.method).1
  subst hsz
  have hD := hD0.self (sz := s.heap.size)
  generalize hAe : va_A [(ox, .inr (13, [.null, .null, .null, .null, .null, .null, .null, .null, .null, .null, .null, .int 0]))] s.heap.size = A at hD hG ⊢
  have hA : ∀ q : Nat, s.heap.size ≤ q → A q := fun q h => by rw [← hAe]; exact Or.inr h
  have hS : va_S A s.heap s.heap [] := va_S.rf
  have hP : va_P (dC, dI) vwCl [(ox, .inr (13, [.null, .null, .null, .null, .null, .null, .null, .null, .null, .null, .null, .int 0]))] s.heap := hP
  have hD : va_D A [(ox, .inr (13, [.null, .null, .null, .null, .null, .null, .null, .null, .null, .null, .null, .int 0]))] := hD
  have hl := lv_entry ([.ref ox]) (n := 1) (Nat.le_of_ble_eq_true rfl)
  rw [lg_entry_eq]
  generalize (lg_sl ([.ref ox]) ++ List.replicate (1 - (lg_sl ([.ref ox])).length) Slot.unset).toArray = ls at hl ⊢
  have hl : lv_has ls 1 [(0, .ref ox)] := hl
  refine lv_aload_n hx hb dX11_init_0 rfl (lv_at hl 0 rfl) ?_
  refine W.objInit hx hb hown (ht _ (wr_1 _ (List.mem_of_getElem? (i := 11) rfl))) (ht _ (wr_1 _ (List.mem_of_getElem? (i := 12) rfl))) (ht _ (wr_1 _ (List.mem_of_getElem? (i := 13) rfl))) rfl (by rw [hml]; exact hl.1) rfl dX11_init_1 (Nat.le_of_ble_eq_true rfl) (Nat.le_of_ble_eq_true rfl) ?_
  refine W.eq (g2 := F0 m 4 ls []) rfl ?_
  refine lv_aload_n hx hb dX11_init_4 rfl (lv_at hl 0 rfl) ?_
  refine va_new (ci := 1) (fs := [.int 0, .null, .int 0]) (C := RJx4a65c) (T := TJx4a65c) (N := 3) hx hb ht inlJx4a65c tyJx4a65c tyJx4a65c_ok hown (ht _ (wr_1 _ (List.mem_of_getElem? (i := 14) rfl))) (ht _ (wr_1 _ (List.mem_of_getElem? (i := 15) rfl))) (ht _ (wr_1 _ (List.mem_of_getElem? (i := 16) rfl))) hK hP hD hS hA rfl (fun j hj => match j, hj with | 0, _ => rfl | 1, _ => rfl | 2, _ => rfl | j + 3, h => absurd h (by omega)) (Nat.le_of_ble_eq_true rfl) (Nat.le_of_ble_eq_true rfl) dX11_init_5 (fun q_1 H hP hD hS => ?_)
  replace hP : va_P (dC, dI) vwCl [(ox, .inr (13, [.null, .null, .null, .null, .null, .null, .null, .null, .null, .null, .null, .int 0])), (q_1, .inr (1, [.int 0, .null, .int 0]))] H := hP
  replace hD : va_D A [(ox, .inr (13, [.null, .null, .null, .null, .null, .null, .null, .null, .null, .null, .null, .int 0])), (q_1, .inr (1, [.int 0, .null, .int 0]))] := hD
  refine W.widen (k := 1) (n := 3) (Nat.le_of_ble_eq_true rfl) (Nat.le_of_ble_eq_true rfl) ?_
  refine lv_dup hx hb dX11_init_8 rfl ?_
  have hPc := hP.sub (ws' := [(q_1, .inr (1, [.int 0, .null, .int 0]))]) [1] rfl
  have hDc := hD.sub (ws' := [(q_1, .inr (1, [.int 0, .null, .int 0]))]) [1] (by decide) rfl
  have hKc := hK.sub (tys' := []) [] rfl
  have hFc := va_free (wc := [(q_1, .inr (1, [.int 0, .null, .int 0]))]) hD hS hA [1] rfl
  refine va_callv (va_runI (As := []) (rest := [.ref q_1, .ref ox]) ⟨hx, hb, hml, hown, ht⟩ (c_Jx4a65c_init_da8c8 l dC dI de (q_1) (0) H.size) (cwI 0 ht (gWI (wr_3 _ (List.mem_of_getElem? (i := 0) rfl))) rfl rfl rfl (ht _ (wr_1 _ (List.mem_of_getElem? (i := 16) rfl))) (ht _ (wr_2 _ (List.mem_of_getElem? (i := 22) rfl))) (ht _ (wr_2 _ (List.mem_of_getElem? (i := 23) rfl))) rfl (by decide +kernel) ⟨Nat.le_of_ble_eq_true rfl, Nat.le_of_ble_eq_true rfl⟩) ⟨PW_blind, PW_call hPc hDc hKc hS hG hFc⟩ rfl rfl hl.1 rfl (lv_room (Nat.le_of_ble_eq_true rfl)) dX11_init_9 ⟨Nat.le_of_ble_eq_true rfl, Nat.le_of_ble_eq_true rfl⟩) hS (fun q _ h => hFc q h) hFc (fun u t H1 locs ht9 hvm hw hB hz1 hk1 hS => ?_)
  obtain ⟨hP1, hK1, hD1⟩ := hB
  rw [ht9] at hP1
  have hK1 := va_K.moved hvm.symm hK1
  obtain ⟨hP, hD⟩ := va_join (wr := [(ox, .inr (13, [.null, .null, .null, .null, .null, .null, .null, .null, .null, .null, .null, .int 0]))]) (w1 := [(q_1, .inr (1, [.int 0, .ref de, .int 0]))]) hP hD [1] [0] rfl rfl (by decide) (by decide) hk1 hFc hP1 hD1
  have hK := (hK.sub (tys' := []) [] rfl).app hK1
  generalize H1 = H at hP hS ⊢
  replace hP : va_P (dC, dI) vwCl [(ox, .inr (13, [.null, .null, .null, .null, .null, .null, .null, .null, .null, .null, .null, .int 0])), (q_1, .inr (1, [.int 0, .ref de, .int 0]))] H := hP
  replace hD : va_D A [(ox, .inr (13, [.null, .null, .null, .null, .null, .null, .null, .null, .null, .null, .null, .int 0])), (q_1, .inr (1, [.int 0, .ref de, .int 0]))] := hD
  have hK : va_K (dC, dI) vwCl [] s := hK
  have hw_9 := hw
  refine va_putF (D := (dC, dI)) (ci := 13) (v := .ref q_1) (ty := .object "java/util/ArrayList") (C := RX11) (T := TX11) (N := 12) hx hb ht inlX11 tyX11 tyX11_ok nmX11 hown hK hP hD hS 0 rfl rfl 0 (by decide) (ht _ (wr_1 _ (List.mem_of_getElem? (i := 17) rfl))) (fun _ h9 => h9) rfl hin rfl (by decide +kernel) rfl rfl (Nat.le_of_ble_eq_true rfl) dX11_init_12 (fun H locs hP hD hS => ?_)
  replace hP : va_P (dC, dI) vwCl [(ox, .inr (13, [.ref q_1, .null, .null, .null, .null, .null, .null, .null, .null, .null, .null, .int 0])), (q_1, .inr (1, [.int 0, .ref de, .int 0]))] H := hP
  replace hD : va_D A [(ox, .inr (13, [.ref q_1, .null, .null, .null, .null, .null, .null, .null, .null, .null, .null, .int 0])), (q_1, .inr (1, [.int 0, .ref de, .int 0]))] := hD
  refine lv_aload_n hx hb dX11_init_15 rfl (lv_at hl 0 rfl) ?_
  refine va_new (ci := 1) (fs := [.int 0, .null, .int 0]) (C := RJx4a65c) (T := TJx4a65c) (N := 3) hx hb ht inlJx4a65c tyJx4a65c tyJx4a65c_ok hown (ht _ (wr_1 _ (List.mem_of_getElem? (i := 14) rfl))) (ht _ (wr_1 _ (List.mem_of_getElem? (i := 15) rfl))) (ht _ (wr_1 _ (List.mem_of_getElem? (i := 16) rfl))) hK hP hD hS hA rfl (fun j hj => match j, hj with | 0, _ => rfl | 1, _ => rfl | 2, _ => rfl | j + 3, h => absurd h (by omega)) (Nat.le_of_ble_eq_true rfl) (Nat.le_of_ble_eq_true rfl) dX11_init_16 (fun q_2 H hP hD hS => ?_)
  replace hP : va_P (dC, dI) vwCl [(ox, .inr (13, [.ref q_1, .null, .null, .null, .null, .null, .null, .null, .null, .null, .null, .int 0])), (q_1, .inr (1, [.int 0, .ref de, .int 0])), (q_2, .inr (1, [.int 0, .null, .int 0]))] H := hP
  replace hD : va_D A [(ox, .inr (13, [.ref q_1, .null, .null, .null, .null, .null, .null, .null, .null, .null, .null, .int 0])), (q_1, .inr (1, [.int 0, .ref de, .int 0])), (q_2, .inr (1, [.int 0, .null, .int 0]))] := hD
  refine W.widen (k := 2) (n := 6) (Nat.le_of_ble_eq_true rfl) (Nat.le_of_ble_eq_true rfl) ?_
  refine lv_dup hx hb dX11_init_19 rfl ?_
  have hPc := hP.sub (ws' := [(q_2, .inr (1, [.int 0, .null, .int 0]))]) [2] rfl
  have hDc := hD.sub (ws' := [(q_2, .inr (1, [.int 0, .null, .int 0]))]) [2] (by decide) rfl
  have hKc := hK.sub (tys' := []) [] rfl
  have hFc := va_free (wc := [(q_2, .inr (1, [.int 0, .null, .int 0]))]) hD hS hA [2] rfl
  refine va_callv (va_runI (As := []) (rest := [.ref q_2, .ref ox]) ⟨hx, hb, hml, hown, ht⟩ (c_Jx4a65c_init_da8c8 l dC dI de (q_2) (0) H.size) (cwI 0 ht (gWI (wr_3 _ (List.mem_of_getElem? (i := 0) rfl))) rfl rfl rfl (ht _ (wr_1 _ (List.mem_of_getElem? (i := 16) rfl))) (ht _ (wr_2 _ (List.mem_of_getElem? (i := 22) rfl))) (ht _ (wr_2 _ (List.mem_of_getElem? (i := 23) rfl))) rfl (by decide +kernel) ⟨Nat.le_of_ble_eq_true rfl, Nat.le_of_ble_eq_true rfl⟩) ⟨PW_blind, PW_call hPc hDc hKc hS hG hFc⟩ rfl rfl hl.1 rfl (lv_room (Nat.le_of_ble_eq_true rfl)) dX11_init_20 ⟨Nat.le_of_ble_eq_true rfl, Nat.le_of_ble_eq_true rfl⟩) hS (fun q _ h => hFc q h) hFc (fun u t H1 locs ht9 hvm hw hB hz1 hk1 hS => ?_)
  obtain ⟨hP1, hK1, hD1⟩ := hB
  rw [ht9] at hP1
  have hK1 := va_K.moved hvm.symm hK1
  obtain ⟨hP, hD⟩ := va_join (wr := [(ox, .inr (13, [.ref q_1, .null, .null, .null, .null, .null, .null, .null, .null, .null, .null, .int 0])), (q_1, .inr (1, [.int 0, .ref de, .int 0]))]) (w1 := [(q_2, .inr (1, [.int 0, .ref de, .int 0]))]) hP hD [2] [0, 1] rfl rfl (by decide) (by decide) hk1 hFc hP1 hD1
  have hK := (hK.sub (tys' := []) [] rfl).app hK1
  generalize H1 = H at hP hS ⊢
  replace hP : va_P (dC, dI) vwCl [(ox, .inr (13, [.ref q_1, .null, .null, .null, .null, .null, .null, .null, .null, .null, .null, .int 0])), (q_1, .inr (1, [.int 0, .ref de, .int 0])), (q_2, .inr (1, [.int 0, .ref de, .int 0]))] H := hP
  replace hD : va_D A [(ox, .inr (13, [.ref q_1, .null, .null, .null, .null, .null, .null, .null, .null, .null, .null, .int 0])), (q_1, .inr (1, [.int 0, .ref de, .int 0])), (q_2, .inr (1, [.int 0, .ref de, .int 0]))] := hD
  have hK : va_K (dC, dI) vwCl [] s := hK
  have hw_20 := hw
  refine va_putF (D := (dC, dI)) (ci := 13) (v := .ref q_2) (ty := .object "java/util/ArrayList") (C := RX11) (T := TX11) (N := 12) hx hb ht inlX11 tyX11 tyX11_ok nmX11 hown hK hP hD hS 0 rfl rfl 1 (by decide) (ht _ (wr_1 _ (List.mem_of_getElem? (i := 18) rfl))) (fun _ h9 => h9) rfl hin rfl (by decide +kernel) rfl rfl (Nat.le_of_ble_eq_true rfl) dX11_init_23 (fun H locs hP hD hS => ?_)
  replace hP : va_P (dC, dI) vwCl [(ox, .inr (13, [.ref q_1, .ref q_2, .null, .null, .null, .null, .null, .null, .null, .null, .null, .int 0])), (q_1, .inr (1, [.int 0, .ref de, .int 0])), (q_2, .inr (1, [.int 0, .ref de, .int 0]))] H := hP
  replace hD : va_D A [(ox, .inr (13, [.ref q_1, .ref q_2, .null, .null, .null, .null, .null, .null, .null, .null, .null, .int 0])), (q_1, .inr (1, [.int 0, .ref de, .int 0])), (q_2, .inr (1, [.int 0, .ref de, .int 0]))] := hD
  refine lv_aload_n hx hb dX11_init_26 rfl (lv_at hl 0 rfl) ?_
  refine va_new (ci := 1) (fs := [.int 0, .null, .int 0]) (C := RJx4a65c) (T := TJx4a65c) (N := 3) hx hb ht inlJx4a65c tyJx4a65c tyJx4a65c_ok hown (ht _ (wr_1 _ (List.mem_of_getElem? (i := 14) rfl))) (ht _ (wr_1 _ (List.mem_of_getElem? (i := 15) rfl))) (ht _ (wr_1 _ (List.mem_of_getElem? (i := 16) rfl))) hK hP hD hS hA rfl (fun j hj => match j, hj with | 0, _ => rfl | 1, _ => rfl | 2, _ => rfl | j + 3, h => absurd h (by omega)) (Nat.le_of_ble_eq_true rfl) (Nat.le_of_ble_eq_true rfl) dX11_init_27 (fun q_3 H hP hD hS => ?_)
  replace hP : va_P (dC, dI) vwCl [(ox, .inr (13, [.ref q_1, .ref q_2, .null, .null, .null, .null, .null, .null, .null, .null, .null, .int 0])), (q_1, .inr (1, [.int 0, .ref de, .int 0])), (q_2, .inr (1, [.int 0, .ref de, .int 0])), (q_3, .inr (1, [.int 0, .null, .int 0]))] H := hP
  replace hD : va_D A [(ox, .inr (13, [.ref q_1, .ref q_2, .null, .null, .null, .null, .null, .null, .null, .null, .null, .int 0])), (q_1, .inr (1, [.int 0, .ref de, .int 0])), (q_2, .inr (1, [.int 0, .ref de, .int 0])), (q_3, .inr (1, [.int 0, .null, .int 0]))] := hD
  refine W.widen (k := 3) (n := 9) (Nat.le_of_ble_eq_true rfl) (Nat.le_of_ble_eq_true rfl) ?_
  refine lv_dup hx hb dX11_init_30 rfl ?_
  have hPc := hP.sub (ws' := [(q_3, .inr (1, [.int 0, .null, .int 0]))]) [3] rfl
  have hDc := hD.sub (ws' := [(q_3, .inr (1, [.int 0, .null, .int 0]))]) [3] (by decide) rfl
  have hKc := hK.sub (tys' := []) [] rfl
  have hFc := va_free (wc := [(q_3, .inr (1, [.int 0, .null, .int 0]))]) hD hS hA [3] rfl
  refine va_callv (va_runI (As := []) (rest := [.ref q_3, .ref ox]) ⟨hx, hb, hml, hown, ht⟩ (c_Jx4a65c_init_da8c8 l dC dI de (q_3) (0) H.size) (cwI 0 ht (gWI (wr_3 _ (List.mem_of_getElem? (i := 0) rfl))) rfl rfl rfl (ht _ (wr_1 _ (List.mem_of_getElem? (i := 16) rfl))) (ht _ (wr_2 _ (List.mem_of_getElem? (i := 22) rfl))) (ht _ (wr_2 _ (List.mem_of_getElem? (i := 23) rfl))) rfl (by decide +kernel) ⟨Nat.le_of_ble_eq_true rfl, Nat.le_of_ble_eq_true rfl⟩) ⟨PW_blind, PW_call hPc hDc hKc hS hG hFc⟩ rfl rfl hl.1 rfl (lv_room (Nat.le_of_ble_eq_true rfl)) dX11_init_31 ⟨Nat.le_of_ble_eq_true rfl, Nat.le_of_ble_eq_true rfl⟩) hS (fun q _ h => hFc q h) hFc (fun u t H1 locs ht9 hvm hw hB hz1 hk1 hS => ?_)
  obtain ⟨hP1, hK1, hD1⟩ := hB
  rw [ht9] at hP1
  have hK1 := va_K.moved hvm.symm hK1
  obtain ⟨hP, hD⟩ := va_join (wr := [(ox, .inr (13, [.ref q_1, .ref q_2, .null, .null, .null, .null, .null, .null, .null, .null, .null, .int 0])), (q_1, .inr (1, [.int 0, .ref de, .int 0])), (q_2, .inr (1, [.int 0, .ref de, .int 0]))]) (w1 := [(q_3, .inr (1, [.int 0, .ref de, .int 0]))]) hP hD [3] [0, 1, 2] rfl rfl (by decide) (by decide) hk1 hFc hP1 hD1
  have hK := (hK.sub (tys' := []) [] rfl).app hK1
  generalize H1 = H at hP hS ⊢
  replace hP : va_P (dC, dI) vwCl [(ox, .inr (13, [.ref q_1, .ref q_2, .null, .null, .null, .null, .null, .null, .null, .null, .null, .int 0])), (q_1, .inr (1, [.int 0, .ref de, .int 0])), (q_2, .inr (1, [.int 0, .ref de, .int 0])), (q_3, .inr (1, [.int 0, .ref de, .int 0]))] H := hP
  replace hD : va_D A [(ox, .inr (13, [.ref q_1, .ref q_2, .null, .null, .null, .null, .null, .null, .null, .null, .null, .int 0])), (q_1, .inr (1, [.int 0, .ref de, .int 0])), (q_2, .inr (1, [.int 0, .ref de, .int 0])), (q_3, .inr (1, [.int 0, .ref de, .int 0]))] := hD
  have hK : va_K (dC, dI) vwCl [] s := hK
  have hw_31 := hw
  refine va_putF (D := (dC, dI)) (ci := 13) (v := .ref q_3) (ty := .object "java/util/ArrayList") (C := RX11) (T := TX11) (N := 12) hx hb ht inlX11 tyX11 tyX11_ok nmX11 hown hK hP hD hS 0 rfl rfl 2 (by decide) (ht _ (wr_1 _ (List.mem_of_getElem? (i := 19) rfl))) (fun _ h9 => h9) rfl hin rfl (by decide +kernel) rfl rfl (Nat.le_of_ble_eq_true rfl) dX11_init_34 (fun H locs hP hD hS => ?_)
  replace hP : va_P (dC, dI) vwCl [(ox, .inr (13, [.ref q_1, .ref q_2, .ref q_3, .null, .null, .null, .null, .null, .null, .null, .null, .int 0])), (q_1, .inr (1, [.int 0, .ref de, .int 0])), (q_2, .inr (1, [.int 0, .ref de, .int 0])), (q_3, .inr (1, [.int 0, .ref de, .int 0]))] H := hP
  replace hD : va_D A [(ox, .inr (13, [.ref q_1, .ref q_2, .ref q_3, .null, .null, .null, .null, .null, .null, .null, .null, .int 0])), (q_1, .inr (1, [.int 0, .ref de, .int 0])), (q_2, .inr (1, [.int 0, .ref de, .int 0])), (q_3, .inr (1, [.int 0, .ref de, .int 0]))] := hD
  refine lv_aload_n hx hb dX11_init_37 rfl (lv_at hl 0 rfl) ?_
  refine lv_bipush (v := 6) hx hb dX11_init_38 (by decide) ?_
  refine va_newq (C := "Levelsmith$Player") (N' := 6) hx hb hown (ht _ (wr_1 _ (List.mem_of_getElem? (i := 20) rfl))) hG.2.2.2.2.2.1 hK hP hD hS hA (by decide +kernel) (by decide +kernel) (Nat.le_of_ble_eq_true rfl) (Nat.le_of_ble_eq_true rfl) (Nat.le_of_ble_eq_true rfl) dX11_init_40 (fun q_4 cA_5 H hK hP hD hS => ?_)
  replace hP : va_P (dC, dI) vwCl [(ox, .inr (13, [.ref q_1, .ref q_2, .ref q_3, .null, .null, .null, .null, .null, .null, .null, .null, .int 0])), (q_1, .inr (1, [.int 0, .ref de, .int 0])), (q_2, .inr (1, [.int 0, .ref de, .int 0])), (q_3, .inr (1, [.int 0, .ref de, .int 0])), (q_4, .inl (cA_5, 6, .inr (.inr (.inr (.inr (fun _ => none))))))] H := hP
  replace hD : va_D A [(ox, .inr (13, [.ref q_1, .ref q_2, .ref q_3, .null, .null, .null, .null, .null, .null, .null, .null, .int 0])), (q_1, .inr (1, [.int 0, .ref de, .int 0])), (q_2, .inr (1, [.int 0, .ref de, .int 0])), (q_3, .inr (1, [.int 0, .ref de, .int 0])), (q_4, .inl (cA_5, 6, .inr (.inr (.inr (.inr (fun _ => none))))))] := hD
  have hK : va_K (dC, dI) vwCl [(cA_5, .object "Levelsmith$Player")] s := hK
  refine W.widen (k := 4) (n := 15) (Nat.le_of_ble_eq_true rfl) (Nat.le_of_ble_eq_true rfl) ?_
  refine va_putF (D := (dC, dI)) (ci := 13) (v := .ref q_4) (ty := .array (.object "Levelsmith$Player")) (C := RX11) (T := TX11) (N := 12) hx hb ht inlX11 tyX11 tyX11_ok nmX11 hown hK hP hD hS 0 rfl rfl 3 (by decide) (ht _ (wr_1 _ (List.mem_of_getElem? (i := 21) rfl))) (fun _ h9 => h9) rfl hin rfl (by decide +kernel) rfl rfl (Nat.le_of_ble_eq_true rfl) dX11_init_43 (fun H locs hP hD hS => ?_)
  replace hP : va_P (dC, dI) vwCl [(ox, .inr (13, [.ref q_1, .ref q_2, .ref q_3, .ref q_4, .null, .null, .null, .null, .null, .null, .null, .int 0])), (q_1, .inr (1, [.int 0, .ref de, .int 0])), (q_2, .inr (1, [.int 0, .ref de, .int 0])), (q_3, .inr (1, [.int 0, .ref de, .int 0])), (q_4, .inl (cA_5, 6, .inr (.inr (.inr (.inr (fun _ => none))))))] H := hP
  replace hD : va_D A [(ox, .inr (13, [.ref q_1, .ref q_2, .ref q_3, .ref q_4, .null, .null, .null, .null, .null, .null, .null, .int 0])), (q_1, .inr (1, [.int 0, .ref de, .int 0])), (q_2, .inr (1, [.int 0, .ref de, .int 0])), (q_3, .inr (1, [.int 0, .ref de, .int 0])), (q_4, .inl (cA_5, 6, .inr (.inr (.inr (.inr (fun _ => none))))))] := hD
  refine lv_aload_n hx hb dX11_init_46 rfl (lv_at hl 0 rfl) ?_
  refine lv_bipush (v := 6) hx hb dX11_init_47 (by decide) ?_
  refine va_newa (atype := .int) (ty := .int) (N' := 6) (a0 := (6, .inl (fun _ => 0))) hx hb (ht _ (wr_1 _ (List.mem_of_getElem? (i := 22) rfl))) rfl hK hP hD hS hA (fun _ => rfl) (by decide +kernel) (by decide +kernel) (Nat.le_of_ble_eq_true rfl) (Nat.le_of_ble_eq_true rfl) (Nat.le_of_ble_eq_true rfl) dX11_init_49 (fun q_6 cA_7 H hK hP hD hS => ?_)
  replace hP : va_P (dC, dI) vwCl [(ox, .inr (13, [.ref q_1, .ref q_2, .ref q_3, .ref q_4, .null, .null, .null, .null, .null, .null, .null, .int 0])), (q_1, .inr (1, [.int 0, .ref de, .int 0])), (q_2, .inr (1, [.int 0, .ref de, .int 0])), (q_3, .inr (1, [.int 0, .ref de, .int 0])), (q_4, .inl (cA_5, 6, .inr (.inr (.inr (.inr (fun _ => none)))))), (q_6, .inl (cA_7, 6, .inl (fun _ => 0)))] H := hP
  replace hD : va_D A [(ox, .inr (13, [.ref q_1, .ref q_2, .ref q_3, .ref q_4, .null, .null, .null, .null, .null, .null, .null, .int 0])), (q_1, .inr (1, [.int 0, .ref de, .int 0])), (q_2, .inr (1, [.int 0, .ref de, .int 0])), (q_3, .inr (1, [.int 0, .ref de, .int 0])), (q_4, .inl (cA_5, 6, .inr (.inr (.inr (.inr (fun _ => none)))))), (q_6, .inl (cA_7, 6, .inl (fun _ => 0)))] := hD
  have hK : va_K (dC, dI) vwCl [(cA_5, .object "Levelsmith$Player"), (cA_7, .int)] s := hK
  refine W.widen (k := 5) (n := 21) (Nat.le_of_ble_eq_true rfl) (Nat.le_of_ble_eq_true rfl) ?_
  refine va_putF (D := (dC, dI)) (ci := 13) (v := .ref q_6) (ty := .array .int) (C := RX11) (T := TX11) (N := 12) hx hb ht inlX11 tyX11 tyX11_ok nmX11 hown hK hP hD hS 0 rfl rfl 4 (by decide) (ht _ (wr_1 _ (List.mem_of_getElem? (i := 23) rfl))) (fun _ h9 => h9) rfl hin rfl (by decide +kernel) rfl rfl (Nat.le_of_ble_eq_true rfl) dX11_init_51 (fun H locs hP hD hS => ?_)
  replace hP : va_P (dC, dI) vwCl [(ox, .inr (13, [.ref q_1, .ref q_2, .ref q_3, .ref q_4, .ref q_6, .null, .null, .null, .null, .null, .null, .int 0])), (q_1, .inr (1, [.int 0, .ref de, .int 0])), (q_2, .inr (1, [.int 0, .ref de, .int 0])), (q_3, .inr (1, [.int 0, .ref de, .int 0])), (q_4, .inl (cA_5, 6, .inr (.inr (.inr (.inr (fun _ => none)))))), (q_6, .inl (cA_7, 6, .inl (fun _ => 0)))] H := hP
  replace hD : va_D A [(ox, .inr (13, [.ref q_1, .ref q_2, .ref q_3, .ref q_4, .ref q_6, .null, .null, .null, .null, .null, .null, .int 0])), (q_1, .inr (1, [.int 0, .ref de, .int 0])), (q_2, .inr (1, [.int 0, .ref de, .int 0])), (q_3, .inr (1, [.int 0, .ref de, .int 0])), (q_4, .inl (cA_5, 6, .inr (.inr (.inr (.inr (fun _ => none)))))), (q_6, .inl (cA_7, 6, .inl (fun _ => 0)))] := hD
  refine lv_aload_n hx hb dX11_init_54 rfl (lv_at hl 0 rfl) ?_
  refine va_new (ci := 6) (fs := [.null, .null, .int 0, .int 0]) (C := RX4) (T := TX4) (N := 4) hx hb ht inlX4 tyX4 tyX4_ok hown (ht _ (wr_2 _ (List.mem_of_getElem? (i := 0) rfl))) (ht _ (wr_2 _ (List.mem_of_getElem? (i := 1) rfl))) (ht _ (wr_2 _ (List.mem_of_getElem? (i := 2) rfl))) hK hP hD hS hA rfl (fun j hj => match j, hj with | 0, _ => rfl | 1, _ => rfl | 2, _ => rfl | 3, _ => rfl | j + 4, h => absurd h (by omega)) (Nat.le_of_ble_eq_true rfl) (Nat.le_of_ble_eq_true rfl) dX11_init_55 (fun q_8 H hP hD hS => ?_)
  replace hP : va_P (dC, dI) vwCl [(ox, .inr (13, [.ref q_1, .ref q_2, .ref q_3, .ref q_4, .ref q_6, .null, .null, .null, .null, .null, .null, .int 0])), (q_1, .inr (1, [.int 0, .ref de, .int 0])), (q_2, .inr (1, [.int 0, .ref de, .int 0])), (q_3, .inr (1, [.int 0, .ref de, .int 0])), (q_4, .inl (cA_5, 6, .inr (.inr (.inr (.inr (fun _ => none)))))), (q_6, .inl (cA_7, 6, .inl (fun _ => 0))), (q_8, .inr (6, [.null, .null, .int 0, .int 0]))] H := hP
  replace hD : va_D A [(ox, .inr (13, [.ref q_1, .ref q_2, .ref q_3, .ref q_4, .ref q_6, .null, .null, .null, .null, .null, .null, .int 0])), (q_1, .inr (1, [.int 0, .ref de, .int 0])), (q_2, .inr (1, [.int 0, .ref de, .int 0])), (q_3, .inr (1, [.int 0, .ref de, .int 0])), (q_4, .inl (cA_5, 6, .inr (.inr (.inr (.inr (fun _ => none)))))), (q_6, .inl (cA_7, 6, .inl (fun _ => 0))), (q_8, .inr (6, [.null, .null, .int 0, .int 0]))] := hD
  refine W.widen (k := 6) (n := 25) (Nat.le_of_ble_eq_true rfl) (Nat.le_of_ble_eq_true rfl) ?_
  refine lv_dup hx hb dX11_init_58 rfl ?_
  have hPc := hP.sub (ws' := [(q_8, .inr (6, [.null, .null, .int 0, .int 0]))]) [6] rfl
  have hDc := hD.sub (ws' := [(q_8, .inr (6, [.null, .null, .int 0, .int 0]))]) [6] (by decide) rfl
  have hKc := hK.sub (tys' := []) [] rfl
  have hFc := va_free (wc := [(q_8, .inr (6, [.null, .null, .int 0, .int 0]))]) hD hS hA [6] rfl
  refine va_callv (va_runIN (As := []) (rest := [.ref q_8, .ref ox]) ⟨hx, hb, hml, hown, ht⟩ (c_X4_init l dC dI de (q_8) H.size) ⟨va_cnB 0 ht (gWI (wr_3 _ (List.mem_of_getElem? (i := 14) rfl))) rfl rfl rfl (hG.2.2.1 ("Levelsmith", 34, yX4_init, "Levelsmith") (List.mem_of_getElem? (i := 0) rfl)) (ht _ (wr_2 _ (List.mem_of_getElem? (i := 2) rfl))) (by decide +kernel) ⟨Nat.le_of_ble_eq_true rfl, Nat.le_of_ble_eq_true rfl⟩, rfl, (ht _ (wr_3 _ (List.mem_of_getElem? (i := 13) rfl)))⟩ ⟨PW_blind, PW_call hPc hDc hKc hS hG hFc⟩ rfl rfl hl.1 rfl (lv_room (Nat.le_of_ble_eq_true rfl)) dX11_init_59 ⟨Nat.le_of_ble_eq_true rfl, Nat.le_of_ble_eq_true rfl⟩) hS (fun q _ h => hFc q h) hFc (fun u t H1 locs ht9 hvm hw hB hz1 hk1 hS => ?_)
  obtain ⟨hP1, hK1, hD1⟩ := hB
  rw [ht9] at hP1
  have hK1 := va_K.moved hvm.symm hK1
  obtain ⟨hP, hD⟩ := va_join (wr := [(ox, .inr (13, [.ref q_1, .ref q_2, .ref q_3, .ref q_4, .ref q_6, .null, .null, .null, .null, .null, .null, .int 0])), (q_1, .inr (1, [.int 0, .ref de, .int 0])), (q_2, .inr (1, [.int 0, .ref de, .int 0])), (q_3, .inr (1, [.int 0, .ref de, .int 0])), (q_4, .inl (cA_5, 6, .inr (.inr (.inr (.inr (fun _ => none)))))), (q_6, .inl (cA_7, 6, .inl (fun _ => 0)))]) (w1 := []) hP hD [6] [0, 1, 2, 3, 4, 5] rfl rfl (by decide) (by decide) hk1 hFc hP1 hD1
  have hK := (hK.sub (tys' := [(cA_5, .object "Levelsmith$Player"), (cA_7, .int)]) [0, 1] rfl).app hK1
  generalize H1 = H at hP hS ⊢
  replace hP : va_P (dC, dI) vwCl [(ox, .inr (13, [.ref q_1, .ref q_2, .ref q_3, .ref q_4, .ref q_6, .null, .null, .null, .null, .null, .null, .int 0])), (q_1, .inr (1, [.int 0, .ref de, .int 0])), (q_2, .inr (1, [.int 0, .ref de, .int 0])), (q_3, .inr (1, [.int 0, .ref de, .int 0])), (q_4, .inl (cA_5, 6, .inr (.inr (.inr (.inr (fun _ => none)))))), (q_6, .inl (cA_7, 6, .inl (fun _ => 0)))] H := hP
  replace hD : va_D A [(ox, .inr (13, [.ref q_1, .ref q_2, .ref q_3, .ref q_4, .ref q_6, .null, .null, .null, .null, .null, .null, .int 0])), (q_1, .inr (1, [.int 0, .ref de, .int 0])), (q_2, .inr (1, [.int 0, .ref de, .int 0])), (q_3, .inr (1, [.int 0, .ref de, .int 0])), (q_4, .inl (cA_5, 6, .inr (.inr (.inr (.inr (fun _ => none)))))), (q_6, .inl (cA_7, 6, .inl (fun _ => 0)))] := hD
  have hK : va_K (dC, dI) vwCl [(cA_5, .object "Levelsmith$Player"), (cA_7, .int)] s := hK
  refine W.widen (k := 12) (n := 141) (Nat.le_of_ble_eq_true rfl) (Nat.le_of_ble_eq_true rfl) ?_
  have hw_59 := hw
  refine va_putF (D := (dC, dI)) (ci := 13) (v := .ref q_8) (ty := .object "Levelsmith$Grower") (C := RX11) (T := TX11) (N := 12) hx hb ht inlX11 tyX11 tyX11_ok nmX11 hown hK hP hD hS 0 rfl rfl 5 (by decide) (ht _ (wr_2 _ (List.mem_of_getElem? (i := 3) rfl))) (fun _ h9 => h9) rfl hin rfl (by decide +kernel) rfl rfl (Nat.le_of_ble_eq_true rfl) dX11_init_62 (fun H locs hP hD hS => ?_)
  replace hP : va_P (dC, dI) vwCl [(ox, .inr (13, [.ref q_1, .ref q_2, .ref q_3, .ref q_4, .ref q_6, .ref q_8, .null, .null, .null, .null, .null, .int 0])), (q_1, .inr (1, [.int 0, .ref de, .int 0])), (q_2, .inr (1, [.int 0, .ref de, .int 0])), (q_3, .inr (1, [.int 0, .ref de, .int 0])), (q_4, .inl (cA_5, 6, .inr (.inr (.inr (.inr (fun _ => none)))))), (q_6, .inl (cA_7, 6, .inl (fun _ => 0)))] H := hP
  replace hD : va_D A [(ox, .inr (13, [.ref q_1, .ref q_2, .ref q_3, .ref q_4, .ref q_6, .ref q_8, .null, .null, .null, .null, .null, .int 0])), (q_1, .inr (1, [.int 0, .ref de, .int 0])), (q_2, .inr (1, [.int 0, .ref de, .int 0])), (q_3, .inr (1, [.int 0, .ref de, .int 0])), (q_4, .inl (cA_5, 6, .inr (.inr (.inr (.inr (fun _ => none)))))), (q_6, .inl (cA_7, 6, .inl (fun _ => 0)))] := hD
  refine lv_aload_n hx hb dX11_init_65 rfl (lv_at hl 0 rfl) ?_
  refine va_new (ci := 10) (fs := [.int 0, .int 0, .int 0, .null, .null, .null, .null, .null, .null, .null, .int 0, .int 0, .int 0]) (C := RX8) (T := TX8) (N := 13) hx hb ht inlX8 tyX8 tyX8_ok hown (ht _ (wr_2 _ (List.mem_of_getElem? (i := 4) rfl))) (ht _ (wr_2 _ (List.mem_of_getElem? (i := 5) rfl))) (ht _ (wr_2 _ (List.mem_of_getElem? (i := 6) rfl))) hK hP hD hS hA rfl (fun j hj => match j, hj with | 0, _ => rfl | 1, _ => rfl | 2, _ => rfl | 3, _ => rfl | 4, _ => rfl | 5, _ => rfl | 6, _ => rfl | 7, _ => rfl | 8, _ => rfl | 9, _ => rfl | 10, _ => rfl | 11, _ => rfl | 12, _ => rfl | j + 13, h => absurd h (by omega)) (Nat.le_of_ble_eq_true rfl) (Nat.le_of_ble_eq_true rfl) dX11_init_66 (fun q_9 H hP hD hS => ?_)
  replace hP : va_P (dC, dI) vwCl [(ox, .inr (13, [.ref q_1, .ref q_2, .ref q_3, .ref q_4, .ref q_6, .ref q_8, .null, .null, .null, .null, .null, .int 0])), (q_1, .inr (1, [.int 0, .ref de, .int 0])), (q_2, .inr (1, [.int 0, .ref de, .int 0])), (q_3, .inr (1, [.int 0, .ref de, .int 0])), (q_4, .inl (cA_5, 6, .inr (.inr (.inr (.inr (fun _ => none)))))), (q_6, .inl (cA_7, 6, .inl (fun _ => 0))), (q_9, .inr (10, [.int 0, .int 0, .int 0, .null, .null, .null, .null, .null, .null, .null, .int 0, .int 0, .int 0]))] H := hP
  replace hD : va_D A [(ox, .inr (13, [.ref q_1, .ref q_2, .ref q_3, .ref q_4, .ref q_6, .ref q_8, .null, .null, .null, .null, .null, .int 0])), (q_1, .inr (1, [.int 0, .ref de, .int 0])), (q_2, .inr (1, [.int 0, .ref de, .int 0])), (q_3, .inr (1, [.int 0, .ref de, .int 0])), (q_4, .inl (cA_5, 6, .inr (.inr (.inr (.inr (fun _ => none)))))), (q_6, .inl (cA_7, 6, .inl (fun _ => 0))), (q_9, .inr (10, [.int 0, .int 0, .int 0, .null, .null, .null, .null, .null, .null, .null, .int 0, .int 0, .int 0]))] := hD
  refine W.widen (k := 13) (n := 154) (Nat.le_of_ble_eq_true rfl) (Nat.le_of_ble_eq_true rfl) ?_
  refine lv_dup hx hb dX11_init_69 rfl ?_
  have hPc := hP.sub (ws' := [(q_9, .inr (10, [.int 0, .int 0, .int 0, .null, .null, .null, .null, .null, .null, .null, .int 0, .int 0, .int 0]))]) [6] rfl
  have hDc := hD.sub (ws' := [(q_9, .inr (10, [.int 0, .int 0, .int 0, .null, .null, .null, .null, .null, .null, .null, .int 0, .int 0, .int 0]))]) [6] (by decide) rfl
  have hKc := hK.sub (tys' := []) [] rfl
  have hFc := va_free (wc := [(q_9, .inr (10, [.int 0, .int 0, .int 0, .null, .null, .null, .null, .null, .null, .null, .int 0, .int 0, .int 0]))]) hD hS hA [6] rfl
  refine va_callv (va_runIN (As := []) (rest := [.ref q_9, .ref ox]) ⟨hx, hb, hml, hown, ht⟩ (c_X8_init l dC dI de (q_9) H.size) ⟨va_cnB 0 ht (gWI (wr_4 _ (List.mem_of_getElem? (i := 21) rfl))) rfl rfl rfl (hG.2.2.1 ("Levelsmith", 41, yX8_init, "Levelsmith") (List.mem_of_getElem? (i := 3) rfl)) (ht _ (wr_2 _ (List.mem_of_getElem? (i := 6) rfl))) (by decide +kernel) ⟨Nat.le_of_ble_eq_true rfl, Nat.le_of_ble_eq_true rfl⟩, rfl, (ht _ (wr_4 _ (List.mem_of_getElem? (i := 20) rfl)))⟩ ⟨PW_blind, PW_call hPc hDc hKc hS hG hFc⟩ rfl rfl hl.1 rfl (lv_room (Nat.le_of_ble_eq_true rfl)) dX11_init_70 ⟨Nat.le_of_ble_eq_true rfl, Nat.le_of_ble_eq_true rfl⟩) hS (fun q _ h => hFc q h) hFc (fun u t H1 locs ht9 hvm hw hB hz1 hk1 hS => ?_)
  obtain ⟨hP1, hK1, hD1⟩ := hB
  rw [ht9] at hP1
  have hK1 := va_K.moved hvm.symm hK1
  obtain ⟨hP, hD⟩ := va_join (wr := [(ox, .inr (13, [.ref q_1, .ref q_2, .ref q_3, .ref q_4, .ref q_6, .ref q_8, .null, .null, .null, .null, .null, .int 0])), (q_1, .inr (1, [.int 0, .ref de, .int 0])), (q_2, .inr (1, [.int 0, .ref de, .int 0])), (q_3, .inr (1, [.int 0, .ref de, .int 0])), (q_4, .inl (cA_5, 6, .inr (.inr (.inr (.inr (fun _ => none)))))), (q_6, .inl (cA_7, 6, .inl (fun _ => 0)))]) (w1 := []) hP hD [6] [0, 1, 2, 3, 4, 5] rfl rfl (by decide) (by decide) hk1 hFc hP1 hD1
  have hK := (hK.sub (tys' := [(cA_5, .object "Levelsmith$Player"), (cA_7, .int)]) [0, 1] rfl).app hK1
  generalize H1 = H at hP hS ⊢
  replace hP : va_P (dC, dI) vwCl [(ox, .inr (13, [.ref q_1, .ref q_2, .ref q_3, .ref q_4, .ref q_6, .ref q_8, .null, .null, .null, .null, .null, .int 0])), (q_1, .inr (1, [.int 0, .ref de, .int 0])), (q_2, .inr (1, [.int 0, .ref de, .int 0])), (q_3, .inr (1, [.int 0, .ref de, .int 0])), (q_4, .inl (cA_5, 6, .inr (.inr (.inr (.inr (fun _ => none)))))), (q_6, .inl (cA_7, 6, .inl (fun _ => 0)))] H := hP
  replace hD : va_D A [(ox, .inr (13, [.ref q_1, .ref q_2, .ref q_3, .ref q_4, .ref q_6, .ref q_8, .null, .null, .null, .null, .null, .int 0])), (q_1, .inr (1, [.int 0, .ref de, .int 0])), (q_2, .inr (1, [.int 0, .ref de, .int 0])), (q_3, .inr (1, [.int 0, .ref de, .int 0])), (q_4, .inl (cA_5, 6, .inr (.inr (.inr (.inr (fun _ => none)))))), (q_6, .inl (cA_7, 6, .inl (fun _ => 0)))] := hD
  have hK : va_K (dC, dI) vwCl [(cA_5, .object "Levelsmith$Player"), (cA_7, .int)] s := hK
  refine W.widen (k := 22) (n := 332041) (Nat.le_of_ble_eq_true rfl) (Nat.le_of_ble_eq_true rfl) ?_
  have hw_70 := hw
  refine va_putF (D := (dC, dI)) (ci := 13) (v := .ref q_9) (ty := .object "Levelsmith$Reach") (C := RX11) (T := TX11) (N := 12) hx hb ht inlX11 tyX11 tyX11_ok nmX11 hown hK hP hD hS 0 rfl rfl 6 (by decide) (ht _ (wr_2 _ (List.mem_of_getElem? (i := 7) rfl))) (fun _ h9 => h9) rfl hin rfl (by decide +kernel) rfl rfl (Nat.le_of_ble_eq_true rfl) dX11_init_73 (fun H locs hP hD hS => ?_)
  replace hP : va_P (dC, dI) vwCl [(ox, .inr (13, [.ref q_1, .ref q_2, .ref q_3, .ref q_4, .ref q_6, .ref q_8, .ref q_9, .null, .null, .null, .null, .int 0])), (q_1, .inr (1, [.int 0, .ref de, .int 0])), (q_2, .inr (1, [.int 0, .ref de, .int 0])), (q_3, .inr (1, [.int 0, .ref de, .int 0])), (q_4, .inl (cA_5, 6, .inr (.inr (.inr (.inr (fun _ => none)))))), (q_6, .inl (cA_7, 6, .inl (fun _ => 0)))] H := hP
  replace hD : va_D A [(ox, .inr (13, [.ref q_1, .ref q_2, .ref q_3, .ref q_4, .ref q_6, .ref q_8, .ref q_9, .null, .null, .null, .null, .int 0])), (q_1, .inr (1, [.int 0, .ref de, .int 0])), (q_2, .inr (1, [.int 0, .ref de, .int 0])), (q_3, .inr (1, [.int 0, .ref de, .int 0])), (q_4, .inl (cA_5, 6, .inr (.inr (.inr (.inr (fun _ => none)))))), (q_6, .inl (cA_7, 6, .inl (fun _ => 0)))] := hD
  refine lv_aload_n hx hb dX11_init_76 rfl (lv_at hl 0 rfl) ?_
  refine va_new (ci := 9) (fs := [.int 0, .int 0, .int 0, .int 0, .null, .null, .null, .int 0, .null, .null]) (C := RX7) (T := TX7) (N := 10) hx hb ht inlX7 tyX7 tyX7_ok hown (ht _ (wr_2 _ (List.mem_of_getElem? (i := 8) rfl))) (ht _ (wr_2 _ (List.mem_of_getElem? (i := 9) rfl))) (ht _ (wr_2 _ (List.mem_of_getElem? (i := 10) rfl))) hK hP hD hS hA rfl (fun j hj => match j, hj with | 0, _ => rfl | 1, _ => rfl | 2, _ => rfl | 3, _ => rfl | 4, _ => rfl | 5, _ => rfl | 6, _ => rfl | 7, _ => rfl | 8, _ => rfl | 9, _ => rfl | j + 10, h => absurd h (by omega)) (Nat.le_of_ble_eq_true rfl) (Nat.le_of_ble_eq_true rfl) dX11_init_77 (fun q_10 H hP hD hS => ?_)
  replace hP : va_P (dC, dI) vwCl [(ox, .inr (13, [.ref q_1, .ref q_2, .ref q_3, .ref q_4, .ref q_6, .ref q_8, .ref q_9, .null, .null, .null, .null, .int 0])), (q_1, .inr (1, [.int 0, .ref de, .int 0])), (q_2, .inr (1, [.int 0, .ref de, .int 0])), (q_3, .inr (1, [.int 0, .ref de, .int 0])), (q_4, .inl (cA_5, 6, .inr (.inr (.inr (.inr (fun _ => none)))))), (q_6, .inl (cA_7, 6, .inl (fun _ => 0))), (q_10, .inr (9, [.int 0, .int 0, .int 0, .int 0, .null, .null, .null, .int 0, .null, .null]))] H := hP
  replace hD : va_D A [(ox, .inr (13, [.ref q_1, .ref q_2, .ref q_3, .ref q_4, .ref q_6, .ref q_8, .ref q_9, .null, .null, .null, .null, .int 0])), (q_1, .inr (1, [.int 0, .ref de, .int 0])), (q_2, .inr (1, [.int 0, .ref de, .int 0])), (q_3, .inr (1, [.int 0, .ref de, .int 0])), (q_4, .inl (cA_5, 6, .inr (.inr (.inr (.inr (fun _ => none)))))), (q_6, .inl (cA_7, 6, .inl (fun _ => 0))), (q_10, .inr (9, [.int 0, .int 0, .int 0, .int 0, .null, .null, .null, .int 0, .null, .null]))] := hD
  refine W.widen (k := 23) (n := 332051) (Nat.le_of_ble_eq_true rfl) (Nat.le_of_ble_eq_true rfl) ?_
  refine lv_dup hx hb dX11_init_80 rfl ?_
  have hPc := hP.sub (ws' := [(q_10, .inr (9, [.int 0, .int 0, .int 0, .int 0, .null, .null, .null, .int 0, .null, .null]))]) [6] rfl
  have hDc := hD.sub (ws' := [(q_10, .inr (9, [.int 0, .int 0, .int 0, .int 0, .null, .null, .null, .int 0, .null, .null]))]) [6] (by decide) rfl
  have hKc := hK.sub (tys' := []) [] rfl
  have hFc := va_free (wc := [(q_10, .inr (9, [.int 0, .int 0, .int 0, .int 0, .null, .null, .null, .int 0, .null, .null]))]) hD hS hA [6] rfl
  refine va_callv (va_runIN (As := []) (rest := [.ref q_10, .ref ox]) ⟨hx, hb, hml, hown, ht⟩ (c_X7_init l dC dI de (q_10) H.size) ⟨va_cnB 0 ht (gWI (wr_6 _ (List.mem_of_getElem? (i := 13) rfl))) rfl rfl rfl (hG.2.2.1 ("Levelsmith", 48, yX7_init, "Levelsmith") (List.mem_of_getElem? (i := 6) rfl)) (ht _ (wr_2 _ (List.mem_of_getElem? (i := 10) rfl))) (by decide +kernel) ⟨Nat.le_of_ble_eq_true rfl, Nat.le_of_ble_eq_true rfl⟩, rfl, (ht _ (wr_6 _ (List.mem_of_getElem? (i := 12) rfl)))⟩ ⟨PW_blind, PW_call hPc hDc hKc hS hG hFc⟩ rfl rfl hl.1 rfl (lv_room (Nat.le_of_ble_eq_true rfl)) dX11_init_81 ⟨Nat.le_of_ble_eq_true rfl, Nat.le_of_ble_eq_true rfl⟩) hS (fun q _ h => hFc q h) hFc (fun u t H1 locs ht9 hvm hw hB hz1 hk1 hS => ?_)
  obtain ⟨hP1, hK1, hD1⟩ := hB
  rw [ht9] at hP1
  have hK1 := va_K.moved hvm.symm hK1
  obtain ⟨hP, hD⟩ := va_join (wr := [(ox, .inr (13, [.ref q_1, .ref q_2, .ref q_3, .ref q_4, .ref q_6, .ref q_8, .ref q_9, .null, .null, .null, .null, .int 0])), (q_1, .inr (1, [.int 0, .ref de, .int 0])), (q_2, .inr (1, [.int 0, .ref de, .int 0])), (q_3, .inr (1, [.int 0, .ref de, .int 0])), (q_4, .inl (cA_5, 6, .inr (.inr (.inr (.inr (fun _ => none)))))), (q_6, .inl (cA_7, 6, .inl (fun _ => 0)))]) (w1 := []) hP hD [6] [0, 1, 2, 3, 4, 5] rfl rfl (by decide) (by decide) hk1 hFc hP1 hD1
  have hK := (hK.sub (tys' := [(cA_5, .object "Levelsmith$Player"), (cA_7, .int)]) [0, 1] rfl).app hK1
  generalize H1 = H at hP hS ⊢
  replace hP : va_P (dC, dI) vwCl [(ox, .inr (13, [.ref q_1, .ref q_2, .ref q_3, .ref q_4, .ref q_6, .ref q_8, .ref q_9, .null, .null, .null, .null, .int 0])), (q_1, .inr (1, [.int 0, .ref de, .int 0])), (q_2, .inr (1, [.int 0, .ref de, .int 0])), (q_3, .inr (1, [.int 0, .ref de, .int 0])), (q_4, .inl (cA_5, 6, .inr (.inr (.inr (.inr (fun _ => none)))))), (q_6, .inl (cA_7, 6, .inl (fun _ => 0)))] H := hP
  replace hD : va_D A [(ox, .inr (13, [.ref q_1, .ref q_2, .ref q_3, .ref q_4, .ref q_6, .ref q_8, .ref q_9, .null, .null, .null, .null, .int 0])), (q_1, .inr (1, [.int 0, .ref de, .int 0])), (q_2, .inr (1, [.int 0, .ref de, .int 0])), (q_3, .inr (1, [.int 0, .ref de, .int 0])), (q_4, .inl (cA_5, 6, .inr (.inr (.inr (.inr (fun _ => none)))))), (q_6, .inl (cA_7, 6, .inl (fun _ => 0)))] := hD
  have hK : va_K (dC, dI) vwCl [(cA_5, .object "Levelsmith$Player"), (cA_7, .int)] s := hK
  refine W.widen (k := 32) (n := 388338) (Nat.le_of_ble_eq_true rfl) (Nat.le_of_ble_eq_true rfl) ?_
  have hw_81 := hw
  refine va_putF (D := (dC, dI)) (ci := 13) (v := .ref q_10) (ty := .object "Levelsmith$Probe") (C := RX11) (T := TX11) (N := 12) hx hb ht inlX11 tyX11 tyX11_ok nmX11 hown hK hP hD hS 0 rfl rfl 7 (by decide) (ht _ (wr_2 _ (List.mem_of_getElem? (i := 11) rfl))) (fun _ h9 => h9) rfl hin rfl (by decide +kernel) rfl rfl (Nat.le_of_ble_eq_true rfl) dX11_init_84 (fun H locs hP hD hS => ?_)
  replace hP : va_P (dC, dI) vwCl [(ox, .inr (13, [.ref q_1, .ref q_2, .ref q_3, .ref q_4, .ref q_6, .ref q_8, .ref q_9, .ref q_10, .null, .null, .null, .int 0])), (q_1, .inr (1, [.int 0, .ref de, .int 0])), (q_2, .inr (1, [.int 0, .ref de, .int 0])), (q_3, .inr (1, [.int 0, .ref de, .int 0])), (q_4, .inl (cA_5, 6, .inr (.inr (.inr (.inr (fun _ => none)))))), (q_6, .inl (cA_7, 6, .inl (fun _ => 0)))] H := hP
  replace hD : va_D A [(ox, .inr (13, [.ref q_1, .ref q_2, .ref q_3, .ref q_4, .ref q_6, .ref q_8, .ref q_9, .ref q_10, .null, .null, .null, .int 0])), (q_1, .inr (1, [.int 0, .ref de, .int 0])), (q_2, .inr (1, [.int 0, .ref de, .int 0])), (q_3, .inr (1, [.int 0, .ref de, .int 0])), (q_4, .inl (cA_5, 6, .inr (.inr (.inr (.inr (fun _ => none)))))), (q_6, .inl (cA_7, 6, .inl (fun _ => 0)))] := hD
  refine lv_aload_n hx hb dX11_init_87 rfl (lv_at hl 0 rfl) ?_
  refine va_new (ci := 5) (fs := [.null, .null, .int 0, .int 0, .int 0, .int 0]) (C := RX3) (T := TX3) (N := 6) hx hb ht inlX3 tyX3 tyX3_ok hown (ht _ (wr_2 _ (List.mem_of_getElem? (i := 12) rfl))) (ht _ (wr_2 _ (List.mem_of_getElem? (i := 13) rfl))) (ht _ (wr_2 _ (List.mem_of_getElem? (i := 14) rfl))) hK hP hD hS hA rfl (fun j hj => match j, hj with | 0, _ => rfl | 1, _ => rfl | 2, _ => rfl | 3, _ => rfl | 4, _ => rfl | 5, _ => rfl | j + 6, h => absurd h (by omega)) (Nat.le_of_ble_eq_true rfl) (Nat.le_of_ble_eq_true rfl) dX11_init_88 (fun q_11 H hP hD hS => ?_)
  replace hP : va_P (dC, dI) vwCl [(ox, .inr (13, [.ref q_1, .ref q_2, .ref q_3, .ref q_4, .ref q_6, .ref q_8, .ref q_9, .ref q_10, .null, .null, .null, .int 0])), (q_1, .inr (1, [.int 0, .ref de, .int 0])), (q_2, .inr (1, [.int 0, .ref de, .int 0])), (q_3, .inr (1, [.int 0, .ref de, .int 0])), (q_4, .inl (cA_5, 6, .inr (.inr (.inr (.inr (fun _ => none)))))), (q_6, .inl (cA_7, 6, .inl (fun _ => 0))), (q_11, .inr (5, [.null, .null, .int 0, .int 0, .int 0, .int 0]))] H := hP
  replace hD : va_D A [(ox, .inr (13, [.ref q_1, .ref q_2, .ref q_3, .ref q_4, .ref q_6, .ref q_8, .ref q_9, .ref q_10, .null, .null, .null, .int 0])), (q_1, .inr (1, [.int 0, .ref de, .int 0])), (q_2, .inr (1, [.int 0, .ref de, .int 0])), (q_3, .inr (1, [.int 0, .ref de, .int 0])), (q_4, .inl (cA_5, 6, .inr (.inr (.inr (.inr (fun _ => none)))))), (q_6, .inl (cA_7, 6, .inl (fun _ => 0))), (q_11, .inr (5, [.null, .null, .int 0, .int 0, .int 0, .int 0]))] := hD
  refine W.widen (k := 33) (n := 388344) (Nat.le_of_ble_eq_true rfl) (Nat.le_of_ble_eq_true rfl) ?_
  refine lv_dup hx hb dX11_init_91 rfl ?_
  have hPc := hP.sub (ws' := [(q_11, .inr (5, [.null, .null, .int 0, .int 0, .int 0, .int 0]))]) [6] rfl
  have hDc := hD.sub (ws' := [(q_11, .inr (5, [.null, .null, .int 0, .int 0, .int 0, .int 0]))]) [6] (by decide) rfl
  have hKc := hK.sub (tys' := []) [] rfl
  have hFc := va_free (wc := [(q_11, .inr (5, [.null, .null, .int 0, .int 0, .int 0, .int 0]))]) hD hS hA [6] rfl
  refine va_callv (va_runIN (As := []) (rest := [.ref q_11, .ref ox]) ⟨hx, hb, hml, hown, ht⟩ (c_X3_init l dC dI de (q_11) H.size) ⟨va_cnB 0 ht (gWI (wr_7 _ (List.mem_of_getElem? (i := 5) rfl))) rfl rfl rfl (hG.2.2.1 ("Levelsmith", 55, yX3_init, "Levelsmith") (List.mem_of_getElem? (i := 9) rfl)) (ht _ (wr_2 _ (List.mem_of_getElem? (i := 14) rfl))) (by decide +kernel) ⟨Nat.le_of_ble_eq_true rfl, Nat.le_of_ble_eq_true rfl⟩, rfl, (ht _ (wr_7 _ (List.mem_of_getElem? (i := 4) rfl)))⟩ ⟨PW_blind, PW_call hPc hDc hKc hS hG hFc⟩ rfl rfl hl.1 rfl (lv_room (Nat.le_of_ble_eq_true rfl)) dX11_init_92 ⟨Nat.le_of_ble_eq_true rfl, Nat.le_of_ble_eq_true rfl⟩) hS (fun q _ h => hFc q h) hFc (fun u t H1 locs ht9 hvm hw hB hz1 hk1 hS => ?_)
  obtain ⟨gpl_12, gin_13, hP1, hK1, hD1⟩ := hB
  rw [ht9] at hP1
  have hK1 := va_K.moved hvm.symm hK1
  obtain ⟨hP, hD⟩ := va_join (wr := [(ox, .inr (13, [.ref q_1, .ref q_2, .ref q_3, .ref q_4, .ref q_6, .ref q_8, .ref q_9, .ref q_10, .null, .null, .null, .int 0])), (q_1, .inr (1, [.int 0, .ref de, .int 0])), (q_2, .inr (1, [.int 0, .ref de, .int 0])), (q_3, .inr (1, [.int 0, .ref de, .int 0])), (q_4, .inl (cA_5, 6, .inr (.inr (.inr (.inr (fun _ => none)))))), (q_6, .inl (cA_7, 6, .inl (fun _ => 0)))]) (w1 := [(q_11, .inr (5, [.ref gpl_12, .ref gin_13, .int (-1), .int 0, .int 112, .int 0]))]) hP hD [6] [0, 1, 2, 3, 4, 5] rfl rfl (by decide) (by decide) hk1 hFc hP1 hD1
  have hK := (hK.sub (tys' := [(cA_5, .object "Levelsmith$Player"), (cA_7, .int)]) [0, 1] rfl).app hK1
  generalize H1 = H at hP hS ⊢
  replace hP : va_P (dC, dI) vwCl [(ox, .inr (13, [.ref q_1, .ref q_2, .ref q_3, .ref q_4, .ref q_6, .ref q_8, .ref q_9, .ref q_10, .null, .null, .null, .int 0])), (q_1, .inr (1, [.int 0, .ref de, .int 0])), (q_2, .inr (1, [.int 0, .ref de, .int 0])), (q_3, .inr (1, [.int 0, .ref de, .int 0])), (q_4, .inl (cA_5, 6, .inr (.inr (.inr (.inr (fun _ => none)))))), (q_6, .inl (cA_7, 6, .inl (fun _ => 0))), (q_11, .inr (5, [.ref gpl_12, .ref gin_13, .int (-1), .int 0, .int 112, .int 0]))] H := hP
  replace hD : va_D A [(ox, .inr (13, [.ref q_1, .ref q_2, .ref q_3, .ref q_4, .ref q_6, .ref q_8, .ref q_9, .ref q_10, .null, .null, .null, .int 0])), (q_1, .inr (1, [.int 0, .ref de, .int 0])), (q_2, .inr (1, [.int 0, .ref de, .int 0])), (q_3, .inr (1, [.int 0, .ref de, .int 0])), (q_4, .inl (cA_5, 6, .inr (.inr (.inr (.inr (fun _ => none)))))), (q_6, .inl (cA_7, 6, .inl (fun _ => 0))), (q_11, .inr (5, [.ref gpl_12, .ref gin_13, .int (-1), .int 0, .int 112, .int 0]))] := hD
  have hK : va_K (dC, dI) vwCl [(cA_5, .object "Levelsmith$Player"), (cA_7, .int)] s := hK
  refine W.widen (k := 35) (n := 388500) (Nat.le_of_ble_eq_true rfl) (Nat.le_of_ble_eq_true rfl) ?_
  have hw_92 := hw
  refine va_putF (D := (dC, dI)) (ci := 13) (v := .ref q_11) (ty := .object "Levelsmith$Game") (C := RX11) (T := TX11) (N := 12) hx hb ht inlX11 tyX11 tyX11_ok nmX11 hown hK hP hD hS 0 rfl rfl 8 (by decide) (ht _ (wr_2 _ (List.mem_of_getElem? (i := 15) rfl))) (fun _ h9 => h9) rfl hin rfl (by decide +kernel) rfl rfl (Nat.le_of_ble_eq_true rfl) dX11_init_95 (fun H locs hP hD hS => ?_)
  replace hP : va_P (dC, dI) vwCl [(ox, .inr (13, [.ref q_1, .ref q_2, .ref q_3, .ref q_4, .ref q_6, .ref q_8, .ref q_9, .ref q_10, .ref q_11, .null, .null, .int 0])), (q_1, .inr (1, [.int 0, .ref de, .int 0])), (q_2, .inr (1, [.int 0, .ref de, .int 0])), (q_3, .inr (1, [.int 0, .ref de, .int 0])), (q_4, .inl (cA_5, 6, .inr (.inr (.inr (.inr (fun _ => none)))))), (q_6, .inl (cA_7, 6, .inl (fun _ => 0))), (q_11, .inr (5, [.ref gpl_12, .ref gin_13, .int (-1), .int 0, .int 112, .int 0]))] H := hP
  replace hD : va_D A [(ox, .inr (13, [.ref q_1, .ref q_2, .ref q_3, .ref q_4, .ref q_6, .ref q_8, .ref q_9, .ref q_10, .ref q_11, .null, .null, .int 0])), (q_1, .inr (1, [.int 0, .ref de, .int 0])), (q_2, .inr (1, [.int 0, .ref de, .int 0])), (q_3, .inr (1, [.int 0, .ref de, .int 0])), (q_4, .inl (cA_5, 6, .inr (.inr (.inr (.inr (fun _ => none)))))), (q_6, .inl (cA_7, 6, .inl (fun _ => 0))), (q_11, .inr (5, [.ref gpl_12, .ref gin_13, .int (-1), .int 0, .int 112, .int 0]))] := hD
  refine lv_aload_n hx hb dX11_init_98 rfl (lv_at hl 0 rfl) ?_
  refine va_new (ci := 5) (fs := [.null, .null, .int 0, .int 0, .int 0, .int 0]) (C := RX3) (T := TX3) (N := 6) hx hb ht inlX3 tyX3 tyX3_ok hown (ht _ (wr_2 _ (List.mem_of_getElem? (i := 12) rfl))) (ht _ (wr_2 _ (List.mem_of_getElem? (i := 13) rfl))) (ht _ (wr_2 _ (List.mem_of_getElem? (i := 14) rfl))) hK hP hD hS hA rfl (fun j hj => match j, hj with | 0, _ => rfl | 1, _ => rfl | 2, _ => rfl | 3, _ => rfl | 4, _ => rfl | 5, _ => rfl | j + 6, h => absurd h (by omega)) (Nat.le_of_ble_eq_true rfl) (Nat.le_of_ble_eq_true rfl) dX11_init_99 (fun q_14 H hP hD hS => ?_)
  replace hP : va_P (dC, dI) vwCl [(ox, .inr (13, [.ref q_1, .ref q_2, .ref q_3, .ref q_4, .ref q_6, .ref q_8, .ref q_9, .ref q_10, .ref q_11, .null, .null, .int 0])), (q_1, .inr (1, [.int 0, .ref de, .int 0])), (q_2, .inr (1, [.int 0, .ref de, .int 0])), (q_3, .inr (1, [.int 0, .ref de, .int 0])), (q_4, .inl (cA_5, 6, .inr (.inr (.inr (.inr (fun _ => none)))))), (q_6, .inl (cA_7, 6, .inl (fun _ => 0))), (q_11, .inr (5, [.ref gpl_12, .ref gin_13, .int (-1), .int 0, .int 112, .int 0])), (q_14, .inr (5, [.null, .null, .int 0, .int 0, .int 0, .int 0]))] H := hP
  replace hD : va_D A [(ox, .inr (13, [.ref q_1, .ref q_2, .ref q_3, .ref q_4, .ref q_6, .ref q_8, .ref q_9, .ref q_10, .ref q_11, .null, .null, .int 0])), (q_1, .inr (1, [.int 0, .ref de, .int 0])), (q_2, .inr (1, [.int 0, .ref de, .int 0])), (q_3, .inr (1, [.int 0, .ref de, .int 0])), (q_4, .inl (cA_5, 6, .inr (.inr (.inr (.inr (fun _ => none)))))), (q_6, .inl (cA_7, 6, .inl (fun _ => 0))), (q_11, .inr (5, [.ref gpl_12, .ref gin_13, .int (-1), .int 0, .int 112, .int 0])), (q_14, .inr (5, [.null, .null, .int 0, .int 0, .int 0, .int 0]))] := hD
  refine W.widen (k := 36) (n := 388506) (Nat.le_of_ble_eq_true rfl) (Nat.le_of_ble_eq_true rfl) ?_
  refine lv_dup hx hb dX11_init_102 rfl ?_
  have hPc := hP.sub (ws' := [(q_14, .inr (5, [.null, .null, .int 0, .int 0, .int 0, .int 0]))]) [7] rfl
  have hDc := hD.sub (ws' := [(q_14, .inr (5, [.null, .null, .int 0, .int 0, .int 0, .int 0]))]) [7] (by decide) rfl
  have hKc := hK.sub (tys' := []) [] rfl
  have hFc := va_free (wc := [(q_14, .inr (5, [.null, .null, .int 0, .int 0, .int 0, .int 0]))]) hD hS hA [7] rfl
  refine va_callv (va_runIN (As := []) (rest := [.ref q_14, .ref ox]) ⟨hx, hb, hml, hown, ht⟩ (c_X3_init l dC dI de (q_14) H.size) ⟨va_cnB 0 ht (gWI (wr_7 _ (List.mem_of_getElem? (i := 5) rfl))) rfl rfl rfl (hG.2.2.1 ("Levelsmith", 55, yX3_init, "Levelsmith") (List.mem_of_getElem? (i := 9) rfl)) (ht _ (wr_2 _ (List.mem_of_getElem? (i := 14) rfl))) (by decide +kernel) ⟨Nat.le_of_ble_eq_true rfl, Nat.le_of_ble_eq_true rfl⟩, rfl, (ht _ (wr_7 _ (List.mem_of_getElem? (i := 4) rfl)))⟩ ⟨PW_blind, PW_call hPc hDc hKc hS hG hFc⟩ rfl rfl hl.1 rfl (lv_room (Nat.le_of_ble_eq_true rfl)) dX11_init_103 ⟨Nat.le_of_ble_eq_true rfl, Nat.le_of_ble_eq_true rfl⟩) hS (fun q _ h => hFc q h) hFc (fun u t H1 locs ht9 hvm hw hB hz1 hk1 hS => ?_)
  obtain ⟨gpl_15, gin_16, hP1, hK1, hD1⟩ := hB
  rw [ht9] at hP1
  have hK1 := va_K.moved hvm.symm hK1
  obtain ⟨hP, hD⟩ := va_join (wr := [(ox, .inr (13, [.ref q_1, .ref q_2, .ref q_3, .ref q_4, .ref q_6, .ref q_8, .ref q_9, .ref q_10, .ref q_11, .null, .null, .int 0])), (q_1, .inr (1, [.int 0, .ref de, .int 0])), (q_2, .inr (1, [.int 0, .ref de, .int 0])), (q_3, .inr (1, [.int 0, .ref de, .int 0])), (q_4, .inl (cA_5, 6, .inr (.inr (.inr (.inr (fun _ => none)))))), (q_6, .inl (cA_7, 6, .inl (fun _ => 0))), (q_11, .inr (5, [.ref gpl_12, .ref gin_13, .int (-1), .int 0, .int 112, .int 0]))]) (w1 := [(q_14, .inr (5, [.ref gpl_15, .ref gin_16, .int (-1), .int 0, .int 112, .int 0]))]) hP hD [7] [0, 1, 2, 3, 4, 5, 6] rfl rfl (by decide) (by decide) hk1 hFc hP1 hD1
  have hK := (hK.sub (tys' := [(cA_5, .object "Levelsmith$Player"), (cA_7, .int)]) [0, 1] rfl).app hK1
  generalize H1 = H at hP hS ⊢
  replace hP : va_P (dC, dI) vwCl [(ox, .inr (13, [.ref q_1, .ref q_2, .ref q_3, .ref q_4, .ref q_6, .ref q_8, .ref q_9, .ref q_10, .ref q_11, .null, .null, .int 0])), (q_1, .inr (1, [.int 0, .ref de, .int 0])), (q_2, .inr (1, [.int 0, .ref de, .int 0])), (q_3, .inr (1, [.int 0, .ref de, .int 0])), (q_4, .inl (cA_5, 6, .inr (.inr (.inr (.inr (fun _ => none)))))), (q_6, .inl (cA_7, 6, .inl (fun _ => 0))), (q_11, .inr (5, [.ref gpl_12, .ref gin_13, .int (-1), .int 0, .int 112, .int 0])), (q_14, .inr (5, [.ref gpl_15, .ref gin_16, .int (-1), .int 0, .int 112, .int 0]))] H := hP
  replace hD : va_D A [(ox, .inr (13, [.ref q_1, .ref q_2, .ref q_3, .ref q_4, .ref q_6, .ref q_8, .ref q_9, .ref q_10, .ref q_11, .null, .null, .int 0])), (q_1, .inr (1, [.int 0, .ref de, .int 0])), (q_2, .inr (1, [.int 0, .ref de, .int 0])), (q_3, .inr (1, [.int 0, .ref de, .int 0])), (q_4, .inl (cA_5, 6, .inr (.inr (.inr (.inr (fun _ => none)))))), (q_6, .inl (cA_7, 6, .inl (fun _ => 0))), (q_11, .inr (5, [.ref gpl_12, .ref gin_13, .int (-1), .int 0, .int 112, .int 0])), (q_14, .inr (5, [.ref gpl_15, .ref gin_16, .int (-1), .int 0, .int 112, .int 0]))] := hD
  have hK : va_K (dC, dI) vwCl [(cA_5, .object "Levelsmith$Player"), (cA_7, .int)] s := hK
  refine W.widen (k := 38) (n := 388662) (Nat.le_of_ble_eq_true rfl) (Nat.le_of_ble_eq_true rfl) ?_
  have hw_103 := hw
  refine va_putF (D := (dC, dI)) (ci := 13) (v := .ref q_14) (ty := .object "Levelsmith$Game") (C := RX11) (T := TX11) (N := 12) hx hb ht inlX11 tyX11 tyX11_ok nmX11 hown hK hP hD hS 0 rfl rfl 9 (by decide) (ht _ (wr_2 _ (List.mem_of_getElem? (i := 16) rfl))) (fun _ h9 => h9) rfl hin rfl (by decide +kernel) rfl rfl (Nat.le_of_ble_eq_true rfl) dX11_init_106 (fun H locs hP hD hS => ?_)
  replace hP : va_P (dC, dI) vwCl [(ox, .inr (13, [.ref q_1, .ref q_2, .ref q_3, .ref q_4, .ref q_6, .ref q_8, .ref q_9, .ref q_10, .ref q_11, .ref q_14, .null, .int 0])), (q_1, .inr (1, [.int 0, .ref de, .int 0])), (q_2, .inr (1, [.int 0, .ref de, .int 0])), (q_3, .inr (1, [.int 0, .ref de, .int 0])), (q_4, .inl (cA_5, 6, .inr (.inr (.inr (.inr (fun _ => none)))))), (q_6, .inl (cA_7, 6, .inl (fun _ => 0))), (q_11, .inr (5, [.ref gpl_12, .ref gin_13, .int (-1), .int 0, .int 112, .int 0])), (q_14, .inr (5, [.ref gpl_15, .ref gin_16, .int (-1), .int 0, .int 112, .int 0]))] H := hP
  replace hD : va_D A [(ox, .inr (13, [.ref q_1, .ref q_2, .ref q_3, .ref q_4, .ref q_6, .ref q_8, .ref q_9, .ref q_10, .ref q_11, .ref q_14, .null, .int 0])), (q_1, .inr (1, [.int 0, .ref de, .int 0])), (q_2, .inr (1, [.int 0, .ref de, .int 0])), (q_3, .inr (1, [.int 0, .ref de, .int 0])), (q_4, .inl (cA_5, 6, .inr (.inr (.inr (.inr (fun _ => none)))))), (q_6, .inl (cA_7, 6, .inl (fun _ => 0))), (q_11, .inr (5, [.ref gpl_12, .ref gin_13, .int (-1), .int 0, .int 112, .int 0])), (q_14, .inr (5, [.ref gpl_15, .ref gin_16, .int (-1), .int 0, .int 112, .int 0]))] := hD
  refine lv_aload_n hx hb dX11_init_109 rfl (lv_at hl 0 rfl) ?_
  refine va_new (ci := 2) (fs := [.null, .null, .null, .int 0, .int 0]) (C := RX0) (T := TX0) (N := 5) hx hb ht inlX0 tyX0 tyX0_ok hown (ht _ (wr_2 _ (List.mem_of_getElem? (i := 17) rfl))) (ht _ (wr_2 _ (List.mem_of_getElem? (i := 18) rfl))) (ht _ (wr_2 _ (List.mem_of_getElem? (i := 19) rfl))) hK hP hD hS hA rfl (fun j hj => match j, hj with | 0, _ => rfl | 1, _ => rfl | 2, _ => rfl | 3, _ => rfl | 4, _ => rfl | j + 5, h => absurd h (by omega)) (Nat.le_of_ble_eq_true rfl) (Nat.le_of_ble_eq_true rfl) dX11_init_110 (fun q_17 H hP hD hS => ?_)
  replace hP : va_P (dC, dI) vwCl [(ox, .inr (13, [.ref q_1, .ref q_2, .ref q_3, .ref q_4, .ref q_6, .ref q_8, .ref q_9, .ref q_10, .ref q_11, .ref q_14, .null, .int 0])), (q_1, .inr (1, [.int 0, .ref de, .int 0])), (q_2, .inr (1, [.int 0, .ref de, .int 0])), (q_3, .inr (1, [.int 0, .ref de, .int 0])), (q_4, .inl (cA_5, 6, .inr (.inr (.inr (.inr (fun _ => none)))))), (q_6, .inl (cA_7, 6, .inl (fun _ => 0))), (q_11, .inr (5, [.ref gpl_12, .ref gin_13, .int (-1), .int 0, .int 112, .int 0])), (q_14, .inr (5, [.ref gpl_15, .ref gin_16, .int (-1), .int 0, .int 112, .int 0])), (q_17, .inr (2, [.null, .null, .null, .int 0, .int 0]))] H := hP
  replace hD : va_D A [(ox, .inr (13, [.ref q_1, .ref q_2, .ref q_3, .ref q_4, .ref q_6, .ref q_8, .ref q_9, .ref q_10, .ref q_11, .ref q_14, .null, .int 0])), (q_1, .inr (1, [.int 0, .ref de, .int 0])), (q_2, .inr (1, [.int 0, .ref de, .int 0])), (q_3, .inr (1, [.int 0, .ref de, .int 0])), (q_4, .inl (cA_5, 6, .inr (.inr (.inr (.inr (fun _ => none)))))), (q_6, .inl (cA_7, 6, .inl (fun _ => 0))), (q_11, .inr (5, [.ref gpl_12, .ref gin_13, .int (-1), .int 0, .int 112, .int 0])), (q_14, .inr (5, [.ref gpl_15, .ref gin_16, .int (-1), .int 0, .int 112, .int 0])), (q_17, .inr (2, [.null, .null, .null, .int 0, .int 0]))] := hD
  refine W.widen (k := 39) (n := 388667) (Nat.le_of_ble_eq_true rfl) (Nat.le_of_ble_eq_true rfl) ?_
  refine lv_dup hx hb dX11_init_113 rfl ?_
  have hPc := hP.sub (ws' := [(q_17, .inr (2, [.null, .null, .null, .int 0, .int 0]))]) [8] rfl
  have hDc := hD.sub (ws' := [(q_17, .inr (2, [.null, .null, .null, .int 0, .int 0]))]) [8] (by decide) rfl
  have hKc := hK.sub (tys' := []) [] rfl
  have hFc := va_free (wc := [(q_17, .inr (2, [.null, .null, .null, .int 0, .int 0]))]) hD hS hA [8] rfl
  refine va_callv (va_runIN (As := []) (rest := [.ref q_17, .ref ox]) ⟨hx, hb, hml, hown, ht⟩ (c_X0_init l dC dI de (q_17) H.size) ⟨va_cnB 0 ht (gWI (wr_7 _ (List.mem_of_getElem? (i := 15) rfl))) rfl rfl rfl (hG.2.2.1 ("Levelsmith", 65, yX0_init, "Levelsmith") (List.mem_of_getElem? (i := 11) rfl)) (ht _ (wr_2 _ (List.mem_of_getElem? (i := 19) rfl))) (by decide +kernel) ⟨Nat.le_of_ble_eq_true rfl, Nat.le_of_ble_eq_true rfl⟩, rfl, (ht _ (wr_7 _ (List.mem_of_getElem? (i := 14) rfl)))⟩ ⟨PW_blind, PW_call hPc hDc hKc hS hG hFc⟩ rfl rfl hl.1 rfl (lv_room (Nat.le_of_ble_eq_true rfl)) dX11_init_114 ⟨Nat.le_of_ble_eq_true rfl, Nat.le_of_ble_eq_true rfl⟩) hS (fun q _ h => hFc q h) hFc (fun u t H1 locs ht9 hvm hw hB hz1 hk1 hS => ?_)
  obtain ⟨fa_18, bbe_19, bdi_20, cI_21, hP1, hK1, hD1⟩ := hB
  rw [ht9] at hP1
  have hK1 := va_K.moved hvm.symm hK1
  obtain ⟨hP, hD⟩ := va_join (wr := [(ox, .inr (13, [.ref q_1, .ref q_2, .ref q_3, .ref q_4, .ref q_6, .ref q_8, .ref q_9, .ref q_10, .ref q_11, .ref q_14, .null, .int 0])), (q_1, .inr (1, [.int 0, .ref de, .int 0])), (q_2, .inr (1, [.int 0, .ref de, .int 0])), (q_3, .inr (1, [.int 0, .ref de, .int 0])), (q_4, .inl (cA_5, 6, .inr (.inr (.inr (.inr (fun _ => none)))))), (q_6, .inl (cA_7, 6, .inl (fun _ => 0))), (q_11, .inr (5, [.ref gpl_12, .ref gin_13, .int (-1), .int 0, .int 112, .int 0])), (q_14, .inr (5, [.ref gpl_15, .ref gin_16, .int (-1), .int 0, .int 112, .int 0]))]) (w1 := [(q_17, .inr (2, [.ref fa_18, .ref bbe_19, .ref bdi_20, .int 0, .int 0])), (fa_18, .inl (cI_21, 96, .inl (fun _ => 0)))]) hP hD [8] [0, 1, 2, 3, 4, 5, 6, 7] rfl rfl (by decide) (by decide) hk1 hFc hP1 hD1
  have hK := (hK.sub (tys' := [(cA_5, .object "Levelsmith$Player"), (cA_7, .int)]) [0, 1] rfl).app hK1
  generalize H1 = H at hP hS ⊢
  replace hP : va_P (dC, dI) vwCl [(ox, .inr (13, [.ref q_1, .ref q_2, .ref q_3, .ref q_4, .ref q_6, .ref q_8, .ref q_9, .ref q_10, .ref q_11, .ref q_14, .null, .int 0])), (q_1, .inr (1, [.int 0, .ref de, .int 0])), (q_2, .inr (1, [.int 0, .ref de, .int 0])), (q_3, .inr (1, [.int 0, .ref de, .int 0])), (q_4, .inl (cA_5, 6, .inr (.inr (.inr (.inr (fun _ => none)))))), (q_6, .inl (cA_7, 6, .inl (fun _ => 0))), (q_11, .inr (5, [.ref gpl_12, .ref gin_13, .int (-1), .int 0, .int 112, .int 0])), (q_14, .inr (5, [.ref gpl_15, .ref gin_16, .int (-1), .int 0, .int 112, .int 0])), (q_17, .inr (2, [.ref fa_18, .ref bbe_19, .ref bdi_20, .int 0, .int 0])), (fa_18, .inl (cI_21, 96, .inl (fun _ => 0)))] H := hP
  replace hD : va_D A [(ox, .inr (13, [.ref q_1, .ref q_2, .ref q_3, .ref q_4, .ref q_6, .ref q_8, .ref q_9, .ref q_10, .ref q_11, .ref q_14, .null, .int 0])), (q_1, .inr (1, [.int 0, .ref de, .int 0])), (q_2, .inr (1, [.int 0, .ref de, .int 0])), (q_3, .inr (1, [.int 0, .ref de, .int 0])), (q_4, .inl (cA_5, 6, .inr (.inr (.inr (.inr (fun _ => none)))))), (q_6, .inl (cA_7, 6, .inl (fun _ => 0))), (q_11, .inr (5, [.ref gpl_12, .ref gin_13, .int (-1), .int 0, .int 112, .int 0])), (q_14, .inr (5, [.ref gpl_15, .ref gin_16, .int (-1), .int 0, .int 112, .int 0])), (q_17, .inr (2, [.ref fa_18, .ref bbe_19, .ref bdi_20, .int 0, .int 0])), (fa_18, .inl (cI_21, 96, .inl (fun _ => 0)))] := hD
  have hK : va_K (dC, dI) vwCl [(cA_5, .object "Levelsmith$Player"), (cA_7, .int), (cI_21, .int)] s := hK
  refine W.widen (k := 42) (n := 388964) (Nat.le_of_ble_eq_true rfl) (Nat.le_of_ble_eq_true rfl) ?_
  have hw_114 := hw
  refine va_putF (D := (dC, dI)) (ci := 13) (v := .ref q_17) (ty := .object "Levelsmith$Bot") (C := RX11) (T := TX11) (N := 12) hx hb ht inlX11 tyX11 tyX11_ok nmX11 hown hK hP hD hS 0 rfl rfl 10 (by decide) (ht _ (wr_2 _ (List.mem_of_getElem? (i := 20) rfl))) (fun _ h9 => h9) rfl hin rfl (by decide +kernel) rfl rfl (Nat.le_of_ble_eq_true rfl) dX11_init_117 (fun H locs hP hD hS => ?_)
  replace hP : va_P (dC, dI) vwCl [(ox, .inr (13, [.ref q_1, .ref q_2, .ref q_3, .ref q_4, .ref q_6, .ref q_8, .ref q_9, .ref q_10, .ref q_11, .ref q_14, .ref q_17, .int 0])), (q_1, .inr (1, [.int 0, .ref de, .int 0])), (q_2, .inr (1, [.int 0, .ref de, .int 0])), (q_3, .inr (1, [.int 0, .ref de, .int 0])), (q_4, .inl (cA_5, 6, .inr (.inr (.inr (.inr (fun _ => none)))))), (q_6, .inl (cA_7, 6, .inl (fun _ => 0))), (q_11, .inr (5, [.ref gpl_12, .ref gin_13, .int (-1), .int 0, .int 112, .int 0])), (q_14, .inr (5, [.ref gpl_15, .ref gin_16, .int (-1), .int 0, .int 112, .int 0])), (q_17, .inr (2, [.ref fa_18, .ref bbe_19, .ref bdi_20, .int 0, .int 0])), (fa_18, .inl (cI_21, 96, .inl (fun _ => 0)))] H := hP
  replace hD : va_D A [(ox, .inr (13, [.ref q_1, .ref q_2, .ref q_3, .ref q_4, .ref q_6, .ref q_8, .ref q_9, .ref q_10, .ref q_11, .ref q_14, .ref q_17, .int 0])), (q_1, .inr (1, [.int 0, .ref de, .int 0])), (q_2, .inr (1, [.int 0, .ref de, .int 0])), (q_3, .inr (1, [.int 0, .ref de, .int 0])), (q_4, .inl (cA_5, 6, .inr (.inr (.inr (.inr (fun _ => none)))))), (q_6, .inl (cA_7, 6, .inl (fun _ => 0))), (q_11, .inr (5, [.ref gpl_12, .ref gin_13, .int (-1), .int 0, .int 112, .int 0])), (q_14, .inr (5, [.ref gpl_15, .ref gin_16, .int (-1), .int 0, .int 112, .int 0])), (q_17, .inr (2, [.ref fa_18, .ref bbe_19, .ref bdi_20, .int 0, .int 0])), (fa_18, .inl (cI_21, 96, .inl (fun _ => 0)))] := hD
  refine lv_aload_n hx hb dX11_init_120 rfl (lv_at hl 0 rfl) ?_
  refine lv_iconst (v := 0) hx hb dX11_init_121 (by decide) ?_
  refine va_put (D := (dC, dI)) (ci := 13) (v := .int 0) (ty := .int) (C := RX11) (T := TX11) (N := 12) hx hb ht inlX11 tyX11 tyX11_ok nmX11 hown hK hP hD hS 0 rfl rfl 11 (by decide) (ht _ (wr_2 _ (List.mem_of_getElem? (i := 21) rfl))) (fun _ h9 => h9) rfl (by decide +kernel) rfl rfl (Nat.le_of_ble_eq_true rfl) dX11_init_122 (fun H locs hP hD hS => ?_)
  replace hP : va_P (dC, dI) vwCl [(ox, .inr (13, [.ref q_1, .ref q_2, .ref q_3, .ref q_4, .ref q_6, .ref q_8, .ref q_9, .ref q_10, .ref q_11, .ref q_14, .ref q_17, .int 0])), (q_1, .inr (1, [.int 0, .ref de, .int 0])), (q_2, .inr (1, [.int 0, .ref de, .int 0])), (q_3, .inr (1, [.int 0, .ref de, .int 0])), (q_4, .inl (cA_5, 6, .inr (.inr (.inr (.inr (fun _ => none)))))), (q_6, .inl (cA_7, 6, .inl (fun _ => 0))), (q_11, .inr (5, [.ref gpl_12, .ref gin_13, .int (-1), .int 0, .int 112, .int 0])), (q_14, .inr (5, [.ref gpl_15, .ref gin_16, .int (-1), .int 0, .int 112, .int 0])), (q_17, .inr (2, [.ref fa_18, .ref bbe_19, .ref bdi_20, .int 0, .int 0])), (fa_18, .inl (cI_21, 96, .inl (fun _ => 0)))] H := hP
  replace hD : va_D A [(ox, .inr (13, [.ref q_1, .ref q_2, .ref q_3, .ref q_4, .ref q_6, .ref q_8, .ref q_9, .ref q_10, .ref q_11, .ref q_14, .ref q_17, .int 0])), (q_1, .inr (1, [.int 0, .ref de, .int 0])), (q_2, .inr (1, [.int 0, .ref de, .int 0])), (q_3, .inr (1, [.int 0, .ref de, .int 0])), (q_4, .inl (cA_5, 6, .inr (.inr (.inr (.inr (fun _ => none)))))), (q_6, .inl (cA_7, 6, .inl (fun _ => 0))), (q_11, .inr (5, [.ref gpl_12, .ref gin_13, .int (-1), .int 0, .int 112, .int 0])), (q_14, .inr (5, [.ref gpl_15, .ref gin_16, .int (-1), .int 0, .int 112, .int 0])), (q_17, .inr (2, [.ref fa_18, .ref bbe_19, .ref bdi_20, .int 0, .int 0])), (fa_18, .inl (cI_21, 96, .inl (fun _ => 0)))] := hD
  have hP9 := hP.sub (ws' := [(ox, .inr (13, [.ref q_1, .ref q_2, .ref q_3, .ref q_4, .ref q_6, .ref q_8, .ref q_9, .ref q_10, .ref q_11, .ref q_14, .ref q_17, .int 0])), (q_1, .inr (1, [.int 0, .ref de, .int 0])), (q_2, .inr (1, [.int 0, .ref de, .int 0])), (q_3, .inr (1, [.int 0, .ref de, .int 0])), (q_4, .inl (cA_5, 6, .inr (.inr (.inr (.inr (fun _ => none)))))), (q_11, .inr (5, [.ref gpl_12, .ref gin_13, .int (-1), .int 0, .int 112, .int 0])), (q_17, .inr (2, [.ref fa_18, .ref bbe_19, .ref bdi_20, .int 0, .int 0])), (fa_18, .inl (cI_21, 96, .inl (fun _ => 0)))]) [0, 1, 2, 3, 4, 6, 8, 9] rfl
  have hD9 := hD.sub (ws' := [(ox, .inr (13, [.ref q_1, .ref q_2, .ref q_3, .ref q_4, .ref q_6, .ref q_8, .ref q_9, .ref q_10, .ref q_11, .ref q_14, .ref q_17, .int 0])), (q_1, .inr (1, [.int 0, .ref de, .int 0])), (q_2, .inr (1, [.int 0, .ref de, .int 0])), (q_3, .inr (1, [.int 0, .ref de, .int 0])), (q_4, .inl (cA_5, 6, .inr (.inr (.inr (.inr (fun _ => none)))))), (q_11, .inr (5, [.ref gpl_12, .ref gin_13, .int (-1), .int 0, .int 112, .int 0])), (q_17, .inr (2, [.ref fa_18, .ref bbe_19, .ref bdi_20, .int 0, .int 0])), (fa_18, .inl (cI_21, 96, .inl (fun _ => 0)))]) [0, 1, 2, 3, 4, 6, 8, 9] (by decide) rfl
  have hK9 := hK.sub (tys' := [(cA_5, .object "Levelsmith$Player"), (cI_21, .int)]) [0, 2] rfl
  exact W.vret hx hb hr (fun t htt hW => have ht := htt; ⟨⟨(), rfl, trivial, ⟨q_1, q_2, q_3, q_4, q_6, q_8, q_9, q_10, q_11, q_14, q_17, fa_18, gpl_12, gin_13, bbe_19, bdi_20, cA_5, cI_21, QW_of ht hW hP9 hK9 hD9⟩⟩, hS.F ht⟩) hS.2.2 dX11_init_125
