theorem dJxa1e45_init_da8c8_0 : decode cJxa1e45_init_da8c8 0 = .ok (.aload_n 0, 1) := by decide +kernel
theorem dJxa1e45_init_da8c8_1 : decode cJxa1e45_init_da8c8 1 = .ok (.invokespecial 1, 3) := by decide +kernel
theorem dJxa1e45_init_da8c8_4 : decode cJxa1e45_init_da8c8 4 = .ok (.return_, 1) := by decide +kernel
theorem dJxc12de_init_da8c8_0 : decode cJxc12de_init_da8c8 0 = .ok (.aload_n 0, 1) := by decide +kernel
theorem dJxc12de_init_da8c8_1 : decode cJxc12de_init_da8c8 1 = .ok (.invokespecial 1, 3) := by decide +kernel
theorem dJxc12de_init_da8c8_4 : decode cJxc12de_init_da8c8 4 = .ok (.aload_n 0, 1) := by decide +kernel
theorem dJxc12de_init_da8c8_5 : decode cJxc12de_init_da8c8 5 = .ok (.iconst 0, 1) := by decide +kernel
theorem dJxc12de_init_da8c8_6 : decode cJxc12de_init_da8c8 6 = .ok (.putfield 7, 3) := by decide +kernel
theorem dJxc12de_init_da8c8_9 : decode cJxc12de_init_da8c8 9 = .ok (.return_, 1) := by decide +kernel
theorem dJx4a65c_init_da8c8_0 : decode cJx4a65c_init_da8c8 0 = .ok (.aload_n 0, 1) := by decide +kernel
theorem dJx4a65c_init_da8c8_1 : decode cJx4a65c_init_da8c8 1 = .ok (.invokespecial 1, 3) := by decide +kernel
theorem dJx4a65c_init_da8c8_4 : decode cJx4a65c_init_da8c8 4 = .ok (.aload_n 0, 1) := by decide +kernel
theorem dJx4a65c_init_da8c8_5 : decode cJx4a65c_init_da8c8 5 = .ok (.getstatic 39, 3) := by decide +kernel
theorem dJx4a65c_init_da8c8_8 : decode cJx4a65c_init_da8c8 8 = .ok (.putfield 9, 3) := by decide +kernel
theorem dJx4a65c_init_da8c8_11 : decode cJx4a65c_init_da8c8 11 = .ok (.return_, 1) := by decide +kernel
theorem dX2_init_0 : decode cX2_init 0 = .ok (.aload_n 0, 1) := by decide +kernel
theorem dX2_init_1 : decode cX2_init 1 = .ok (.invokespecial 1, 3) := by decide +kernel
theorem dX2_init_4 : decode cX2_init 4 = .ok (.aload_n 0, 1) := by decide +kernel
theorem dX2_init_5 : decode cX2_init 5 = .ok (.iconst 1, 1) := by decide +kernel
theorem dX2_init_6 : decode cX2_init 6 = .ok (.putfield 7, 3) := by decide +kernel
theorem dX2_init_9 : decode cX2_init 9 = .ok (.return_, 1) := by decide +kernel
theorem dX1_init_0 : decode cX1_init 0 = .ok (.aload_n 0, 1) := by decide +kernel
theorem dX1_init_1 : decode cX1_init 1 = .ok (.invokespecial 3, 3) := by decide +kernel
theorem dX1_init_4 : decode cX1_init 4 = .ok (.aload_n 0, 1) := by decide +kernel
theorem dX1_init_5 : decode cX1_init 5 = .ok (.ldc 9, 2) := by decide +kernel
theorem dX1_init_7 : decode cX1_init 7 = .ok (.newarray .int, 2) := by decide +kernel
theorem dX1_init_9 : decode cX1_init 9 = .ok (.putfield 10, 3) := by decide +kernel
theorem dX1_init_12 : decode cX1_init 12 = .ok (.aload_n 0, 1) := by decide +kernel
theorem dX1_init_13 : decode cX1_init 13 = .ok (.ldc 9, 2) := by decide +kernel
theorem dX1_init_15 : decode cX1_init 15 = .ok (.newarray .int, 2) := by decide +kernel
theorem dX1_init_17 : decode cX1_init 17 = .ok (.putfield 16, 3) := by decide +kernel
theorem dX1_init_20 : decode cX1_init 20 = .ok (.aload_n 0, 1) := by decide +kernel
theorem dX1_init_21 : decode cX1_init 21 = .ok (.iconst 0, 1) := by decide +kernel
theorem dX1_init_22 : decode cX1_init 22 = .ok (.putfield 19, 3) := by decide +kernel
theorem dX1_init_25 : decode cX1_init 25 = .ok (.return_, 1) := by decide +kernel
theorem dX6_init_0 : decode cX6_init 0 = .ok (.aload_n 0, 1) := by decide +kernel
theorem dX6_init_1 : decode cX6_init 1 = .ok (.invokespecial 3, 3) := by decide +kernel
theorem dX6_init_4 : decode cX6_init 4 = .ok (.aload_n 0, 1) := by decide +kernel
theorem dX6_init_5 : decode cX6_init 5 = .ok (.iconst 0, 1) := by decide +kernel
theorem dX6_init_6 : decode cX6_init 6 = .ok (.putfield 9, 3) := by decide +kernel
theorem dX6_init_9 : decode cX6_init 9 = .ok (.aload_n 0, 1) := by decide +kernel
theorem dX6_init_10 : decode cX6_init 10 = .ok (.iconst 0, 1) := by decide +kernel
theorem dX6_init_11 : decode cX6_init 11 = .ok (.putfield 15, 3) := by decide +kernel
theorem dX6_init_14 : decode cX6_init 14 = .ok (.aload_n 0, 1) := by decide +kernel
theorem dX6_init_15 : decode cX6_init 15 = .ok (.iconst 0, 1) := by decide +kernel
theorem dX6_init_16 : decode cX6_init 16 = .ok (.putfield 18, 3) := by decide +kernel
theorem dX6_init_19 : decode cX6_init 19 = .ok (.aload_n 0, 1) := by decide +kernel
theorem dX6_init_20 : decode cX6_init 20 = .ok (.iconst 0, 1) := by decide +kernel
theorem dX6_init_21 : decode cX6_init 21 = .ok (.putfield 21, 3) := by decide +kernel
theorem dX6_init_24 : decode cX6_init 24 = .ok (.aload_n 0, 1) := by decide +kernel
theorem dX6_init_25 : decode cX6_init 25 = .ok (.iconst 0, 1) := by decide +kernel
theorem dX6_init_26 : decode cX6_init 26 = .ok (.putfield 25, 3) := by decide +kernel
theorem dX6_init_29 : decode cX6_init 29 = .ok (.aload_n 0, 1) := by decide +kernel
theorem dX6_init_30 : decode cX6_init 30 = .ok (.iconst 0, 1) := by decide +kernel
theorem dX6_init_31 : decode cX6_init 31 = .ok (.putfield 28, 3) := by decide +kernel
theorem dX6_init_34 : decode cX6_init 34 = .ok (.return_, 1) := by decide +kernel
theorem dX5_init_0 : decode cX5_init 0 = .ok (.aload_n 0, 1) := by decide +kernel
theorem dX5_init_1 : decode cX5_init 1 = .ok (.invokespecial 3, 3) := by decide +kernel
theorem dX5_init_4 : decode cX5_init 4 = .ok (.aload_n 0, 1) := by decide +kernel
theorem dX5_init_5 : decode cX5_init 5 = .ok (.iconst 3, 1) := by decide +kernel
theorem dX5_init_6 : decode cX5_init 6 = .ok (.putfield 9, 3) := by decide +kernel
theorem dX5_init_9 : decode cX5_init 9 = .ok (.aload_n 0, 1) := by decide +kernel
theorem dX5_init_10 : decode cX5_init 10 = .ok (.iconst 3, 1) := by decide +kernel
theorem dX5_init_11 : decode cX5_init 11 = .ok (.putfield 15, 3) := by decide +kernel
theorem dX5_init_14 : decode cX5_init 14 = .ok (.aload_n 0, 1) := by decide +kernel
theorem dX5_init_15 : decode cX5_init 15 = .ok (.iconst 0, 1) := by decide +kernel
theorem dX5_init_16 : decode cX5_init 16 = .ok (.putfield 18, 3) := by decide +kernel
theorem dX5_init_19 : decode cX5_init 19 = .ok (.aload_n 0, 1) := by decide +kernel
theorem dX5_init_20 : decode cX5_init 20 = .ok (.iconst 0, 1) := by decide +kernel
theorem dX5_init_21 : decode cX5_init 21 = .ok (.putfield 21, 3) := by decide +kernel
theorem dX5_init_24 : decode cX5_init 24 = .ok (.aload_n 0, 1) := by decide +kernel
theorem dX5_init_25 : decode cX5_init 25 = .ok (.iconst 0, 1) := by decide +kernel
theorem dX5_init_26 : decode cX5_init 26 = .ok (.putfield 24, 3) := by decide +kernel
theorem dX5_init_29 : decode cX5_init 29 = .ok (.aload_n 0, 1) := by decide +kernel
theorem dX5_init_30 : decode cX5_init 30 = .ok (.iconst 0, 1) := by decide +kernel
theorem dX5_init_31 : decode cX5_init 31 = .ok (.putfield 27, 3) := by decide +kernel
theorem dX5_init_34 : decode cX5_init 34 = .ok (.aload_n 0, 1) := by decide +kernel
theorem dX5_init_35 : decode cX5_init 35 = .ok (.bipush 96, 2) := by decide +kernel
theorem dX5_init_37 : decode cX5_init 37 = .ok (.newarray .char, 2) := by decide +kernel
theorem dX5_init_39 : decode cX5_init 39 = .ok (.putfield 30, 3) := by decide +kernel
theorem dX5_init_42 : decode cX5_init 42 = .ok (.aload_n 0, 1) := by decide +kernel
theorem dX5_init_43 : decode cX5_init 43 = .ok (.iconst 3, 1) := by decide +kernel
theorem dX5_init_44 : decode cX5_init 44 = .ok (.newarray .int, 2) := by decide +kernel
theorem dX5_init_46 : decode cX5_init 46 = .ok (.putfield 34, 3) := by decide +kernel
theorem dX5_init_49 : decode cX5_init 49 = .ok (.aload_n 0, 1) := by decide +kernel
theorem dX5_init_50 : decode cX5_init 50 = .ok (.iconst 3, 1) := by decide +kernel
theorem dX5_init_51 : decode cX5_init 51 = .ok (.newarray .int, 2) := by decide +kernel
theorem dX5_init_53 : decode cX5_init 53 = .ok (.putfield 38, 3) := by decide +kernel
theorem dX5_init_56 : decode cX5_init 56 = .ok (.aload_n 0, 1) := by decide +kernel
theorem dX5_init_57 : decode cX5_init 57 = .ok (.iconst 3, 1) := by decide +kernel
theorem dX5_init_58 : decode cX5_init 58 = .ok (.newarray .int, 2) := by decide +kernel
theorem dX5_init_60 : decode cX5_init 60 = .ok (.putfield 41, 3) := by decide +kernel
theorem dX5_init_63 : decode cX5_init 63 = .ok (.return_, 1) := by decide +kernel
theorem dX4_init_0 : decode cX4_init 0 = .ok (.aload_n 0, 1) := by decide +kernel
theorem dX4_init_1 : decode cX4_init 1 = .ok (.invokespecial 3, 3) := by decide +kernel
theorem dX4_init_4 : decode cX4_init 4 = .ok (.aload_n 0, 1) := by decide +kernel
theorem dX4_init_5 : decode cX4_init 5 = .ok (.new 9, 3) := by decide +kernel
theorem dX4_init_8 : decode cX4_init 8 = .ok (.dup, 1) := by decide +kernel
theorem dX4_init_9 : decode cX4_init 9 = .ok (.invokespecial 11, 3) := by decide +kernel
theorem dX4_init_12 : decode cX4_init 12 = .ok (.putfield 12, 3) := by decide +kernel
theorem dX4_init_15 : decode cX4_init 15 = .ok (.aload_n 0, 1) := by decide +kernel
theorem dX4_init_16 : decode cX4_init 16 = .ok (.new 18, 3) := by decide +kernel
theorem dX4_init_19 : decode cX4_init 19 = .ok (.dup, 1) := by decide +kernel
theorem dX4_init_20 : decode cX4_init 20 = .ok (.invokespecial 20, 3) := by decide +kernel
theorem dX4_init_23 : decode cX4_init 23 = .ok (.putfield 21, 3) := by decide +kernel
theorem dX4_init_26 : decode cX4_init 26 = .ok (.aload_n 0, 1) := by decide +kernel
theorem dX4_init_27 : decode cX4_init 27 = .ok (.iconst 0, 1) := by decide +kernel
theorem dX4_init_28 : decode cX4_init 28 = .ok (.putfield 25, 3) := by decide +kernel
theorem dX4_init_31 : decode cX4_init 31 = .ok (.aload_n 0, 1) := by decide +kernel
theorem dX4_init_32 : decode cX4_init 32 = .ok (.iconst 0, 1) := by decide +kernel
theorem dX4_init_33 : decode cX4_init 33 = .ok (.putfield 29, 3) := by decide +kernel
theorem dX4_init_36 : decode cX4_init 36 = .ok (.return_, 1) := by decide +kernel
theorem dX3_init_0 : decode cX3_init 0 = .ok (.aload_n 0, 1) := by decide +kernel
theorem dX3_init_1 : decode cX3_init 1 = .ok (.invokespecial 3, 3) := by decide +kernel
theorem dX3_init_4 : decode cX3_init 4 = .ok (.aload_n 0, 1) := by decide +kernel
theorem dX3_init_5 : decode cX3_init 5 = .ok (.new 9, 3) := by decide +kernel
theorem dX3_init_8 : decode cX3_init 8 = .ok (.dup, 1) := by decide +kernel
theorem dX3_init_9 : decode cX3_init 9 = .ok (.invokespecial 11, 3) := by decide +kernel
theorem dX3_init_12 : decode cX3_init 12 = .ok (.putfield 12, 3) := by decide +kernel
theorem dX3_init_15 : decode cX3_init 15 = .ok (.aload_n 0, 1) := by decide +kernel
theorem dX3_init_16 : decode cX3_init 16 = .ok (.sipush 150, 3) := by decide +kernel
theorem dX3_init_19 : decode cX3_init 19 = .ok (.newarray .int, 2) := by decide +kernel
theorem dX3_init_21 : decode cX3_init 21 = .ok (.putfield 18, 3) := by decide +kernel
theorem dX3_init_24 : decode cX3_init 24 = .ok (.aload_n 0, 1) := by decide +kernel
theorem dX3_init_25 : decode cX3_init 25 = .ok (.iconst (-1), 1) := by decide +kernel
theorem dX3_init_26 : decode cX3_init 26 = .ok (.putfield 22, 3) := by decide +kernel
theorem dX3_init_29 : decode cX3_init 29 = .ok (.aload_n 0, 1) := by decide +kernel
theorem dX3_init_30 : decode cX3_init 30 = .ok (.iconst 0, 1) := by decide +kernel
theorem dX3_init_31 : decode cX3_init 31 = .ok (.putfield 26, 3) := by decide +kernel
theorem dX3_init_34 : decode cX3_init 34 = .ok (.aload_n 0, 1) := by decide +kernel
theorem dX3_init_35 : decode cX3_init 35 = .ok (.bipush 112, 2) := by decide +kernel
theorem dX3_init_37 : decode cX3_init 37 = .ok (.putfield 29, 3) := by decide +kernel
theorem dX3_init_40 : decode cX3_init 40 = .ok (.aload_n 0, 1) := by decide +kernel
theorem dX3_init_41 : decode cX3_init 41 = .ok (.iconst 0, 1) := by decide +kernel
theorem dX3_init_42 : decode cX3_init 42 = .ok (.putfield 33, 3) := by decide +kernel
theorem dX3_init_45 : decode cX3_init 45 = .ok (.return_, 1) := by decide +kernel
theorem dX0_init_0 : decode cX0_init 0 = .ok (.aload_n 0, 1) := by decide +kernel
theorem dX0_init_1 : decode cX0_init 1 = .ok (.invokespecial 3, 3) := by decide +kernel
theorem dX0_init_4 : decode cX0_init 4 = .ok (.aload_n 0, 1) := by decide +kernel
theorem dX0_init_5 : decode cX0_init 5 = .ok (.bipush 96, 2) := by decide +kernel
theorem dX0_init_7 : decode cX0_init 7 = .ok (.newarray .int, 2) := by decide +kernel
theorem dX0_init_9 : decode cX0_init 9 = .ok (.putfield 9, 3) := by decide +kernel
theorem dX0_init_12 : decode cX0_init 12 = .ok (.aload_n 0, 1) := by decide +kernel
theorem dX0_init_13 : decode cX0_init 13 = .ok (.sipush 200, 3) := by decide +kernel
theorem dX0_init_16 : decode cX0_init 16 = .ok (.newarray .int, 2) := by decide +kernel
theorem dX0_init_18 : decode cX0_init 18 = .ok (.putfield 15, 3) := by decide +kernel
theorem dX0_init_21 : decode cX0_init 21 = .ok (.aload_n 0, 1) := by decide +kernel
theorem dX0_init_22 : decode cX0_init 22 = .ok (.new 18, 3) := by decide +kernel
theorem dX0_init_25 : decode cX0_init 25 = .ok (.dup, 1) := by decide +kernel
theorem dX0_init_26 : decode cX0_init 26 = .ok (.invokespecial 20, 3) := by decide +kernel
theorem dX0_init_29 : decode cX0_init 29 = .ok (.putfield 21, 3) := by decide +kernel
theorem dX0_init_32 : decode cX0_init 32 = .ok (.aload_n 0, 1) := by decide +kernel
theorem dX0_init_33 : decode cX0_init 33 = .ok (.iconst 0, 1) := by decide +kernel
theorem dX0_init_34 : decode cX0_init 34 = .ok (.putfield 25, 3) := by decide +kernel
theorem dX0_init_37 : decode cX0_init 37 = .ok (.aload_n 0, 1) := by decide +kernel
theorem dX0_init_38 : decode cX0_init 38 = .ok (.iconst 0, 1) := by decide +kernel
theorem dX0_init_39 : decode cX0_init 39 = .ok (.putfield 29, 3) := by decide +kernel
theorem dX0_init_42 : decode cX0_init 42 = .ok (.return_, 1) := by decide +kernel
set_option maxHeartbeats 4000000 in
set_option maxRecDepth 100000 in
theorem c_Jxa1e45_init_da8c8 (l : Launch) (dC : Nat → ClassId) (dI : Nat → Nat → Nat) (de : Nat) (a : Nat) (sz : Nat) : Met l yJxa1e45_init_da8c8 (.code yJxa1e45_init_da8c8 cJxa1e45_init_da8c8 1 none :: wsL_law) { frames := 1, cells := 0, slots := 0, locals := 12 } (va_Pc [.ref a] (PW dC dI de [] [] sz)) (va_Qv (fun (u : Unit) => True) (fun (_ : Unit) (t : State) => QW dC dI [] [] (va_A [] sz) t) (va_A [] sz)) 0 0 (va_A [] sz) := by
  refine Met.ofW (cc := cJxa1e45_init_da8c8) (maxL := 1) (ret := none) (by decide) rfl ?_
  intro p e s m args below meth c s₁ B hml hv
  obtain ⟨rfl, hsz, hP, hK, hD0, hG⟩ := hv
  have hx := B.exec
  have hb := B.bytes
  have hr := B.returns
  have hts := atoms_spec (ws := .code yJxa1e45_init_da8c8 cJxa1e45_init_da8c8 1 none :: wsL_law) B.pre
  have ht : ∀ w ∈ wsL_law, w.before _ s = true := fun w h => hts w (List.mem_cons_of_mem _ h)
  have hown : s.vm.findClass RJxa1e45 = some m.cls := findClass_of_methodNamed B.named
  have hlocks := B.notSynchronized
  have hin : meth.name = "<init>" := (name_of_methodNamed B.named B.method).1
  subst hsz
  have hD := hD0.self (sz := s.heap.size)
  generalize hAe : va_A [] s.heap.size = A at hD hG ⊢
  have hA : ∀ q : Nat, s.heap.size ≤ q → A q := fun q h => by rw [← hAe]; exact Or.inr h
  have hS : va_S A s.heap s.heap [] := va_S.rf
  have hP : va_P (dC, dI) vwCl [] s.heap := hP
  have hD : va_D A [] := hD
  have hl := lv_entry ([.ref a]) (n := 1) (Nat.le_of_ble_eq_true rfl)
  rw [lg_entry_eq]
  generalize (lg_sl ([.ref a]) ++ List.replicate (1 - (lg_sl ([.ref a])).length) Slot.unset).toArray = ls at hl ⊢
  have hl : lv_has ls 1 [(0, .ref a)] := hl
  refine lv_aload_n hx hb dJxa1e45_init_da8c8_0 rfl (lv_at hl 0 rfl) ?_
  refine W.objInit hx hb hown (ht _ (wr_3 _ (List.mem_of_getElem? (i := 12) rfl))) (ht _ (wr_1 _ (List.mem_of_getElem? (i := 12) rfl))) (ht _ (wr_1 _ (List.mem_of_getElem? (i := 13) rfl))) rfl (by rw [hml]; exact hl.1) rfl dJxa1e45_init_da8c8_1 (Nat.le_of_ble_eq_true rfl) (Nat.le_of_ble_eq_true rfl) ?_
  refine W.eq (g2 := F0 m 4 ls []) rfl ?_
  exact W.vret hx hb hr (fun t htt hW => have ht := htt; ⟨⟨(), rfl, trivial, QW_of ht hW hP hK hD⟩, hS.F ht⟩) hS.2.2 dJxa1e45_init_da8c8_4
set_option maxHeartbeats 4000000 in
set_option maxRecDepth 100000 in
theorem c_Jxc12de_init_da8c8 (l : Launch) (dC : Nat → ClassId) (dI : Nat → Nat → Nat) (de : Nat) (a : Nat) (n0 : Int32) (sz : Nat) : Met l yJxc12de_init_da8c8 (.code yJxc12de_init_da8c8 cJxc12de_init_da8c8 1 none :: wsL_law) { frames := 2, cells := 0, slots := 0, locals := 32 } (va_Pc [.ref a] (PW dC dI de [] [(a, .inr (1, [.int 0, .null, .int n0]))] sz)) (va_Qv (fun (u : Unit) => True) (fun (_ : Unit) (t : State) => QW dC dI [] [(a, .inr (1, [.int 0, .null, .int n0]))] (va_A [(a, .inr (1, [.int 0, .null, .int n0]))] sz) t) (va_A [(a, .inr (1, [.int 0, .null, .int n0]))] sz)) 0 0 (va_A [(a, .inr (1, [.int 0, .null, .int n0]))] sz) := by
  refine Met.ofW (cc := cJxc12de_init_da8c8) (maxL := 1) (ret := none) (by decide) rfl ?_
  intro p e s m args below meth c s₁ B hml hv
  obtain ⟨rfl, hsz, hP, hK, hD0, hG⟩ := hv
  have hx := B.exec
  have hb := B.bytes
  have hr := B.returns
  have hts := atoms_spec (ws := .code yJxc12de_init_da8c8 cJxc12de_init_da8c8 1 none :: wsL_law) B.pre
  have ht : ∀ w ∈ wsL_law, w.before _ s = true := fun w h => hts w (List.mem_cons_of_mem _ h)
  have hown : s.vm.findClass RJxc12de = some m.cls := findClass_of_methodNamed B.named
  have hlocks := B.notSynchronized
  have hin : meth.name = "<init>" := (name_of_methodNamed B.named B.method).1
  subst hsz
  have hD := hD0.self (sz := s.heap.size)
  generalize hAe : va_A [(a, .inr (1, [.int 0, .null, .int n0]))] s.heap.size = A at hD hG ⊢
  have hA : ∀ q : Nat, s.heap.size ≤ q → A q := fun q h => by rw [← hAe]; exact Or.inr h
  have hS : va_S A s.heap s.heap [] := va_S.rf
  have hP : va_P (dC, dI) vwCl [(a, .inr (1, [.int 0, .null, .int n0]))] s.heap := hP
  have hD : va_D A [(a, .inr (1, [.int 0, .null, .int n0]))] := hD
  have hl := lv_entry ([.ref a]) (n := 1) (Nat.le_of_ble_eq_true rfl)
  rw [lg_entry_eq]
  generalize (lg_sl ([.ref a]) ++ List.replicate (1 - (lg_sl ([.ref a])).length) Slot.unset).toArray = ls at hl ⊢
  have hl : lv_has ls 1 [(0, .ref a)] := hl
  refine lv_aload_n hx hb dJxc12de_init_da8c8_0 rfl (lv_at hl 0 rfl) ?_
  have hPc := hP.sub (ws' := []) [] rfl
  have hDc := hD.sub (ws' := []) [] (by decide) rfl
  have hKc := hK.sub (tys' := []) [] rfl
  have hFc := va_free (wc := []) hD hS hA [] rfl
  refine va_callv (va_runI (As := []) (rest := []) ⟨hx, hb, hml, hown, ht⟩ (c_Jxa1e45_init_da8c8 l dC dI de (a) s.heap.size) (cwI 0 ht (gWI (wr_3 _ (List.mem_of_getElem? (i := 11) rfl))) rfl rfl rfl (ht _ (wr_3 _ (List.mem_of_getElem? (i := 10) rfl))) (ht _ (wr_3 _ (List.mem_of_getElem? (i := 8) rfl))) (ht _ (wr_3 _ (List.mem_of_getElem? (i := 9) rfl))) rfl (by decide +kernel) ⟨Nat.le_of_ble_eq_true rfl, Nat.le_of_ble_eq_true rfl⟩) ⟨PW_blind, PW_call hPc hDc hKc hS hG hFc⟩ rfl rfl hl.1 rfl (lv_room (Nat.le_of_ble_eq_true rfl)) dJxc12de_init_da8c8_1 ⟨Nat.le_of_ble_eq_true rfl, Nat.le_of_ble_eq_true rfl⟩) hS (fun q _ h => hFc q h) hFc (fun u t H1 locs ht9 hvm hw hB hz1 hk1 hS => ?_)
  obtain ⟨hP1, hK1, hD1⟩ := hB
  rw [ht9] at hP1
  have hK1 := va_K.moved hvm.symm hK1
  obtain ⟨hP, hD⟩ := va_join (wr := [(a, .inr (1, [.int 0, .null, .int n0]))]) (w1 := []) hP hD [] [0] rfl rfl (by decide) (by decide) hk1 hFc hP1 hD1
  have hK := (hK.sub (tys' := []) [] rfl).app hK1
  generalize H1 = H at hP hS ⊢
  replace hP : va_P (dC, dI) vwCl [(a, .inr (1, [.int 0, .null, .int n0]))] H := hP
  replace hD : va_D A [(a, .inr (1, [.int 0, .null, .int n0]))] := hD
  have hK : va_K (dC, dI) vwCl [] s := hK
  have hw_1 := hw
  refine lv_aload_n hx hb dJxc12de_init_da8c8_4 rfl (lv_at hl 0 rfl) ?_
  refine lv_iconst (v := 0) hx hb dJxc12de_init_da8c8_5 (by decide) ?_
  refine va_put (D := (dC, dI)) (ci := 1) (v := .int 0) (ty := .int) (C := RJx4a65c) (T := TJx4a65c) (N := 3) hx hb ht inlJx4a65c tyJx4a65c tyJx4a65c_ok nmJx4a65c hown hK hP hD hS 0 rfl rfl 0 (by decide) (ht _ (wr_3 _ (List.mem_of_getElem? (i := 7) rfl))) (fun _ h9 => h9) rfl (by decide +kernel) rfl rfl (Nat.le_of_ble_eq_true rfl) dJxc12de_init_da8c8_6 (fun H locs hP hD hS => ?_)
  replace hP : va_P (dC, dI) vwCl [(a, .inr (1, [.int 0, .null, .int n0]))] H := hP
  replace hD : va_D A [(a, .inr (1, [.int 0, .null, .int n0]))] := hD
  exact W.vret hx hb hr (fun t htt hW => have ht := htt; ⟨⟨(), rfl, trivial, QW_of ht hW hP hK hD⟩, hS.F ht⟩) hS.2.2 dJxc12de_init_da8c8_9
set_option maxHeartbeats 4000000 in
set_option maxRecDepth 100000 in
theorem c_Jx4a65c_init_da8c8 (l : Launch) (dC : Nat → ClassId) (dI : Nat → Nat → Nat) (de : Nat) (a : Nat) (n0 : Int32) (sz : Nat) : Met l yJx4a65c_init_da8c8 (.code yJx4a65c_init_da8c8 cJx4a65c_init_da8c8 1 none :: wsL_law) { frames := 3, cells := 0, slots := 0, locals := 52 } (va_Pc [.ref a] (PW dC dI de [] [(a, .inr (1, [.int 0, .null, .int n0]))] sz)) (va_Qv (fun (u : Unit) => True) (fun (_ : Unit) (t : State) => QW dC dI [] [(a, .inr (1, [.int 0, .ref de, .int n0]))] (va_A [(a, .inr (1, [.int 0, .null, .int n0]))] sz) t) (va_A [(a, .inr (1, [.int 0, .null, .int n0]))] sz)) 0 0 (va_A [(a, .inr (1, [.int 0, .null, .int n0]))] sz) := by
  refine Met.ofW (cc := cJx4a65c_init_da8c8) (maxL := 1) (ret := none) (by decide) rfl ?_
  intro p e s m args below meth c s₁ B hml hv
  obtain ⟨rfl, hsz, hP, hK, hD0, hG⟩ := hv
  have hx := B.exec
  have hb := B.bytes
  have hr := B.returns
  have hts := atoms_spec (ws := .code yJx4a65c_init_da8c8 cJx4a65c_init_da8c8 1 none :: wsL_law) B.pre
  have ht : ∀ w ∈ wsL_law, w.before _ s = true := fun w h => hts w (List.mem_cons_of_mem _ h)
  have hown : s.vm.findClass RJx4a65c = some m.cls := findClass_of_methodNamed B.named
  have hlocks := B.notSynchronized
  have hin : meth.name = "<init>" := (name_of_methodNamed B.named B.method).1
  subst hsz
  have hD := hD0.self (sz := s.heap.size)
  generalize hAe : va_A [(a, .inr (1, [.int 0, .null, .int n0]))] s.heap.size = A at hD hG ⊢
  have hA : ∀ q : Nat, s.heap.size ≤ q → A q := fun q h => by rw [← hAe]; exact Or.inr h
  have hS : va_S A s.heap s.heap [] := va_S.rf
  have hP : va_P (dC, dI) vwCl [(a, .inr (1, [.int 0, .null, .int n0]))] s.heap := hP
  have hD : va_D A [(a, .inr (1, [.int 0, .null, .int n0]))] := hD
  have hl := lv_entry ([.ref a]) (n := 1) (Nat.le_of_ble_eq_true rfl)
  rw [lg_entry_eq]
  generalize (lg_sl ([.ref a]) ++ List.replicate (1 - (lg_sl ([.ref a])).length) Slot.unset).toArray = ls at hl ⊢
  have hl : lv_has ls 1 [(0, .ref a)] := hl
  refine lv_aload_n hx hb dJx4a65c_init_da8c8_0 rfl (lv_at hl 0 rfl) ?_
  have hPc := hP.sub (ws' := [(a, .inr (1, [.int 0, .null, .int n0]))]) [0] rfl
  have hDc := hD.sub (ws' := [(a, .inr (1, [.int 0, .null, .int n0]))]) [0] (by decide) rfl
  have hKc := hK.sub (tys' := []) [] rfl
  have hFc := va_free (wc := [(a, .inr (1, [.int 0, .null, .int n0]))]) hD hS hA [0] rfl
  refine va_callv (va_runI (As := []) (rest := []) ⟨hx, hb, hml, hown, ht⟩ (c_Jxc12de_init_da8c8 l dC dI de (a) (n0) s.heap.size) (cwI 0 ht (gWI (wr_3 _ (List.mem_of_getElem? (i := 6) rfl))) rfl rfl rfl (ht _ (wr_3 _ (List.mem_of_getElem? (i := 5) rfl))) (ht _ (wr_3 _ (List.mem_of_getElem? (i := 3) rfl))) (ht _ (wr_3 _ (List.mem_of_getElem? (i := 4) rfl))) rfl (by decide +kernel) ⟨Nat.le_of_ble_eq_true rfl, Nat.le_of_ble_eq_true rfl⟩) ⟨PW_blind, PW_call hPc hDc hKc hS hG hFc⟩ rfl rfl hl.1 rfl (lv_room (Nat.le_of_ble_eq_true rfl)) dJx4a65c_init_da8c8_1 ⟨Nat.le_of_ble_eq_true rfl, Nat.le_of_ble_eq_true rfl⟩) hS (fun q _ h => hFc q h) hFc (fun u t H1 locs ht9 hvm hw hB hz1 hk1 hS => ?_)
  obtain ⟨hP1, hK1, hD1⟩ := hB
  rw [ht9] at hP1
  have hK1 := va_K.moved hvm.symm hK1
  obtain ⟨hP, hD⟩ := va_join (wr := []) (w1 := [(a, .inr (1, [.int 0, .null, .int n0]))]) hP hD [0] [] rfl rfl (by decide) (by decide) hk1 hFc hP1 hD1
  have hK := (hK.sub (tys' := []) [] rfl).app hK1
  generalize H1 = H at hP hS ⊢
  replace hP : va_P (dC, dI) vwCl [(a, .inr (1, [.int 0, .null, .int n0]))] H := hP
  replace hD : va_D A [(a, .inr (1, [.int 0, .null, .int n0]))] := hD
  have hK : va_K (dC, dI) vwCl [] s := hK
  have hw_1 := hw
  refine lv_aload_n hx hb dJx4a65c_init_da8c8_4 rfl (lv_at hl 0 rfl) ?_
  refine va_gets hx hb hG.1.2.2.1 hS hown (ht _ (wr_3 _ (List.mem_of_getElem? (i := 1) rfl))) (fun _ h9 => h9) dJx4a65c_init_da8c8_5 ?_
  refine va_put (D := (dC, dI)) (ci := 1) (v := .ref de) (ty := .array (.object "java/lang/Object")) (C := RJx4a65c) (T := TJx4a65c) (N := 3) hx hb ht inlJx4a65c tyJx4a65c tyJx4a65c_ok nmJx4a65c hown hK hP hD hS 0 rfl rfl 1 (by decide) (ht _ (wr_3 _ (List.mem_of_getElem? (i := 2) rfl))) (fun _ h9 => h9) rfl (by decide +kernel) rfl rfl (Nat.le_of_ble_eq_true rfl) dJx4a65c_init_da8c8_8 (fun H locs hP hD hS => ?_)
  replace hP : va_P (dC, dI) vwCl [(a, .inr (1, [.int 0, .ref de, .int n0]))] H := hP
  replace hD : va_D A [(a, .inr (1, [.int 0, .ref de, .int n0]))] := hD
  exact W.vret hx hb hr (fun t htt hW => have ht := htt; ⟨⟨(), rfl, trivial, QW_of ht hW hP hK hD⟩, hS.F ht⟩) hS.2.2 dJx4a65c_init_da8c8_11
set_option maxHeartbeats 4000000 in
set_option maxRecDepth 100000 in
theorem c_X2_init (l : Launch) (dC : Nat → ClassId) (dI : Nat → Nat → Nat) (de : Nat) (a : Nat) (sz : Nat) : Met l yX2_init (.code yX2_init cX2_init 1 none :: wsL_law) { frames := 1, cells := 0, slots := 0, locals := 12 } (va_Pc [.ref a] (PW dC dI de [] [(a, .inr (4, [.int 0]))] sz)) (va_Qv (fun (u : Unit) => True) (fun (_ : Unit) (t : State) => QW dC dI [] [] (va_A [(a, .inr (4, [.int 0]))] sz) t) (va_A [(a, .inr (4, [.int 0]))] sz)) 0 0 (va_A [(a, .inr (4, [.int 0]))] sz) := by
  refine Met.ofW (cc := cX2_init) (maxL := 1) (ret := none) (by decide) rfl ?_
  intro p e s m args below meth c s₁ B hml hv
  obtain ⟨rfl, hsz, hP, hK, hD0, hG⟩ := hv
  have hx := B.exec
  have hb := B.bytes
  have hr := B.returns
  have hts := atoms_spec (ws := .code yX2_init cX2_init 1 none :: wsL_law) B.pre
  have ht : ∀ w ∈ wsL_law, w.before _ s = true := fun w h => hts w (List.mem_cons_of_mem _ h)
  have hown : s.vm.findClass RX2 = some m.cls := findClass_of_methodNamed B.named
  have hlocks := B.notSynchronized
  have hin : meth.name = "<init>" := (name_of_methodNamed B.named B.method).1
  subst hsz
  have hD := hD0.self (sz := s.heap.size)
  generalize hAe : va_A [(a, .inr (4, [.int 0]))] s.heap.size = A at hD hG ⊢
  have hA : ∀ q : Nat, s.heap.size ≤ q → A q := fun q h => by rw [← hAe]; exact Or.inr h
  have hS : va_S A s.heap s.heap [] := va_S.rf
  have hP : va_P (dC, dI) vwCl [(a, .inr (4, [.int 0]))] s.heap := hP
  have hD : va_D A [(a, .inr (4, [.int 0]))] := hD
  have hl := lv_entry ([.ref a]) (n := 1) (Nat.le_of_ble_eq_true rfl)
  rw [lg_entry_eq]
  generalize (lg_sl ([.ref a]) ++ List.replicate (1 - (lg_sl ([.ref a])).length) Slot.unset).toArray = ls at hl ⊢
  have hl : lv_has ls 1 [(0, .ref a)] := hl
  refine lv_aload_n hx hb dX2_init_0 rfl (lv_at hl 0 rfl) ?_
  refine W.objInit hx hb hown (ht _ (wr_4 _ (List.mem_of_getElem? (i := 4) rfl))) (ht _ (wr_1 _ (List.mem_of_getElem? (i := 12) rfl))) (ht _ (wr_1 _ (List.mem_of_getElem? (i := 13) rfl))) rfl (by rw [hml]; exact hl.1) rfl dX2_init_1 (Nat.le_of_ble_eq_true rfl) (Nat.le_of_ble_eq_true rfl) ?_
  refine W.eq (g2 := F0 m 4 ls []) rfl ?_
  refine lv_aload_n hx hb dX2_init_4 rfl (lv_at hl 0 rfl) ?_
  refine lv_iconst (v := 1) hx hb dX2_init_5 (by decide) ?_
  refine va_put (D := (dC, dI)) (ci := 4) (v := .int 1) (ty := .int) (C := RX2) (T := TX2) (N := 1) hx hb ht inlX2 tyX2 tyX2_ok nmX2 hown hK hP hD hS 0 rfl rfl 0 (by decide) (ht _ (wr_4 _ (List.mem_of_getElem? (i := 5) rfl))) (fun _ h9 => h9) rfl (by decide +kernel) rfl rfl (Nat.le_of_ble_eq_true rfl) dX2_init_6 (fun H locs hP hD hS => ?_)
  replace hP : va_P (dC, dI) vwCl [(a, .inr (4, [.int 1]))] H := hP
  replace hD : va_D A [(a, .inr (4, [.int 1]))] := hD
  have hP9 := hP.sub (ws' := []) [] rfl
  have hD9 := hD.sub (ws' := []) [] (by decide) rfl
  have hK9 := hK.sub (tys' := []) [] rfl
  exact W.vret hx hb hr (fun t htt hW => have ht := htt; ⟨⟨(), rfl, trivial, QW_of ht hW hP9 hK9 hD9⟩, hS.F ht⟩) hS.2.2 dX2_init_9
set_option maxHeartbeats 4000000 in
set_option maxRecDepth 100000 in
theorem c_X1_init (l : Launch) (dC : Nat → ClassId) (dI : Nat → Nat → Nat) (de : Nat) (a : Nat) (sz : Nat) : Met l yX1_init (.code yX1_init cX1_init 1 none :: wsL_law) { frames := 1, cells := 2, slots := 110592, locals := 12 } (va_Pc [.ref a] (PW dC dI de [] [(a, .inr (3, [.null, .null, .int 0]))] sz)) (va_Qv (fun (u : Unit) => True) (fun (_ : Unit) (t : State) => QW dC dI [] [] (va_A [(a, .inr (3, [.null, .null, .int 0]))] sz) t) (va_A [(a, .inr (3, [.null, .null, .int 0]))] sz)) 2 110592 (va_A [(a, .inr (3, [.null, .null, .int 0]))] sz) := by
  refine Met.ofW (cc := cX1_init) (maxL := 1) (ret := none) (by decide) rfl ?_
  intro p e s m args below meth c s₁ B hml hv
  obtain ⟨rfl, hsz, hP, hK, hD0, hG⟩ := hv
  have hx := B.exec
  have hb := B.bytes
  have hr := B.returns
  have hts := atoms_spec (ws := .code yX1_init cX1_init 1 none :: wsL_law) B.pre
  have ht : ∀ w ∈ wsL_law, w.before _ s = true := fun w h => hts w (List.mem_cons_of_mem _ h)
  have hown : s.vm.findClass RX1 = some m.cls := findClass_of_methodNamed B.named
  have hlocks := B.notSynchronized
  have hin : meth.name = "<init>" := (name_of_methodNamed B.named B.method).1
  subst hsz
  have hD := hD0.self (sz := s.heap.size)
  generalize hAe : va_A [(a, .inr (3, [.null, .null, .int 0]))] s.heap.size = A at hD hG ⊢
  have hA : ∀ q : Nat, s.heap.size ≤ q → A q := fun q h => by rw [← hAe]; exact Or.inr h
  have hS : va_S A s.heap s.heap [] := va_S.rf
  have hP : va_P (dC, dI) vwCl [(a, .inr (3, [.null, .null, .int 0]))] s.heap := hP
  have hD : va_D A [(a, .inr (3, [.null, .null, .int 0]))] := hD
  have hl := lv_entry ([.ref a]) (n := 1) (Nat.le_of_ble_eq_true rfl)
  rw [lg_entry_eq]
  generalize (lg_sl ([.ref a]) ++ List.replicate (1 - (lg_sl ([.ref a])).length) Slot.unset).toArray = ls at hl ⊢
  have hl : lv_has ls 1 [(0, .ref a)] := hl
  refine lv_aload_n hx hb dX1_init_0 rfl (lv_at hl 0 rfl) ?_
  refine W.objInit hx hb hown (ht _ (wr_5 _ (List.mem_of_getElem? (i := 22) rfl))) (ht _ (wr_1 _ (List.mem_of_getElem? (i := 12) rfl))) (ht _ (wr_1 _ (List.mem_of_getElem? (i := 13) rfl))) rfl (by rw [hml]; exact hl.1) rfl dX1_init_1 (Nat.le_of_ble_eq_true rfl) (Nat.le_of_ble_eq_true rfl) ?_
  refine W.eq (g2 := F0 m 4 ls []) rfl ?_
  refine lv_aload_n hx hb dX1_init_4 rfl (lv_at hl 0 rfl) ?_
  refine lv_ldc (v := 55296) hx hb hown (ht _ (wr_5 _ (List.mem_of_getElem? (i := 23) rfl))) dX1_init_5 ?_
  refine va_newa (atype := .int) (ty := .int) (N' := 55296) (a0 := (55296, .inl (fun _ => 0))) hx hb (ht _ (wr_1 _ (List.mem_of_getElem? (i := 22) rfl))) rfl hK hP hD hS hA (fun _ => rfl) (by decide +kernel) (by decide +kernel) (Nat.le_of_ble_eq_true rfl) (Nat.le_of_ble_eq_true rfl) (Nat.le_of_ble_eq_true rfl) dX1_init_7 (fun q_1 cA_2 H hK hP hD hS => ?_)
  replace hP : va_P (dC, dI) vwCl [(a, .inr (3, [.null, .null, .int 0])), (q_1, .inl (cA_2, 55296, .inl (fun _ => 0)))] H := hP
  replace hD : va_D A [(a, .inr (3, [.null, .null, .int 0])), (q_1, .inl (cA_2, 55296, .inl (fun _ => 0)))] := hD
  have hK : va_K (dC, dI) vwCl [(cA_2, .int)] s := hK
  refine W.widen (k := 1) (n := 55296) (Nat.le_of_ble_eq_true rfl) (Nat.le_of_ble_eq_true rfl) ?_
  refine va_putF (D := (dC, dI)) (ci := 3) (v := .ref q_1) (ty := .array .int) (C := RX1) (T := TX1) (N := 3) hx hb ht inlX1 tyX1 tyX1_ok nmX1 hown hK hP hD hS 0 rfl rfl 0 (by decide) (ht _ (wr_6 _ (List.mem_of_getElem? (i := 0) rfl))) (fun _ h9 => h9) rfl hin rfl (by decide +kernel) rfl rfl (Nat.le_of_ble_eq_true rfl) dX1_init_9 (fun H locs hP hD hS => ?_)
  replace hP : va_P (dC, dI) vwCl [(a, .inr (3, [.ref q_1, .null, .int 0])), (q_1, .inl (cA_2, 55296, .inl (fun _ => 0)))] H := hP
  replace hD : va_D A [(a, .inr (3, [.ref q_1, .null, .int 0])), (q_1, .inl (cA_2, 55296, .inl (fun _ => 0)))] := hD
  refine lv_aload_n hx hb dX1_init_12 rfl (lv_at hl 0 rfl) ?_
  refine lv_ldc (v := 55296) hx hb hown (ht _ (wr_5 _ (List.mem_of_getElem? (i := 23) rfl))) dX1_init_13 ?_
  refine va_newa (atype := .int) (ty := .int) (N' := 55296) (a0 := (55296, .inl (fun _ => 0))) hx hb (ht _ (wr_1 _ (List.mem_of_getElem? (i := 22) rfl))) rfl hK hP hD hS hA (fun _ => rfl) (by decide +kernel) (by decide +kernel) (Nat.le_of_ble_eq_true rfl) (Nat.le_of_ble_eq_true rfl) (Nat.le_of_ble_eq_true rfl) dX1_init_15 (fun q_3 cA_4 H hK hP hD hS => ?_)
  replace hP : va_P (dC, dI) vwCl [(a, .inr (3, [.ref q_1, .null, .int 0])), (q_1, .inl (cA_2, 55296, .inl (fun _ => 0))), (q_3, .inl (cA_4, 55296, .inl (fun _ => 0)))] H := hP
  replace hD : va_D A [(a, .inr (3, [.ref q_1, .null, .int 0])), (q_1, .inl (cA_2, 55296, .inl (fun _ => 0))), (q_3, .inl (cA_4, 55296, .inl (fun _ => 0)))] := hD
  have hK : va_K (dC, dI) vwCl [(cA_2, .int), (cA_4, .int)] s := hK
  refine W.widen (k := 2) (n := 110592) (Nat.le_of_ble_eq_true rfl) (Nat.le_of_ble_eq_true rfl) ?_
  refine va_putF (D := (dC, dI)) (ci := 3) (v := .ref q_3) (ty := .array .int) (C := RX1) (T := TX1) (N := 3) hx hb ht inlX1 tyX1 tyX1_ok nmX1 hown hK hP hD hS 0 rfl rfl 1 (by decide) (ht _ (wr_6 _ (List.mem_of_getElem? (i := 1) rfl))) (fun _ h9 => h9) rfl hin rfl (by decide +kernel) rfl rfl (Nat.le_of_ble_eq_true rfl) dX1_init_17 (fun H locs hP hD hS => ?_)
  replace hP : va_P (dC, dI) vwCl [(a, .inr (3, [.ref q_1, .ref q_3, .int 0])), (q_1, .inl (cA_2, 55296, .inl (fun _ => 0))), (q_3, .inl (cA_4, 55296, .inl (fun _ => 0)))] H := hP
  replace hD : va_D A [(a, .inr (3, [.ref q_1, .ref q_3, .int 0])), (q_1, .inl (cA_2, 55296, .inl (fun _ => 0))), (q_3, .inl (cA_4, 55296, .inl (fun _ => 0)))] := hD
  refine lv_aload_n hx hb dX1_init_20 rfl (lv_at hl 0 rfl) ?_
  refine lv_iconst (v := 0) hx hb dX1_init_21 (by decide) ?_
  refine va_put (D := (dC, dI)) (ci := 3) (v := .int 0) (ty := .int) (C := RX1) (T := TX1) (N := 3) hx hb ht inlX1 tyX1 tyX1_ok nmX1 hown hK hP hD hS 0 rfl rfl 2 (by decide) (ht _ (wr_6 _ (List.mem_of_getElem? (i := 2) rfl))) (fun _ h9 => h9) rfl (by decide +kernel) rfl rfl (Nat.le_of_ble_eq_true rfl) dX1_init_22 (fun H locs hP hD hS => ?_)
  replace hP : va_P (dC, dI) vwCl [(a, .inr (3, [.ref q_1, .ref q_3, .int 0])), (q_1, .inl (cA_2, 55296, .inl (fun _ => 0))), (q_3, .inl (cA_4, 55296, .inl (fun _ => 0)))] H := hP
  replace hD : va_D A [(a, .inr (3, [.ref q_1, .ref q_3, .int 0])), (q_1, .inl (cA_2, 55296, .inl (fun _ => 0))), (q_3, .inl (cA_4, 55296, .inl (fun _ => 0)))] := hD
  have hP9 := hP.sub (ws' := []) [] rfl
  have hD9 := hD.sub (ws' := []) [] (by decide) rfl
  have hK9 := hK.sub (tys' := []) [] rfl
  exact W.vret hx hb hr (fun t htt hW => have ht := htt; ⟨⟨(), rfl, trivial, QW_of ht hW hP9 hK9 hD9⟩, hS.F ht⟩) hS.2.2 dX1_init_25
set_option maxHeartbeats 4000000 in
set_option maxRecDepth 100000 in
theorem c_X6_init (l : Launch) (dC : Nat → ClassId) (dI : Nat → Nat → Nat) (de : Nat) (a : Nat) (sz : Nat) : Met l yX6_init (.code yX6_init cX6_init 1 none :: wsL_law) { frames := 1, cells := 0, slots := 0, locals := 12 } (va_Pc [.ref a] (PW dC dI de [] [(a, .inr (8, [.int 0, .int 0, .int 0, .int 0, .int 0, .int 0]))] sz)) (va_Qv (fun (u : Unit) => True) (fun (_ : Unit) (t : State) => QW dC dI [] [] (va_A [(a, .inr (8, [.int 0, .int 0, .int 0, .int 0, .int 0, .int 0]))] sz) t) (va_A [(a, .inr (8, [.int 0, .int 0, .int 0, .int 0, .int 0, .int 0]))] sz)) 0 0 (va_A [(a, .inr (8, [.int 0, .int 0, .int 0, .int 0, .int 0, .int 0]))] sz) := by
  refine Met.ofW (cc := cX6_init) (maxL := 1) (ret := none) (by decide) rfl ?_
  intro p e s m args below meth c s₁ B hml hv
  obtain ⟨rfl, hsz, hP, hK, hD0, hG⟩ := hv
  have hx := B.exec
  have hb := B.bytes
  have hr := B.returns
  have hts := atoms_spec (ws := .code yX6_init cX6_init 1 none :: wsL_law) B.pre
  have ht : ∀ w ∈ wsL_law, w.before _ s = true := fun w h => hts w (List.mem_cons_of_mem _ h)
  have hown : s.vm.findClass RX6 = some m.cls := findClass_of_methodNamed B.named
  have hlocks := B.notSynchronized
  have hin : meth.name = "<init>" := (name_of_methodNamed B.named B.method).1
  subst hsz
  have hD := hD0.self (sz := s.heap.size)
  generalize hAe : va_A [(a, .inr (8, [.int 0, .int 0, .int 0, .int 0, .int 0, .int 0]))] s.heap.size = A at hD hG ⊢
  have hA : ∀ q : Nat, s.heap.size ≤ q → A q := fun q h => by rw [← hAe]; exact Or.inr h
  have hS : va_S A s.heap s.heap [] := va_S.rf
  have hP : va_P (dC, dI) vwCl [(a, .inr (8, [.int 0, .int 0, .int 0, .int 0, .int 0, .int 0]))] s.heap := hP
  have hD : va_D A [(a, .inr (8, [.int 0, .int 0, .int 0, .int 0, .int 0, .int 0]))] := hD
  have hl := lv_entry ([.ref a]) (n := 1) (Nat.le_of_ble_eq_true rfl)
  rw [lg_entry_eq]
  generalize (lg_sl ([.ref a]) ++ List.replicate (1 - (lg_sl ([.ref a])).length) Slot.unset).toArray = ls at hl ⊢
  have hl : lv_has ls 1 [(0, .ref a)] := hl
  refine lv_aload_n hx hb dX6_init_0 rfl (lv_at hl 0 rfl) ?_
  refine W.objInit hx hb hown (ht _ (wr_6 _ (List.mem_of_getElem? (i := 5) rfl))) (ht _ (wr_1 _ (List.mem_of_getElem? (i := 12) rfl))) (ht _ (wr_1 _ (List.mem_of_getElem? (i := 13) rfl))) rfl (by rw [hml]; exact hl.1) rfl dX6_init_1 (Nat.le_of_ble_eq_true rfl) (Nat.le_of_ble_eq_true rfl) ?_
  refine W.eq (g2 := F0 m 4 ls []) rfl ?_
  refine lv_aload_n hx hb dX6_init_4 rfl (lv_at hl 0 rfl) ?_
  refine lv_iconst (v := 0) hx hb dX6_init_5 (by decide) ?_
  refine va_put (D := (dC, dI)) (ci := 8) (v := .int 0) (ty := .int) (C := RX6) (T := TX6) (N := 6) hx hb ht inlX6 tyX6 tyX6_ok nmX6 hown hK hP hD hS 0 rfl rfl 0 (by decide) (ht _ (wr_6 _ (List.mem_of_getElem? (i := 6) rfl))) (fun _ h9 => h9) rfl (by decide +kernel) rfl rfl (Nat.le_of_ble_eq_true rfl) dX6_init_6 (fun H locs hP hD hS => ?_)
  replace hP : va_P (dC, dI) vwCl [(a, .inr (8, [.int 0, .int 0, .int 0, .int 0, .int 0, .int 0]))] H := hP
  replace hD : va_D A [(a, .inr (8, [.int 0, .int 0, .int 0, .int 0, .int 0, .int 0]))] := hD
  refine lv_aload_n hx hb dX6_init_9 rfl (lv_at hl 0 rfl) ?_
  refine lv_iconst (v := 0) hx hb dX6_init_10 (by decide) ?_
  refine va_put (D := (dC, dI)) (ci := 8) (v := .int 0) (ty := .int) (C := RX6) (T := TX6) (N := 6) hx hb ht inlX6 tyX6 tyX6_ok nmX6 hown hK hP hD hS 0 rfl rfl 1 (by decide) (ht _ (wr_6 _ (List.mem_of_getElem? (i := 7) rfl))) (fun _ h9 => h9) rfl (by decide +kernel) rfl rfl (Nat.le_of_ble_eq_true rfl) dX6_init_11 (fun H locs hP hD hS => ?_)
  replace hP : va_P (dC, dI) vwCl [(a, .inr (8, [.int 0, .int 0, .int 0, .int 0, .int 0, .int 0]))] H := hP
  replace hD : va_D A [(a, .inr (8, [.int 0, .int 0, .int 0, .int 0, .int 0, .int 0]))] := hD
  refine lv_aload_n hx hb dX6_init_14 rfl (lv_at hl 0 rfl) ?_
  refine lv_iconst (v := 0) hx hb dX6_init_15 (by decide) ?_
  refine va_put (D := (dC, dI)) (ci := 8) (v := .int 0) (ty := .int) (C := RX6) (T := TX6) (N := 6) hx hb ht inlX6 tyX6 tyX6_ok nmX6 hown hK hP hD hS 0 rfl rfl 2 (by decide) (ht _ (wr_6 _ (List.mem_of_getElem? (i := 8) rfl))) (fun _ h9 => h9) rfl (by decide +kernel) rfl rfl (Nat.le_of_ble_eq_true rfl) dX6_init_16 (fun H locs hP hD hS => ?_)
  replace hP : va_P (dC, dI) vwCl [(a, .inr (8, [.int 0, .int 0, .int 0, .int 0, .int 0, .int 0]))] H := hP
  replace hD : va_D A [(a, .inr (8, [.int 0, .int 0, .int 0, .int 0, .int 0, .int 0]))] := hD
  refine lv_aload_n hx hb dX6_init_19 rfl (lv_at hl 0 rfl) ?_
  refine lv_iconst (v := 0) hx hb dX6_init_20 (by decide) ?_
  refine va_put (D := (dC, dI)) (ci := 8) (v := .int 0) (ty := .boolean) (C := RX6) (T := TX6) (N := 6) hx hb ht inlX6 tyX6 tyX6_ok nmX6 hown hK hP hD hS 0 rfl rfl 3 (by decide) (ht _ (wr_6 _ (List.mem_of_getElem? (i := 9) rfl))) (fun _ h9 => h9) rfl (by decide +kernel) (by decide) (by decide) (Nat.le_of_ble_eq_true rfl) dX6_init_21 (fun H locs hP hD hS => ?_)
  replace hP : va_P (dC, dI) vwCl [(a, .inr (8, [.int 0, .int 0, .int 0, .int 0, .int 0, .int 0]))] H := hP
  replace hD : va_D A [(a, .inr (8, [.int 0, .int 0, .int 0, .int 0, .int 0, .int 0]))] := hD
  refine lv_aload_n hx hb dX6_init_24 rfl (lv_at hl 0 rfl) ?_
  refine lv_iconst (v := 0) hx hb dX6_init_25 (by decide) ?_
  refine va_put (D := (dC, dI)) (ci := 8) (v := .int 0) (ty := .int) (C := RX6) (T := TX6) (N := 6) hx hb ht inlX6 tyX6 tyX6_ok nmX6 hown hK hP hD hS 0 rfl rfl 4 (by decide) (ht _ (wr_6 _ (List.mem_of_getElem? (i := 10) rfl))) (fun _ h9 => h9) rfl (by decide +kernel) rfl rfl (Nat.le_of_ble_eq_true rfl) dX6_init_26 (fun H locs hP hD hS => ?_)
  replace hP : va_P (dC, dI) vwCl [(a, .inr (8, [.int 0, .int 0, .int 0, .int 0, .int 0, .int 0]))] H := hP
  replace hD : va_D A [(a, .inr (8, [.int 0, .int 0, .int 0, .int 0, .int 0, .int 0]))] := hD
  refine lv_aload_n hx hb dX6_init_29 rfl (lv_at hl 0 rfl) ?_
  refine lv_iconst (v := 0) hx hb dX6_init_30 (by decide) ?_
  refine va_put (D := (dC, dI)) (ci := 8) (v := .int 0) (ty := .int) (C := RX6) (T := TX6) (N := 6) hx hb ht inlX6 tyX6 tyX6_ok nmX6 hown hK hP hD hS 0 rfl rfl 5 (by decide) (ht _ (wr_6 _ (List.mem_of_getElem? (i := 11) rfl))) (fun _ h9 => h9) rfl (by decide +kernel) rfl rfl (Nat.le_of_ble_eq_true rfl) dX6_init_31 (fun H locs hP hD hS => ?_)
  replace hP : va_P (dC, dI) vwCl [(a, .inr (8, [.int 0, .int 0, .int 0, .int 0, .int 0, .int 0]))] H := hP
  replace hD : va_D A [(a, .inr (8, [.int 0, .int 0, .int 0, .int 0, .int 0, .int 0]))] := hD
  have hP9 := hP.sub (ws' := []) [] rfl
  have hD9 := hD.sub (ws' := []) [] (by decide) rfl
  have hK9 := hK.sub (tys' := []) [] rfl
  exact W.vret hx hb hr (fun t htt hW => have ht := htt; ⟨⟨(), rfl, trivial, QW_of ht hW hP9 hK9 hD9⟩, hS.F ht⟩) hS.2.2 dX6_init_34
set_option maxHeartbeats 4000000 in
set_option maxRecDepth 100000 in
theorem c_X5_init (l : Launch) (dC : Nat → ClassId) (dI : Nat → Nat → Nat) (de : Nat) (a : Nat) (sz : Nat) : Met l yX5_init (.code yX5_init cX5_init 1 none :: wsL_law) { frames := 1, cells := 4, slots := 105, locals := 12 } (va_Pc [.ref a] (PW dC dI de [] [(a, .inr (7, [.int 0, .int 0, .int 0, .int 0, .int 0, .int 0, .null, .null, .null, .null]))] sz)) (va_Qv (fun (u : Unit) => True) (fun (_ : Unit) (t : State) => QW dC dI [] [] (va_A [(a, .inr (7, [.int 0, .int 0, .int 0, .int 0, .int 0, .int 0, .null, .null, .null, .null]))] sz) t) (va_A [(a, .inr (7, [.int 0, .int 0, .int 0, .int 0, .int 0, .int 0, .null, .null, .null, .null]))] sz)) 4 105 (va_A [(a, .inr (7, [.int 0, .int 0, .int 0, .int 0, .int 0, .int 0, .null, .null, .null, .null]))] sz) := by
  refine Met.ofW (cc := cX5_init) (maxL := 1) (ret := none) (by decide) rfl ?_
  intro p e s m args below meth c s₁ B hml hv
  obtain ⟨rfl, hsz, hP, hK, hD0, hG⟩ := hv
  have hx := B.exec
  have hb := B.bytes
  have hr := B.returns
  have hts := atoms_spec (ws := .code yX5_init cX5_init 1 none :: wsL_law) B.pre
  have ht : ∀ w ∈ wsL_law, w.before _ s = true := fun w h => hts w (List.mem_cons_of_mem _ h)
  have hown : s.vm.findClass RX5 = some m.cls := findClass_of_methodNamed B.named
  have hlocks := B.notSynchronized
  have hin : meth.name = "<init>" := (name_of_methodNamed B.named B.method).1
  subst hsz
  have hD := hD0.self (sz := s.heap.size)
  generalize hAe : va_A [(a, .inr (7, [.int 0, .int 0, .int 0, .int 0, .int 0, .int 0, .null, .null, .null, .null]))] s.heap.size = A at hD hG ⊢
  have hA : ∀ q : Nat, s.heap.size ≤ q → A q := fun q h => by rw [← hAe]; exact Or.inr h
  have hS : va_S A s.heap s.heap [] := va_S.rf
  have hP : va_P (dC, dI) vwCl [(a, .inr (7, [.int 0, .int 0, .int 0, .int 0, .int 0, .int 0, .null, .null, .null, .null]))] s.heap := hP
  have hD : va_D A [(a, .inr (7, [.int 0, .int 0, .int 0, .int 0, .int 0, .int 0, .null, .null, .null, .null]))] := hD
  have hl := lv_entry ([.ref a]) (n := 1) (Nat.le_of_ble_eq_true rfl)
  rw [lg_entry_eq]
  generalize (lg_sl ([.ref a]) ++ List.replicate (1 - (lg_sl ([.ref a])).length) Slot.unset).toArray = ls at hl ⊢
  have hl : lv_has ls 1 [(0, .ref a)] := hl
  refine lv_aload_n hx hb dX5_init_0 rfl (lv_at hl 0 rfl) ?_
  refine W.objInit hx hb hown (ht _ (wr_4 _ (List.mem_of_getElem? (i := 8) rfl))) (ht _ (wr_1 _ (List.mem_of_getElem? (i := 12) rfl))) (ht _ (wr_1 _ (List.mem_of_getElem? (i := 13) rfl))) rfl (by rw [hml]; exact hl.1) rfl dX5_init_1 (Nat.le_of_ble_eq_true rfl) (Nat.le_of_ble_eq_true rfl) ?_
  refine W.eq (g2 := F0 m 4 ls []) rfl ?_
  refine lv_aload_n hx hb dX5_init_4 rfl (lv_at hl 0 rfl) ?_
  refine lv_iconst (v := 3) hx hb dX5_init_5 (by decide) ?_
  refine va_put (D := (dC, dI)) (ci := 7) (v := .int 3) (ty := .int) (C := RX5) (T := TX5) (N := 10) hx hb ht inlX5 tyX5 tyX5_ok nmX5 hown hK hP hD hS 0 rfl rfl 0 (by decide) (ht _ (wr_4 _ (List.mem_of_getElem? (i := 9) rfl))) (fun _ h9 => h9) rfl (by decide +kernel) rfl rfl (Nat.le_of_ble_eq_true rfl) dX5_init_6 (fun H locs hP hD hS => ?_)
  replace hP : va_P (dC, dI) vwCl [(a, .inr (7, [.int 3, .int 0, .int 0, .int 0, .int 0, .int 0, .null, .null, .null, .null]))] H := hP
  replace hD : va_D A [(a, .inr (7, [.int 3, .int 0, .int 0, .int 0, .int 0, .int 0, .null, .null, .null, .null]))] := hD
  refine lv_aload_n hx hb dX5_init_9 rfl (lv_at hl 0 rfl) ?_
  refine lv_iconst (v := 3) hx hb dX5_init_10 (by decide) ?_
  refine va_put (D := (dC, dI)) (ci := 7) (v := .int 3) (ty := .int) (C := RX5) (T := TX5) (N := 10) hx hb ht inlX5 tyX5 tyX5_ok nmX5 hown hK hP hD hS 0 rfl rfl 1 (by decide) (ht _ (wr_4 _ (List.mem_of_getElem? (i := 10) rfl))) (fun _ h9 => h9) rfl (by decide +kernel) rfl rfl (Nat.le_of_ble_eq_true rfl) dX5_init_11 (fun H locs hP hD hS => ?_)
  replace hP : va_P (dC, dI) vwCl [(a, .inr (7, [.int 3, .int 3, .int 0, .int 0, .int 0, .int 0, .null, .null, .null, .null]))] H := hP
  replace hD : va_D A [(a, .inr (7, [.int 3, .int 3, .int 0, .int 0, .int 0, .int 0, .null, .null, .null, .null]))] := hD
  refine lv_aload_n hx hb dX5_init_14 rfl (lv_at hl 0 rfl) ?_
  refine lv_iconst (v := 0) hx hb dX5_init_15 (by decide) ?_
  refine va_put (D := (dC, dI)) (ci := 7) (v := .int 0) (ty := .int) (C := RX5) (T := TX5) (N := 10) hx hb ht inlX5 tyX5 tyX5_ok nmX5 hown hK hP hD hS 0 rfl rfl 2 (by decide) (ht _ (wr_4 _ (List.mem_of_getElem? (i := 11) rfl))) (fun _ h9 => h9) rfl (by decide +kernel) rfl rfl (Nat.le_of_ble_eq_true rfl) dX5_init_16 (fun H locs hP hD hS => ?_)
  replace hP : va_P (dC, dI) vwCl [(a, .inr (7, [.int 3, .int 3, .int 0, .int 0, .int 0, .int 0, .null, .null, .null, .null]))] H := hP
  replace hD : va_D A [(a, .inr (7, [.int 3, .int 3, .int 0, .int 0, .int 0, .int 0, .null, .null, .null, .null]))] := hD
  refine lv_aload_n hx hb dX5_init_19 rfl (lv_at hl 0 rfl) ?_
  refine lv_iconst (v := 0) hx hb dX5_init_20 (by decide) ?_
  refine va_put (D := (dC, dI)) (ci := 7) (v := .int 0) (ty := .int) (C := RX5) (T := TX5) (N := 10) hx hb ht inlX5 tyX5 tyX5_ok nmX5 hown hK hP hD hS 0 rfl rfl 3 (by decide) (ht _ (wr_4 _ (List.mem_of_getElem? (i := 12) rfl))) (fun _ h9 => h9) rfl (by decide +kernel) rfl rfl (Nat.le_of_ble_eq_true rfl) dX5_init_21 (fun H locs hP hD hS => ?_)
  replace hP : va_P (dC, dI) vwCl [(a, .inr (7, [.int 3, .int 3, .int 0, .int 0, .int 0, .int 0, .null, .null, .null, .null]))] H := hP
  replace hD : va_D A [(a, .inr (7, [.int 3, .int 3, .int 0, .int 0, .int 0, .int 0, .null, .null, .null, .null]))] := hD
  refine lv_aload_n hx hb dX5_init_24 rfl (lv_at hl 0 rfl) ?_
  refine lv_iconst (v := 0) hx hb dX5_init_25 (by decide) ?_
  refine va_put (D := (dC, dI)) (ci := 7) (v := .int 0) (ty := .int) (C := RX5) (T := TX5) (N := 10) hx hb ht inlX5 tyX5 tyX5_ok nmX5 hown hK hP hD hS 0 rfl rfl 4 (by decide) (ht _ (wr_4 _ (List.mem_of_getElem? (i := 13) rfl))) (fun _ h9 => h9) rfl (by decide +kernel) rfl rfl (Nat.le_of_ble_eq_true rfl) dX5_init_26 (fun H locs hP hD hS => ?_)
  replace hP : va_P (dC, dI) vwCl [(a, .inr (7, [.int 3, .int 3, .int 0, .int 0, .int 0, .int 0, .null, .null, .null, .null]))] H := hP
  replace hD : va_D A [(a, .inr (7, [.int 3, .int 3, .int 0, .int 0, .int 0, .int 0, .null, .null, .null, .null]))] := hD
  refine lv_aload_n hx hb dX5_init_29 rfl (lv_at hl 0 rfl) ?_
  refine lv_iconst (v := 0) hx hb dX5_init_30 (by decide) ?_
  refine va_put (D := (dC, dI)) (ci := 7) (v := .int 0) (ty := .int) (C := RX5) (T := TX5) (N := 10) hx hb ht inlX5 tyX5 tyX5_ok nmX5 hown hK hP hD hS 0 rfl rfl 5 (by decide) (ht _ (wr_4 _ (List.mem_of_getElem? (i := 14) rfl))) (fun _ h9 => h9) rfl (by decide +kernel) rfl rfl (Nat.le_of_ble_eq_true rfl) dX5_init_31 (fun H locs hP hD hS => ?_)
  replace hP : va_P (dC, dI) vwCl [(a, .inr (7, [.int 3, .int 3, .int 0, .int 0, .int 0, .int 0, .null, .null, .null, .null]))] H := hP
  replace hD : va_D A [(a, .inr (7, [.int 3, .int 3, .int 0, .int 0, .int 0, .int 0, .null, .null, .null, .null]))] := hD
  refine lv_aload_n hx hb dX5_init_34 rfl (lv_at hl 0 rfl) ?_
  refine lv_bipush (v := 96) hx hb dX5_init_35 (by decide) ?_
  refine va_newa (atype := .char) (ty := .char) (N' := 96) (a0 := (96, .inl (fun _ => 0))) hx hb (ht _ (wr_4 _ (List.mem_of_getElem? (i := 15) rfl))) rfl hK hP hD hS hA (fun _ => rfl) (by decide +kernel) (by decide +kernel) (Nat.le_of_ble_eq_true rfl) (Nat.le_of_ble_eq_true rfl) (Nat.le_of_ble_eq_true rfl) dX5_init_37 (fun q_1 cA_2 H hK hP hD hS => ?_)
  replace hP : va_P (dC, dI) vwCl [(a, .inr (7, [.int 3, .int 3, .int 0, .int 0, .int 0, .int 0, .null, .null, .null, .null])), (q_1, .inl (cA_2, 96, .inl (fun _ => 0)))] H := hP
  replace hD : va_D A [(a, .inr (7, [.int 3, .int 3, .int 0, .int 0, .int 0, .int 0, .null, .null, .null, .null])), (q_1, .inl (cA_2, 96, .inl (fun _ => 0)))] := hD
  have hK : va_K (dC, dI) vwCl [(cA_2, .char)] s := hK
  refine W.widen (k := 1) (n := 96) (Nat.le_of_ble_eq_true rfl) (Nat.le_of_ble_eq_true rfl) ?_
  refine va_putF (D := (dC, dI)) (ci := 7) (v := .ref q_1) (ty := .array .char) (C := RX5) (T := TX5) (N := 10) hx hb ht inlX5 tyX5 tyX5_ok nmX5 hown hK hP hD hS 0 rfl rfl 6 (by decide) (ht _ (wr_4 _ (List.mem_of_getElem? (i := 16) rfl))) (fun _ h9 => h9) rfl hin rfl (by decide +kernel) rfl rfl (Nat.le_of_ble_eq_true rfl) dX5_init_39 (fun H locs hP hD hS => ?_)
  replace hP : va_P (dC, dI) vwCl [(a, .inr (7, [.int 3, .int 3, .int 0, .int 0, .int 0, .int 0, .ref q_1, .null, .null, .null])), (q_1, .inl (cA_2, 96, .inl (fun _ => 0)))] H := hP
  replace hD : va_D A [(a, .inr (7, [.int 3, .int 3, .int 0, .int 0, .int 0, .int 0, .ref q_1, .null, .null, .null])), (q_1, .inl (cA_2, 96, .inl (fun _ => 0)))] := hD
  refine lv_aload_n hx hb dX5_init_42 rfl (lv_at hl 0 rfl) ?_
  refine lv_iconst (v := 3) hx hb dX5_init_43 (by decide) ?_
  refine va_newa (atype := .int) (ty := .int) (N' := 3) (a0 := (3, .inl (fun _ => 0))) hx hb (ht _ (wr_1 _ (List.mem_of_getElem? (i := 22) rfl))) rfl hK hP hD hS hA (fun _ => rfl) (by decide +kernel) (by decide +kernel) (Nat.le_of_ble_eq_true rfl) (Nat.le_of_ble_eq_true rfl) (Nat.le_of_ble_eq_true rfl) dX5_init_44 (fun q_3 cA_4 H hK hP hD hS => ?_)
  replace hP : va_P (dC, dI) vwCl [(a, .inr (7, [.int 3, .int 3, .int 0, .int 0, .int 0, .int 0, .ref q_1, .null, .null, .null])), (q_1, .inl (cA_2, 96, .inl (fun _ => 0))), (q_3, .inl (cA_4, 3, .inl (fun _ => 0)))] H := hP
  replace hD : va_D A [(a, .inr (7, [.int 3, .int 3, .int 0, .int 0, .int 0, .int 0, .ref q_1, .null, .null, .null])), (q_1, .inl (cA_2, 96, .inl (fun _ => 0))), (q_3, .inl (cA_4, 3, .inl (fun _ => 0)))] := hD
  have hK : va_K (dC, dI) vwCl [(cA_2, .char), (cA_4, .int)] s := hK
  refine W.widen (k := 2) (n := 99) (Nat.le_of_ble_eq_true rfl) (Nat.le_of_ble_eq_true rfl) ?_
  refine va_putF (D := (dC, dI)) (ci := 7) (v := .ref q_3) (ty := .array .int) (C := RX5) (T := TX5) (N := 10) hx hb ht inlX5 tyX5 tyX5_ok nmX5 hown hK hP hD hS 0 rfl rfl 7 (by decide) (ht _ (wr_4 _ (List.mem_of_getElem? (i := 17) rfl))) (fun _ h9 => h9) rfl hin rfl (by decide +kernel) rfl rfl (Nat.le_of_ble_eq_true rfl) dX5_init_46 (fun H locs hP hD hS => ?_)
  replace hP : va_P (dC, dI) vwCl [(a, .inr (7, [.int 3, .int 3, .int 0, .int 0, .int 0, .int 0, .ref q_1, .ref q_3, .null, .null])), (q_1, .inl (cA_2, 96, .inl (fun _ => 0))), (q_3, .inl (cA_4, 3, .inl (fun _ => 0)))] H := hP
  replace hD : va_D A [(a, .inr (7, [.int 3, .int 3, .int 0, .int 0, .int 0, .int 0, .ref q_1, .ref q_3, .null, .null])), (q_1, .inl (cA_2, 96, .inl (fun _ => 0))), (q_3, .inl (cA_4, 3, .inl (fun _ => 0)))] := hD
  refine lv_aload_n hx hb dX5_init_49 rfl (lv_at hl 0 rfl) ?_
  refine lv_iconst (v := 3) hx hb dX5_init_50 (by decide) ?_
  refine va_newa (atype := .int) (ty := .int) (N' := 3) (a0 := (3, .inl (fun _ => 0))) hx hb (ht _ (wr_1 _ (List.mem_of_getElem? (i := 22) rfl))) rfl hK hP hD hS hA (fun _ => rfl) (by decide +kernel) (by decide +kernel) (Nat.le_of_ble_eq_true rfl) (Nat.le_of_ble_eq_true rfl) (Nat.le_of_ble_eq_true rfl) dX5_init_51 (fun q_5 cA_6 H hK hP hD hS => ?_)
  replace hP : va_P (dC, dI) vwCl [(a, .inr (7, [.int 3, .int 3, .int 0, .int 0, .int 0, .int 0, .ref q_1, .ref q_3, .null, .null])), (q_1, .inl (cA_2, 96, .inl (fun _ => 0))), (q_3, .inl (cA_4, 3, .inl (fun _ => 0))), (q_5, .inl (cA_6, 3, .inl (fun _ => 0)))] H := hP
  replace hD : va_D A [(a, .inr (7, [.int 3, .int 3, .int 0, .int 0, .int 0, .int 0, .ref q_1, .ref q_3, .null, .null])), (q_1, .inl (cA_2, 96, .inl (fun _ => 0))), (q_3, .inl (cA_4, 3, .inl (fun _ => 0))), (q_5, .inl (cA_6, 3, .inl (fun _ => 0)))] := hD
  have hK : va_K (dC, dI) vwCl [(cA_2, .char), (cA_4, .int), (cA_6, .int)] s := hK
  refine W.widen (k := 3) (n := 102) (Nat.le_of_ble_eq_true rfl) (Nat.le_of_ble_eq_true rfl) ?_
  refine va_putF (D := (dC, dI)) (ci := 7) (v := .ref q_5) (ty := .array .int) (C := RX5) (T := TX5) (N := 10) hx hb ht inlX5 tyX5 tyX5_ok nmX5 hown hK hP hD hS 0 rfl rfl 8 (by decide) (ht _ (wr_4 _ (List.mem_of_getElem? (i := 18) rfl))) (fun _ h9 => h9) rfl hin rfl (by decide +kernel) rfl rfl (Nat.le_of_ble_eq_true rfl) dX5_init_53 (fun H locs hP hD hS => ?_)
  replace hP : va_P (dC, dI) vwCl [(a, .inr (7, [.int 3, .int 3, .int 0, .int 0, .int 0, .int 0, .ref q_1, .ref q_3, .ref q_5, .null])), (q_1, .inl (cA_2, 96, .inl (fun _ => 0))), (q_3, .inl (cA_4, 3, .inl (fun _ => 0))), (q_5, .inl (cA_6, 3, .inl (fun _ => 0)))] H := hP
  replace hD : va_D A [(a, .inr (7, [.int 3, .int 3, .int 0, .int 0, .int 0, .int 0, .ref q_1, .ref q_3, .ref q_5, .null])), (q_1, .inl (cA_2, 96, .inl (fun _ => 0))), (q_3, .inl (cA_4, 3, .inl (fun _ => 0))), (q_5, .inl (cA_6, 3, .inl (fun _ => 0)))] := hD
  refine lv_aload_n hx hb dX5_init_56 rfl (lv_at hl 0 rfl) ?_
  refine lv_iconst (v := 3) hx hb dX5_init_57 (by decide) ?_
  refine va_newa (atype := .int) (ty := .int) (N' := 3) (a0 := (3, .inl (fun _ => 0))) hx hb (ht _ (wr_1 _ (List.mem_of_getElem? (i := 22) rfl))) rfl hK hP hD hS hA (fun _ => rfl) (by decide +kernel) (by decide +kernel) (Nat.le_of_ble_eq_true rfl) (Nat.le_of_ble_eq_true rfl) (Nat.le_of_ble_eq_true rfl) dX5_init_58 (fun q_7 cA_8 H hK hP hD hS => ?_)
  replace hP : va_P (dC, dI) vwCl [(a, .inr (7, [.int 3, .int 3, .int 0, .int 0, .int 0, .int 0, .ref q_1, .ref q_3, .ref q_5, .null])), (q_1, .inl (cA_2, 96, .inl (fun _ => 0))), (q_3, .inl (cA_4, 3, .inl (fun _ => 0))), (q_5, .inl (cA_6, 3, .inl (fun _ => 0))), (q_7, .inl (cA_8, 3, .inl (fun _ => 0)))] H := hP
  replace hD : va_D A [(a, .inr (7, [.int 3, .int 3, .int 0, .int 0, .int 0, .int 0, .ref q_1, .ref q_3, .ref q_5, .null])), (q_1, .inl (cA_2, 96, .inl (fun _ => 0))), (q_3, .inl (cA_4, 3, .inl (fun _ => 0))), (q_5, .inl (cA_6, 3, .inl (fun _ => 0))), (q_7, .inl (cA_8, 3, .inl (fun _ => 0)))] := hD
  have hK : va_K (dC, dI) vwCl [(cA_2, .char), (cA_4, .int), (cA_6, .int), (cA_8, .int)] s := hK
  refine W.widen (k := 4) (n := 105) (Nat.le_of_ble_eq_true rfl) (Nat.le_of_ble_eq_true rfl) ?_
  refine va_putF (D := (dC, dI)) (ci := 7) (v := .ref q_7) (ty := .array .int) (C := RX5) (T := TX5) (N := 10) hx hb ht inlX5 tyX5 tyX5_ok nmX5 hown hK hP hD hS 0 rfl rfl 9 (by decide) (ht _ (wr_4 _ (List.mem_of_getElem? (i := 19) rfl))) (fun _ h9 => h9) rfl hin rfl (by decide +kernel) rfl rfl (Nat.le_of_ble_eq_true rfl) dX5_init_60 (fun H locs hP hD hS => ?_)
  replace hP : va_P (dC, dI) vwCl [(a, .inr (7, [.int 3, .int 3, .int 0, .int 0, .int 0, .int 0, .ref q_1, .ref q_3, .ref q_5, .ref q_7])), (q_1, .inl (cA_2, 96, .inl (fun _ => 0))), (q_3, .inl (cA_4, 3, .inl (fun _ => 0))), (q_5, .inl (cA_6, 3, .inl (fun _ => 0))), (q_7, .inl (cA_8, 3, .inl (fun _ => 0)))] H := hP
  replace hD : va_D A [(a, .inr (7, [.int 3, .int 3, .int 0, .int 0, .int 0, .int 0, .ref q_1, .ref q_3, .ref q_5, .ref q_7])), (q_1, .inl (cA_2, 96, .inl (fun _ => 0))), (q_3, .inl (cA_4, 3, .inl (fun _ => 0))), (q_5, .inl (cA_6, 3, .inl (fun _ => 0))), (q_7, .inl (cA_8, 3, .inl (fun _ => 0)))] := hD
  have hP9 := hP.sub (ws' := []) [] rfl
  have hD9 := hD.sub (ws' := []) [] (by decide) rfl
  have hK9 := hK.sub (tys' := []) [] rfl
  exact W.vret hx hb hr (fun t htt hW => have ht := htt; ⟨⟨(), rfl, trivial, QW_of ht hW hP9 hK9 hD9⟩, hS.F ht⟩) hS.2.2 dX5_init_63
set_option maxHeartbeats 4000000 in
set_option maxRecDepth 100000 in
theorem c_X4_init (l : Launch) (dC : Nat → ClassId) (dI : Nat → Nat → Nat) (de : Nat) (a : Nat) (sz : Nat) : Met l yX4_init (.code yX4_init cX4_init 1 none :: wsL_law) { frames := 2, cells := 6, slots := 116, locals := 32 } (va_Pc [.ref a] (PW dC dI de [] [(a, .inr (6, [.null, .null, .int 0, .int 0]))] sz)) (va_Qv (fun (u : Unit) => True) (fun (_ : Unit) (t : State) => QW dC dI [] [] (va_A [(a, .inr (6, [.null, .null, .int 0, .int 0]))] sz) t) (va_A [(a, .inr (6, [.null, .null, .int 0, .int 0]))] sz)) 6 116 (va_A [(a, .inr (6, [.null, .null, .int 0, .int 0]))] sz) := by
  refine Met.ofW (cc := cX4_init) (maxL := 1) (ret := none) (by decide) rfl ?_
  intro p e s m args below meth c s₁ B hml hv
  obtain ⟨rfl, hsz, hP, hK, hD0, hG⟩ := hv
  have hx := B.exec
  have hb := B.bytes
  have hr := B.returns
  have hts := atoms_spec (ws := .code yX4_init cX4_init 1 none :: wsL_law) B.pre
  have ht : ∀ w ∈ wsL_law, w.before _ s = true := fun w h => hts w (List.mem_cons_of_mem _ h)
  have hown : s.vm.findClass RX4 = some m.cls := findClass_of_methodNamed B.named
  have hlocks := B.notSynchronized
  have hin : meth.name = "<init>" := (name_of_methodNamed B.named B.method).1
  subst hsz
  have hD := hD0.self (sz := s.heap.size)
  generalize hAe : va_A [(a, .inr (6, [.null, .null, .int 0, .int 0]))] s.heap.size = A at hD hG ⊢
  have hA : ∀ q : Nat, s.heap.size ≤ q → A q := fun q h => by rw [← hAe]; exact Or.inr h
  have hS : va_S A s.heap s.heap [] := va_S.rf
  have hP : va_P (dC, dI) vwCl [(a, .inr (6, [.null, .null, .int 0, .int 0]))] s.heap := hP
  have hD : va_D A [(a, .inr (6, [.null, .null, .int 0, .int 0]))] := hD
  have hl := lv_entry ([.ref a]) (n := 1) (Nat.le_of_ble_eq_true rfl)
  rw [lg_entry_eq]
  generalize (lg_sl ([.ref a]) ++ List.replicate (1 - (lg_sl ([.ref a])).length) Slot.unset).toArray = ls at hl ⊢
  have hl : lv_has ls 1 [(0, .ref a)] := hl
  refine lv_aload_n hx hb dX4_init_0 rfl (lv_at hl 0 rfl) ?_
  refine W.objInit hx hb hown (ht _ (wr_3 _ (List.mem_of_getElem? (i := 15) rfl))) (ht _ (wr_1 _ (List.mem_of_getElem? (i := 12) rfl))) (ht _ (wr_1 _ (List.mem_of_getElem? (i := 13) rfl))) rfl (by rw [hml]; exact hl.1) rfl dX4_init_1 (Nat.le_of_ble_eq_true rfl) (Nat.le_of_ble_eq_true rfl) ?_
  refine W.eq (g2 := F0 m 4 ls []) rfl ?_
  refine lv_aload_n hx hb dX4_init_4 rfl (lv_at hl 0 rfl) ?_
  refine va_new (ci := 4) (fs := [.int 0]) (C := RX2) (T := TX2) (N := 1) hx hb ht inlX2 tyX2 tyX2_ok hown (ht _ (wr_3 _ (List.mem_of_getElem? (i := 16) rfl))) (ht _ (wr_3 _ (List.mem_of_getElem? (i := 17) rfl))) (ht _ (wr_3 _ (List.mem_of_getElem? (i := 18) rfl))) hK hP hD hS hA rfl (fun j hj => match j, hj with | 0, _ => rfl | j + 1, h => absurd h (by omega)) (Nat.le_of_ble_eq_true rfl) (Nat.le_of_ble_eq_true rfl) dX4_init_5 (fun q_1 H hP hD hS => ?_)
  replace hP : va_P (dC, dI) vwCl [(a, .inr (6, [.null, .null, .int 0, .int 0])), (q_1, .inr (4, [.int 0]))] H := hP
  replace hD : va_D A [(a, .inr (6, [.null, .null, .int 0, .int 0])), (q_1, .inr (4, [.int 0]))] := hD
  refine W.widen (k := 1) (n := 1) (Nat.le_of_ble_eq_true rfl) (Nat.le_of_ble_eq_true rfl) ?_
  refine lv_dup hx hb dX4_init_8 rfl ?_
  have hPc := hP.sub (ws' := [(q_1, .inr (4, [.int 0]))]) [1] rfl
  have hDc := hD.sub (ws' := [(q_1, .inr (4, [.int 0]))]) [1] (by decide) rfl
  have hKc := hK.sub (tys' := []) [] rfl
  have hFc := va_free (wc := [(q_1, .inr (4, [.int 0]))]) hD hS hA [1] rfl
  refine va_callv (va_runIN (As := []) (rest := [.ref q_1, .ref a]) ⟨hx, hb, hml, hown, ht⟩ (c_X2_init l dC dI de (q_1) H.size) ⟨va_cnB 0 ht (gWI (wr_4 _ (List.mem_of_getElem? (i := 3) rfl))) rfl rfl rfl (hG.2.2.1 ("Levelsmith$Grower", 11, yX2_init, "Levelsmith") (List.mem_of_getElem? (i := 1) rfl)) (ht _ (wr_3 _ (List.mem_of_getElem? (i := 18) rfl))) (by decide +kernel) ⟨Nat.le_of_ble_eq_true rfl, Nat.le_of_ble_eq_true rfl⟩, rfl, (ht _ (wr_4 _ (List.mem_of_getElem? (i := 2) rfl)))⟩ ⟨PW_blind, PW_call hPc hDc hKc hS hG hFc⟩ rfl rfl hl.1 rfl (lv_room (Nat.le_of_ble_eq_true rfl)) dX4_init_9 ⟨Nat.le_of_ble_eq_true rfl, Nat.le_of_ble_eq_true rfl⟩) hS (fun q _ h => hFc q h) hFc (fun u t H1 locs ht9 hvm hw hB hz1 hk1 hS => ?_)
  obtain ⟨hP1, hK1, hD1⟩ := hB
  rw [ht9] at hP1
  have hK1 := va_K.moved hvm.symm hK1
  obtain ⟨hP, hD⟩ := va_join (wr := [(a, .inr (6, [.null, .null, .int 0, .int 0]))]) (w1 := []) hP hD [1] [0] rfl rfl (by decide) (by decide) hk1 hFc hP1 hD1
  have hK := (hK.sub (tys' := []) [] rfl).app hK1
  generalize H1 = H at hP hS ⊢
  replace hP : va_P (dC, dI) vwCl [(a, .inr (6, [.null, .null, .int 0, .int 0]))] H := hP
  replace hD : va_D A [(a, .inr (6, [.null, .null, .int 0, .int 0]))] := hD
  have hK : va_K (dC, dI) vwCl [] s := hK
  have hw_9 := hw
  refine va_putF (D := (dC, dI)) (ci := 6) (v := .ref q_1) (ty := .object "Levelsmith$Dice") (C := RX4) (T := TX4) (N := 4) hx hb ht inlX4 tyX4 tyX4_ok nmX4 hown hK hP hD hS 0 rfl rfl 0 (by decide) (ht _ (wr_3 _ (List.mem_of_getElem? (i := 19) rfl))) (fun _ h9 => h9) rfl hin rfl (by decide +kernel) rfl rfl (Nat.le_of_ble_eq_true rfl) dX4_init_12 (fun H locs hP hD hS => ?_)
  replace hP : va_P (dC, dI) vwCl [(a, .inr (6, [.ref q_1, .null, .int 0, .int 0]))] H := hP
  replace hD : va_D A [(a, .inr (6, [.ref q_1, .null, .int 0, .int 0]))] := hD
  refine lv_aload_n hx hb dX4_init_15 rfl (lv_at hl 0 rfl) ?_
  refine va_new (ci := 7) (fs := [.int 0, .int 0, .int 0, .int 0, .int 0, .int 0, .null, .null, .null, .null]) (C := RX5) (T := TX5) (N := 10) hx hb ht inlX5 tyX5 tyX5_ok hown (ht _ (wr_3 _ (List.mem_of_getElem? (i := 20) rfl))) (ht _ (wr_3 _ (List.mem_of_getElem? (i := 21) rfl))) (ht _ (wr_3 _ (List.mem_of_getElem? (i := 22) rfl))) hK hP hD hS hA rfl (fun j hj => match j, hj with | 0, _ => rfl | 1, _ => rfl | 2, _ => rfl | 3, _ => rfl | 4, _ => rfl | 5, _ => rfl | 6, _ => rfl | 7, _ => rfl | 8, _ => rfl | 9, _ => rfl | j + 10, h => absurd h (by omega)) (Nat.le_of_ble_eq_true rfl) (Nat.le_of_ble_eq_true rfl) dX4_init_16 (fun q_2 H hP hD hS => ?_)
  replace hP : va_P (dC, dI) vwCl [(a, .inr (6, [.ref q_1, .null, .int 0, .int 0])), (q_2, .inr (7, [.int 0, .int 0, .int 0, .int 0, .int 0, .int 0, .null, .null, .null, .null]))] H := hP
  replace hD : va_D A [(a, .inr (6, [.ref q_1, .null, .int 0, .int 0])), (q_2, .inr (7, [.int 0, .int 0, .int 0, .int 0, .int 0, .int 0, .null, .null, .null, .null]))] := hD
  refine W.widen (k := 2) (n := 11) (Nat.le_of_ble_eq_true rfl) (Nat.le_of_ble_eq_true rfl) ?_
  refine lv_dup hx hb dX4_init_19 rfl ?_
  have hPc := hP.sub (ws' := [(q_2, .inr (7, [.int 0, .int 0, .int 0, .int 0, .int 0, .int 0, .null, .null, .null, .null]))]) [1] rfl
  have hDc := hD.sub (ws' := [(q_2, .inr (7, [.int 0, .int 0, .int 0, .int 0, .int 0, .int 0, .null, .null, .null, .null]))]) [1] (by decide) rfl
  have hKc := hK.sub (tys' := []) [] rfl
  have hFc := va_free (wc := [(q_2, .inr (7, [.int 0, .int 0, .int 0, .int 0, .int 0, .int 0, .null, .null, .null, .null]))]) hD hS hA [1] rfl
  refine va_callv (va_runIN (As := []) (rest := [.ref q_2, .ref a]) ⟨hx, hb, hml, hown, ht⟩ (c_X5_init l dC dI de (q_2) H.size) ⟨va_cnB 0 ht (gWI (wr_4 _ (List.mem_of_getElem? (i := 7) rfl))) rfl rfl rfl (hG.2.2.1 ("Levelsmith$Grower", 20, yX5_init, "Levelsmith") (List.mem_of_getElem? (i := 2) rfl)) (ht _ (wr_3 _ (List.mem_of_getElem? (i := 22) rfl))) (by decide +kernel) ⟨Nat.le_of_ble_eq_true rfl, Nat.le_of_ble_eq_true rfl⟩, rfl, (ht _ (wr_4 _ (List.mem_of_getElem? (i := 6) rfl)))⟩ ⟨PW_blind, PW_call hPc hDc hKc hS hG hFc⟩ rfl rfl hl.1 rfl (lv_room (Nat.le_of_ble_eq_true rfl)) dX4_init_20 ⟨Nat.le_of_ble_eq_true rfl, Nat.le_of_ble_eq_true rfl⟩) hS (fun q _ h => hFc q h) hFc (fun u t H1 locs ht9 hvm hw hB hz1 hk1 hS => ?_)
  obtain ⟨hP1, hK1, hD1⟩ := hB
  rw [ht9] at hP1
  have hK1 := va_K.moved hvm.symm hK1
  obtain ⟨hP, hD⟩ := va_join (wr := [(a, .inr (6, [.ref q_1, .null, .int 0, .int 0]))]) (w1 := []) hP hD [1] [0] rfl rfl (by decide) (by decide) hk1 hFc hP1 hD1
  have hK := (hK.sub (tys' := []) [] rfl).app hK1
  generalize H1 = H at hP hS ⊢
  replace hP : va_P (dC, dI) vwCl [(a, .inr (6, [.ref q_1, .null, .int 0, .int 0]))] H := hP
  replace hD : va_D A [(a, .inr (6, [.ref q_1, .null, .int 0, .int 0]))] := hD
  have hK : va_K (dC, dI) vwCl [] s := hK
  refine W.widen (k := 6) (n := 116) (Nat.le_of_ble_eq_true rfl) (Nat.le_of_ble_eq_true rfl) ?_
  have hw_20 := hw
  refine va_putF (D := (dC, dI)) (ci := 6) (v := .ref q_2) (ty := .object "Levelsmith$Plan") (C := RX4) (T := TX4) (N := 4) hx hb ht inlX4 tyX4 tyX4_ok nmX4 hown hK hP hD hS 0 rfl rfl 1 (by decide) (ht _ (wr_3 _ (List.mem_of_getElem? (i := 23) rfl))) (fun _ h9 => h9) rfl hin rfl (by decide +kernel) rfl rfl (Nat.le_of_ble_eq_true rfl) dX4_init_23 (fun H locs hP hD hS => ?_)
  replace hP : va_P (dC, dI) vwCl [(a, .inr (6, [.ref q_1, .ref q_2, .int 0, .int 0]))] H := hP
  replace hD : va_D A [(a, .inr (6, [.ref q_1, .ref q_2, .int 0, .int 0]))] := hD
  refine lv_aload_n hx hb dX4_init_26 rfl (lv_at hl 0 rfl) ?_
  refine lv_iconst (v := 0) hx hb dX4_init_27 (by decide) ?_
  refine va_put (D := (dC, dI)) (ci := 6) (v := .int 0) (ty := .int) (C := RX4) (T := TX4) (N := 4) hx hb ht inlX4 tyX4 tyX4_ok nmX4 hown hK hP hD hS 0 rfl rfl 2 (by decide) (ht _ (wr_4 _ (List.mem_of_getElem? (i := 0) rfl))) (fun _ h9 => h9) rfl (by decide +kernel) rfl rfl (Nat.le_of_ble_eq_true rfl) dX4_init_28 (fun H locs hP hD hS => ?_)
  replace hP : va_P (dC, dI) vwCl [(a, .inr (6, [.ref q_1, .ref q_2, .int 0, .int 0]))] H := hP
  replace hD : va_D A [(a, .inr (6, [.ref q_1, .ref q_2, .int 0, .int 0]))] := hD
  refine lv_aload_n hx hb dX4_init_31 rfl (lv_at hl 0 rfl) ?_
  refine lv_iconst (v := 0) hx hb dX4_init_32 (by decide) ?_
  refine va_put (D := (dC, dI)) (ci := 6) (v := .int 0) (ty := .boolean) (C := RX4) (T := TX4) (N := 4) hx hb ht inlX4 tyX4 tyX4_ok nmX4 hown hK hP hD hS 0 rfl rfl 3 (by decide) (ht _ (wr_4 _ (List.mem_of_getElem? (i := 1) rfl))) (fun _ h9 => h9) rfl (by decide +kernel) (by decide) (by decide) (Nat.le_of_ble_eq_true rfl) dX4_init_33 (fun H locs hP hD hS => ?_)
  replace hP : va_P (dC, dI) vwCl [(a, .inr (6, [.ref q_1, .ref q_2, .int 0, .int 0]))] H := hP
  replace hD : va_D A [(a, .inr (6, [.ref q_1, .ref q_2, .int 0, .int 0]))] := hD
  have hP9 := hP.sub (ws' := []) [] rfl
  have hD9 := hD.sub (ws' := []) [] (by decide) rfl
  have hK9 := hK.sub (tys' := []) [] rfl
  exact W.vret hx hb hr (fun t htt hW => have ht := htt; ⟨⟨(), rfl, trivial, QW_of ht hW hP9 hK9 hD9⟩, hS.F ht⟩) hS.2.2 dX4_init_36
set_option maxHeartbeats 4000000 in
set_option maxRecDepth 100000 in
theorem c_X3_init (l : Launch) (dC : Nat → ClassId) (dI : Nat → Nat → Nat) (de : Nat) (a : Nat) (sz : Nat) : Met l yX3_init (.code yX3_init cX3_init 1 none :: wsL_law) { frames := 2, cells := 2, slots := 156, locals := 32 } (va_Pc [.ref a] (PW dC dI de [] [(a, .inr (5, [.null, .null, .int 0, .int 0, .int 0, .int 0]))] sz)) (va_Qv (fun (u : Unit) => True) (fun (_ : Unit) (t : State) => ∃ gpl : Nat, ∃ gin : Nat, QW dC dI [] [(a, .inr (5, [.ref gpl, .ref gin, .int (-1), .int 0, .int 112, .int 0]))] (va_A [(a, .inr (5, [.null, .null, .int 0, .int 0, .int 0, .int 0]))] sz) t) (va_A [(a, .inr (5, [.null, .null, .int 0, .int 0, .int 0, .int 0]))] sz)) 2 156 (va_A [(a, .inr (5, [.null, .null, .int 0, .int 0, .int 0, .int 0]))] sz) := by
  refine Met.ofW (cc := cX3_init) (maxL := 1) (ret := none) (by decide) rfl ?_
  intro p e s m args below meth c s₁ B hml hv
  obtain ⟨rfl, hsz, hP, hK, hD0, hG⟩ := hv
  have hx := B.exec
  have hb := B.bytes
  have hr := B.returns
  have hts := atoms_spec (ws := .code yX3_init cX3_init 1 none :: wsL_law) B.pre
  have ht : ∀ w ∈ wsL_law, w.before _ s = true := fun w h => hts w (List.mem_cons_of_mem _ h)
  have hown : s.vm.findClass RX3 = some m.cls := findClass_of_methodNamed B.named
  have hlocks := B.notSynchronized
  have hin : meth.name = "<init>" := (name_of_methodNamed B.named B.method).1
  subst hsz
  have hD := hD0.self (sz := s.heap.size)
  generalize hAe : va_A [(a, .inr (5, [.null, .null, .int 0, .int 0, .int 0, .int 0]))] s.heap.size = A at hD hG ⊢
  have hA : ∀ q : Nat, s.heap.size ≤ q → A q := fun q h => by rw [← hAe]; exact Or.inr h
  have hS : va_S A s.heap s.heap [] := va_S.rf
  have hP : va_P (dC, dI) vwCl [(a, .inr (5, [.null, .null, .int 0, .int 0, .int 0, .int 0]))] s.heap := hP
  have hD : va_D A [(a, .inr (5, [.null, .null, .int 0, .int 0, .int 0, .int 0]))] := hD
  have hl := lv_entry ([.ref a]) (n := 1) (Nat.le_of_ble_eq_true rfl)
  rw [lg_entry_eq]
  generalize (lg_sl ([.ref a]) ++ List.replicate (1 - (lg_sl ([.ref a])).length) Slot.unset).toArray = ls at hl ⊢
  have hl : lv_has ls 1 [(0, .ref a)] := hl
  refine lv_aload_n hx hb dX3_init_0 rfl (lv_at hl 0 rfl) ?_
  refine W.objInit hx hb hown (ht _ (wr_7 _ (List.mem_of_getElem? (i := 6) rfl))) (ht _ (wr_1 _ (List.mem_of_getElem? (i := 12) rfl))) (ht _ (wr_1 _ (List.mem_of_getElem? (i := 13) rfl))) rfl (by rw [hml]; exact hl.1) rfl dX3_init_1 (Nat.le_of_ble_eq_true rfl) (Nat.le_of_ble_eq_true rfl) ?_
  refine W.eq (g2 := F0 m 4 ls []) rfl ?_
  refine lv_aload_n hx hb dX3_init_4 rfl (lv_at hl 0 rfl) ?_
  refine va_new (ci := 8) (fs := [.int 0, .int 0, .int 0, .int 0, .int 0, .int 0]) (C := RX6) (T := TX6) (N := 6) hx hb ht inlX6 tyX6 tyX6_ok hown (ht _ (wr_7 _ (List.mem_of_getElem? (i := 7) rfl))) (ht _ (wr_5 _ (List.mem_of_getElem? (i := 12) rfl))) (ht _ (wr_5 _ (List.mem_of_getElem? (i := 13) rfl))) hK hP hD hS hA rfl (fun j hj => match j, hj with | 0, _ => rfl | 1, _ => rfl | 2, _ => rfl | 3, _ => rfl | 4, _ => rfl | 5, _ => rfl | j + 6, h => absurd h (by omega)) (Nat.le_of_ble_eq_true rfl) (Nat.le_of_ble_eq_true rfl) dX3_init_5 (fun q_1 H hP hD hS => ?_)
  replace hP : va_P (dC, dI) vwCl [(a, .inr (5, [.null, .null, .int 0, .int 0, .int 0, .int 0])), (q_1, .inr (8, [.int 0, .int 0, .int 0, .int 0, .int 0, .int 0]))] H := hP
  replace hD : va_D A [(a, .inr (5, [.null, .null, .int 0, .int 0, .int 0, .int 0])), (q_1, .inr (8, [.int 0, .int 0, .int 0, .int 0, .int 0, .int 0]))] := hD
  refine W.widen (k := 1) (n := 6) (Nat.le_of_ble_eq_true rfl) (Nat.le_of_ble_eq_true rfl) ?_
  refine lv_dup hx hb dX3_init_8 rfl ?_
  have hPc := hP.sub (ws' := [(q_1, .inr (8, [.int 0, .int 0, .int 0, .int 0, .int 0, .int 0]))]) [1] rfl
  have hDc := hD.sub (ws' := [(q_1, .inr (8, [.int 0, .int 0, .int 0, .int 0, .int 0, .int 0]))]) [1] (by decide) rfl
  have hKc := hK.sub (tys' := []) [] rfl
  have hFc := va_free (wc := [(q_1, .inr (8, [.int 0, .int 0, .int 0, .int 0, .int 0, .int 0]))]) hD hS hA [1] rfl
  refine va_callv (va_runIN (As := []) (rest := [.ref q_1, .ref a]) ⟨hx, hb, hml, hown, ht⟩ (c_X6_init l dC dI de (q_1) H.size) ⟨va_cnB 0 ht (gWI (wr_6 _ (List.mem_of_getElem? (i := 4) rfl))) rfl rfl rfl (hG.2.2.1 ("Levelsmith$Game", 11, yX6_init, "Levelsmith") (List.mem_of_getElem? (i := 10) rfl)) (ht _ (wr_5 _ (List.mem_of_getElem? (i := 13) rfl))) (by decide +kernel) ⟨Nat.le_of_ble_eq_true rfl, Nat.le_of_ble_eq_true rfl⟩, rfl, (ht _ (wr_6 _ (List.mem_of_getElem? (i := 3) rfl)))⟩ ⟨PW_blind, PW_call hPc hDc hKc hS hG hFc⟩ rfl rfl hl.1 rfl (lv_room (Nat.le_of_ble_eq_true rfl)) dX3_init_9 ⟨Nat.le_of_ble_eq_true rfl, Nat.le_of_ble_eq_true rfl⟩) hS (fun q _ h => hFc q h) hFc (fun u t H1 locs ht9 hvm hw hB hz1 hk1 hS => ?_)
  obtain ⟨hP1, hK1, hD1⟩ := hB
  rw [ht9] at hP1
  have hK1 := va_K.moved hvm.symm hK1
  obtain ⟨hP, hD⟩ := va_join (wr := [(a, .inr (5, [.null, .null, .int 0, .int 0, .int 0, .int 0]))]) (w1 := []) hP hD [1] [0] rfl rfl (by decide) (by decide) hk1 hFc hP1 hD1
  have hK := (hK.sub (tys' := []) [] rfl).app hK1
  generalize H1 = H at hP hS ⊢
  replace hP : va_P (dC, dI) vwCl [(a, .inr (5, [.null, .null, .int 0, .int 0, .int 0, .int 0]))] H := hP
  replace hD : va_D A [(a, .inr (5, [.null, .null, .int 0, .int 0, .int 0, .int 0]))] := hD
  have hK : va_K (dC, dI) vwCl [] s := hK
  have hw_9 := hw
  refine va_putF (D := (dC, dI)) (ci := 5) (v := .ref q_1) (ty := .object "Levelsmith$Player") (C := RX3) (T := TX3) (N := 6) hx hb ht inlX3 tyX3 tyX3_ok nmX3 hown hK hP hD hS 0 rfl rfl 0 (by decide) (ht _ (wr_7 _ (List.mem_of_getElem? (i := 8) rfl))) (fun _ h9 => h9) rfl hin rfl (by decide +kernel) rfl rfl (Nat.le_of_ble_eq_true rfl) dX3_init_12 (fun H locs hP hD hS => ?_)
  replace hP : va_P (dC, dI) vwCl [(a, .inr (5, [.ref q_1, .null, .int 0, .int 0, .int 0, .int 0]))] H := hP
  replace hD : va_D A [(a, .inr (5, [.ref q_1, .null, .int 0, .int 0, .int 0, .int 0]))] := hD
  refine lv_aload_n hx hb dX3_init_15 rfl (lv_at hl 0 rfl) ?_
  refine lv_sipush (v := 150) hx hb dX3_init_16 (by decide) ?_
  refine va_newa (atype := .int) (ty := .int) (N' := 150) (a0 := (150, .inl (fun _ => 0))) hx hb (ht _ (wr_1 _ (List.mem_of_getElem? (i := 22) rfl))) rfl hK hP hD hS hA (fun _ => rfl) (by decide +kernel) (by decide +kernel) (Nat.le_of_ble_eq_true rfl) (Nat.le_of_ble_eq_true rfl) (Nat.le_of_ble_eq_true rfl) dX3_init_19 (fun q_2 cA_3 H hK hP hD hS => ?_)
  replace hP : va_P (dC, dI) vwCl [(a, .inr (5, [.ref q_1, .null, .int 0, .int 0, .int 0, .int 0])), (q_2, .inl (cA_3, 150, .inl (fun _ => 0)))] H := hP
  replace hD : va_D A [(a, .inr (5, [.ref q_1, .null, .int 0, .int 0, .int 0, .int 0])), (q_2, .inl (cA_3, 150, .inl (fun _ => 0)))] := hD
  have hK : va_K (dC, dI) vwCl [(cA_3, .int)] s := hK
  refine W.widen (k := 2) (n := 156) (Nat.le_of_ble_eq_true rfl) (Nat.le_of_ble_eq_true rfl) ?_
  refine va_putF (D := (dC, dI)) (ci := 5) (v := .ref q_2) (ty := .array .int) (C := RX3) (T := TX3) (N := 6) hx hb ht inlX3 tyX3 tyX3_ok nmX3 hown hK hP hD hS 0 rfl rfl 1 (by decide) (ht _ (wr_7 _ (List.mem_of_getElem? (i := 9) rfl))) (fun _ h9 => h9) rfl hin rfl (by decide +kernel) rfl rfl (Nat.le_of_ble_eq_true rfl) dX3_init_21 (fun H locs hP hD hS => ?_)
  replace hP : va_P (dC, dI) vwCl [(a, .inr (5, [.ref q_1, .ref q_2, .int 0, .int 0, .int 0, .int 0])), (q_2, .inl (cA_3, 150, .inl (fun _ => 0)))] H := hP
  replace hD : va_D A [(a, .inr (5, [.ref q_1, .ref q_2, .int 0, .int 0, .int 0, .int 0])), (q_2, .inl (cA_3, 150, .inl (fun _ => 0)))] := hD
  refine lv_aload_n hx hb dX3_init_24 rfl (lv_at hl 0 rfl) ?_
  refine lv_iconst (v := -1) hx hb dX3_init_25 (by decide) ?_
  refine va_put (D := (dC, dI)) (ci := 5) (v := .int (-1)) (ty := .int) (C := RX3) (T := TX3) (N := 6) hx hb ht inlX3 tyX3 tyX3_ok nmX3 hown hK hP hD hS 0 rfl rfl 2 (by decide) (ht _ (wr_7 _ (List.mem_of_getElem? (i := 10) rfl))) (fun _ h9 => h9) rfl (by decide +kernel) rfl rfl (Nat.le_of_ble_eq_true rfl) dX3_init_26 (fun H locs hP hD hS => ?_)
  replace hP : va_P (dC, dI) vwCl [(a, .inr (5, [.ref q_1, .ref q_2, .int (-1), .int 0, .int 0, .int 0])), (q_2, .inl (cA_3, 150, .inl (fun _ => 0)))] H := hP
  replace hD : va_D A [(a, .inr (5, [.ref q_1, .ref q_2, .int (-1), .int 0, .int 0, .int 0])), (q_2, .inl (cA_3, 150, .inl (fun _ => 0)))] := hD
  refine lv_aload_n hx hb dX3_init_29 rfl (lv_at hl 0 rfl) ?_
  refine lv_iconst (v := 0) hx hb dX3_init_30 (by decide) ?_
  refine va_put (D := (dC, dI)) (ci := 5) (v := .int 0) (ty := .int) (C := RX3) (T := TX3) (N := 6) hx hb ht inlX3 tyX3 tyX3_ok nmX3 hown hK hP hD hS 0 rfl rfl 3 (by decide) (ht _ (wr_7 _ (List.mem_of_getElem? (i := 11) rfl))) (fun _ h9 => h9) rfl (by decide +kernel) rfl rfl (Nat.le_of_ble_eq_true rfl) dX3_init_31 (fun H locs hP hD hS => ?_)
  replace hP : va_P (dC, dI) vwCl [(a, .inr (5, [.ref q_1, .ref q_2, .int (-1), .int 0, .int 0, .int 0])), (q_2, .inl (cA_3, 150, .inl (fun _ => 0)))] H := hP
  replace hD : va_D A [(a, .inr (5, [.ref q_1, .ref q_2, .int (-1), .int 0, .int 0, .int 0])), (q_2, .inl (cA_3, 150, .inl (fun _ => 0)))] := hD
  refine lv_aload_n hx hb dX3_init_34 rfl (lv_at hl 0 rfl) ?_
  refine lv_bipush (v := 112) hx hb dX3_init_35 (by decide) ?_
  refine va_put (D := (dC, dI)) (ci := 5) (v := .int 112) (ty := .char) (C := RX3) (T := TX3) (N := 6) hx hb ht inlX3 tyX3 tyX3_ok nmX3 hown hK hP hD hS 0 rfl rfl 4 (by decide) (ht _ (wr_7 _ (List.mem_of_getElem? (i := 12) rfl))) (fun _ h9 => h9) rfl (by decide +kernel) (by decide) (by decide) (Nat.le_of_ble_eq_true rfl) dX3_init_37 (fun H locs hP hD hS => ?_)
  replace hP : va_P (dC, dI) vwCl [(a, .inr (5, [.ref q_1, .ref q_2, .int (-1), .int 0, .int 112, .int 0])), (q_2, .inl (cA_3, 150, .inl (fun _ => 0)))] H := hP
  replace hD : va_D A [(a, .inr (5, [.ref q_1, .ref q_2, .int (-1), .int 0, .int 112, .int 0])), (q_2, .inl (cA_3, 150, .inl (fun _ => 0)))] := hD
  refine lv_aload_n hx hb dX3_init_40 rfl (lv_at hl 0 rfl) ?_
  refine lv_iconst (v := 0) hx hb dX3_init_41 (by decide) ?_
  refine va_put (D := (dC, dI)) (ci := 5) (v := .int 0) (ty := .boolean) (C := RX3) (T := TX3) (N := 6) hx hb ht inlX3 tyX3 tyX3_ok nmX3 hown hK hP hD hS 0 rfl rfl 5 (by decide) (ht _ (wr_7 _ (List.mem_of_getElem? (i := 13) rfl))) (fun _ h9 => h9) rfl (by decide +kernel) (by decide) (by decide) (Nat.le_of_ble_eq_true rfl) dX3_init_42 (fun H locs hP hD hS => ?_)
  replace hP : va_P (dC, dI) vwCl [(a, .inr (5, [.ref q_1, .ref q_2, .int (-1), .int 0, .int 112, .int 0])), (q_2, .inl (cA_3, 150, .inl (fun _ => 0)))] H := hP
  replace hD : va_D A [(a, .inr (5, [.ref q_1, .ref q_2, .int (-1), .int 0, .int 112, .int 0])), (q_2, .inl (cA_3, 150, .inl (fun _ => 0)))] := hD
  have hP9 := hP.sub (ws' := [(a, .inr (5, [.ref q_1, .ref q_2, .int (-1), .int 0, .int 112, .int 0]))]) [0] rfl
  have hD9 := hD.sub (ws' := [(a, .inr (5, [.ref q_1, .ref q_2, .int (-1), .int 0, .int 112, .int 0]))]) [0] (by decide) rfl
  have hK9 := hK.sub (tys' := []) [] rfl
  exact W.vret hx hb hr (fun t htt hW => have ht := htt; ⟨⟨(), rfl, trivial, ⟨q_1, q_2, QW_of ht hW hP9 hK9 hD9⟩⟩, hS.F ht⟩) hS.2.2 dX3_init_45
set_option maxHeartbeats 4000000 in
set_option maxRecDepth 100000 in
theorem c_X0_init (l : Launch) (dC : Nat → ClassId) (dI : Nat → Nat → Nat) (de : Nat) (a : Nat) (sz : Nat) : Met l yX0_init (.code yX0_init cX0_init 1 none :: wsL_law) { frames := 2, cells := 3, slots := 297, locals := 32 } (va_Pc [.ref a] (PW dC dI de [] [(a, .inr (2, [.null, .null, .null, .int 0, .int 0]))] sz)) (va_Qv (fun (u : Unit) => True) (fun (_ : Unit) (t : State) => ∃ fa : Nat, ∃ bbe : Nat, ∃ bdi : Nat, ∃ cI : ClassId, QW dC dI [(cI, .int)] [(a, .inr (2, [.ref fa, .ref bbe, .ref bdi, .int 0, .int 0])), (fa, .inl (cI, 96, .inl (fun _ => 0)))] (va_A [(a, .inr (2, [.null, .null, .null, .int 0, .int 0]))] sz) t) (va_A [(a, .inr (2, [.null, .null, .null, .int 0, .int 0]))] sz)) 3 297 (va_A [(a, .inr (2, [.null, .null, .null, .int 0, .int 0]))] sz) := by
  refine Met.ofW (cc := cX0_init) (maxL := 1) (ret := none) (by decide) rfl ?_
  intro p e s m args below meth c s₁ B hml hv
  obtain ⟨rfl, hsz, hP, hK, hD0, hG⟩ := hv
  have hx := B.exec
  have hb := B.bytes
  have hr := B.returns
  have hts := atoms_spec (ws := .code yX0_init cX0_init 1 none :: wsL_law) B.pre
  have ht : ∀ w ∈ wsL_law, w.before _ s = true := fun w h => hts w (List.mem_cons_of_mem _ h)
  have hown : s.vm.findClass RX0 = some m.cls := findClass_of_methodNamed B.named
  have hlocks := B.notSynchronized
  have hin : meth.name = "<init>" := (name_of_methodNamed B.named B.method).1
  subst hsz
  have hD := hD0.self (sz := s.heap.size)
  generalize hAe : va_A [(a, .inr (2, [.null, .null, .null, .int 0, .int 0]))] s.heap.size = A at hD hG ⊢
  have hA : ∀ q : Nat, s.heap.size ≤ q → A q := fun q h => by rw [← hAe]; exact Or.inr h
  have hS : va_S A s.heap s.heap [] := va_S.rf
  have hP : va_P (dC, dI) vwCl [(a, .inr (2, [.null, .null, .null, .int 0, .int 0]))] s.heap := hP
  have hD : va_D A [(a, .inr (2, [.null, .null, .null, .int 0, .int 0]))] := hD
  have hl := lv_entry ([.ref a]) (n := 1) (Nat.le_of_ble_eq_true rfl)
  rw [lg_entry_eq]
  generalize (lg_sl ([.ref a]) ++ List.replicate (1 - (lg_sl ([.ref a])).length) Slot.unset).toArray = ls at hl ⊢
  have hl : lv_has ls 1 [(0, .ref a)] := hl
  refine lv_aload_n hx hb dX0_init_0 rfl (lv_at hl 0 rfl) ?_
  refine W.objInit hx hb hown (ht _ (wr_7 _ (List.mem_of_getElem? (i := 16) rfl))) (ht _ (wr_1 _ (List.mem_of_getElem? (i := 12) rfl))) (ht _ (wr_1 _ (List.mem_of_getElem? (i := 13) rfl))) rfl (by rw [hml]; exact hl.1) rfl dX0_init_1 (Nat.le_of_ble_eq_true rfl) (Nat.le_of_ble_eq_true rfl) ?_
  refine W.eq (g2 := F0 m 4 ls []) rfl ?_
  refine lv_aload_n hx hb dX0_init_4 rfl (lv_at hl 0 rfl) ?_
  refine lv_bipush (v := 96) hx hb dX0_init_5 (by decide) ?_
  refine va_newa (atype := .int) (ty := .int) (N' := 96) (a0 := (96, .inl (fun _ => 0))) hx hb (ht _ (wr_1 _ (List.mem_of_getElem? (i := 22) rfl))) rfl hK hP hD hS hA (fun _ => rfl) (by decide +kernel) (by decide +kernel) (Nat.le_of_ble_eq_true rfl) (Nat.le_of_ble_eq_true rfl) (Nat.le_of_ble_eq_true rfl) dX0_init_7 (fun q_1 cA_2 H hK hP hD hS => ?_)
  replace hP : va_P (dC, dI) vwCl [(a, .inr (2, [.null, .null, .null, .int 0, .int 0])), (q_1, .inl (cA_2, 96, .inl (fun _ => 0)))] H := hP
  replace hD : va_D A [(a, .inr (2, [.null, .null, .null, .int 0, .int 0])), (q_1, .inl (cA_2, 96, .inl (fun _ => 0)))] := hD
  have hK : va_K (dC, dI) vwCl [(cA_2, .int)] s := hK
  refine W.widen (k := 1) (n := 96) (Nat.le_of_ble_eq_true rfl) (Nat.le_of_ble_eq_true rfl) ?_
  refine va_putF (D := (dC, dI)) (ci := 2) (v := .ref q_1) (ty := .array .int) (C := RX0) (T := TX0) (N := 5) hx hb ht inlX0 tyX0 tyX0_ok nmX0 hown hK hP hD hS 0 rfl rfl 0 (by decide) (ht _ (wr_7 _ (List.mem_of_getElem? (i := 17) rfl))) (fun _ h9 => h9) rfl hin rfl (by decide +kernel) rfl rfl (Nat.le_of_ble_eq_true rfl) dX0_init_9 (fun H locs hP hD hS => ?_)
  replace hP : va_P (dC, dI) vwCl [(a, .inr (2, [.ref q_1, .null, .null, .int 0, .int 0])), (q_1, .inl (cA_2, 96, .inl (fun _ => 0)))] H := hP
  replace hD : va_D A [(a, .inr (2, [.ref q_1, .null, .null, .int 0, .int 0])), (q_1, .inl (cA_2, 96, .inl (fun _ => 0)))] := hD
  refine lv_aload_n hx hb dX0_init_12 rfl (lv_at hl 0 rfl) ?_
  refine lv_sipush (v := 200) hx hb dX0_init_13 (by decide) ?_
  refine va_newa (atype := .int) (ty := .int) (N' := 200) (a0 := (200, .inl (fun _ => 0))) hx hb (ht _ (wr_1 _ (List.mem_of_getElem? (i := 22) rfl))) rfl hK hP hD hS hA (fun _ => rfl) (by decide +kernel) (by decide +kernel) (Nat.le_of_ble_eq_true rfl) (Nat.le_of_ble_eq_true rfl) (Nat.le_of_ble_eq_true rfl) dX0_init_16 (fun q_3 cA_4 H hK hP hD hS => ?_)
  replace hP : va_P (dC, dI) vwCl [(a, .inr (2, [.ref q_1, .null, .null, .int 0, .int 0])), (q_1, .inl (cA_2, 96, .inl (fun _ => 0))), (q_3, .inl (cA_4, 200, .inl (fun _ => 0)))] H := hP
  replace hD : va_D A [(a, .inr (2, [.ref q_1, .null, .null, .int 0, .int 0])), (q_1, .inl (cA_2, 96, .inl (fun _ => 0))), (q_3, .inl (cA_4, 200, .inl (fun _ => 0)))] := hD
  have hK : va_K (dC, dI) vwCl [(cA_2, .int), (cA_4, .int)] s := hK
  refine W.widen (k := 2) (n := 296) (Nat.le_of_ble_eq_true rfl) (Nat.le_of_ble_eq_true rfl) ?_
  refine va_putF (D := (dC, dI)) (ci := 2) (v := .ref q_3) (ty := .array .int) (C := RX0) (T := TX0) (N := 5) hx hb ht inlX0 tyX0 tyX0_ok nmX0 hown hK hP hD hS 0 rfl rfl 1 (by decide) (ht _ (wr_7 _ (List.mem_of_getElem? (i := 18) rfl))) (fun _ h9 => h9) rfl hin rfl (by decide +kernel) rfl rfl (Nat.le_of_ble_eq_true rfl) dX0_init_18 (fun H locs hP hD hS => ?_)
  replace hP : va_P (dC, dI) vwCl [(a, .inr (2, [.ref q_1, .ref q_3, .null, .int 0, .int 0])), (q_1, .inl (cA_2, 96, .inl (fun _ => 0))), (q_3, .inl (cA_4, 200, .inl (fun _ => 0)))] H := hP
  replace hD : va_D A [(a, .inr (2, [.ref q_1, .ref q_3, .null, .int 0, .int 0])), (q_1, .inl (cA_2, 96, .inl (fun _ => 0))), (q_3, .inl (cA_4, 200, .inl (fun _ => 0)))] := hD
  refine lv_aload_n hx hb dX0_init_21 rfl (lv_at hl 0 rfl) ?_
  refine va_new (ci := 4) (fs := [.int 0]) (C := RX2) (T := TX2) (N := 1) hx hb ht inlX2 tyX2 tyX2_ok hown (ht _ (wr_7 _ (List.mem_of_getElem? (i := 19) rfl))) (ht _ (wr_3 _ (List.mem_of_getElem? (i := 17) rfl))) (ht _ (wr_3 _ (List.mem_of_getElem? (i := 18) rfl))) hK hP hD hS hA rfl (fun j hj => match j, hj with | 0, _ => rfl | j + 1, h => absurd h (by omega)) (Nat.le_of_ble_eq_true rfl) (Nat.le_of_ble_eq_true rfl) dX0_init_22 (fun q_5 H hP hD hS => ?_)
  replace hP : va_P (dC, dI) vwCl [(a, .inr (2, [.ref q_1, .ref q_3, .null, .int 0, .int 0])), (q_1, .inl (cA_2, 96, .inl (fun _ => 0))), (q_3, .inl (cA_4, 200, .inl (fun _ => 0))), (q_5, .inr (4, [.int 0]))] H := hP
  replace hD : va_D A [(a, .inr (2, [.ref q_1, .ref q_3, .null, .int 0, .int 0])), (q_1, .inl (cA_2, 96, .inl (fun _ => 0))), (q_3, .inl (cA_4, 200, .inl (fun _ => 0))), (q_5, .inr (4, [.int 0]))] := hD
  refine W.widen (k := 3) (n := 297) (Nat.le_of_ble_eq_true rfl) (Nat.le_of_ble_eq_true rfl) ?_
  refine lv_dup hx hb dX0_init_25 rfl ?_
  have hPc := hP.sub (ws' := [(q_5, .inr (4, [.int 0]))]) [3] rfl
  have hDc := hD.sub (ws' := [(q_5, .inr (4, [.int 0]))]) [3] (by decide) rfl
  have hKc := hK.sub (tys' := []) [] rfl
  have hFc := va_free (wc := [(q_5, .inr (4, [.int 0]))]) hD hS hA [3] rfl
  refine va_callv (va_runIN (As := []) (rest := [.ref q_5, .ref a]) ⟨hx, hb, hml, hown, ht⟩ (c_X2_init l dC dI de (q_5) H.size) ⟨va_cnB 0 ht (gWI (wr_4 _ (List.mem_of_getElem? (i := 3) rfl))) rfl rfl rfl (hG.2.2.1 ("Levelsmith$Bot", 20, yX2_init, "Levelsmith") (List.mem_of_getElem? (i := 12) rfl)) (ht _ (wr_3 _ (List.mem_of_getElem? (i := 18) rfl))) (by decide +kernel) ⟨Nat.le_of_ble_eq_true rfl, Nat.le_of_ble_eq_true rfl⟩, rfl, (ht _ (wr_4 _ (List.mem_of_getElem? (i := 2) rfl)))⟩ ⟨PW_blind, PW_call hPc hDc hKc hS hG hFc⟩ rfl rfl hl.1 rfl (lv_room (Nat.le_of_ble_eq_true rfl)) dX0_init_26 ⟨Nat.le_of_ble_eq_true rfl, Nat.le_of_ble_eq_true rfl⟩) hS (fun q _ h => hFc q h) hFc (fun u t H1 locs ht9 hvm hw hB hz1 hk1 hS => ?_)
  obtain ⟨hP1, hK1, hD1⟩ := hB
  rw [ht9] at hP1
  have hK1 := va_K.moved hvm.symm hK1
  obtain ⟨hP, hD⟩ := va_join (wr := [(a, .inr (2, [.ref q_1, .ref q_3, .null, .int 0, .int 0])), (q_1, .inl (cA_2, 96, .inl (fun _ => 0))), (q_3, .inl (cA_4, 200, .inl (fun _ => 0)))]) (w1 := []) hP hD [3] [0, 1, 2] rfl rfl (by decide) (by decide) hk1 hFc hP1 hD1
  have hK := (hK.sub (tys' := [(cA_2, .int), (cA_4, .int)]) [0, 1] rfl).app hK1
  generalize H1 = H at hP hS ⊢
  replace hP : va_P (dC, dI) vwCl [(a, .inr (2, [.ref q_1, .ref q_3, .null, .int 0, .int 0])), (q_1, .inl (cA_2, 96, .inl (fun _ => 0))), (q_3, .inl (cA_4, 200, .inl (fun _ => 0)))] H := hP
  replace hD : va_D A [(a, .inr (2, [.ref q_1, .ref q_3, .null, .int 0, .int 0])), (q_1, .inl (cA_2, 96, .inl (fun _ => 0))), (q_3, .inl (cA_4, 200, .inl (fun _ => 0)))] := hD
  have hK : va_K (dC, dI) vwCl [(cA_2, .int), (cA_4, .int)] s := hK
  have hw_26 := hw
  refine va_putF (D := (dC, dI)) (ci := 2) (v := .ref q_5) (ty := .object "Levelsmith$Dice") (C := RX0) (T := TX0) (N := 5) hx hb ht inlX0 tyX0 tyX0_ok nmX0 hown hK hP hD hS 0 rfl rfl 2 (by decide) (ht _ (wr_7 _ (List.mem_of_getElem? (i := 20) rfl))) (fun _ h9 => h9) rfl hin rfl (by decide +kernel) rfl rfl (Nat.le_of_ble_eq_true rfl) dX0_init_29 (fun H locs hP hD hS => ?_)
  replace hP : va_P (dC, dI) vwCl [(a, .inr (2, [.ref q_1, .ref q_3, .ref q_5, .int 0, .int 0])), (q_1, .inl (cA_2, 96, .inl (fun _ => 0))), (q_3, .inl (cA_4, 200, .inl (fun _ => 0)))] H := hP
  replace hD : va_D A [(a, .inr (2, [.ref q_1, .ref q_3, .ref q_5, .int 0, .int 0])), (q_1, .inl (cA_2, 96, .inl (fun _ => 0))), (q_3, .inl (cA_4, 200, .inl (fun _ => 0)))] := hD
  refine lv_aload_n hx hb dX0_init_32 rfl (lv_at hl 0 rfl) ?_
  refine lv_iconst (v := 0) hx hb dX0_init_33 (by decide) ?_
  refine va_put (D := (dC, dI)) (ci := 2) (v := .int 0) (ty := .int) (C := RX0) (T := TX0) (N := 5) hx hb ht inlX0 tyX0 tyX0_ok nmX0 hown hK hP hD hS 0 rfl rfl 3 (by decide) (ht _ (wr_7 _ (List.mem_of_getElem? (i := 21) rfl))) (fun _ h9 => h9) rfl (by decide +kernel) rfl rfl (Nat.le_of_ble_eq_true rfl) dX0_init_34 (fun H locs hP hD hS => ?_)
  replace hP : va_P (dC, dI) vwCl [(a, .inr (2, [.ref q_1, .ref q_3, .ref q_5, .int 0, .int 0])), (q_1, .inl (cA_2, 96, .inl (fun _ => 0))), (q_3, .inl (cA_4, 200, .inl (fun _ => 0)))] H := hP
  replace hD : va_D A [(a, .inr (2, [.ref q_1, .ref q_3, .ref q_5, .int 0, .int 0])), (q_1, .inl (cA_2, 96, .inl (fun _ => 0))), (q_3, .inl (cA_4, 200, .inl (fun _ => 0)))] := hD
  refine lv_aload_n hx hb dX0_init_37 rfl (lv_at hl 0 rfl) ?_
  refine lv_iconst (v := 0) hx hb dX0_init_38 (by decide) ?_
  refine va_put (D := (dC, dI)) (ci := 2) (v := .int 0) (ty := .int) (C := RX0) (T := TX0) (N := 5) hx hb ht inlX0 tyX0 tyX0_ok nmX0 hown hK hP hD hS 0 rfl rfl 4 (by decide) (ht _ (wr_7 _ (List.mem_of_getElem? (i := 22) rfl))) (fun _ h9 => h9) rfl (by decide +kernel) rfl rfl (Nat.le_of_ble_eq_true rfl) dX0_init_39 (fun H locs hP hD hS => ?_)
  replace hP : va_P (dC, dI) vwCl [(a, .inr (2, [.ref q_1, .ref q_3, .ref q_5, .int 0, .int 0])), (q_1, .inl (cA_2, 96, .inl (fun _ => 0))), (q_3, .inl (cA_4, 200, .inl (fun _ => 0)))] H := hP
  replace hD : va_D A [(a, .inr (2, [.ref q_1, .ref q_3, .ref q_5, .int 0, .int 0])), (q_1, .inl (cA_2, 96, .inl (fun _ => 0))), (q_3, .inl (cA_4, 200, .inl (fun _ => 0)))] := hD
  have hP9 := hP.sub (ws' := [(a, .inr (2, [.ref q_1, .ref q_3, .ref q_5, .int 0, .int 0])), (q_1, .inl (cA_2, 96, .inl (fun _ => 0)))]) [0, 1] rfl
  have hD9 := hD.sub (ws' := [(a, .inr (2, [.ref q_1, .ref q_3, .ref q_5, .int 0, .int 0])), (q_1, .inl (cA_2, 96, .inl (fun _ => 0)))]) [0, 1] (by decide) rfl
  have hK9 := hK.sub (tys' := [(cA_2, .int)]) [0] rfl
  exact W.vret hx hb hr (fun t htt hW => have ht := htt; ⟨⟨(), rfl, trivial, ⟨q_1, q_3, q_5, cA_2, QW_of ht hW hP9 hK9 hD9⟩⟩, hS.F ht⟩) hS.2.2 dX0_init_42
