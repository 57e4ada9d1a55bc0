theorem dJx4a65c_grow_92f84_0 : decode cJx4a65c_grow_92f84 0 = .ok (.aload_n 0, 1) := by decide +kernel
theorem dJx4a65c_grow_92f84_1 : decode cJx4a65c_grow_92f84 1 = .ok (.getfield 9, 3) := by decide +kernel
theorem dJx4a65c_grow_92f84_4 : decode cJx4a65c_grow_92f84 4 = .ok (.arraylength, 1) := by decide +kernel
theorem dJx4a65c_grow_92f84_5 : decode cJx4a65c_grow_92f84 5 = .ok (.istore_n 2, 1) := by decide +kernel
theorem dJx4a65c_grow_92f84_6 : decode cJx4a65c_grow_92f84 6 = .ok (.iload_n 2, 1) := by decide +kernel
theorem dJx4a65c_grow_92f84_7 : decode cJx4a65c_grow_92f84 7 = .ok (.ifCond .gt 13, 3) := by decide +kernel
theorem dJx4a65c_grow_92f84_10 : decode cJx4a65c_grow_92f84 10 = .ok (.aload_n 0, 1) := by decide +kernel
theorem dJx4a65c_grow_92f84_11 : decode cJx4a65c_grow_92f84 11 = .ok (.getfield 9, 3) := by decide +kernel
theorem dJx4a65c_grow_92f84_14 : decode cJx4a65c_grow_92f84 14 = .ok (.getstatic 39, 3) := by decide +kernel
theorem dJx4a65c_grow_92f84_17 : decode cJx4a65c_grow_92f84 17 = .ok (.if_acmp .eq 28, 3) := by decide +kernel
theorem dJx4a65c_grow_92f84_45 : decode cJx4a65c_grow_92f84 45 = .ok (.aload_n 0, 1) := by decide +kernel
theorem dJx4a65c_grow_92f84_46 : decode cJx4a65c_grow_92f84 46 = .ok (.bipush 10, 2) := by decide +kernel
theorem dJx4a65c_grow_92f84_48 : decode cJx4a65c_grow_92f84 48 = .ok (.iload_n 1, 1) := by decide +kernel
theorem dJx4a65c_grow_92f84_49 : decode cJx4a65c_grow_92f84 49 = .ok (.invokestatic 79, 3) := by decide +kernel
theorem dJx4a65c_grow_92f84_52 : decode cJx4a65c_grow_92f84 52 = .ok (.anewarray 7, 3) := by decide +kernel
theorem dJx4a65c_grow_92f84_55 : decode cJx4a65c_grow_92f84 55 = .ok (.dup_x1, 1) := by decide +kernel
theorem dJx4a65c_grow_92f84_56 : decode cJx4a65c_grow_92f84 56 = .ok (.putfield 9, 3) := by decide +kernel
theorem dJx4a65c_grow_92f84_59 : decode cJx4a65c_grow_92f84 59 = .ok (.areturn, 1) := by decide +kernel
theorem dJx4a65c_grow_d5877_0 : decode cJx4a65c_grow_d5877 0 = .ok (.aload_n 0, 1) := by decide +kernel
theorem dJx4a65c_grow_d5877_1 : decode cJx4a65c_grow_d5877 1 = .ok (.aload_n 0, 1) := by decide +kernel
theorem dJx4a65c_grow_d5877_2 : decode cJx4a65c_grow_d5877 2 = .ok (.getfield 48, 3) := by decide +kernel
theorem dJx4a65c_grow_d5877_5 : decode cJx4a65c_grow_d5877 5 = .ok (.iconst 1, 1) := by decide +kernel
theorem dJx4a65c_grow_d5877_6 : decode cJx4a65c_grow_d5877 6 = .ok (.iadd, 1) := by decide +kernel
theorem dJx4a65c_grow_d5877_7 : decode cJx4a65c_grow_d5877 7 = .ok (.invokevirtual 69, 3) := by decide +kernel
theorem dJx4a65c_grow_d5877_10 : decode cJx4a65c_grow_d5877 10 = .ok (.areturn, 1) := by decide +kernel
theorem dJx4a65c_add_72be8_0 : decode cJx4a65c_add_72be8 0 = .ok (.iload_n 3, 1) := by decide +kernel
theorem dJx4a65c_add_72be8_1 : decode cJx4a65c_add_72be8 1 = .ok (.aload_n 2, 1) := by decide +kernel
theorem dJx4a65c_add_72be8_2 : decode cJx4a65c_add_72be8 2 = .ok (.arraylength, 1) := by decide +kernel
theorem dJx4a65c_add_72be8_3 : decode cJx4a65c_add_72be8 3 = .ok (.if_icmp .ne 8, 3) := by decide +kernel
theorem dJx4a65c_add_72be8_6 : decode cJx4a65c_add_72be8 6 = .ok (.aload_n 0, 1) := by decide +kernel
theorem dJx4a65c_add_72be8_7 : decode cJx4a65c_add_72be8 7 = .ok (.invokevirtual 129, 3) := by decide +kernel
theorem dJx4a65c_add_72be8_10 : decode cJx4a65c_add_72be8 10 = .ok (.astore_n 2, 1) := by decide +kernel
theorem dJx4a65c_add_72be8_11 : decode cJx4a65c_add_72be8 11 = .ok (.aload_n 2, 1) := by decide +kernel
theorem dJx4a65c_add_72be8_12 : decode cJx4a65c_add_72be8 12 = .ok (.iload_n 3, 1) := by decide +kernel
theorem dJx4a65c_add_72be8_13 : decode cJx4a65c_add_72be8 13 = .ok (.aload_n 1, 1) := by decide +kernel
theorem dJx4a65c_add_72be8_14 : decode cJx4a65c_add_72be8 14 = .ok (.aastore, 1) := by decide +kernel
theorem dJx4a65c_add_72be8_15 : decode cJx4a65c_add_72be8 15 = .ok (.aload_n 0, 1) := by decide +kernel
theorem dJx4a65c_add_72be8_16 : decode cJx4a65c_add_72be8 16 = .ok (.iload_n 3, 1) := by decide +kernel
theorem dJx4a65c_add_72be8_17 : decode cJx4a65c_add_72be8 17 = .ok (.iconst 1, 1) := by decide +kernel
theorem dJx4a65c_add_72be8_18 : decode cJx4a65c_add_72be8 18 = .ok (.iadd, 1) := by decide +kernel
theorem dJx4a65c_add_72be8_19 : decode cJx4a65c_add_72be8 19 = .ok (.putfield 48, 3) := by decide +kernel
theorem dJx4a65c_add_72be8_22 : decode cJx4a65c_add_72be8 22 = .ok (.return_, 1) := by decide +kernel
theorem dJx4a65c_add_9ea2d_0 : decode cJx4a65c_add_9ea2d 0 = .ok (.aload_n 0, 1) := by decide +kernel
theorem dJx4a65c_add_9ea2d_1 : decode cJx4a65c_add_9ea2d 1 = .ok (.dup, 1) := by decide +kernel
theorem dJx4a65c_add_9ea2d_2 : decode cJx4a65c_add_9ea2d 2 = .ok (.getfield 63, 3) := by decide +kernel
theorem dJx4a65c_add_9ea2d_5 : decode cJx4a65c_add_9ea2d 5 = .ok (.iconst 1, 1) := by decide +kernel
theorem dJx4a65c_add_9ea2d_6 : decode cJx4a65c_add_9ea2d 6 = .ok (.iadd, 1) := by decide +kernel
theorem dJx4a65c_add_9ea2d_7 : decode cJx4a65c_add_9ea2d 7 = .ok (.putfield 63, 3) := by decide +kernel
theorem dJx4a65c_add_9ea2d_10 : decode cJx4a65c_add_9ea2d 10 = .ok (.aload_n 0, 1) := by decide +kernel
theorem dJx4a65c_add_9ea2d_11 : decode cJx4a65c_add_9ea2d 11 = .ok (.aload_n 1, 1) := by decide +kernel
theorem dJx4a65c_add_9ea2d_12 : decode cJx4a65c_add_9ea2d 12 = .ok (.aload_n 0, 1) := by decide +kernel
theorem dJx4a65c_add_9ea2d_13 : decode cJx4a65c_add_9ea2d 13 = .ok (.getfield 9, 3) := by decide +kernel
theorem dJx4a65c_add_9ea2d_16 : decode cJx4a65c_add_9ea2d 16 = .ok (.aload_n 0, 1) := by decide +kernel
theorem dJx4a65c_add_9ea2d_17 : decode cJx4a65c_add_9ea2d 17 = .ok (.getfield 48, 3) := by decide +kernel
theorem dJx4a65c_add_9ea2d_20 : decode cJx4a65c_add_9ea2d 20 = .ok (.invokevirtual 131, 3) := by decide +kernel
theorem dJx4a65c_add_9ea2d_23 : decode cJx4a65c_add_9ea2d 23 = .ok (.iconst 1, 1) := by decide +kernel
theorem dJx4a65c_add_9ea2d_24 : decode cJx4a65c_add_9ea2d 24 = .ok (.ireturn, 1) := by decide +kernel
theorem dX14_init_0 : decode cX14_init 0 = .ok (.aload_n 0, 1) := by decide +kernel
theorem dX14_init_1 : decode cX14_init 1 = .ok (.invokespecial 3, 3) := by decide +kernel
theorem dX14_init_4 : decode cX14_init 4 = .ok (.aload_n 0, 1) := by decide +kernel
theorem dX14_init_5 : decode cX14_init 5 = .ok (.new 9, 3) := by decide +kernel
theorem dX14_init_8 : decode cX14_init 8 = .ok (.dup, 1) := by decide +kernel
theorem dX14_init_9 : decode cX14_init 9 = .ok (.invokespecial 11, 3) := by decide +kernel
theorem dX14_init_12 : decode cX14_init 12 = .ok (.putfield 12, 3) := by decide +kernel
theorem dX14_init_15 : decode cX14_init 15 = .ok (.aload_n 0, 1) := by decide +kernel
theorem dX14_init_16 : decode cX14_init 16 = .ok (.iload_n 1, 1) := by decide +kernel
theorem dX14_init_17 : decode cX14_init 17 = .ok (.putfield 18, 3) := by decide +kernel
theorem dX14_init_20 : decode cX14_init 20 = .ok (.aload_n 0, 1) := by decide +kernel
theorem dX14_init_21 : decode cX14_init 21 = .ok (.iload_n 2, 1) := by decide +kernel
theorem dX14_init_22 : decode cX14_init 22 = .ok (.putfield 22, 3) := by decide +kernel
theorem dX14_init_25 : decode cX14_init 25 = .ok (.aload_n 0, 1) := by decide +kernel
theorem dX14_init_26 : decode cX14_init 26 = .ok (.iload_n 1, 1) := by decide +kernel
theorem dX14_init_27 : decode cX14_init 27 = .ok (.iload_n 2, 1) := by decide +kernel
theorem dX14_init_28 : decode cX14_init 28 = .ok (.imul, 1) := by decide +kernel
theorem dX14_init_29 : decode cX14_init 29 = .ok (.newarray .char, 2) := by decide +kernel
theorem dX14_init_31 : decode cX14_init 31 = .ok (.putfield 25, 3) := by decide +kernel
theorem dX14_init_34 : decode cX14_init 34 = .ok (.iconst 0, 1) := by decide +kernel
theorem dX14_init_35 : decode cX14_init 35 = .ok (.istore 4, 2) := by decide +kernel
theorem dX14_init_37 : decode cX14_init 37 = .ok (.iload 4, 2) := by decide +kernel
theorem dX14_init_39 : decode cX14_init 39 = .ok (.aload_n 0, 1) := by decide +kernel
theorem dX14_init_40 : decode cX14_init 40 = .ok (.getfield 25, 3) := by decide +kernel
theorem dX14_init_43 : decode cX14_init 43 = .ok (.arraylength, 1) := by decide +kernel
theorem dX14_init_44 : decode cX14_init 44 = .ok (.if_icmp .ge 17, 3) := by decide +kernel
theorem dX14_init_47 : decode cX14_init 47 = .ok (.aload_n 0, 1) := by decide +kernel
theorem dX14_init_48 : decode cX14_init 48 = .ok (.getfield 25, 3) := by decide +kernel
theorem dX14_init_51 : decode cX14_init 51 = .ok (.iload 4, 2) := by decide +kernel
theorem dX14_init_53 : decode cX14_init 53 = .ok (.iload_n 3, 1) := by decide +kernel
theorem dX14_init_54 : decode cX14_init 54 = .ok (.castore, 1) := by decide +kernel
theorem dX14_init_55 : decode cX14_init 55 = .ok (.iinc 4 1, 3) := by decide +kernel
theorem dX14_init_58 : decode cX14_init 58 = .ok (.goto (-21), 3) := by decide +kernel
theorem dX14_init_61 : decode cX14_init 61 = .ok (.aload_n 0, 1) := by decide +kernel
theorem dX14_init_62 : decode cX14_init 62 = .ok (.iload_n 2, 1) := by decide +kernel
theorem dX14_init_63 : decode cX14_init 63 = .ok (.iconst 1, 1) := by decide +kernel
theorem dX14_init_64 : decode cX14_init 64 = .ok (.isub, 1) := by decide +kernel
theorem dX14_init_65 : decode cX14_init 65 = .ok (.putfield 29, 3) := by decide +kernel
theorem dX14_init_68 : decode cX14_init 68 = .ok (.return_, 1) := by decide +kernel
set_option maxHeartbeats 4000000 in
set_option maxRecDepth 100000 in
theorem c_Jx4a65c_grow_92f84 (l : Launch) (dC : Nat → ClassId) (dI : Nat → Nat → Nat) (de : Nat) (a : Nat) (mo : Int32) (sz : Nat) : Met l yJx4a65c_grow_92f84 (.code yJx4a65c_grow_92f84 cJx4a65c_grow_92f84 4 (some (.array (.object "java/lang/Object"))) :: wsL_law) { frames := 1, cells := 1, slots := 10, locals := 40 } (va_Pc [.ref a, .int 1] (PW dC dI de [] [(a, .inr (1, [.int mo, .ref de, .int 0]))] sz)) (va_Qr (fun (_ : Unit) => True) (fun (_ : Unit) (ra : Nat) (t : State) => ∃ cO : ClassId, QW dC dI [(cO, .object "java/lang/Object")] [(a, .inr (1, [.int mo, .ref ra, .int 0])), (ra, .inl (cO, 10, .inr (.inr (.inr (.inr (fun _ => none))))))] (va_A [(a, .inr (1, [.int mo, .ref de, .int 0]))] sz) t) (va_A [(a, .inr (1, [.int mo, .ref de, .int 0]))] sz)) 1 10 (va_A [(a, .inr (1, [.int mo, .ref de, .int 0]))] sz) := by
  refine Met.ofW (cc := cJx4a65c_grow_92f84) (maxL := 4) (ret := (some (.array (.object "java/lang/Object")))) (by decide) rfl ?_
  intro p e s m args below meth c s₁ B hml hv
  obtain ⟨rfl, hsz, hP, hK, hD0, hG⟩ := hv
  have hx := B.exec
  have hb := B.bytes
  have hr := B.returns
  have hts := atoms_spec (ws := .code yJx4a65c_grow_92f84 cJx4a65c_grow_92f84 4 (some (.array (.object "java/lang/Object"))) :: wsL_law) B.pre
  have ht : ∀ w ∈ wsL_law, w.before _ s = true := fun w h => hts w (List.mem_cons_of_mem _ h)
  have hown : s.vm.findClass RJx4a65c = some m.cls := findClass_of_methodNamed B.named
  have hlocks := B.notSynchronized
  subst hsz
  have hD := hD0.self (sz := s.heap.size)
  generalize hAe : va_A [(a, .inr (1, [.int mo, .ref de, .int 0]))] s.heap.size = A at hD hG ⊢
  have hA : ∀ q : Nat, s.heap.size ≤ q → A q := fun q h => by rw [← hAe]; exact Or.inr h
  have hS : va_S A s.heap s.heap [] := va_S.rf
  have hP : va_P (dC, dI) vwCl [(a, .inr (1, [.int mo, .ref de, .int 0]))] s.heap := hP
  have hD : va_D A [(a, .inr (1, [.int mo, .ref de, .int 0]))] := hD
  have hl := lv_entry ([.ref a, .int 1]) (n := 4) (Nat.le_of_ble_eq_true rfl)
  rw [lg_entry_eq]
  generalize (lg_sl ([.ref a, .int 1]) ++ List.replicate (4 - (lg_sl ([.ref a, .int 1])).length) Slot.unset).toArray = ls at hl ⊢
  have hl : lv_has ls 4 [(0, .ref a), (1, .int 1)] := hl
  refine lv_aload_n hx hb dJx4a65c_grow_92f84_0 rfl (lv_at hl 0 rfl) ?_
  refine va_get (D := (dC, dI)) (ci := 1) (v := .ref de) (C := RJx4a65c) (T := TJx4a65c) (N := 3) hx hb ht inlJx4a65c hown hK hP 0 rfl rfl 1 (by decide) (ht _ (wr_3 _ (List.mem_of_getElem? (i := 2) rfl))) (fun _ h9 => h9) rfl dJx4a65c_grow_92f84_1 ?_
  refine va_tlen hx hb hG.1.2.2.2.1 hS (v := 0) rfl dJx4a65c_grow_92f84_4 ?_
  refine lv_istore_n (lv' := [(2, .int 0), (0, .ref a), (1, .int 1)]) hx hb dJx4a65c_grow_92f84_5 rfl hl (by decide) rfl (fun ls hl => ?_)
  refine lv_iload_n hx hb dJx4a65c_grow_92f84_6 rfl (lv_at hl 0 rfl) ?_
  refine lv_if_gt (tgt := 20) hx hb dJx4a65c_grow_92f84_7 (by decide) (fun c_7 => absurd c_7 (by decide)) (fun c_7 => ?_)
  refine lv_aload_n hx hb dJx4a65c_grow_92f84_10 rfl (lv_at hl 1 rfl) ?_
  refine va_get (D := (dC, dI)) (ci := 1) (v := .ref de) (C := RJx4a65c) (T := TJx4a65c) (N := 3) hx hb ht inlJx4a65c hown hK hP 0 rfl rfl 1 (by decide) (ht _ (wr_3 _ (List.mem_of_getElem? (i := 2) rfl))) (fun _ h9 => h9) rfl dJx4a65c_grow_92f84_11 ?_
  refine va_gets hx hb hG.1.2.2.1 hS hown (ht _ (wr_3 _ (List.mem_of_getElem? (i := 1) rfl))) (fun _ h9 => h9) dJx4a65c_grow_92f84_14 ?_
  refine lv_acmp_eq (tgt := 45) (rx := (some de)) (ry := (some de)) hx hb dJx4a65c_grow_92f84_17 (by decide) (fun c_17 => ?_) (fun c_17 => absurd rfl c_17)
  refine lv_aload_n hx hb dJx4a65c_grow_92f84_45 rfl (lv_at hl 1 rfl) ?_
  refine lv_bipush (v := 10) hx hb dJx4a65c_grow_92f84_46 (by decide) ?_
  refine lv_iload_n hx hb dJx4a65c_grow_92f84_48 rfl (lv_at hl 2 rfl) ?_
  refine va_mmax hx hb (hml.trans hl.1.symm) hown (ht _ (wr_15 _ (List.mem_of_getElem? (i := 20) rfl))) (ht _ (wr_11 _ (List.mem_of_getElem? (i := 11) rfl))) (ht _ (wr_11 _ (List.mem_of_getElem? (i := 12) rfl))) (ht _ (wr_11 _ (List.mem_of_getElem? (i := 13) rfl))) (Nat.le_of_ble_eq_true rfl) (Nat.le_of_ble_eq_true rfl) (Nat.le_of_ble_eq_true rfl) (Nat.le_of_ble_eq_true rfl) dJx4a65c_grow_92f84_49 ?_
  refine W.eq (g2 := F0 m 52 ls [.int 10, .ref a]) rfl ?_
  refine va_newq (C := "java/lang/Object") (N' := 10) hx hb hown (ht _ (wr_15 _ (List.mem_of_getElem? (i := 21) rfl))) hG.2.2.2.2.2.2.1 hK hP hD hS hA (by decide +kernel) (by decide +kernel) (Nat.le_of_ble_eq_true rfl) (Nat.le_of_ble_eq_true rfl) (Nat.le_of_ble_eq_true rfl) dJx4a65c_grow_92f84_52 (fun q_1 cA_2 H hK hP hD hS => ?_)
  replace hP : va_P (dC, dI) vwCl [(a, .inr (1, [.int mo, .ref de, .int 0])), (q_1, .inl (cA_2, 10, .inr (.inr (.inr (.inr (fun _ => none))))))] H := hP
  replace hD : va_D A [(a, .inr (1, [.int mo, .ref de, .int 0])), (q_1, .inl (cA_2, 10, .inr (.inr (.inr (.inr (fun _ => none))))))] := hD
  have hK : va_K (dC, dI) vwCl [(cA_2, .object "java/lang/Object")] s := hK
  refine W.widen (k := 1) (n := 10) (Nat.le_of_ble_eq_true rfl) (Nat.le_of_ble_eq_true rfl) ?_
  refine lv_dup_x1 hx hb dJx4a65c_grow_92f84_55 rfl rfl ?_
  refine va_put (D := (dC, dI)) (ci := 1) (v := .ref q_1) (ty := .array (.object "java/lang/Object")) (C := RJx4a65c) (T := TJx4a65c) (N := 3) hx hb ht inlJx4a65c tyJx4a65c tyJx4a65c_ok nmJx4a65c hown hK hP hD hS 0 rfl rfl 1 (by decide) (ht _ (wr_3 _ (List.mem_of_getElem? (i := 2) rfl))) (fun _ h9 => h9) rfl (by decide +kernel) rfl rfl (Nat.le_of_ble_eq_true rfl) dJx4a65c_grow_92f84_56 (fun H locs hP hD hS => ?_)
  replace hP : va_P (dC, dI) vwCl [(a, .inr (1, [.int mo, .ref q_1, .int 0])), (q_1, .inl (cA_2, 10, .inr (.inr (.inr (.inr (fun _ => none))))))] H := hP
  replace hD : va_D A [(a, .inr (1, [.int mo, .ref q_1, .int 0])), (q_1, .inl (cA_2, 10, .inr (.inr (.inr (.inr (fun _ => none))))))] := hD
  have hP9 := hP.sub (ws' := [(a, .inr (1, [.int mo, .ref q_1, .int 0])), (q_1, .inl (cA_2, 10, .inr (.inr (.inr (.inr (fun _ => none))))))]) [0, 1] rfl
  have hD9 := hD.sub (ws' := [(a, .inr (1, [.int mo, .ref q_1, .int 0])), (q_1, .inl (cA_2, 10, .inr (.inr (.inr (.inr (fun _ => none))))))]) [0, 1] (by decide) rfl
  have hK9 := hK.sub (tys' := [(cA_2, .object "java/lang/Object")]) [0] rfl
  exact W.aret (v := .ref q_1) hx hb hr (Or.inr ⟨_, rfl⟩) (Or.inr ⟨_, rfl⟩) (fun t htt hW => have ht := htt; ⟨⟨(), q_1, rfl, trivial, ⟨cA_2, QW_of ht hW hP9 hK9 hD9⟩⟩, hS.F ht⟩) hS.2.2 dJx4a65c_grow_92f84_59
set_option maxHeartbeats 4000000 in
set_option maxRecDepth 100000 in
theorem c_Jx4a65c_grow_d5877 (l : Launch) (dC : Nat → ClassId) (dI : Nat → Nat → Nat) (de : Nat) (a : Nat) (mo : Int32) (sz : Nat) : Met l yJx4a65c_grow_d5877 (.code yJx4a65c_grow_d5877 cJx4a65c_grow_d5877 1 (some (.array (.object "java/lang/Object"))) :: wsL_law) { frames := 2, cells := 1, slots := 10, locals := 63 } (va_Pc [.ref a] (PW dC dI de [] [(a, .inr (1, [.int mo, .ref de, .int 0]))] sz)) (va_Qr (fun (_ : Unit) => True) (fun (_ : Unit) (ra : Nat) (t : State) => ∃ cO : ClassId, QW dC dI [(cO, .object "java/lang/Object")] [(a, .inr (1, [.int mo, .ref ra, .int 0])), (ra, .inl (cO, 10, .inr (.inr (.inr (.inr (fun _ => none))))))] (va_A [(a, .inr (1, [.int mo, .ref de, .int 0]))] sz) t) (va_A [(a, .inr (1, [.int mo, .ref de, .int 0]))] sz)) 1 10 (va_A [(a, .inr (1, [.int mo, .ref de, .int 0]))] sz) := by
  refine Met.ofW (cc := cJx4a65c_grow_d5877) (maxL := 1) (ret := (some (.array (.object "java/lang/Object")))) (by decide) rfl ?_
  intro p e s m args below meth c s₁ B hml hv
  obtain ⟨rfl, hsz, hP, hK, hD0, hG⟩ := hv
  have hx := B.exec
  have hb := B.bytes
  have hr := B.returns
  have hts := atoms_spec (ws := .code yJx4a65c_grow_d5877 cJx4a65c_grow_d5877 1 (some (.array (.object "java/lang/Object"))) :: wsL_law) B.pre
  have ht : ∀ w ∈ wsL_law, w.before _ s = true := fun w h => hts w (List.mem_cons_of_mem _ h)
  have hown : s.vm.findClass RJx4a65c = some m.cls := findClass_of_methodNamed B.named
  have hlocks := B.notSynchronized
  subst hsz
  have hD := hD0.self (sz := s.heap.size)
  generalize hAe : va_A [(a, .inr (1, [.int mo, .ref de, .int 0]))] s.heap.size = A at hD hG ⊢
  have hA : ∀ q : Nat, s.heap.size ≤ q → A q := fun q h => by rw [← hAe]; exact Or.inr h
  have hS : va_S A s.heap s.heap [] := va_S.rf
  have hP : va_P (dC, dI) vwCl [(a, .inr (1, [.int mo, .ref de, .int 0]))] s.heap := hP
  have hD : va_D A [(a, .inr (1, [.int mo, .ref de, .int 0]))] := hD
  have hl := lv_entry ([.ref a]) (n := 1) (Nat.le_of_ble_eq_true rfl)
  rw [lg_entry_eq]
  generalize (lg_sl ([.ref a]) ++ List.replicate (1 - (lg_sl ([.ref a])).length) Slot.unset).toArray = ls at hl ⊢
  have hl : lv_has ls 1 [(0, .ref a)] := hl
  refine lv_aload_n hx hb dJx4a65c_grow_d5877_0 rfl (lv_at hl 0 rfl) ?_
  refine lv_aload_n hx hb dJx4a65c_grow_d5877_1 rfl (lv_at hl 0 rfl) ?_
  refine va_get (D := (dC, dI)) (ci := 1) (v := .int 0) (C := RJx4a65c) (T := TJx4a65c) (N := 3) hx hb ht inlJx4a65c hown hK hP 0 rfl rfl 2 (by decide) (ht _ (wr_14 _ (List.mem_of_getElem? (i := 9) rfl))) (fun _ h9 => h9) rfl dJx4a65c_grow_d5877_2 ?_
  refine lv_iconst (v := 1) hx hb dJx4a65c_grow_d5877_5 (by decide) ?_
  refine lv_iadd hx hb dJx4a65c_grow_d5877_6 ?_
  refine lv_topi (fun y ey => ?_)
  replace ey : y = 1 := ey.trans (by decide)
  subst ey
  have hPc := hP.sub (ws' := [(a, .inr (1, [.int mo, .ref de, .int 0]))]) [0] rfl
  have hDc := hD.sub (ws' := [(a, .inr (1, [.int mo, .ref de, .int 0]))]) [0] (by decide) rfl
  have hKc := hK.sub (tys' := []) [] rfl
  have hFc := va_free (wc := [(a, .inr (1, [.int mo, .ref de, .int 0]))]) hD hS hA [0] rfl
  refine va_callr (va_runV (As := [.int 1]) (rest := []) ⟨hx, hb, hml, hown, ht⟩ (c_Jx4a65c_grow_92f84 l dC dI de (a) (mo) s.heap.size) (cwV 1 ht (gWV (wr_15 _ (List.mem_of_getElem? (i := 16) rfl)) (wr_15 _ (List.mem_of_getElem? (i := 17) rfl)) (wr_15 _ (List.mem_of_getElem? (i := 18) rfl)) (wr_1 _ (List.mem_of_getElem? (i := 16) rfl)) (wr_15 _ (List.mem_of_getElem? (i := 19) rfl))) rfl rfl rfl (by decide +kernel) ⟨Nat.le_of_ble_eq_true rfl, Nat.le_of_ble_eq_true rfl⟩) ⟨PW_blind, va_recv hKc hPc (ci := 1) (q0 := 0) rfl rfl, PW_call hPc hDc hKc hS hG hFc⟩ rfl rfl hl.1 rfl (lv_room (Nat.le_of_ble_eq_true rfl)) dJx4a65c_grow_d5877_7 ⟨Nat.le_of_ble_eq_true rfl, Nat.le_of_ble_eq_true rfl⟩) hS (fun q _ h => hFc q h) hFc (fun u ra_7 t H1 locs ht9 hvm hw hB hz1 hk1 hS => ?_)
  obtain ⟨cO_1, hP1, hK1, hD1⟩ := hB
  rw [ht9] at hP1
  have hK1 := va_K.moved hvm.symm hK1
  obtain ⟨hP, hD⟩ := va_join (wr := []) (w1 := [(a, .inr (1, [.int mo, .ref ra_7, .int 0])), (ra_7, .inl (cO_1, 10, .inr (.inr (.inr (.inr (fun _ => none))))))]) hP hD [0] [] rfl rfl (by decide) (by decide) hk1 hFc hP1 hD1
  have hK := (hK.sub (tys' := []) [] rfl).app hK1
  generalize H1 = H at hP hS ⊢
  replace hP : va_P (dC, dI) vwCl [(a, .inr (1, [.int mo, .ref ra_7, .int 0])), (ra_7, .inl (cO_1, 10, .inr (.inr (.inr (.inr (fun _ => none))))))] H := hP
  replace hD : va_D A [(a, .inr (1, [.int mo, .ref ra_7, .int 0])), (ra_7, .inl (cO_1, 10, .inr (.inr (.inr (.inr (fun _ => none))))))] := hD
  have hK : va_K (dC, dI) vwCl [(cO_1, .object "java/lang/Object")] s := hK
  refine W.widen (k := 1) (n := 10) (Nat.le_of_ble_eq_true rfl) (Nat.le_of_ble_eq_true rfl) ?_
  have hP9 := hP.sub (ws' := [(a, .inr (1, [.int mo, .ref ra_7, .int 0])), (ra_7, .inl (cO_1, 10, .inr (.inr (.inr (.inr (fun _ => none))))))]) [0, 1] rfl
  have hD9 := hD.sub (ws' := [(a, .inr (1, [.int mo, .ref ra_7, .int 0])), (ra_7, .inl (cO_1, 10, .inr (.inr (.inr (.inr (fun _ => none))))))]) [0, 1] (by decide) rfl
  have hK9 := hK.sub (tys' := [(cO_1, .object "java/lang/Object")]) [0] rfl
  exact W.aret (v := .ref ra_7) hx hb hr (Or.inr ⟨_, rfl⟩) (Or.inr ⟨_, rfl⟩) (fun t htt hW => have ht := htt; ⟨⟨(), ra_7, rfl, trivial, ⟨cO_1, QW_of ht hW hP9 hK9 hD9⟩⟩, hS.F ht⟩) hS.2.2 dJx4a65c_grow_d5877_10
set_option maxHeartbeats 4000000 in
set_option maxRecDepth 100000 in
theorem c_add3P (l : Launch) (dC : Nat → ClassId) (dI : Nat → Nat → Nat) (de : Nat) (a : Nat) (mo : Int32) (v : Nat) (e0 : Value) (e1 : Value) (e2 : Value) (e3 : Value) (e4 : Value) (e5 : Value) (e6 : Value) (e7 : Value) (e8 : Value) (e9 : Value) (sz : Nat) : Met l yJx4a65c_add_72be8 (.code yJx4a65c_add_72be8 cJx4a65c_add_72be8 4 none :: wsL_law) { frames := 3, cells := 1, slots := 10, locals := 83 } (va_Pc [.ref a, .ref v, .ref de, .int 0] (PW dC dI de [] [(a, .inr (1, [.int mo, .ref de, .int 0])), (v, .inr (7, [e0, e1, e2, e3, e4, e5, e6, e7, e8, e9]))] sz)) (va_Qv (fun (u : Unit) => True) (fun (_ : Unit) (t : State) => ∃ m2 : Int32, ∃ d2 : Nat, QW dC dI [] [(a, .inr (1, [.int m2, .ref d2, .int 1]))] (va_A [(a, .inr (1, [.int mo, .ref de, .int 0])), (v, .inr (7, [e0, e1, e2, e3, e4, e5, e6, e7, e8, e9]))] sz) t) (va_A [(a, .inr (1, [.int mo, .ref de, .int 0])), (v, .inr (7, [e0, e1, e2, e3, e4, e5, e6, e7, e8, e9]))] sz)) 1 10 (va_A [(a, .inr (1, [.int mo, .ref de, .int 0])), (v, .inr (7, [e0, e1, e2, e3, e4, e5, e6, e7, e8, e9]))] sz) := by
  refine Met.ofW (cc := cJx4a65c_add_72be8) (maxL := 4) (ret := none) (by decide) rfl ?_
  intro p e s m args below meth c s₁ B hml hv
  obtain ⟨rfl, hsz, hP, hK, hD0, hG⟩ := hv
  have hx := B.exec
  have hb := B.bytes
  have hr := B.returns
  have hts := atoms_spec (ws := .code yJx4a65c_add_72be8 cJx4a65c_add_72be8 4 none :: wsL_law) B.pre
  have ht : ∀ w ∈ wsL_law, w.before _ s = true := fun w h => hts w (List.mem_cons_of_mem _ h)
  have hown : s.vm.findClass RJx4a65c = some m.cls := findClass_of_methodNamed B.named
  have hlocks := B.notSynchronized
  subst hsz
  have hD := hD0.self (sz := s.heap.size)
  generalize hAe : va_A [(a, .inr (1, [.int mo, .ref de, .int 0])), (v, .inr (7, [e0, e1, e2, e3, e4, e5, e6, e7, e8, e9]))] s.heap.size = A at hD hG ⊢
  have hA : ∀ q : Nat, s.heap.size ≤ q → A q := fun q h => by rw [← hAe]; exact Or.inr h
  have hS : va_S A s.heap s.heap [] := va_S.rf
  have hP : va_P (dC, dI) vwCl [(a, .inr (1, [.int mo, .ref de, .int 0])), (v, .inr (7, [e0, e1, e2, e3, e4, e5, e6, e7, e8, e9]))] s.heap := hP
  have hD : va_D A [(a, .inr (1, [.int mo, .ref de, .int 0])), (v, .inr (7, [e0, e1, e2, e3, e4, e5, e6, e7, e8, e9]))] := hD
  have hl := lv_entry ([.ref a, .ref v, .ref de, .int 0]) (n := 4) (Nat.le_of_ble_eq_true rfl)
  rw [lg_entry_eq]
  generalize (lg_sl ([.ref a, .ref v, .ref de, .int 0]) ++ List.replicate (4 - (lg_sl ([.ref a, .ref v, .ref de, .int 0])).length) Slot.unset).toArray = ls at hl ⊢
  have hl : lv_has ls 4 [(0, .ref a), (1, .ref v), (2, .ref de), (3, .int 0)] := hl
  refine lv_iload_n hx hb dJx4a65c_add_72be8_0 rfl (lv_at hl 3 rfl) ?_
  refine lv_aload_n hx hb dJx4a65c_add_72be8_1 rfl (lv_at hl 2 rfl) ?_
  refine va_tlen hx hb hG.1.2.2.2.1 hS (v := 0) rfl dJx4a65c_add_72be8_2 ?_
  refine lv_icmp_ne (tgt := 11) hx hb dJx4a65c_add_72be8_3 (by decide) (fun c_3 => absurd c_3 (by decide)) (fun c_3 => ?_)
  refine lv_aload_n hx hb dJx4a65c_add_72be8_6 rfl (lv_at hl 0 rfl) ?_
  have hPc := hP.sub (ws' := [(a, .inr (1, [.int mo, .ref de, .int 0]))]) [0] rfl
  have hDc := hD.sub (ws' := [(a, .inr (1, [.int mo, .ref de, .int 0]))]) [0] (by decide) rfl
  have hKc := hK.sub (tys' := []) [] rfl
  have hFc := va_free (wc := [(a, .inr (1, [.int mo, .ref de, .int 0]))]) hD hS hA [0] rfl
  refine va_callr (va_runV (As := []) (rest := []) ⟨hx, hb, hml, hown, ht⟩ (c_Jx4a65c_grow_d5877 l dC dI de (a) (mo) s.heap.size) (cwV 0 ht (gWV (wr_15 _ (List.mem_of_getElem? (i := 12) rfl)) (wr_15 _ (List.mem_of_getElem? (i := 13) rfl)) (wr_15 _ (List.mem_of_getElem? (i := 14) rfl)) (wr_1 _ (List.mem_of_getElem? (i := 16) rfl)) (wr_15 _ (List.mem_of_getElem? (i := 15) rfl))) rfl rfl rfl (by decide +kernel) ⟨Nat.le_of_ble_eq_true rfl, Nat.le_of_ble_eq_true rfl⟩) ⟨PW_blind, va_recv hKc hPc (ci := 1) (q0 := 0) rfl rfl, PW_call hPc hDc hKc hS hG hFc⟩ rfl rfl hl.1 rfl (lv_room (Nat.le_of_ble_eq_true rfl)) dJx4a65c_add_72be8_7 ⟨Nat.le_of_ble_eq_true rfl, Nat.le_of_ble_eq_true rfl⟩) hS (fun q _ h => hFc q h) hFc (fun u ra_7 t H1 locs ht9 hvm hw hB hz1 hk1 hS => ?_)
  obtain ⟨cO_1, hP1, hK1, hD1⟩ := hB
  rw [ht9] at hP1
  have hK1 := va_K.moved hvm.symm hK1
  obtain ⟨hP, hD⟩ := va_join (wr := [(v, .inr (7, [e0, e1, e2, e3, e4, e5, e6, e7, e8, e9]))]) (w1 := [(a, .inr (1, [.int mo, .ref ra_7, .int 0])), (ra_7, .inl (cO_1, 10, .inr (.inr (.inr (.inr (fun _ => none))))))]) hP hD [0] [1] rfl rfl (by decide) (by decide) hk1 hFc hP1 hD1
  have hK := (hK.sub (tys' := []) [] rfl).app hK1
  generalize H1 = H at hP hS ⊢
  replace hP : va_P (dC, dI) vwCl [(v, .inr (7, [e0, e1, e2, e3, e4, e5, e6, e7, e8, e9])), (a, .inr (1, [.int mo, .ref ra_7, .int 0])), (ra_7, .inl (cO_1, 10, .inr (.inr (.inr (.inr (fun _ => none))))))] H := hP
  replace hD : va_D A [(v, .inr (7, [e0, e1, e2, e3, e4, e5, e6, e7, e8, e9])), (a, .inr (1, [.int mo, .ref ra_7, .int 0])), (ra_7, .inl (cO_1, 10, .inr (.inr (.inr (.inr (fun _ => none))))))] := hD
  have hK : va_K (dC, dI) vwCl [(cO_1, .object "java/lang/Object")] s := hK
  refine W.widen (k := 1) (n := 10) (Nat.le_of_ble_eq_true rfl) (Nat.le_of_ble_eq_true rfl) ?_
  refine lv_astore_n (lv' := [(2, .ref ra_7), (0, .ref a), (1, .ref v), (3, .int 0)]) hx hb dJx4a65c_add_72be8_10 rfl hl (by decide) rfl (fun ls hl => ?_)
  refine lv_aload_n hx hb dJx4a65c_add_72be8_11 rfl (lv_at hl 0 rfl) ?_
  refine lv_iload_n hx hb dJx4a65c_add_72be8_12 rfl (lv_at hl 3 rfl) ?_
  refine lv_aload_n hx hb dJx4a65c_add_72be8_13 rfl (lv_at hl 2 rfl) ?_
  refine va_astqO (E := "java/lang/Object") hx hb hK hP hD hS 2 0 0 7 rfl rfl (hG.2.2.2.1 _ (List.mem_of_getElem? (i := 6) rfl)) rfl rfl (by unfold vp_in; decide) dJx4a65c_add_72be8_14 (fun H locs hP hD hS => ?_)
  replace hP : va_P (dC, dI) vwCl [(v, .inr (7, [e0, e1, e2, e3, e4, e5, e6, e7, e8, e9])), (a, .inr (1, [.int mo, .ref ra_7, .int 0])), (ra_7, .inl (cO_1, 10, .inr (.inr (.inr (.inr (va_up (fun _ => none) (0 : Int32).toNatClampNeg (some v)))))))] H := hP
  replace hD : va_D A [(v, .inr (7, [e0, e1, e2, e3, e4, e5, e6, e7, e8, e9])), (a, .inr (1, [.int mo, .ref ra_7, .int 0])), (ra_7, .inl (cO_1, 10, .inr (.inr (.inr (.inr (va_up (fun _ => none) (0 : Int32).toNatClampNeg (some v)))))))] := hD
  refine lv_aload_n hx hb dJx4a65c_add_72be8_15 rfl (lv_at hl 1 rfl) ?_
  refine lv_iload_n hx hb dJx4a65c_add_72be8_16 rfl (lv_at hl 3 rfl) ?_
  refine lv_iconst (v := 1) hx hb dJx4a65c_add_72be8_17 (by decide) ?_
  refine lv_iadd hx hb dJx4a65c_add_72be8_18 ?_
  refine lv_topi (fun y ey => ?_)
  replace ey : y = 1 := ey.trans (by decide)
  subst ey
  refine va_put (D := (dC, dI)) (ci := 1) (v := .int 1) (ty := .int) (C := RJx4a65c) (T := TJx4a65c) (N := 3) hx hb ht inlJx4a65c tyJx4a65c tyJx4a65c_ok nmJx4a65c hown hK hP hD hS 1 rfl rfl 2 (by decide) (ht _ (wr_14 _ (List.mem_of_getElem? (i := 9) rfl))) (fun _ h9 => h9) rfl (by decide +kernel) rfl rfl (Nat.le_of_ble_eq_true rfl) dJx4a65c_add_72be8_19 (fun H locs hP hD hS => ?_)
  replace hP : va_P (dC, dI) vwCl [(v, .inr (7, [e0, e1, e2, e3, e4, e5, e6, e7, e8, e9])), (a, .inr (1, [.int mo, .ref ra_7, .int 1])), (ra_7, .inl (cO_1, 10, .inr (.inr (.inr (.inr (va_up (fun _ => none) (0 : Int32).toNatClampNeg (some v)))))))] H := hP
  replace hD : va_D A [(v, .inr (7, [e0, e1, e2, e3, e4, e5, e6, e7, e8, e9])), (a, .inr (1, [.int mo, .ref ra_7, .int 1])), (ra_7, .inl (cO_1, 10, .inr (.inr (.inr (.inr (va_up (fun _ => none) (0 : Int32).toNatClampNeg (some v)))))))] := hD
  have hP9 := hP.sub (ws' := [(a, .inr (1, [.int mo, .ref ra_7, .int 1]))]) [1] rfl
  have hD9 := hD.sub (ws' := [(a, .inr (1, [.int mo, .ref ra_7, .int 1]))]) [1] (by decide) rfl
  have hK9 := hK.sub (tys' := []) [] rfl
  exact W.vret hx hb hr (fun t htt hW => have ht := htt; ⟨⟨(), rfl, trivial, ⟨mo, ra_7, QW_of ht hW hP9 hK9 hD9⟩⟩, hS.F ht⟩) hS.2.2 dJx4a65c_add_72be8_22
set_option maxHeartbeats 4000000 in
set_option maxRecDepth 100000 in
theorem c_addP (l : Launch) (dC : Nat → ClassId) (dI : Nat → Nat → Nat) (de : Nat) (a : Nat) (mo : Int32) (v : Nat) (e0 : Value) (e1 : Value) (e2 : Value) (e3 : Value) (e4 : Value) (e5 : Value) (e6 : Value) (e7 : Value) (e8 : Value) (e9 : Value) (sz : Nat) : Met l yJx4a65c_add_9ea2d (.code yJx4a65c_add_9ea2d cJx4a65c_add_9ea2d 2 (some .boolean) :: wsL_law) { frames := 4, cells := 1, slots := 10, locals := 106 } (va_Pc [.ref a, .ref v] (PW dC dI de [] [(a, .inr (1, [.int mo, .ref de, .int 0])), (v, .inr (7, [e0, e1, e2, e3, e4, e5, e6, e7, e8, e9]))] sz)) (va_Qi (fun (r : Int32) (u : Unit) => r = 1) (fun (_ : Unit) (t : State) => ∃ m2 : Int32, ∃ d2 : Nat, QW dC dI [] [(a, .inr (1, [.int m2, .ref d2, .int 1]))] (va_A [(a, .inr (1, [.int mo, .ref de, .int 0])), (v, .inr (7, [e0, e1, e2, e3, e4, e5, e6, e7, e8, e9]))] sz) t) (va_A [(a, .inr (1, [.int mo, .ref de, .int 0])), (v, .inr (7, [e0, e1, e2, e3, e4, e5, e6, e7, e8, e9]))] sz)) 1 10 (va_A [(a, .inr (1, [.int mo, .ref de, .int 0])), (v, .inr (7, [e0, e1, e2, e3, e4, e5, e6, e7, e8, e9]))] sz) := by
  refine Met.ofW (cc := cJx4a65c_add_9ea2d) (maxL := 2) (ret := (some .boolean)) (by decide) rfl ?_
  intro p e s m args below meth c s₁ B hml hv
  obtain ⟨rfl, hsz, hP, hK, hD0, hG⟩ := hv
  have hx := B.exec
  have hb := B.bytes
  have hr := B.returns
  have hts := atoms_spec (ws := .code yJx4a65c_add_9ea2d cJx4a65c_add_9ea2d 2 (some .boolean) :: wsL_law) B.pre
  have ht : ∀ w ∈ wsL_law, w.before _ s = true := fun w h => hts w (List.mem_cons_of_mem _ h)
  have hown : s.vm.findClass RJx4a65c = some m.cls := findClass_of_methodNamed B.named
  have hlocks := B.notSynchronized
  subst hsz
  have hD := hD0.self (sz := s.heap.size)
  generalize hAe : va_A [(a, .inr (1, [.int mo, .ref de, .int 0])), (v, .inr (7, [e0, e1, e2, e3, e4, e5, e6, e7, e8, e9]))] s.heap.size = A at hD hG ⊢
  have hA : ∀ q : Nat, s.heap.size ≤ q → A q := fun q h => by rw [← hAe]; exact Or.inr h
  have hS : va_S A s.heap s.heap [] := va_S.rf
  have hP : va_P (dC, dI) vwCl [(a, .inr (1, [.int mo, .ref de, .int 0])), (v, .inr (7, [e0, e1, e2, e3, e4, e5, e6, e7, e8, e9]))] s.heap := hP
  have hD : va_D A [(a, .inr (1, [.int mo, .ref de, .int 0])), (v, .inr (7, [e0, e1, e2, e3, e4, e5, e6, e7, e8, e9]))] := hD
  have hl := lv_entry ([.ref a, .ref v]) (n := 2) (Nat.le_of_ble_eq_true rfl)
  rw [lg_entry_eq]
  generalize (lg_sl ([.ref a, .ref v]) ++ List.replicate (2 - (lg_sl ([.ref a, .ref v])).length) Slot.unset).toArray = ls at hl ⊢
  have hl : lv_has ls 2 [(0, .ref a), (1, .ref v)] := hl
  refine lv_aload_n hx hb dJx4a65c_add_9ea2d_0 rfl (lv_at hl 0 rfl) ?_
  refine lv_dup hx hb dJx4a65c_add_9ea2d_1 rfl ?_
  refine va_get (D := (dC, dI)) (ci := 1) (v := .int mo) (C := RJx4a65c) (T := TJx4a65c) (N := 3) hx hb ht inlJx4a65c hown hK hP 0 rfl rfl 0 (by decide) (ht _ (wr_15 _ (List.mem_of_getElem? (i := 6) rfl))) (fun x9 h9 => u_same (ht _ (wr_15 _ (List.mem_of_getElem? (i := 7) rfl))) x9 h9) rfl dJx4a65c_add_9ea2d_2 ?_
  refine lv_iconst (v := 1) hx hb dJx4a65c_add_9ea2d_5 (by decide) ?_
  refine lv_iadd hx hb dJx4a65c_add_9ea2d_6 ?_
  refine va_put (D := (dC, dI)) (ci := 1) (v := .int (mo + 1)) (ty := .int) (C := RJx4a65c) (T := TJx4a65c) (N := 3) hx hb ht inlJx4a65c tyJx4a65c tyJx4a65c_ok nmJx4a65c hown hK hP hD hS 0 rfl rfl 0 (by decide) (ht _ (wr_15 _ (List.mem_of_getElem? (i := 6) rfl))) (fun x9 h9 => u_same (ht _ (wr_15 _ (List.mem_of_getElem? (i := 7) rfl))) x9 h9) rfl (by decide +kernel) rfl rfl (Nat.le_of_ble_eq_true rfl) dJx4a65c_add_9ea2d_7 (fun H locs hP hD hS => ?_)
  replace hP : va_P (dC, dI) vwCl [(a, .inr (1, [.int (mo + 1), .ref de, .int 0])), (v, .inr (7, [e0, e1, e2, e3, e4, e5, e6, e7, e8, e9]))] H := hP
  replace hD : va_D A [(a, .inr (1, [.int (mo + 1), .ref de, .int 0])), (v, .inr (7, [e0, e1, e2, e3, e4, e5, e6, e7, e8, e9]))] := hD
  refine lv_aload_n hx hb dJx4a65c_add_9ea2d_10 rfl (lv_at hl 0 rfl) ?_
  refine lv_aload_n hx hb dJx4a65c_add_9ea2d_11 rfl (lv_at hl 1 rfl) ?_
  refine lv_aload_n hx hb dJx4a65c_add_9ea2d_12 rfl (lv_at hl 0 rfl) ?_
  refine va_get (D := (dC, dI)) (ci := 1) (v := .ref de) (C := RJx4a65c) (T := TJx4a65c) (N := 3) hx hb ht inlJx4a65c hown hK hP 0 rfl rfl 1 (by decide) (ht _ (wr_3 _ (List.mem_of_getElem? (i := 2) rfl))) (fun _ h9 => h9) rfl dJx4a65c_add_9ea2d_13 ?_
  refine lv_aload_n hx hb dJx4a65c_add_9ea2d_16 rfl (lv_at hl 0 rfl) ?_
  refine va_get (D := (dC, dI)) (ci := 1) (v := .int 0) (C := RJx4a65c) (T := TJx4a65c) (N := 3) hx hb ht inlJx4a65c hown hK hP 0 rfl rfl 2 (by decide) (ht _ (wr_14 _ (List.mem_of_getElem? (i := 9) rfl))) (fun _ h9 => h9) rfl dJx4a65c_add_9ea2d_17 ?_
  have hPc := hP.sub (ws' := [(a, .inr (1, [.int (mo + 1), .ref de, .int 0])), (v, .inr (7, [e0, e1, e2, e3, e4, e5, e6, e7, e8, e9]))]) [0, 1] rfl
  have hDc := hD.sub (ws' := [(a, .inr (1, [.int (mo + 1), .ref de, .int 0])), (v, .inr (7, [e0, e1, e2, e3, e4, e5, e6, e7, e8, e9]))]) [0, 1] (by decide) rfl
  have hKc := hK.sub (tys' := []) [] rfl
  have hFc := va_free (wc := [(a, .inr (1, [.int (mo + 1), .ref de, .int 0])), (v, .inr (7, [e0, e1, e2, e3, e4, e5, e6, e7, e8, e9]))]) hD hS hA [0, 1] rfl
  refine va_callv (va_runV (As := [.ref v, .ref de, .int 0]) (rest := []) ⟨hx, hb, hml, hown, ht⟩ (c_add3P l dC dI de (a) ((mo + 1)) (v) (e0) (e1) (e2) (e3) (e4) (e5) (e6) (e7) (e8) (e9) H.size) (cwV 3 ht (gWV (wr_15 _ (List.mem_of_getElem? (i := 8) rfl)) (wr_15 _ (List.mem_of_getElem? (i := 9) rfl)) (wr_15 _ (List.mem_of_getElem? (i := 10) rfl)) (wr_1 _ (List.mem_of_getElem? (i := 16) rfl)) (wr_15 _ (List.mem_of_getElem? (i := 11) rfl))) rfl rfl rfl (by decide +kernel) ⟨Nat.le_of_ble_eq_true rfl, Nat.le_of_ble_eq_true rfl⟩) ⟨PW_blind, va_recv hKc hPc (ci := 1) (q0 := 0) rfl rfl, PW_call hPc hDc hKc hS hG hFc⟩ rfl rfl hl.1 rfl (lv_room (Nat.le_of_ble_eq_true rfl)) dJx4a65c_add_9ea2d_20 ⟨Nat.le_of_ble_eq_true rfl, Nat.le_of_ble_eq_true rfl⟩) hS (fun q _ h => hFc q h) hFc (fun u t H1 locs ht9 hvm hw hB hz1 hk1 hS => ?_)
  obtain ⟨m2_1, d2_2, hP1, hK1, hD1⟩ := hB
  rw [ht9] at hP1
  have hK1 := va_K.moved hvm.symm hK1
  obtain ⟨hP, hD⟩ := va_join (wr := []) (w1 := [(a, .inr (1, [.int m2_1, .ref d2_2, .int 1]))]) hP hD [0, 1] [] rfl rfl (by decide) (by decide) hk1 hFc hP1 hD1
  have hK := (hK.sub (tys' := []) [] rfl).app hK1
  generalize H1 = H at hP hS ⊢
  replace hP : va_P (dC, dI) vwCl [(a, .inr (1, [.int m2_1, .ref d2_2, .int 1]))] H := hP
  replace hD : va_D A [(a, .inr (1, [.int m2_1, .ref d2_2, .int 1]))] := hD
  have hK : va_K (dC, dI) vwCl [] s := hK
  refine W.widen (k := 1) (n := 10) (Nat.le_of_ble_eq_true rfl) (Nat.le_of_ble_eq_true rfl) ?_
  have hw_20 := hw
  refine lv_iconst (v := 1) hx hb dJx4a65c_add_9ea2d_23 (by decide) ?_
  have hP9 := hP.sub (ws' := [(a, .inr (1, [.int m2_1, .ref d2_2, .int 1]))]) [0] rfl
  have hD9 := hD.sub (ws' := [(a, .inr (1, [.int m2_1, .ref d2_2, .int 1]))]) [0] (by decide) rfl
  have hK9 := hK.sub (tys' := []) [] rfl
  exact W.zret (v := 1) hx hb hr (by decide) (fun t htt hW => have ht := htt; ⟨⟨1, (), rfl, rfl, ⟨m2_1, d2_2, QW_of ht hW hP9 hK9 hD9⟩⟩, hS.F ht⟩) hS.2.2 dJx4a65c_add_9ea2d_24
set_option maxHeartbeats 4000000 in
set_option maxRecDepth 100000 in
theorem c_add3L (l : Launch) (dC : Nat → ClassId) (dI : Nat → Nat → Nat) (de : Nat) (a : Nat) (mo : Int32) (v : Nat) (e0 : Value) (e1 : Value) (e2 : Value) (e3 : Value) (e4 : Value) (e5 : Value) (e6 : Value) (e7 : Value) (sz : Nat) : Met l yJx4a65c_add_72be8 (.code yJx4a65c_add_72be8 cJx4a65c_add_72be8 4 none :: wsL_law) { frames := 3, cells := 1, slots := 10, locals := 83 } (va_Pc [.ref a, .ref v, .ref de, .int 0] (PW dC dI de [] [(a, .inr (1, [.int mo, .ref de, .int 0])), (v, .inr (16, [e0, e1, e2, e3, e4, e5, e6, e7]))] sz)) (va_Qv (fun (u : Unit) => True) (fun (_ : Unit) (t : State) => ∃ m2 : Int32, ∃ d2 : Nat, QW dC dI [] [(a, .inr (1, [.int m2, .ref d2, .int 1]))] (va_A [(a, .inr (1, [.int mo, .ref de, .int 0])), (v, .inr (16, [e0, e1, e2, e3, e4, e5, e6, e7]))] sz) t) (va_A [(a, .inr (1, [.int mo, .ref de, .int 0])), (v, .inr (16, [e0, e1, e2, e3, e4, e5, e6, e7]))] sz)) 1 10 (va_A [(a, .inr (1, [.int mo, .ref de, .int 0])), (v, .inr (16, [e0, e1, e2, e3, e4, e5, e6, e7]))] sz) := by
  refine Met.ofW (cc := cJx4a65c_add_72be8) (maxL := 4) (ret := none) (by decide) rfl ?_
  intro p e s m args below meth c s₁ B hml hv
  obtain ⟨rfl, hsz, hP, hK, hD0, hG⟩ := hv
  have hx := B.exec
  have hb := B.bytes
  have hr := B.returns
  have hts := atoms_spec (ws := .code yJx4a65c_add_72be8 cJx4a65c_add_72be8 4 none :: wsL_law) B.pre
  have ht : ∀ w ∈ wsL_law, w.before _ s = true := fun w h => hts w (List.mem_cons_of_mem _ h)
  have hown : s.vm.findClass RJx4a65c = some m.cls := findClass_of_methodNamed B.named
  have hlocks := B.notSynchronized
  subst hsz
  have hD := hD0.self (sz := s.heap.size)
  generalize hAe : va_A [(a, .inr (1, [.int mo, .ref de, .int 0])), (v, .inr (16, [e0, e1, e2, e3, e4, e5, e6, e7]))] s.heap.size = A at hD hG ⊢
  have hA : ∀ q : Nat, s.heap.size ≤ q → A q := fun q h => by rw [← hAe]; exact Or.inr h
  have hS : va_S A s.heap s.heap [] := va_S.rf
  have hP : va_P (dC, dI) vwCl [(a, .inr (1, [.int mo, .ref de, .int 0])), (v, .inr (16, [e0, e1, e2, e3, e4, e5, e6, e7]))] s.heap := hP
  have hD : va_D A [(a, .inr (1, [.int mo, .ref de, .int 0])), (v, .inr (16, [e0, e1, e2, e3, e4, e5, e6, e7]))] := hD
  have hl := lv_entry ([.ref a, .ref v, .ref de, .int 0]) (n := 4) (Nat.le_of_ble_eq_true rfl)
  rw [lg_entry_eq]
  generalize (lg_sl ([.ref a, .ref v, .ref de, .int 0]) ++ List.replicate (4 - (lg_sl ([.ref a, .ref v, .ref de, .int 0])).length) Slot.unset).toArray = ls at hl ⊢
  have hl : lv_has ls 4 [(0, .ref a), (1, .ref v), (2, .ref de), (3, .int 0)] := hl
  refine lv_iload_n hx hb dJx4a65c_add_72be8_0 rfl (lv_at hl 3 rfl) ?_
  refine lv_aload_n hx hb dJx4a65c_add_72be8_1 rfl (lv_at hl 2 rfl) ?_
  refine va_tlen hx hb hG.1.2.2.2.1 hS (v := 0) rfl dJx4a65c_add_72be8_2 ?_
  refine lv_icmp_ne (tgt := 11) hx hb dJx4a65c_add_72be8_3 (by decide) (fun c_3 => absurd c_3 (by decide)) (fun c_3 => ?_)
  refine lv_aload_n hx hb dJx4a65c_add_72be8_6 rfl (lv_at hl 0 rfl) ?_
  have hPc := hP.sub (ws' := [(a, .inr (1, [.int mo, .ref de, .int 0]))]) [0] rfl
  have hDc := hD.sub (ws' := [(a, .inr (1, [.int mo, .ref de, .int 0]))]) [0] (by decide) rfl
  have hKc := hK.sub (tys' := []) [] rfl
  have hFc := va_free (wc := [(a, .inr (1, [.int mo, .ref de, .int 0]))]) hD hS hA [0] rfl
  refine va_callr (va_runV (As := []) (rest := []) ⟨hx, hb, hml, hown, ht⟩ (c_Jx4a65c_grow_d5877 l dC dI de (a) (mo) s.heap.size) (cwV 0 ht (gWV (wr_15 _ (List.mem_of_getElem? (i := 12) rfl)) (wr_15 _ (List.mem_of_getElem? (i := 13) rfl)) (wr_15 _ (List.mem_of_getElem? (i := 14) rfl)) (wr_1 _ (List.mem_of_getElem? (i := 16) rfl)) (wr_15 _ (List.mem_of_getElem? (i := 15) rfl))) rfl rfl rfl (by decide +kernel) ⟨Nat.le_of_ble_eq_true rfl, Nat.le_of_ble_eq_true rfl⟩) ⟨PW_blind, va_recv hKc hPc (ci := 1) (q0 := 0) rfl rfl, PW_call hPc hDc hKc hS hG hFc⟩ rfl rfl hl.1 rfl (lv_room (Nat.le_of_ble_eq_true rfl)) dJx4a65c_add_72be8_7 ⟨Nat.le_of_ble_eq_true rfl, Nat.le_of_ble_eq_true rfl⟩) hS (fun q _ h => hFc q h) hFc (fun u ra_7 t H1 locs ht9 hvm hw hB hz1 hk1 hS => ?_)
  obtain ⟨cO_1, hP1, hK1, hD1⟩ := hB
  rw [ht9] at hP1
  have hK1 := va_K.moved hvm.symm hK1
  obtain ⟨hP, hD⟩ := va_join (wr := [(v, .inr (16, [e0, e1, e2, e3, e4, e5, e6, e7]))]) (w1 := [(a, .inr (1, [.int mo, .ref ra_7, .int 0])), (ra_7, .inl (cO_1, 10, .inr (.inr (.inr (.inr (fun _ => none))))))]) hP hD [0] [1] rfl rfl (by decide) (by decide) hk1 hFc hP1 hD1
  have hK := (hK.sub (tys' := []) [] rfl).app hK1
  generalize H1 = H at hP hS ⊢
  replace hP : va_P (dC, dI) vwCl [(v, .inr (16, [e0, e1, e2, e3, e4, e5, e6, e7])), (a, .inr (1, [.int mo, .ref ra_7, .int 0])), (ra_7, .inl (cO_1, 10, .inr (.inr (.inr (.inr (fun _ => none))))))] H := hP
  replace hD : va_D A [(v, .inr (16, [e0, e1, e2, e3, e4, e5, e6, e7])), (a, .inr (1, [.int mo, .ref ra_7, .int 0])), (ra_7, .inl (cO_1, 10, .inr (.inr (.inr (.inr (fun _ => none))))))] := hD
  have hK : va_K (dC, dI) vwCl [(cO_1, .object "java/lang/Object")] s := hK
  refine W.widen (k := 1) (n := 10) (Nat.le_of_ble_eq_true rfl) (Nat.le_of_ble_eq_true rfl) ?_
  refine lv_astore_n (lv' := [(2, .ref ra_7), (0, .ref a), (1, .ref v), (3, .int 0)]) hx hb dJx4a65c_add_72be8_10 rfl hl (by decide) rfl (fun ls hl => ?_)
  refine lv_aload_n hx hb dJx4a65c_add_72be8_11 rfl (lv_at hl 0 rfl) ?_
  refine lv_iload_n hx hb dJx4a65c_add_72be8_12 rfl (lv_at hl 3 rfl) ?_
  refine lv_aload_n hx hb dJx4a65c_add_72be8_13 rfl (lv_at hl 2 rfl) ?_
  refine va_astqO (E := "java/lang/Object") hx hb hK hP hD hS 2 0 0 16 rfl rfl (hG.2.2.2.1 _ (List.mem_of_getElem? (i := 5) rfl)) rfl rfl (by unfold vp_in; decide) dJx4a65c_add_72be8_14 (fun H locs hP hD hS => ?_)
  replace hP : va_P (dC, dI) vwCl [(v, .inr (16, [e0, e1, e2, e3, e4, e5, e6, e7])), (a, .inr (1, [.int mo, .ref ra_7, .int 0])), (ra_7, .inl (cO_1, 10, .inr (.inr (.inr (.inr (va_up (fun _ => none) (0 : Int32).toNatClampNeg (some v)))))))] H := hP
  replace hD : va_D A [(v, .inr (16, [e0, e1, e2, e3, e4, e5, e6, e7])), (a, .inr (1, [.int mo, .ref ra_7, .int 0])), (ra_7, .inl (cO_1, 10, .inr (.inr (.inr (.inr (va_up (fun _ => none) (0 : Int32).toNatClampNeg (some v)))))))] := hD
  refine lv_aload_n hx hb dJx4a65c_add_72be8_15 rfl (lv_at hl 1 rfl) ?_
  refine lv_iload_n hx hb dJx4a65c_add_72be8_16 rfl (lv_at hl 3 rfl) ?_
  refine lv_iconst (v := 1) hx hb dJx4a65c_add_72be8_17 (by decide) ?_
  refine lv_iadd hx hb dJx4a65c_add_72be8_18 ?_
  refine lv_topi (fun y ey => ?_)
  replace ey : y = 1 := ey.trans (by decide)
  subst ey
  refine va_put (D := (dC, dI)) (ci := 1) (v := .int 1) (ty := .int) (C := RJx4a65c) (T := TJx4a65c) (N := 3) hx hb ht inlJx4a65c tyJx4a65c tyJx4a65c_ok nmJx4a65c hown hK hP hD hS 1 rfl rfl 2 (by decide) (ht _ (wr_14 _ (List.mem_of_getElem? (i := 9) rfl))) (fun _ h9 => h9) rfl (by decide +kernel) rfl rfl (Nat.le_of_ble_eq_true rfl) dJx4a65c_add_72be8_19 (fun H locs hP hD hS => ?_)
  replace hP : va_P (dC, dI) vwCl [(v, .inr (16, [e0, e1, e2, e3, e4, e5, e6, e7])), (a, .inr (1, [.int mo, .ref ra_7, .int 1])), (ra_7, .inl (cO_1, 10, .inr (.inr (.inr (.inr (va_up (fun _ => none) (0 : Int32).toNatClampNeg (some v)))))))] H := hP
  replace hD : va_D A [(v, .inr (16, [e0, e1, e2, e3, e4, e5, e6, e7])), (a, .inr (1, [.int mo, .ref ra_7, .int 1])), (ra_7, .inl (cO_1, 10, .inr (.inr (.inr (.inr (va_up (fun _ => none) (0 : Int32).toNatClampNeg (some v)))))))] := hD
  have hP9 := hP.sub (ws' := [(a, .inr (1, [.int mo, .ref ra_7, .int 1]))]) [1] rfl
  have hD9 := hD.sub (ws' := [(a, .inr (1, [.int mo, .ref ra_7, .int 1]))]) [1] (by decide) rfl
  have hK9 := hK.sub (tys' := []) [] rfl
  exact W.vret hx hb hr (fun t htt hW => have ht := htt; ⟨⟨(), rfl, trivial, ⟨mo, ra_7, QW_of ht hW hP9 hK9 hD9⟩⟩, hS.F ht⟩) hS.2.2 dJx4a65c_add_72be8_22
set_option maxHeartbeats 4000000 in
set_option maxRecDepth 100000 in
theorem c_addL (l : Launch) (dC : Nat → ClassId) (dI : Nat → Nat → Nat) (de : Nat) (a : Nat) (mo : Int32) (v : Nat) (e0 : Value) (e1 : Value) (e2 : Value) (e3 : Value) (e4 : Value) (e5 : Value) (e6 : Value) (e7 : Value) (sz : Nat) : Met l yJx4a65c_add_9ea2d (.code yJx4a65c_add_9ea2d cJx4a65c_add_9ea2d 2 (some .boolean) :: wsL_law) { frames := 4, cells := 1, slots := 10, locals := 106 } (va_Pc [.ref a, .ref v] (PW dC dI de [] [(a, .inr (1, [.int mo, .ref de, .int 0])), (v, .inr (16, [e0, e1, e2, e3, e4, e5, e6, e7]))] sz)) (va_Qi (fun (r : Int32) (u : Unit) => r = 1) (fun (_ : Unit) (t : State) => ∃ m2 : Int32, ∃ d2 : Nat, QW dC dI [] [(a, .inr (1, [.int m2, .ref d2, .int 1]))] (va_A [(a, .inr (1, [.int mo, .ref de, .int 0])), (v, .inr (16, [e0, e1, e2, e3, e4, e5, e6, e7]))] sz) t) (va_A [(a, .inr (1, [.int mo, .ref de, .int 0])), (v, .inr (16, [e0, e1, e2, e3, e4, e5, e6, e7]))] sz)) 1 10 (va_A [(a, .inr (1, [.int mo, .ref de, .int 0])), (v, .inr (16, [e0, e1, e2, e3, e4, e5, e6, e7]))] sz) := by
  refine Met.ofW (cc := cJx4a65c_add_9ea2d) (maxL := 2) (ret := (some .boolean)) (by decide) rfl ?_
  intro p e s m args below meth c s₁ B hml hv
  obtain ⟨rfl, hsz, hP, hK, hD0, hG⟩ := hv
  have hx := B.exec
  have hb := B.bytes
  have hr := B.returns
  have hts := atoms_spec (ws := .code yJx4a65c_add_9ea2d cJx4a65c_add_9ea2d 2 (some .boolean) :: wsL_law) B.pre
  have ht : ∀ w ∈ wsL_law, w.before _ s = true := fun w h => hts w (List.mem_cons_of_mem _ h)
  have hown : s.vm.findClass RJx4a65c = some m.cls := findClass_of_methodNamed B.named
  have hlocks := B.notSynchronized
  subst hsz
  have hD := hD0.self (sz := s.heap.size)
  generalize hAe : va_A [(a, .inr (1, [.int mo, .ref de, .int 0])), (v, .inr (16, [e0, e1, e2, e3, e4, e5, e6, e7]))] s.heap.size = A at hD hG ⊢
  have hA : ∀ q : Nat, s.heap.size ≤ q → A q := fun q h => by rw [← hAe]; exact Or.inr h
  have hS : va_S A s.heap s.heap [] := va_S.rf
  have hP : va_P (dC, dI) vwCl [(a, .inr (1, [.int mo, .ref de, .int 0])), (v, .inr (16, [e0, e1, e2, e3, e4, e5, e6, e7]))] s.heap := hP
  have hD : va_D A [(a, .inr (1, [.int mo, .ref de, .int 0])), (v, .inr (16, [e0, e1, e2, e3, e4, e5, e6, e7]))] := hD
  have hl := lv_entry ([.ref a, .ref v]) (n := 2) (Nat.le_of_ble_eq_true rfl)
  rw [lg_entry_eq]
  generalize (lg_sl ([.ref a, .ref v]) ++ List.replicate (2 - (lg_sl ([.ref a, .ref v])).length) Slot.unset).toArray = ls at hl ⊢
  have hl : lv_has ls 2 [(0, .ref a), (1, .ref v)] := hl
  refine lv_aload_n hx hb dJx4a65c_add_9ea2d_0 rfl (lv_at hl 0 rfl) ?_
  refine lv_dup hx hb dJx4a65c_add_9ea2d_1 rfl ?_
  refine va_get (D := (dC, dI)) (ci := 1) (v := .int mo) (C := RJx4a65c) (T := TJx4a65c) (N := 3) hx hb ht inlJx4a65c hown hK hP 0 rfl rfl 0 (by decide) (ht _ (wr_15 _ (List.mem_of_getElem? (i := 6) rfl))) (fun x9 h9 => u_same (ht _ (wr_15 _ (List.mem_of_getElem? (i := 7) rfl))) x9 h9) rfl dJx4a65c_add_9ea2d_2 ?_
  refine lv_iconst (v := 1) hx hb dJx4a65c_add_9ea2d_5 (by decide) ?_
  refine lv_iadd hx hb dJx4a65c_add_9ea2d_6 ?_
  refine va_put (D := (dC, dI)) (ci := 1) (v := .int (mo + 1)) (ty := .int) (C := RJx4a65c) (T := TJx4a65c) (N := 3) hx hb ht inlJx4a65c tyJx4a65c tyJx4a65c_ok nmJx4a65c hown hK hP hD hS 0 rfl rfl 0 (by decide) (ht _ (wr_15 _ (List.mem_of_getElem? (i := 6) rfl))) (fun x9 h9 => u_same (ht _ (wr_15 _ (List.mem_of_getElem? (i := 7) rfl))) x9 h9) rfl (by decide +kernel) rfl rfl (Nat.le_of_ble_eq_true rfl) dJx4a65c_add_9ea2d_7 (fun H locs hP hD hS => ?_)
  replace hP : va_P (dC, dI) vwCl [(a, .inr (1, [.int (mo + 1), .ref de, .int 0])), (v, .inr (16, [e0, e1, e2, e3, e4, e5, e6, e7]))] H := hP
  replace hD : va_D A [(a, .inr (1, [.int (mo + 1), .ref de, .int 0])), (v, .inr (16, [e0, e1, e2, e3, e4, e5, e6, e7]))] := hD
  refine lv_aload_n hx hb dJx4a65c_add_9ea2d_10 rfl (lv_at hl 0 rfl) ?_
  refine lv_aload_n hx hb dJx4a65c_add_9ea2d_11 rfl (lv_at hl 1 rfl) ?_
  refine lv_aload_n hx hb dJx4a65c_add_9ea2d_12 rfl (lv_at hl 0 rfl) ?_
  refine va_get (D := (dC, dI)) (ci := 1) (v := .ref de) (C := RJx4a65c) (T := TJx4a65c) (N := 3) hx hb ht inlJx4a65c hown hK hP 0 rfl rfl 1 (by decide) (ht _ (wr_3 _ (List.mem_of_getElem? (i := 2) rfl))) (fun _ h9 => h9) rfl dJx4a65c_add_9ea2d_13 ?_
  refine lv_aload_n hx hb dJx4a65c_add_9ea2d_16 rfl (lv_at hl 0 rfl) ?_
  refine va_get (D := (dC, dI)) (ci := 1) (v := .int 0) (C := RJx4a65c) (T := TJx4a65c) (N := 3) hx hb ht inlJx4a65c hown hK hP 0 rfl rfl 2 (by decide) (ht _ (wr_14 _ (List.mem_of_getElem? (i := 9) rfl))) (fun _ h9 => h9) rfl dJx4a65c_add_9ea2d_17 ?_
  have hPc := hP.sub (ws' := [(a, .inr (1, [.int (mo + 1), .ref de, .int 0])), (v, .inr (16, [e0, e1, e2, e3, e4, e5, e6, e7]))]) [0, 1] rfl
  have hDc := hD.sub (ws' := [(a, .inr (1, [.int (mo + 1), .ref de, .int 0])), (v, .inr (16, [e0, e1, e2, e3, e4, e5, e6, e7]))]) [0, 1] (by decide) rfl
  have hKc := hK.sub (tys' := []) [] rfl
  have hFc := va_free (wc := [(a, .inr (1, [.int (mo + 1), .ref de, .int 0])), (v, .inr (16, [e0, e1, e2, e3, e4, e5, e6, e7]))]) hD hS hA [0, 1] rfl
  refine va_callv (va_runV (As := [.ref v, .ref de, .int 0]) (rest := []) ⟨hx, hb, hml, hown, ht⟩ (c_add3L l dC dI de (a) ((mo + 1)) (v) (e0) (e1) (e2) (e3) (e4) (e5) (e6) (e7) H.size) (cwV 3 ht (gWV (wr_15 _ (List.mem_of_getElem? (i := 8) rfl)) (wr_15 _ (List.mem_of_getElem? (i := 9) rfl)) (wr_15 _ (List.mem_of_getElem? (i := 10) rfl)) (wr_1 _ (List.mem_of_getElem? (i := 16) rfl)) (wr_15 _ (List.mem_of_getElem? (i := 11) rfl))) rfl rfl rfl (by decide +kernel) ⟨Nat.le_of_ble_eq_true rfl, Nat.le_of_ble_eq_true rfl⟩) ⟨PW_blind, va_recv hKc hPc (ci := 1) (q0 := 0) rfl rfl, PW_call hPc hDc hKc hS hG hFc⟩ rfl rfl hl.1 rfl (lv_room (Nat.le_of_ble_eq_true rfl)) dJx4a65c_add_9ea2d_20 ⟨Nat.le_of_ble_eq_true rfl, Nat.le_of_ble_eq_true rfl⟩) hS (fun q _ h => hFc q h) hFc (fun u t H1 locs ht9 hvm hw hB hz1 hk1 hS => ?_)
  obtain ⟨m2_1, d2_2, hP1, hK1, hD1⟩ := hB
  rw [ht9] at hP1
  have hK1 := va_K.moved hvm.symm hK1
  obtain ⟨hP, hD⟩ := va_join (wr := []) (w1 := [(a, .inr (1, [.int m2_1, .ref d2_2, .int 1]))]) hP hD [0, 1] [] rfl rfl (by decide) (by decide) hk1 hFc hP1 hD1
  have hK := (hK.sub (tys' := []) [] rfl).app hK1
  generalize H1 = H at hP hS ⊢
  replace hP : va_P (dC, dI) vwCl [(a, .inr (1, [.int m2_1, .ref d2_2, .int 1]))] H := hP
  replace hD : va_D A [(a, .inr (1, [.int m2_1, .ref d2_2, .int 1]))] := hD
  have hK : va_K (dC, dI) vwCl [] s := hK
  refine W.widen (k := 1) (n := 10) (Nat.le_of_ble_eq_true rfl) (Nat.le_of_ble_eq_true rfl) ?_
  have hw_20 := hw
  refine lv_iconst (v := 1) hx hb dJx4a65c_add_9ea2d_23 (by decide) ?_
  have hP9 := hP.sub (ws' := [(a, .inr (1, [.int m2_1, .ref d2_2, .int 1]))]) [0] rfl
  have hD9 := hD.sub (ws' := [(a, .inr (1, [.int m2_1, .ref d2_2, .int 1]))]) [0] (by decide) rfl
  have hK9 := hK.sub (tys' := []) [] rfl
  exact W.zret (v := 1) hx hb hr (by decide) (fun t htt hW => have ht := htt; ⟨⟨1, (), rfl, rfl, ⟨m2_1, d2_2, QW_of ht hW hP9 hK9 hD9⟩⟩, hS.F ht⟩) hS.2.2 dJx4a65c_add_9ea2d_24
set_option maxHeartbeats 4000000 in
set_option maxRecDepth 100000 in
theorem c_X14_init (l : Launch) (dC : Nat → ClassId) (dI : Nat → Nat → Nat) (de : Nat) (a : Nat) (wn : Nat) (yn : Nat) (ch : Int32) (sz : Nat) (hw1 : wn ≤ 12) (hh1 : yn ≤ 8) : Met l yX14_init (.code yX14_init cX14_init 5 none :: wsL_law) { frames := 4, cells := 2, slots := 99, locals := 72 } (va_Pc [.ref a, .int (nI wn), .int (nI yn), .int ch] (PW dC dI de [] [(a, .inr (16, [.int 0, .int 0, .null, .int 0, .int 0, .null, .int 0, .int 0]))] sz)) (va_Qv (fun (u : Unit) => True) (fun (_ : Unit) (t : State) => ∃ tl : Nat, ∃ sy : Int32, ∃ gl : Nat, QW dC dI [] [(a, .inr (16, [.int (nI wn), .int (nI yn), .ref tl, .int 0, .int sy, .ref gl, .int 0, .int 0]))] (va_A [(a, .inr (16, [.int 0, .int 0, .null, .int 0, .int 0, .null, .int 0, .int 0]))] sz) t) (va_A [(a, .inr (16, [.int 0, .int 0, .null, .int 0, .int 0, .null, .int 0, .int 0]))] sz)) 2 99 (va_A [(a, .inr (16, [.int 0, .int 0, .null, .int 0, .int 0, .null, .int 0, .int 0]))] sz) := by
  refine Met.ofW (cc := cX14_init) (maxL := 5) (ret := none) (by decide) rfl ?_
  intro p e s m args below meth c s₁ B hml hv
  obtain ⟨rfl, hsz, hP, hK, hD0, hG⟩ := hv
  have hx := B.exec
  have hb := B.bytes
  have hr := B.returns
  have hts := atoms_spec (ws := .code yX14_init cX14_init 5 none :: wsL_law) B.pre
  have ht : ∀ w ∈ wsL_law, w.before _ s = true := fun w h => hts w (List.mem_cons_of_mem _ h)
  have hown : s.vm.findClass RX14 = some m.cls := findClass_of_methodNamed B.named
  have hlocks := B.notSynchronized
  have hin : meth.name = "<init>" := (name_of_methodNamed B.named B.method).1
  subst hsz
  have hD := hD0.self (sz := s.heap.size)
  generalize hAe : va_A [(a, .inr (16, [.int 0, .int 0, .null, .int 0, .int 0, .null, .int 0, .int 0]))] s.heap.size = A at hD hG ⊢
  have hA : ∀ q : Nat, s.heap.size ≤ q → A q := fun q h => by rw [← hAe]; exact Or.inr h
  have hS : va_S A s.heap s.heap [] := va_S.rf
  have hP : va_P (dC, dI) vwCl [(a, .inr (16, [.int 0, .int 0, .null, .int 0, .int 0, .null, .int 0, .int 0]))] s.heap := hP
  have hD : va_D A [(a, .inr (16, [.int 0, .int 0, .null, .int 0, .int 0, .null, .int 0, .int 0]))] := hD
  have hl := lv_entry ([.ref a, .int (nI wn), .int (nI yn), .int ch]) (n := 5) (Nat.le_of_ble_eq_true rfl)
  rw [lg_entry_eq]
  generalize (lg_sl ([.ref a, .int (nI wn), .int (nI yn), .int ch]) ++ List.replicate (5 - (lg_sl ([.ref a, .int (nI wn), .int (nI yn), .int ch])).length) Slot.unset).toArray = ls at hl ⊢
  have hl : lv_has ls 5 [(0, .ref a), (1, .int (nI wn)), (2, .int (nI yn)), (3, .int ch)] := hl
  have hwh : wn * yn ≤ 96 := Nat.mul_le_mul hw1 hh1
  refine lv_aload_n hx hb dX14_init_0 rfl (lv_at hl 0 rfl) ?_
  refine W.objInit hx hb hown (ht _ (wr_17 _ (List.mem_of_getElem? (i := 20) rfl))) (ht _ (wr_1 _ (List.mem_of_getElem? (i := 12) rfl))) (ht _ (wr_1 _ (List.mem_of_getElem? (i := 13) rfl))) rfl (by rw [hml]; exact hl.1) rfl dX14_init_1 (Nat.le_of_ble_eq_true rfl) (Nat.le_of_ble_eq_true rfl) ?_
  refine W.eq (g2 := F0 m 4 ls []) rfl ?_
  refine lv_aload_n hx hb dX14_init_4 rfl (lv_at hl 0 rfl) ?_
  refine va_new (ci := 1) (fs := [.int 0, .null, .int 0]) (C := RJx4a65c) (T := TJx4a65c) (N := 3) hx hb ht inlJx4a65c tyJx4a65c tyJx4a65c_ok hown (ht _ (wr_17 _ (List.mem_of_getElem? (i := 21) rfl))) (ht _ (wr_1 _ (List.mem_of_getElem? (i := 15) rfl))) (ht _ (wr_1 _ (List.mem_of_getElem? (i := 16) rfl))) hK hP hD hS hA rfl (fun j hj => match j, hj with | 0, _ => rfl | 1, _ => rfl | 2, _ => rfl | j + 3, h => absurd h (by omega)) (Nat.le_of_ble_eq_true rfl) (Nat.le_of_ble_eq_true rfl) dX14_init_5 (fun q_1 H hP hD hS => ?_)
  replace hP : va_P (dC, dI) vwCl [(a, .inr (16, [.int 0, .int 0, .null, .int 0, .int 0, .null, .int 0, .int 0])), (q_1, .inr (1, [.int 0, .null, .int 0]))] H := hP
  replace hD : va_D A [(a, .inr (16, [.int 0, .int 0, .null, .int 0, .int 0, .null, .int 0, .int 0])), (q_1, .inr (1, [.int 0, .null, .int 0]))] := hD
  refine W.widen (k := 1) (n := 3) (Nat.le_of_ble_eq_true rfl) (Nat.le_of_ble_eq_true rfl) ?_
  refine lv_dup hx hb dX14_init_8 rfl ?_
  have hPc := hP.sub (ws' := [(q_1, .inr (1, [.int 0, .null, .int 0]))]) [1] rfl
  have hDc := hD.sub (ws' := [(q_1, .inr (1, [.int 0, .null, .int 0]))]) [1] (by decide) rfl
  have hKc := hK.sub (tys' := []) [] rfl
  have hFc := va_free (wc := [(q_1, .inr (1, [.int 0, .null, .int 0]))]) hD hS hA [1] rfl
  refine va_callv (va_runI (As := []) (rest := [.ref q_1, .ref a]) ⟨hx, hb, hml, hown, ht⟩ (c_Jx4a65c_init_da8c8 l dC dI de (q_1) (0) H.size) (cwI 0 ht (gWI (wr_3 _ (List.mem_of_getElem? (i := 0) rfl))) rfl rfl rfl (ht _ (wr_1 _ (List.mem_of_getElem? (i := 16) rfl))) (ht _ (wr_18 _ (List.mem_of_getElem? (i := 3) rfl))) (ht _ (wr_2 _ (List.mem_of_getElem? (i := 23) rfl))) rfl (by decide +kernel) ⟨Nat.le_of_ble_eq_true rfl, Nat.le_of_ble_eq_true rfl⟩) ⟨PW_blind, PW_call hPc hDc hKc hS hG hFc⟩ rfl rfl hl.1 rfl (lv_room (Nat.le_of_ble_eq_true rfl)) dX14_init_9 ⟨Nat.le_of_ble_eq_true rfl, Nat.le_of_ble_eq_true rfl⟩) hS (fun q _ h => hFc q h) hFc (fun u t H1 locs ht9 hvm hw hB hz1 hk1 hS => ?_)
  obtain ⟨hP1, hK1, hD1⟩ := hB
  rw [ht9] at hP1
  have hK1 := va_K.moved hvm.symm hK1
  obtain ⟨hP, hD⟩ := va_join (wr := [(a, .inr (16, [.int 0, .int 0, .null, .int 0, .int 0, .null, .int 0, .int 0]))]) (w1 := [(q_1, .inr (1, [.int 0, .ref de, .int 0]))]) hP hD [1] [0] rfl rfl (by decide) (by decide) hk1 hFc hP1 hD1
  have hK := (hK.sub (tys' := []) [] rfl).app hK1
  generalize H1 = H at hP hS ⊢
  replace hP : va_P (dC, dI) vwCl [(a, .inr (16, [.int 0, .int 0, .null, .int 0, .int 0, .null, .int 0, .int 0])), (q_1, .inr (1, [.int 0, .ref de, .int 0]))] H := hP
  replace hD : va_D A [(a, .inr (16, [.int 0, .int 0, .null, .int 0, .int 0, .null, .int 0, .int 0])), (q_1, .inr (1, [.int 0, .ref de, .int 0]))] := hD
  have hK : va_K (dC, dI) vwCl [] s := hK
  have hw_9 := hw
  refine va_putF (D := (dC, dI)) (ci := 16) (v := .ref q_1) (ty := .object "java/util/ArrayList") (C := RX14) (T := TX14) (N := 8) hx hb ht inlX14 tyX14 tyX14_ok nmX14 hown hK hP hD hS 0 rfl rfl 5 (by decide) (ht _ (wr_17 _ (List.mem_of_getElem? (i := 22) rfl))) (fun _ h9 => h9) rfl hin rfl (by decide +kernel) rfl rfl (Nat.le_of_ble_eq_true rfl) dX14_init_12 (fun H locs hP hD hS => ?_)
  replace hP : va_P (dC, dI) vwCl [(a, .inr (16, [.int 0, .int 0, .null, .int 0, .int 0, .ref q_1, .int 0, .int 0])), (q_1, .inr (1, [.int 0, .ref de, .int 0]))] H := hP
  replace hD : va_D A [(a, .inr (16, [.int 0, .int 0, .null, .int 0, .int 0, .ref q_1, .int 0, .int 0])), (q_1, .inr (1, [.int 0, .ref de, .int 0]))] := hD
  refine lv_aload_n hx hb dX14_init_15 rfl (lv_at hl 0 rfl) ?_
  refine lv_iload_n hx hb dX14_init_16 rfl (lv_at hl 1 rfl) ?_
  refine va_putF (D := (dC, dI)) (ci := 16) (v := .int (nI wn)) (ty := .int) (C := RX14) (T := TX14) (N := 8) hx hb ht inlX14 tyX14 tyX14_ok nmX14 hown hK hP hD hS 0 rfl rfl 0 (by decide) (ht _ (wr_17 _ (List.mem_of_getElem? (i := 23) rfl))) (fun _ h9 => h9) rfl hin rfl (by decide +kernel) rfl rfl (Nat.le_of_ble_eq_true rfl) dX14_init_17 (fun H locs hP hD hS => ?_)
  replace hP : va_P (dC, dI) vwCl [(a, .inr (16, [.int (nI wn), .int 0, .null, .int 0, .int 0, .ref q_1, .int 0, .int 0])), (q_1, .inr (1, [.int 0, .ref de, .int 0]))] H := hP
  replace hD : va_D A [(a, .inr (16, [.int (nI wn), .int 0, .null, .int 0, .int 0, .ref q_1, .int 0, .int 0])), (q_1, .inr (1, [.int 0, .ref de, .int 0]))] := hD
  refine lv_aload_n hx hb dX14_init_20 rfl (lv_at hl 0 rfl) ?_
  refine lv_iload_n hx hb dX14_init_21 rfl (lv_at hl 2 rfl) ?_
  refine va_putF (D := (dC, dI)) (ci := 16) (v := .int (nI yn)) (ty := .int) (C := RX14) (T := TX14) (N := 8) hx hb ht inlX14 tyX14 tyX14_ok nmX14 hown hK hP hD hS 0 rfl rfl 1 (by decide) (ht _ (wr_18 _ (List.mem_of_getElem? (i := 0) rfl))) (fun _ h9 => h9) rfl hin rfl (by decide +kernel) rfl rfl (Nat.le_of_ble_eq_true rfl) dX14_init_22 (fun H locs hP hD hS => ?_)
  replace hP : va_P (dC, dI) vwCl [(a, .inr (16, [.int (nI wn), .int (nI yn), .null, .int 0, .int 0, .ref q_1, .int 0, .int 0])), (q_1, .inr (1, [.int 0, .ref de, .int 0]))] H := hP
  replace hD : va_D A [(a, .inr (16, [.int (nI wn), .int (nI yn), .null, .int 0, .int 0, .ref q_1, .int 0, .int 0])), (q_1, .inr (1, [.int 0, .ref de, .int 0]))] := hD
  refine lv_aload_n hx hb dX14_init_25 rfl (lv_at hl 0 rfl) ?_
  refine lv_iload_n hx hb dX14_init_26 rfl (lv_at hl 1 rfl) ?_
  refine lv_iload_n hx hb dX14_init_27 rfl (lv_at hl 2 rfl) ?_
  refine lv_imul hx hb dX14_init_28 ?_
  refine lv_topi (fun y ey => ?_)
  replace ey : y = (nI (wn * yn)) := ey.trans (pk_mul _ _)
  subst ey
  refine va_newa (atype := .char) (ty := .char) (N' := (wn * yn)) (a0 := ((wn * yn), .inl (fun _ => 0))) hx hb (ht _ (wr_4 _ (List.mem_of_getElem? (i := 15) rfl))) rfl hK hP hD hS hA (fun _ => rfl) (nI_pos (n := wn * yn) (by omega)) (nI_clamp (n := wn * yn) (by omega)) (Nat.le_trans (Nat.mul_le_mul_right 2 hwh) (by decide)) (Nat.le_of_ble_eq_true rfl) (Nat.le_trans (Nat.add_le_add_left hwh 3) (Nat.le_of_ble_eq_true rfl)) dX14_init_29 (fun q_2 cA_3 H hK hP hD hS => ?_)
  replace hP : va_P (dC, dI) vwCl [(a, .inr (16, [.int (nI wn), .int (nI yn), .null, .int 0, .int 0, .ref q_1, .int 0, .int 0])), (q_1, .inr (1, [.int 0, .ref de, .int 0])), (q_2, .inl (cA_3, (wn * yn), .inl (fun _ => 0)))] H := hP
  replace hD : va_D A [(a, .inr (16, [.int (nI wn), .int (nI yn), .null, .int 0, .int 0, .ref q_1, .int 0, .int 0])), (q_1, .inr (1, [.int 0, .ref de, .int 0])), (q_2, .inl (cA_3, (wn * yn), .inl (fun _ => 0)))] := hD
  have hK : va_K (dC, dI) vwCl [(cA_3, .char)] s := hK
  refine W.widen (k := 2) (n := 99) (Nat.le_of_ble_eq_true rfl) (Nat.add_le_add_left hwh 3) ?_
  refine va_put (D := (dC, dI)) (ci := 16) (v := .ref q_2) (ty := .array .char) (C := RX14) (T := TX14) (N := 8) hx hb ht inlX14 tyX14 tyX14_ok nmX14 hown hK hP hD hS 0 rfl rfl 2 (by decide) (ht _ (wr_18 _ (List.mem_of_getElem? (i := 1) rfl))) (fun _ h9 => h9) rfl (by decide +kernel) rfl rfl (Nat.le_of_ble_eq_true rfl) dX14_init_31 (fun H locs hP hD hS => ?_)
  replace hP : va_P (dC, dI) vwCl [(a, .inr (16, [.int (nI wn), .int (nI yn), .ref q_2, .int 0, .int 0, .ref q_1, .int 0, .int 0])), (q_1, .inr (1, [.int 0, .ref de, .int 0])), (q_2, .inl (cA_3, (wn * yn), .inl (fun _ => 0)))] H := hP
  replace hD : va_D A [(a, .inr (16, [.int (nI wn), .int (nI yn), .ref q_2, .int 0, .int 0, .ref q_1, .int 0, .int 0])), (q_1, .inr (1, [.int 0, .ref de, .int 0])), (q_2, .inl (cA_3, (wn * yn), .inl (fun _ => 0)))] := hD
  refine lv_iconst (v := 0) hx hb dX14_init_34 (by decide) ?_
  refine lv_istore (lv' := [(4, .int 0), (0, .ref a), (1, .int (nI wn)), (2, .int (nI yn)), (3, .int ch)]) hx hb dX14_init_35 hl (by decide) rfl (fun ls hl => ?_)
  obtain ⟨n, i, hi0, hn⟩ : ∃ n i : Nat, i = 0 ∧ i + n = (wn * yn) := ⟨(wn * yn), 0, rfl, Nat.zero_add _⟩
  replace hl : lv_has ls 5 [(4, .int (nI i)), (0, .ref a), (1, .int (nI wn)), (2, .int (nI yn)), (3, .int ch)] := by rw [hi0]; exact hl
  clear hi0
  obtain ⟨f, hf⟩ : ∃ f : Nat → Int32, f = fun _ => 0 := ⟨_, rfl⟩
  replace hP : va_P (dC, dI) vwCl [(a, .inr (16, [.int (nI wn), .int (nI yn), .ref q_2, .int 0, .int 0, .ref q_1, .int 0, .int 0])), (q_1, .inr (1, [.int 0, .ref de, .int 0])), (q_2, .inl (cA_3, (wn * yn), .inl (f)))] H := by rw [hf]; exact hP
  replace hD : va_D A [(a, .inr (16, [.int (nI wn), .int (nI yn), .ref q_2, .int 0, .int 0, .ref q_1, .int 0, .int 0])), (q_1, .inr (1, [.int 0, .ref de, .int 0])), (q_2, .inl (cA_3, (wn * yn), .inl (f)))] := by rw [hf]; exact hD
  clear hf
  induction n generalizing i ls H locs f with
  | zero =>
    refine lv_iload hx hb dX14_init_37 (lv_at hl 0 rfl) ?_
    refine lv_aload_n hx hb dX14_init_39 rfl (lv_at hl 1 rfl) ?_
    refine va_get (D := (dC, dI)) (ci := 16) (v := .ref q_2) (C := RX14) (T := TX14) (N := 8) hx hb ht inlX14 hown hK hP 0 rfl rfl 2 (by decide) (ht _ (wr_18 _ (List.mem_of_getElem? (i := 1) rfl))) (fun _ h9 => h9) rfl dX14_init_40 ?_
    refine va_alen hx hb hK hP 2 0 rfl rfl (v := (nI (wn * yn))) rfl dX14_init_43 ?_
    refine lv_icmp_ge (tgt := 61) hx hb dX14_init_44 (by decide) (fun c_44 => ?_) (fun c_44 => absurd (nI_le (a := wn * yn) (b := i) (by omega) (by omega)) c_44)
    refine lv_aload_n hx hb dX14_init_61 rfl (lv_at hl 1 rfl) ?_
    refine lv_iload_n hx hb dX14_init_62 rfl (lv_at hl 3 rfl) ?_
    refine lv_iconst (v := 1) hx hb dX14_init_63 (by decide) ?_
    refine lv_isub hx hb dX14_init_64 ?_
    refine va_put (D := (dC, dI)) (ci := 16) (v := .int ((nI yn) - 1)) (ty := .int) (C := RX14) (T := TX14) (N := 8) hx hb ht inlX14 tyX14 tyX14_ok nmX14 hown hK hP hD hS 0 rfl rfl 4 (by decide) (ht _ (wr_18 _ (List.mem_of_getElem? (i := 2) rfl))) (fun _ h9 => h9) rfl (by decide +kernel) rfl rfl (Nat.le_of_ble_eq_true rfl) dX14_init_65 (fun H locs hP hD hS => ?_)
    replace hP : va_P (dC, dI) vwCl [(a, .inr (16, [.int (nI wn), .int (nI yn), .ref q_2, .int 0, .int ((nI yn) - 1), .ref q_1, .int 0, .int 0])), (q_1, .inr (1, [.int 0, .ref de, .int 0])), (q_2, .inl (cA_3, (wn * yn), .inl (f)))] H := hP
    replace hD : va_D A [(a, .inr (16, [.int (nI wn), .int (nI yn), .ref q_2, .int 0, .int ((nI yn) - 1), .ref q_1, .int 0, .int 0])), (q_1, .inr (1, [.int 0, .ref de, .int 0])), (q_2, .inl (cA_3, (wn * yn), .inl (f)))] := hD
    have hP9 := hP.sub (ws' := [(a, .inr (16, [.int (nI wn), .int (nI yn), .ref q_2, .int 0, .int ((nI yn) - 1), .ref q_1, .int 0, .int 0]))]) [0] rfl
    have hD9 := hD.sub (ws' := [(a, .inr (16, [.int (nI wn), .int (nI yn), .ref q_2, .int 0, .int ((nI yn) - 1), .ref q_1, .int 0, .int 0]))]) [0] (by decide) rfl
    have hK9 := hK.sub (tys' := []) [] rfl
    exact W.vret hx hb hr (fun t htt hW => have ht := htt; ⟨⟨(), rfl, trivial, ⟨q_2, ((nI yn) - 1), q_1, QW_of ht hW hP9 hK9 hD9⟩⟩, hS.F ht⟩) hS.2.2 dX14_init_68
  | succ n ih =>
    refine lv_iload hx hb dX14_init_37 (lv_at hl 0 rfl) ?_
    refine lv_aload_n hx hb dX14_init_39 rfl (lv_at hl 1 rfl) ?_
    refine va_get (D := (dC, dI)) (ci := 16) (v := .ref q_2) (C := RX14) (T := TX14) (N := 8) hx hb ht inlX14 hown hK hP 0 rfl rfl 2 (by decide) (ht _ (wr_18 _ (List.mem_of_getElem? (i := 1) rfl))) (fun _ h9 => h9) rfl dX14_init_40 ?_
    refine va_alen hx hb hK hP 2 0 rfl rfl (v := (nI (wn * yn))) rfl dX14_init_43 ?_
    refine lv_icmp_ge (tgt := 61) hx hb dX14_init_44 (by decide) (fun c_44 => absurd c_44 (nI_ge (a := i) (b := wn * yn) (by omega) (by omega))) (fun c_44 => ?_)
    refine lv_aload_n hx hb dX14_init_47 rfl (lv_at hl 1 rfl) ?_
    refine va_get (D := (dC, dI)) (ci := 16) (v := .ref q_2) (C := RX14) (T := TX14) (N := 8) hx hb ht inlX14 hown hK hP 0 rfl rfl 2 (by decide) (ht _ (wr_18 _ (List.mem_of_getElem? (i := 1) rfl))) (fun _ h9 => h9) rfl dX14_init_48 ?_
    refine lv_iload hx hb dX14_init_51 (lv_at hl 0 rfl) ?_
    refine lv_iload_n hx hb dX14_init_53 rfl (lv_at hl 4 rfl) ?_
    refine va_cast hx hb hK hP hD hS 2 0 rfl rfl (vp_in_nI (n := i) (by omega) (by omega)) dX14_init_54 (fun H locs hP hD hS => ?_)
    replace hP : va_P (dC, dI) vwCl [(a, .inr (16, [.int (nI wn), .int (nI yn), .ref q_2, .int 0, .int 0, .ref q_1, .int 0, .int 0])), (q_1, .inr (1, [.int 0, .ref de, .int 0])), (q_2, .inl (cA_3, (wn * yn), .inl (upd (f) ((nI i)).toNatClampNeg (vp_nar .char (ch)))))] H := hP
    replace hD : va_D A [(a, .inr (16, [.int (nI wn), .int (nI yn), .ref q_2, .int 0, .int 0, .ref q_1, .int 0, .int 0])), (q_1, .inr (1, [.int 0, .ref de, .int 0])), (q_2, .inl (cA_3, (wn * yn), .inl (upd (f) ((nI i)).toNatClampNeg (vp_nar .char (ch)))))] := hD
    obtain ⟨i_4, ei_4⟩ : ∃ y : Int32, y = (nI i) + 1 := ⟨_, rfl⟩
    refine lv_iinc (v := i_4) (lv' := [(4, .int i_4), (0, .ref a), (1, .int (nI wn)), (2, .int (nI yn)), (3, .int ch)]) hx hb dX14_init_55 hl (k := 0) rfl (by rw [ei_4]; rfl) (by decide) rfl (fun ls hl => ?_)
    refine lv_goto (tgt := 37) hx hb dX14_init_58 (by decide) ?_
    have e9 : i_4 = nI (i + 1) := ei_4.trans (nI_1 i)
    subst e9
    exact ih (i := i + 1) (ls := ls) (hn := by omega) (hl := lv_sub hl [0, 1, 2, 3, 4] rfl) (H := _) (locs := _) (f := _) (hP := hP.sub [0, 1, 2] rfl) (hD := hD.sub [0, 1, 2] (by decide) rfl) (hS := hS)
