theorem in6b {x : Int32} (h : 0 ≤ x ∧ x ≤ 5) : vp_in x 6 := by
  obtain ⟨h1, h2⟩ := h
  rw [Int32.le_iff_toInt_le, Int32.toInt_zero] at h1
  rw [Int32.le_iff_toInt_le, show (5 : Int32).toInt = 5 by decide] at h2
  exact vp_in_iff.mpr ⟨by omega, by omega⟩
theorem in_nat2 {x : Int32} {n : Nat} {M : Int32} (hM : M.toInt = (n : Int)) (h : 0 ≤ x ∧ x ≤ M) : ∃ j : Nat, j ≤ n ∧ x = nI j := by
  obtain ⟨h1, h2⟩ := h
  obtain ⟨j, hj, e⟩ := nI_of (i_nlt h1)
  refine ⟨j, ?_, e⟩
  rw [Int32.le_iff_toInt_le, hM, e, nI_toInt hj] at h2
  omega
theorem in96b {x y : Int32} (h1 : 0 ≤ x ∧ x ≤ 11) (h2 : 0 ≤ y ∧ y ≤ 7) : vp_in (12 * y + x) 96 := by
  obtain ⟨i, hi, rfl⟩ := in_nat2 (n := 11) (by decide) h1
  obtain ⟨j, hj, rfl⟩ := in_nat2 (n := 7) (by decide) h2
  rw [show (12 : Int32) = nI 12 by decide, pk_mul, nI_add]
  exact vp_in_nI (by omega) (by omega)
theorem dX0_hardestCell_0 : decode cX0_hardestCell 0 = .ok (.iconst (-1), 1) := by decide +kernel
theorem dX0_hardestCell_1 : decode cX0_hardestCell 1 = .ok (.istore_n 1, 1) := by decide +kernel
theorem dX0_hardestCell_2 : decode cX0_hardestCell 2 = .ok (.iconst 0, 1) := by decide +kernel
theorem dX0_hardestCell_3 : decode cX0_hardestCell 3 = .ok (.istore_n 2, 1) := by decide +kernel
theorem dX0_hardestCell_4 : decode cX0_hardestCell 4 = .ok (.iconst 0, 1) := by decide +kernel
theorem dX0_hardestCell_5 : decode cX0_hardestCell 5 = .ok (.istore_n 3, 1) := by decide +kernel
theorem dX0_hardestCell_6 : decode cX0_hardestCell 6 = .ok (.iload_n 3, 1) := by decide +kernel
theorem dX0_hardestCell_7 : decode cX0_hardestCell 7 = .ok (.bipush 96, 2) := by decide +kernel
theorem dX0_hardestCell_9 : decode cX0_hardestCell 9 = .ok (.if_icmp .ge 28, 3) := by decide +kernel
theorem dX0_hardestCell_12 : decode cX0_hardestCell 12 = .ok (.aload_n 0, 1) := by decide +kernel
theorem dX0_hardestCell_13 : decode cX0_hardestCell 13 = .ok (.getfield 9, 3) := by decide +kernel
theorem dX0_hardestCell_16 : decode cX0_hardestCell 16 = .ok (.iload_n 3, 1) := by decide +kernel
theorem dX0_hardestCell_17 : decode cX0_hardestCell 17 = .ok (.iaload, 1) := by decide +kernel
theorem dX0_hardestCell_18 : decode cX0_hardestCell 18 = .ok (.iload_n 2, 1) := by decide +kernel
theorem dX0_hardestCell_19 : decode cX0_hardestCell 19 = .ok (.if_icmp .le 12, 3) := by decide +kernel
theorem dX0_hardestCell_31 : decode cX0_hardestCell 31 = .ok (.iinc 3 1, 3) := by decide +kernel
theorem dX0_hardestCell_34 : decode cX0_hardestCell 34 = .ok (.goto (-28), 3) := by decide +kernel
theorem dX0_hardestCell_37 : decode cX0_hardestCell 37 = .ok (.iload_n 1, 1) := by decide +kernel
theorem dX0_hardestCell_38 : decode cX0_hardestCell 38 = .ok (.ireturn, 1) := by decide +kernel
theorem dX11_hardest_0 : decode cX11_hardest 0 = .ok (.iload_n 1, 1) := by decide +kernel
theorem dX11_hardest_1 : decode cX11_hardest 1 = .ok (.invokestatic 212, 3) := by decide +kernel
theorem dX11_hardest_4 : decode cX11_hardest 4 = .ok (.aload_n 0, 1) := by decide +kernel
theorem dX11_hardest_5 : decode cX11_hardest 5 = .ok (.getfield 66, 3) := by decide +kernel
theorem dX11_hardest_8 : decode cX11_hardest 8 = .ok (.invokevirtual 391, 3) := by decide +kernel
theorem dX11_hardest_11 : decode cX11_hardest 11 = .ok (.istore_n 2, 1) := by decide +kernel
theorem dX11_hardest_12 : decode cX11_hardest 12 = .ok (.iload_n 2, 1) := by decide +kernel
theorem dX11_hardest_13 : decode cX11_hardest 13 = .ok (.ifCond .ge 14, 3) := by decide +kernel
theorem dX11_hardest_16 : decode cX11_hardest 16 = .ok (.new 198, 3) := by decide +kernel
theorem dX11_hardest_19 : decode cX11_hardest 19 = .ok (.dup, 1) := by decide +kernel
theorem dX11_hardest_20 : decode cX11_hardest 20 = .ok (.ldc_w 394, 3) := by decide +kernel
theorem dX11_hardest_23 : decode cX11_hardest 23 = .ok (.invokespecial 202, 3) := by decide +kernel
theorem dX11_hardest_26 : decode cX11_hardest 26 = .ok (.athrow, 1) := by decide +kernel
theorem dX18_input_0 : decode cX18_input 0 = .ok (.aload_n 0, 1) := by decide +kernel
theorem dX18_input_1 : decode cX18_input 1 = .ok (.iload_n 1, 1) := by decide +kernel
theorem dX18_input_2 : decode cX18_input 2 = .ok (.iconst 0, 1) := by decide +kernel
theorem dX18_input_3 : decode cX18_input 3 = .ok (.iconst 5, 1) := by decide +kernel
theorem dX18_input_4 : decode cX18_input 4 = .ok (.invokestatic 73, 3) := by decide +kernel
theorem dX18_input_7 : decode cX18_input 7 = .ok (.ifCond .ne 7, 3) := by decide +kernel
theorem dX18_input_10 : decode cX18_input 10 = .ok (.iconst 1, 1) := by decide +kernel
theorem dX18_input_11 : decode cX18_input 11 = .ok (.goto 25, 3) := by decide +kernel
theorem dX18_input_14 : decode cX18_input 14 = .ok (.aload_n 0, 1) := by decide +kernel
theorem dX18_input_15 : decode cX18_input 15 = .ok (.getfield 264, 3) := by decide +kernel
theorem dX18_input_18 : decode cX18_input 18 = .ok (.ifCond .eq 13, 3) := by decide +kernel
theorem dX18_input_31 : decode cX18_input 31 = .ok (.iconst 2, 1) := by decide +kernel
theorem dX18_input_32 : decode cX18_input 32 = .ok (.goto 4, 3) := by decide +kernel
theorem dX18_input_36 : decode cX18_input 36 = .ok (.putfield 66, 3) := by decide +kernel
theorem dX18_input_39 : decode cX18_input 39 = .ok (.aload_n 0, 1) := by decide +kernel
theorem dX18_input_40 : decode cX18_input 40 = .ok (.getfield 66, 3) := by decide +kernel
theorem dX18_input_43 : decode cX18_input 43 = .ok (.ifCond .le 6, 3) := by decide +kernel
theorem dX18_input_46 : decode cX18_input 46 = .ok (.bipush 32, 2) := by decide +kernel
theorem dX18_input_48 : decode cX18_input 48 = .ok (.ireturn, 1) := by decide +kernel
theorem dX18_save_0 : decode cX18_save 0 = .ok (.aload_n 0, 1) := by decide +kernel
theorem dX18_save_1 : decode cX18_save 1 = .ok (.iload_n 1, 1) := by decide +kernel
theorem dX18_save_2 : decode cX18_save 2 = .ok (.iconst 0, 1) := by decide +kernel
theorem dX18_save_3 : decode cX18_save 3 = .ok (.iconst 5, 1) := by decide +kernel
theorem dX18_save_4 : decode cX18_save 4 = .ok (.invokestatic 73, 3) := by decide +kernel
theorem dX18_save_7 : decode cX18_save 7 = .ok (.ifCond .ne 7, 3) := by decide +kernel
theorem dX18_save_10 : decode cX18_save 10 = .ok (.iconst 1, 1) := by decide +kernel
theorem dX18_save_11 : decode cX18_save 11 = .ok (.goto 15, 3) := by decide +kernel
theorem dX18_save_14 : decode cX18_save 14 = .ok (.aload_n 0, 1) := by decide +kernel
theorem dX18_save_15 : decode cX18_save 15 = .ok (.getfield 264, 3) := by decide +kernel
theorem dX18_save_18 : decode cX18_save 18 = .ok (.ifCond .ne 7, 3) := by decide +kernel
theorem dX18_save_21 : decode cX18_save 21 = .ok (.iconst 2, 1) := by decide +kernel
theorem dX18_save_22 : decode cX18_save 22 = .ok (.goto 4, 3) := by decide +kernel
theorem dX18_save_26 : decode cX18_save 26 = .ok (.putfield 66, 3) := by decide +kernel
theorem dX18_save_29 : decode cX18_save 29 = .ok (.aload_n 0, 1) := by decide +kernel
theorem dX18_save_30 : decode cX18_save 30 = .ok (.getfield 66, 3) := by decide +kernel
theorem dX18_save_33 : decode cX18_save 33 = .ok (.ifCond .le 5, 3) := by decide +kernel
theorem dX18_save_36 : decode cX18_save 36 = .ok (.iconst 0, 1) := by decide +kernel
theorem dX18_save_37 : decode cX18_save 37 = .ok (.ireturn, 1) := by decide +kernel
theorem dX18_load_0 : decode cX18_load 0 = .ok (.iload_n 1, 1) := by decide +kernel
theorem dX18_load_1 : decode cX18_load 1 = .ok (.iconst 0, 1) := by decide +kernel
theorem dX18_load_2 : decode cX18_load 2 = .ok (.iconst 5, 1) := by decide +kernel
theorem dX18_load_3 : decode cX18_load 3 = .ok (.invokestatic 73, 3) := by decide +kernel
theorem dX18_load_6 : decode cX18_load 6 = .ok (.ifCond .ne 9, 3) := by decide +kernel
theorem dX18_load_9 : decode cX18_load 9 = .ok (.aload_n 0, 1) := by decide +kernel
theorem dX18_load_10 : decode cX18_load 10 = .ok (.iconst 1, 1) := by decide +kernel
theorem dX18_load_11 : decode cX18_load 11 = .ok (.invokevirtual 134, 3) := by decide +kernel
theorem dX18_load_14 : decode cX18_load 14 = .ok (.ireturn, 1) := by decide +kernel
theorem dX18_load_15 : decode cX18_load 15 = .ok (.aload_n 0, 1) := by decide +kernel
theorem dX18_load_16 : decode cX18_load 16 = .ok (.getfield 44, 3) := by decide +kernel
theorem dX18_load_19 : decode cX18_load 19 = .ok (.iload_n 1, 1) := by decide +kernel
theorem dX18_load_20 : decode cX18_load 20 = .ok (.iaload, 1) := by decide +kernel
theorem dX18_load_21 : decode cX18_load 21 = .ok (.iconst (-1), 1) := by decide +kernel
theorem dX18_load_22 : decode cX18_load 22 = .ok (.if_icmp .ne 9, 3) := by decide +kernel
theorem dX18_load_25 : decode cX18_load 25 = .ok (.aload_n 0, 1) := by decide +kernel
theorem dX18_load_26 : decode cX18_load 26 = .ok (.iconst 2, 1) := by decide +kernel
theorem dX18_load_27 : decode cX18_load 27 = .ok (.invokevirtual 134, 3) := by decide +kernel
theorem dX18_load_30 : decode cX18_load 30 = .ok (.ireturn, 1) := by decide +kernel
theorem dX18_hardest_0 : decode cX18_hardest 0 = .ok (.iload_n 1, 1) := by decide +kernel
theorem dX18_hardest_1 : decode cX18_hardest 1 = .ok (.bipush 120, 2) := by decide +kernel
theorem dX18_hardest_3 : decode cX18_hardest 3 = .ok (.if_icmp .eq 15, 3) := by decide +kernel
theorem dX18_hardest_6 : decode cX18_hardest 6 = .ok (.iload_n 1, 1) := by decide +kernel
theorem dX18_hardest_7 : decode cX18_hardest 7 = .ok (.bipush 121, 2) := by decide +kernel
theorem dX18_hardest_9 : decode cX18_hardest 9 = .ok (.if_icmp .eq 9, 3) := by decide +kernel
theorem dX18_hardest_12 : decode cX18_hardest 12 = .ok (.aload_n 0, 1) := by decide +kernel
theorem dX18_hardest_13 : decode cX18_hardest 13 = .ok (.iconst 1, 1) := by decide +kernel
theorem dX18_hardest_14 : decode cX18_hardest 14 = .ok (.invokevirtual 134, 3) := by decide +kernel
theorem dX18_hardest_17 : decode cX18_hardest 17 = .ok (.ireturn, 1) := by decide +kernel
theorem dX18_hardest_18 : decode cX18_hardest 18 = .ok (.iconst (-1), 1) := by decide +kernel
theorem dX18_hardest_19 : decode cX18_hardest 19 = .ok (.istore_n 2, 1) := by decide +kernel
theorem dX18_hardest_20 : decode cX18_hardest 20 = .ok (.iconst 0, 1) := by decide +kernel
theorem dX18_hardest_21 : decode cX18_hardest 21 = .ok (.istore_n 3, 1) := by decide +kernel
theorem dX18_hardest_22 : decode cX18_hardest 22 = .ok (.iconst 0, 1) := by decide +kernel
theorem dX18_hardest_23 : decode cX18_hardest 23 = .ok (.istore 4, 2) := by decide +kernel
theorem dX18_hardest_25 : decode cX18_hardest 25 = .ok (.iload 4, 2) := by decide +kernel
theorem dX18_hardest_27 : decode cX18_hardest 27 = .ok (.aload_n 0, 1) := by decide +kernel
theorem dX18_hardest_28 : decode cX18_hardest 28 = .ok (.getfield 56, 3) := by decide +kernel
theorem dX18_hardest_31 : decode cX18_hardest 31 = .ok (.arraylength, 1) := by decide +kernel
theorem dX18_hardest_32 : decode cX18_hardest 32 = .ok (.if_icmp .ge 39, 3) := by decide +kernel
theorem dX18_hardest_35 : decode cX18_hardest 35 = .ok (.aload_n 0, 1) := by decide +kernel
theorem dX18_hardest_36 : decode cX18_hardest 36 = .ok (.getfield 56, 3) := by decide +kernel
theorem dX18_hardest_39 : decode cX18_hardest 39 = .ok (.iload 4, 2) := by decide +kernel
theorem dX18_hardest_41 : decode cX18_hardest 41 = .ok (.iaload, 1) := by decide +kernel
theorem dX18_hardest_42 : decode cX18_hardest 42 = .ok (.iload_n 3, 1) := by decide +kernel
theorem dX18_hardest_43 : decode cX18_hardest 43 = .ok (.if_icmp .le 8, 3) := by decide +kernel
theorem dX18_hardest_51 : decode cX18_hardest 51 = .ok (.iload_n 2, 1) := by decide +kernel
theorem dX18_hardest_52 : decode cX18_hardest 52 = .ok (.istore_n 2, 1) := by decide +kernel
theorem dX18_hardest_53 : decode cX18_hardest 53 = .ok (.iload_n 3, 1) := by decide +kernel
theorem dX18_hardest_54 : decode cX18_hardest 54 = .ok (.aload_n 0, 1) := by decide +kernel
theorem dX18_hardest_55 : decode cX18_hardest 55 = .ok (.getfield 56, 3) := by decide +kernel
theorem dX18_hardest_58 : decode cX18_hardest 58 = .ok (.iload 4, 2) := by decide +kernel
theorem dX18_hardest_60 : decode cX18_hardest 60 = .ok (.iaload, 1) := by decide +kernel
theorem dX18_hardest_61 : decode cX18_hardest 61 = .ok (.invokestatic 170, 3) := by decide +kernel
theorem dX18_hardest_64 : decode cX18_hardest 64 = .ok (.istore_n 3, 1) := by decide +kernel
theorem dX18_hardest_65 : decode cX18_hardest 65 = .ok (.iinc 4 1, 3) := by decide +kernel
theorem dX18_hardest_68 : decode cX18_hardest 68 = .ok (.goto (-43), 3) := by decide +kernel
theorem dX18_hardest_71 : decode cX18_hardest 71 = .ok (.aload_n 0, 1) := by decide +kernel
theorem dX18_hardest_72 : decode cX18_hardest 72 = .ok (.iload_n 2, 1) := by decide +kernel
theorem dX18_hardest_73 : decode cX18_hardest 73 = .ok (.iconst (-1), 1) := by decide +kernel
theorem dX18_hardest_74 : decode cX18_hardest 74 = .ok (.if_icmp .ne 7, 3) := by decide +kernel
theorem dX18_hardest_77 : decode cX18_hardest 77 = .ok (.iconst 2, 1) := by decide +kernel
theorem dX18_hardest_78 : decode cX18_hardest 78 = .ok (.goto 4, 3) := by decide +kernel
theorem dX18_hardest_82 : decode cX18_hardest 82 = .ok (.putfield 66, 3) := by decide +kernel
theorem dX18_hardest_85 : decode cX18_hardest 85 = .ok (.aload_n 0, 1) := by decide +kernel
theorem dX18_hardest_86 : decode cX18_hardest 86 = .ok (.getfield 66, 3) := by decide +kernel
theorem dX18_hardest_89 : decode cX18_hardest 89 = .ok (.ifCond .le 7, 3) := by decide +kernel
theorem dX18_hardest_92 : decode cX18_hardest 92 = .ok (.iconst 0, 1) := by decide +kernel
theorem dX18_hardest_93 : decode cX18_hardest 93 = .ok (.goto 20, 3) := by decide +kernel
theorem dX18_hardest_113 : decode cX18_hardest 113 = .ok (.ireturn, 1) := by decide +kernel
theorem dX18_keep_0 : decode cX18_keep 0 = .ok (.aload_n 0, 1) := by decide +kernel
theorem dX18_keep_1 : decode cX18_keep 1 = .ok (.aload_n 0, 1) := by decide +kernel
theorem dX18_keep_2 : decode cX18_keep 2 = .ok (.getfield 38, 3) := by decide +kernel
theorem dX18_keep_5 : decode cX18_keep 5 = .ok (.iconst (-1), 1) := by decide +kernel
theorem dX18_keep_6 : decode cX18_keep 6 = .ok (.if_icmp .eq 17, 3) := by decide +kernel
theorem dX18_keep_23 : decode cX18_keep 23 = .ok (.iconst 1, 1) := by decide +kernel
theorem dX18_keep_24 : decode cX18_keep 24 = .ok (.goto 20, 3) := by decide +kernel
theorem dX18_keep_44 : decode cX18_keep 44 = .ok (.putfield 66, 3) := by decide +kernel
theorem dX18_keep_47 : decode cX18_keep 47 = .ok (.aload_n 0, 1) := by decide +kernel
theorem dX18_keep_48 : decode cX18_keep 48 = .ok (.getfield 66, 3) := by decide +kernel
theorem dX18_keep_51 : decode cX18_keep 51 = .ok (.ifCond .le 5, 3) := by decide +kernel
theorem dX18_keep_54 : decode cX18_keep 54 = .ok (.iconst 0, 1) := by decide +kernel
theorem dX18_keep_55 : decode cX18_keep 55 = .ok (.ireturn, 1) := by decide +kernel
theorem dX18_levels_0 : decode cX18_levels 0 = .ok (.aload_n 0, 1) := by decide +kernel
theorem dX18_levels_1 : decode cX18_levels 1 = .ok (.iconst 0, 1) := by decide +kernel
theorem dX18_levels_2 : decode cX18_levels 2 = .ok (.putfield 66, 3) := by decide +kernel
theorem dX18_levels_5 : decode cX18_levels 5 = .ok (.aload_n 0, 1) := by decide +kernel
theorem dX18_levels_6 : decode cX18_levels 6 = .ok (.getfield 34, 3) := by decide +kernel
theorem dX18_levels_9 : decode cX18_levels 9 = .ok (.invokevirtual 69, 3) := by decide +kernel
theorem dX18_levels_12 : decode cX18_levels 12 = .ok (.ireturn, 1) := by decide +kernel
theorem dX18_deaths_0 : decode cX18_deaths 0 = .ok (.aload_n 0, 1) := by decide +kernel
theorem dX18_deaths_1 : decode cX18_deaths 1 = .ok (.iconst 0, 1) := by decide +kernel
theorem dX18_deaths_2 : decode cX18_deaths 2 = .ok (.putfield 66, 3) := by decide +kernel
theorem dX18_deaths_5 : decode cX18_deaths 5 = .ok (.aload_n 0, 1) := by decide +kernel
theorem dX18_deaths_6 : decode cX18_deaths 6 = .ok (.getfield 280, 3) := by decide +kernel
theorem dX18_deaths_9 : decode cX18_deaths 9 = .ok (.ireturn, 1) := by decide +kernel
theorem dX18_isSound_0 : decode cX18_isSound 0 = .ok (.aload_n 0, 1) := by decide +kernel
theorem dX18_isSound_1 : decode cX18_isSound 1 = .ok (.iconst 0, 1) := by decide +kernel
theorem dX18_isSound_2 : decode cX18_isSound 2 = .ok (.putfield 66, 3) := by decide +kernel
theorem dX18_isSound_5 : decode cX18_isSound 5 = .ok (.iconst 1, 1) := by decide +kernel
theorem dX18_isSound_6 : decode cX18_isSound 6 = .ok (.ireturn, 1) := by decide +kernel
theorem dX18_publish_0 : decode cX18_publish 0 = .ok (.iload_n 1, 1) := by decide +kernel
theorem dX18_publish_1 : decode cX18_publish 1 = .ok (.iconst 0, 1) := by decide +kernel
theorem dX18_publish_2 : decode cX18_publish 2 = .ok (.aload_n 0, 1) := by decide +kernel
theorem dX18_publish_3 : decode cX18_publish 3 = .ok (.getfield 34, 3) := by decide +kernel
theorem dX18_publish_6 : decode cX18_publish 6 = .ok (.invokevirtual 69, 3) := by decide +kernel
theorem dX18_publish_9 : decode cX18_publish 9 = .ok (.iconst 1, 1) := by decide +kernel
theorem dX18_publish_10 : decode cX18_publish 10 = .ok (.isub, 1) := by decide +kernel
theorem dX18_publish_11 : decode cX18_publish 11 = .ok (.invokestatic 73, 3) := by decide +kernel
theorem dX18_publish_14 : decode cX18_publish 14 = .ok (.ifCond .eq 20, 3) := by decide +kernel
theorem dX18_publish_34 : decode cX18_publish 34 = .ok (.aload_n 0, 1) := by decide +kernel
theorem dX18_publish_35 : decode cX18_publish 35 = .ok (.iconst 1, 1) := by decide +kernel
theorem dX18_publish_36 : decode cX18_publish 36 = .ok (.invokevirtual 134, 3) := by decide +kernel
theorem dX18_publish_39 : decode cX18_publish 39 = .ok (.ireturn, 1) := by decide +kernel
theorem dX18_fell_0 : decode cX18_fell 0 = .ok (.aload_n 0, 1) := by decide +kernel
theorem dX18_fell_1 : decode cX18_fell 1 = .ok (.iload_n 1, 1) := by decide +kernel
theorem dX18_fell_2 : decode cX18_fell 2 = .ok (.iconst 0, 1) := by decide +kernel
theorem dX18_fell_3 : decode cX18_fell 3 = .ok (.bipush 11, 2) := by decide +kernel
theorem dX18_fell_5 : decode cX18_fell 5 = .ok (.invokestatic 73, 3) := by decide +kernel
theorem dX18_fell_8 : decode cX18_fell 8 = .ok (.ifCond .eq 17, 3) := by decide +kernel
theorem dX18_fell_11 : decode cX18_fell 11 = .ok (.iload_n 2, 1) := by decide +kernel
theorem dX18_fell_12 : decode cX18_fell 12 = .ok (.iconst 0, 1) := by decide +kernel
theorem dX18_fell_13 : decode cX18_fell 13 = .ok (.bipush 7, 2) := by decide +kernel
theorem dX18_fell_15 : decode cX18_fell 15 = .ok (.invokestatic 73, 3) := by decide +kernel
theorem dX18_fell_18 : decode cX18_fell 18 = .ok (.ifCond .eq 7, 3) := by decide +kernel
theorem dX18_fell_21 : decode cX18_fell 21 = .ok (.iconst 0, 1) := by decide +kernel
theorem dX18_fell_22 : decode cX18_fell 22 = .ok (.goto 4, 3) := by decide +kernel
theorem dX18_fell_25 : decode cX18_fell 25 = .ok (.iconst 1, 1) := by decide +kernel
theorem dX18_fell_26 : decode cX18_fell 26 = .ok (.putfield 66, 3) := by decide +kernel
theorem dX18_fell_29 : decode cX18_fell 29 = .ok (.aload_n 0, 1) := by decide +kernel
theorem dX18_fell_30 : decode cX18_fell 30 = .ok (.getfield 66, 3) := by decide +kernel
theorem dX18_fell_33 : decode cX18_fell 33 = .ok (.ifCond .le 7, 3) := by decide +kernel
theorem dX18_fell_36 : decode cX18_fell 36 = .ok (.iconst 0, 1) := by decide +kernel
theorem dX18_fell_37 : decode cX18_fell 37 = .ok (.goto 14, 3) := by decide +kernel
theorem dX18_fell_40 : decode cX18_fell 40 = .ok (.aload_n 0, 1) := by decide +kernel
theorem dX18_fell_41 : decode cX18_fell 41 = .ok (.getfield 56, 3) := by decide +kernel
theorem dX18_fell_44 : decode cX18_fell 44 = .ok (.bipush 12, 2) := by decide +kernel
theorem dX18_fell_46 : decode cX18_fell 46 = .ok (.iload_n 2, 1) := by decide +kernel
theorem dX18_fell_47 : decode cX18_fell 47 = .ok (.imul, 1) := by decide +kernel
theorem dX18_fell_48 : decode cX18_fell 48 = .ok (.iload_n 1, 1) := by decide +kernel
theorem dX18_fell_49 : decode cX18_fell 49 = .ok (.iadd, 1) := by decide +kernel
theorem dX18_fell_50 : decode cX18_fell 50 = .ok (.iaload, 1) := by decide +kernel
theorem dX18_fell_51 : decode cX18_fell 51 = .ok (.ireturn, 1) := by decide +kernel
theorem dJx35411_init_45d68_0 : decode cJx35411_init_45d68 0 = .ok (.aload_n 0, 1) := by decide +kernel
theorem dJx35411_init_45d68_1 : decode cJx35411_init_45d68 1 = .ok (.aload_n 1, 1) := by decide +kernel
theorem dJx35411_init_45d68_2 : decode cJx35411_init_45d68 2 = .ok (.putfield 1, 3) := by decide +kernel
theorem dJx35411_init_45d68_5 : decode cJx35411_init_45d68 5 = .ok (.aload_n 0, 1) := by decide +kernel
theorem dJx35411_init_45d68_6 : decode cJx35411_init_45d68 6 = .ok (.invokespecial 7, 3) := by decide +kernel
theorem dJx35411_init_45d68_9 : decode cJx35411_init_45d68 9 = .ok (.aload_n 0, 1) := by decide +kernel
theorem dJx35411_init_45d68_10 : decode cJx35411_init_45d68 10 = .ok (.iconst (-1), 1) := by decide +kernel
theorem dJx35411_init_45d68_11 : decode cJx35411_init_45d68 11 = .ok (.putfield 13, 3) := by decide +kernel
theorem dJx35411_init_45d68_14 : decode cJx35411_init_45d68 14 = .ok (.aload_n 0, 1) := by decide +kernel
theorem dJx35411_init_45d68_15 : decode cJx35411_init_45d68 15 = .ok (.aload_n 0, 1) := by decide +kernel
theorem dJx35411_init_45d68_16 : decode cJx35411_init_45d68 16 = .ok (.getfield 1, 3) := by decide +kernel
theorem dJx35411_init_45d68_19 : decode cJx35411_init_45d68 19 = .ok (.getfield 17, 3) := by decide +kernel
theorem dJx35411_init_45d68_22 : decode cJx35411_init_45d68 22 = .ok (.putfield 22, 3) := by decide +kernel
theorem dJx35411_init_45d68_25 : decode cJx35411_init_45d68 25 = .ok (.return_, 1) := by decide +kernel
theorem dJx4a65c_iterator_32c93_0 : decode cJx4a65c_iterator_32c93 0 = .ok (.new 267, 3) := by decide +kernel
theorem dJx4a65c_iterator_32c93_3 : decode cJx4a65c_iterator_32c93 3 = .ok (.dup, 1) := by decide +kernel
theorem dJx4a65c_iterator_32c93_4 : decode cJx4a65c_iterator_32c93 4 = .ok (.aload_n 0, 1) := by decide +kernel
theorem dJx4a65c_iterator_32c93_5 : decode cJx4a65c_iterator_32c93 5 = .ok (.invokespecial 269, 3) := by decide +kernel
theorem dJx4a65c_iterator_32c93_8 : decode cJx4a65c_iterator_32c93 8 = .ok (.areturn, 1) := by decide +kernel
theorem dJx35411_hasNext_aae02_0 : decode cJx35411_hasNext_aae02 0 = .ok (.aload_n 0, 1) := by decide +kernel
theorem dJx35411_hasNext_aae02_1 : decode cJx35411_hasNext_aae02 1 = .ok (.getfield 25, 3) := by decide +kernel
theorem dJx35411_hasNext_aae02_4 : decode cJx35411_hasNext_aae02 4 = .ok (.aload_n 0, 1) := by decide +kernel
theorem dJx35411_hasNext_aae02_5 : decode cJx35411_hasNext_aae02 5 = .ok (.getfield 1, 3) := by decide +kernel
theorem dJx35411_hasNext_aae02_8 : decode cJx35411_hasNext_aae02 8 = .ok (.getfield 28, 3) := by decide +kernel
theorem dJx35411_hasNext_aae02_11 : decode cJx35411_hasNext_aae02 11 = .ok (.if_icmp .eq 7, 3) := by decide +kernel
theorem dJx35411_hasNext_aae02_18 : decode cJx35411_hasNext_aae02 18 = .ok (.iconst 0, 1) := by decide +kernel
theorem dJx35411_hasNext_aae02_19 : decode cJx35411_hasNext_aae02 19 = .ok (.ireturn, 1) := by decide +kernel
theorem dX18_makerAt_0 : decode cX18_makerAt 0 = .ok (.aload_n 0, 1) := by decide +kernel
theorem dX18_makerAt_1 : decode cX18_makerAt 1 = .ok (.iload_n 1, 1) := by decide +kernel
theorem dX18_makerAt_2 : decode cX18_makerAt 2 = .ok (.iconst 0, 1) := by decide +kernel
theorem dX18_makerAt_3 : decode cX18_makerAt 3 = .ok (.aload_n 0, 1) := by decide +kernel
theorem dX18_makerAt_4 : decode cX18_makerAt 4 = .ok (.getfield 53, 3) := by decide +kernel
theorem dX18_makerAt_7 : decode cX18_makerAt 7 = .ok (.invokevirtual 69, 3) := by decide +kernel
theorem dX18_makerAt_10 : decode cX18_makerAt 10 = .ok (.iconst 1, 1) := by decide +kernel
theorem dX18_makerAt_11 : decode cX18_makerAt 11 = .ok (.isub, 1) := by decide +kernel
theorem dX18_makerAt_12 : decode cX18_makerAt 12 = .ok (.invokestatic 73, 3) := by decide +kernel
theorem dX18_makerAt_15 : decode cX18_makerAt 15 = .ok (.ifCond .eq 7, 3) := by decide +kernel
theorem dX18_makerAt_22 : decode cX18_makerAt 22 = .ok (.iconst 1, 1) := by decide +kernel
theorem dX18_makerAt_23 : decode cX18_makerAt 23 = .ok (.putfield 66, 3) := by decide +kernel
theorem dX18_makerAt_26 : decode cX18_makerAt 26 = .ok (.aload_n 0, 1) := by decide +kernel
theorem dX18_makerAt_27 : decode cX18_makerAt 27 = .ok (.getfield 53, 3) := by decide +kernel
theorem dX18_makerAt_30 : decode cX18_makerAt 30 = .ok (.invokevirtual 336, 3) := by decide +kernel
theorem dX18_makerAt_33 : decode cX18_makerAt 33 = .ok (.astore_n 2, 1) := by decide +kernel
theorem dX18_makerAt_34 : decode cX18_makerAt 34 = .ok (.aload_n 2, 1) := by decide +kernel
theorem dX18_makerAt_35 : decode cX18_makerAt 35 = .ok (.invokeinterface 340 1, 5) := by decide +kernel
theorem dX18_makerAt_40 : decode cX18_makerAt 40 = .ok (.ifCond .eq 133, 3) := by decide +kernel
theorem dX18_makerAt_173 : decode cX18_makerAt 173 = .ok (.iconst 0, 1) := by decide +kernel
theorem dX18_makerAt_174 : decode cX18_makerAt 174 = .ok (.ireturn, 1) := by decide +kernel
set_option maxHeartbeats 4000000 in
set_option maxRecDepth 100000 in
theorem c_X0_hardestCell (l : Launch) (dC : Nat → ClassId) (dI : Nat → Nat → Nat) (de : Nat) (bo : Nat) (fa : Nat) (bbe : Nat) (bdi : Nat) (cI : ClassId) (sz : Nat) : Met l yX0_hardestCell (.code yX0_hardestCell cX0_hardestCell 4 (some .int) :: wsL_law) { frames := 0, cells := 0, slots := 0, locals := 0 } (va_Pc [.ref bo] (PW dC dI de [(cI, .int)] [(bo, .inr (2, [.ref fa, .ref bbe, .ref bdi, .int 0, .int 0])), (fa, .inl (cI, 96, .inl (fun _ => 0)))] sz)) (va_Qi (fun (r : Int32) (u : Unit) => r = -1) (fun (_ : Unit) (t : State) => QW dC dI [(cI, .int)] [(bo, .inr (2, [.ref fa, .ref bbe, .ref bdi, .int 0, .int 0])), (fa, .inl (cI, 96, .inl (fun _ => 0)))] (va_A [(bo, .inr (2, [.ref fa, .ref bbe, .ref bdi, .int 0, .int 0])), (fa, .inl (cI, 96, .inl (fun _ => 0)))] sz) t) (va_A [(bo, .inr (2, [.ref fa, .ref bbe, .ref bdi, .int 0, .int 0])), (fa, .inl (cI, 96, .inl (fun _ => 0)))] sz)) 0 0 (va_A [(bo, .inr (2, [.ref fa, .ref bbe, .ref bdi, .int 0, .int 0])), (fa, .inl (cI, 96, .inl (fun _ => 0)))] sz) := by
  refine Met.ofW (cc := cX0_hardestCell) (maxL := 4) (ret := (some .int)) (by decide) rfl ?_
  intro p e s m args below meth c s₁ B hml hv
  obtain ⟨rfl, hsz, hP, hK, hD0, hG⟩ := hv
  have hx := B.exec
  have hb := B.bytes
  have hr := B.returns
  have hts := atoms_spec (ws := .code yX0_hardestCell cX0_hardestCell 4 (some .int) :: wsL_law) B.pre
  have ht : ∀ w ∈ wsL_law, w.before _ s = true := fun w h => hts w (List.mem_cons_of_mem _ h)
  have hown : s.vm.findClass RX0 = some m.cls := findClass_of_methodNamed B.named
  have hlocks := B.notSynchronized
  subst hsz
  have hD := hD0.self (sz := s.heap.size)
  generalize hAe : va_A [(bo, .inr (2, [.ref fa, .ref bbe, .ref bdi, .int 0, .int 0])), (fa, .inl (cI, 96, .inl (fun _ => 0)))] s.heap.size = A at hD hG ⊢
  have hA : ∀ q : Nat, s.heap.size ≤ q → A q := fun q h => by rw [← hAe]; exact Or.inr h
  have hS : va_S A s.heap s.heap [] := va_S.rf
  have hP : va_P (dC, dI) vwCl [(bo, .inr (2, [.ref fa, .ref bbe, .ref bdi, .int 0, .int 0])), (fa, .inl (cI, 96, .inl (fun _ => 0)))] s.heap := hP
  have hD : va_D A [(bo, .inr (2, [.ref fa, .ref bbe, .ref bdi, .int 0, .int 0])), (fa, .inl (cI, 96, .inl (fun _ => 0)))] := hD
  have hl := lv_entry ([.ref bo]) (n := 4) (Nat.le_of_ble_eq_true rfl)
  rw [lg_entry_eq]
  generalize (lg_sl ([.ref bo]) ++ List.replicate (4 - (lg_sl ([.ref bo])).length) Slot.unset).toArray = ls at hl ⊢
  have hl : lv_has ls 4 [(0, .ref bo)] := hl
  refine lv_iconst (v := -1) hx hb dX0_hardestCell_0 (by decide) ?_
  refine lv_istore_n (lv' := [(1, .int (-1)), (0, .ref bo)]) hx hb dX0_hardestCell_1 rfl hl (by decide) rfl (fun ls hl => ?_)
  refine lv_iconst (v := 0) hx hb dX0_hardestCell_2 (by decide) ?_
  refine lv_istore_n (lv' := [(2, .int 0), (1, .int (-1)), (0, .ref bo)]) hx hb dX0_hardestCell_3 rfl hl (by decide) rfl (fun ls hl => ?_)
  refine lv_iconst (v := 0) hx hb dX0_hardestCell_4 (by decide) ?_
  refine lv_istore_n (lv' := [(3, .int 0), (2, .int 0), (1, .int (-1)), (0, .ref bo)]) hx hb dX0_hardestCell_5 rfl hl (by decide) rfl (fun ls hl => ?_)
  obtain ⟨n, i, hi0, hn⟩ : ∃ n i : Nat, i = 0 ∧ i + n = 96 := ⟨96, 0, rfl, rfl⟩
  replace hl : lv_has ls 4 [(3, .int (nI i)), (2, .int 0), (1, .int (-1)), (0, .ref bo)] := by rw [hi0]; exact hl
  clear hi0
  induction n generalizing i ls with
  | zero =>
    refine lv_iload_n hx hb dX0_hardestCell_6 rfl (lv_at hl 0 rfl) ?_
    refine lv_bipush (v := 96) hx hb dX0_hardestCell_7 (by decide) ?_
    refine lv_icmp_ge (tgt := 37) hx hb dX0_hardestCell_9 (by decide) (fun c_9 => ?_) (fun c_9 => absurd (nI_le (a := 96) (b := i) (by omega) (by omega)) c_9)
    refine lv_iload_n hx hb dX0_hardestCell_37 rfl (lv_at hl 2 rfl) ?_
    exact W.iret (v := (-1)) hx hb hr (fun t htt hW => have ht := htt; ⟨⟨(-1), (), rfl, rfl, QW_of ht hW hP hK hD⟩, hS.F ht⟩) hS.2.2 dX0_hardestCell_38
  | succ n ih =>
    refine lv_iload_n hx hb dX0_hardestCell_6 rfl (lv_at hl 0 rfl) ?_
    refine lv_bipush (v := 96) hx hb dX0_hardestCell_7 (by decide) ?_
    refine lv_icmp_ge (tgt := 37) hx hb dX0_hardestCell_9 (by decide) (fun c_9 => absurd c_9 (nI_ge (b := 96) (show i < 96 by omega) (by decide))) (fun c_9 => ?_)
    refine lv_aload_n hx hb dX0_hardestCell_12 rfl (lv_at hl 3 rfl) ?_
    refine va_get (D := (dC, dI)) (ci := 2) (v := .ref fa) (C := RX0) (T := TX0) (N := 5) hx hb ht inlX0 hown hK hP 0 rfl rfl 0 (by decide) (ht _ (wr_7 _ (List.mem_of_getElem? (i := 17) rfl))) (fun _ h9 => h9) rfl dX0_hardestCell_13 ?_
    refine lv_iload_n hx hb dX0_hardestCell_16 rfl (lv_at hl 0 rfl) ?_
    refine va_iald hx hb hK hP 1 0 rfl rfl (vp_in_nI (n := i) (by omega) (by decide)) dX0_hardestCell_17 ?_
    refine W.eq (g2 := F0 m 18 ls [.int 0]) rfl ?_
    refine lv_iload_n hx hb dX0_hardestCell_18 rfl (lv_at hl 1 rfl) ?_
    refine lv_icmp_le (tgt := 31) hx hb dX0_hardestCell_19 (by decide) (fun c_19 => ?_) (fun c_19 => absurd c_19 (by decide))
    obtain ⟨i_1, ei_1⟩ : ∃ y : Int32, y = (nI i) + 1 := ⟨_, rfl⟩
    refine lv_iinc (v := i_1) (lv' := [(3, .int i_1), (2, .int 0), (1, .int (-1)), (0, .ref bo)]) hx hb dX0_hardestCell_31 hl (k := 0) rfl (by rw [ei_1]; rfl) (by decide) rfl (fun ls hl => ?_)
    refine lv_goto (tgt := 6) hx hb dX0_hardestCell_34 (by decide) ?_
    have e9 : i_1 = nI (i + 1) := ei_1.trans (nI_1 i)
    subst e9
    exact ih (i := i + 1) (ls := ls) (hn := by omega) (hl := lv_sub hl [0, 1, 2, 3] rfl)
set_option maxHeartbeats 4000000 in
set_option maxRecDepth 100000 in
theorem c_X11_hardest (l : Launch) (hlt : l.stackTraces = false) (dC : Nat → ClassId) (dI : Nat → Nat → Nat) (de : Nat) (ox : Nat) (pl : Nat) (ru : Nat) (sh : Nat) (sp : Nat) (sl : Nat) (gr : Nat) (re : Nat) (pr : Nat) (ga : Nat) (rp : Nat) (bo : Nat) (fa : Nat) (gpl : Nat) (gin : Nat) (bbe : Nat) (bdi : Nat) (cP : ClassId) (cI : ClassId) (a1 : Int32) (sz : Nat) : vx_Met l yX11_hardest (.code yX11_hardest cX11_hardest 3 (some .int) :: wsL_law) { frames := 7, cells := 2, slots := 12, locals := 110 } (va_Pc [.ref ox, .int a1] (PW dC dI de [(cP, .object "Levelsmith$Player"), (cI, .int)] (WX ox pl ru sh sp sl gr re pr ga rp bo fa gpl gin bbe bdi cP cI de) sz)) (va_Qi (fun (_ : Int32) (_ : Unit) => False) (fun (_ : Unit) (_ : State) => True) (va_A (WX ox pl ru sh sp sl gr re pr ga rp bo fa gpl gin bbe bdi cP cI de) sz)) (XX (fun E => (E = "java/lang/IllegalArgumentException" ∧ ¬ (a1 = 120 ∨ a1 = 121)) ∨ (E = "java/util/NoSuchElementException" ∧ (a1 = 120 ∨ a1 = 121))) (va_A (WX ox pl ru sh sp sl gr re pr ga rp bo fa gpl gin bbe bdi cP cI de) sz)) 2 12 (va_A (WX ox pl ru sh sp sl gr re pr ga rp bo fa gpl gin bbe bdi cP cI de) sz) := by
  refine vx_ofW (cc := cX11_hardest) (maxL := 3) (ret := (some .int)) (by decide) rfl ?_
  intro p e s m args below meth c s₁ B hml hex hv
  obtain ⟨rfl, hsz, hP, hK, hD0, hG⟩ := hv
  have hx := B.exec
  have hb := B.bytes
  have hr := B.returns
  have hts := atoms_spec (ws := .code yX11_hardest cX11_hardest 3 (some .int) :: wsL_law) B.pre
  have ht : ∀ w ∈ wsL_law, w.before _ s = true := fun w h => hts w (List.mem_cons_of_mem _ h)
  have hown : s.vm.findClass RX11 = some m.cls := findClass_of_methodNamed B.named
  have hlocks := B.notSynchronized
  subst hsz
  have hD := hD0.self (sz := s.heap.size)
  generalize hAe : va_A (WX ox pl ru sh sp sl gr re pr ga rp bo fa gpl gin bbe bdi cP cI de) s.heap.size = A at hD hG ⊢
  have hA : ∀ q : Nat, s.heap.size ≤ q → A q := fun q h => by rw [← hAe]; exact Or.inr h
  have hS : va_S A s.heap s.heap [] := va_S.rf
  have hP : va_P (dC, dI) vwCl [(ox, .inr (13, [.ref pl, .ref ru, .ref sh, .ref sp, .ref sl, .ref gr, .ref re, .ref pr, .ref ga, .ref rp, .ref bo, .int 0])), (pl, .inr (1, [.int 0, .ref de, .int 0])), (ru, .inr (1, [.int 0, .ref de, .int 0])), (sh, .inr (1, [.int 0, .ref de, .int 0])), (sp, .inl (cP, 6, .inr (.inr (.inr (.inr (fun _ => none)))))), (ga, .inr (5, [.ref gpl, .ref gin, .int (-1), .int 0, .int 112, .int 0])), (bo, .inr (2, [.ref fa, .ref bbe, .ref bdi, .int 0, .int 0])), (fa, .inl (cI, 96, .inl (fun _ => 0)))] s.heap := hP
  have hD : va_D A [(ox, .inr (13, [.ref pl, .ref ru, .ref sh, .ref sp, .ref sl, .ref gr, .ref re, .ref pr, .ref ga, .ref rp, .ref bo, .int 0])), (pl, .inr (1, [.int 0, .ref de, .int 0])), (ru, .inr (1, [.int 0, .ref de, .int 0])), (sh, .inr (1, [.int 0, .ref de, .int 0])), (sp, .inl (cP, 6, .inr (.inr (.inr (.inr (fun _ => none)))))), (ga, .inr (5, [.ref gpl, .ref gin, .int (-1), .int 0, .int 112, .int 0])), (bo, .inr (2, [.ref fa, .ref bbe, .ref bdi, .int 0, .int 0])), (fa, .inl (cI, 96, .inl (fun _ => 0)))] := hD
  have hl := lv_entry ([.ref ox, .int a1]) (n := 3) (Nat.le_of_ble_eq_true rfl)
  rw [lg_entry_eq]
  generalize (lg_sl ([.ref ox, .int a1]) ++ List.replicate (3 - (lg_sl ([.ref ox, .int a1])).length) Slot.unset).toArray = ls at hl ⊢
  have hl : lv_has ls 3 [(0, .ref ox), (1, .int a1)] := hl
  refine lv_iload_n hx hb dX11_hardest_0 rfl (lv_at hl 1 rfl) ?_
  have hPc := hP.sub (ws' := []) [] rfl
  have hDc := hD.sub (ws' := []) [] (by decide) rfl
  have hKc := hK.sub (tys' := []) [] rfl
  have hFc := va_free (wc := []) hD hS hA [] rfl
  refine vx_callv (vx_runS (As := [.int a1]) (rest := []) ⟨hx, hb, hml, hown, ht⟩ (c_X11_checkAxis l hlt dC dI de (a1) s.heap.size) (cwS 1 ht (gWS (wr_43 _ (List.mem_of_getElem? (i := 11) rfl)) (wr_43 _ (List.mem_of_getElem? (i := 12) rfl)) (wr_1 _ (List.mem_of_getElem? (i := 2) rfl)) (wr_43 _ (List.mem_of_getElem? (i := 13) rfl))) rfl rfl rfl (by decide +kernel) ⟨Nat.le_of_ble_eq_true rfl, Nat.le_of_ble_eq_true rfl⟩) ⟨PW_blind, PW_call hPc hDc hKc hS hG hFc⟩ rfl rfl hl.1 rfl (lv_room (Nat.le_of_ble_eq_true rfl)) dX11_hardest_1 ⟨Nat.le_of_ble_eq_true rfl, Nat.le_of_ble_eq_true rfl⟩) hS (fun q _ h => hFc q h) hFc (fun q _ h => hFc q h) (fun E ce q9 u t H1 locs1 ht9 hvm9 _ hR9 hz9 hk9 hS9 hc9 hv9 hcl9 => ?_) (fun u t H1 locs ht9 hvm hw hB hz1 hk1 hS => ?_)
  · exact vx_out (fun x hx => (hex x hx).elim) hlocks hc9 hv9 hcl9 (fun t9 e9 _ => XX_out (Or.inl hR9) hS9 e9) hS9.2.2 (Nat.le_of_ble_eq_true rfl) (Nat.le_of_ble_eq_true rfl)
  · obtain ⟨hP1, hK1, hD1⟩ := hB
    rw [ht9] at hP1
    have hK1 := va_K.moved hvm.symm hK1
    obtain ⟨hP, hD⟩ := va_join (wr := [(ox, .inr (13, [.ref pl, .ref ru, .ref sh, .ref sp, .ref sl, .ref gr, .ref re, .ref pr, .ref ga, .ref rp, .ref bo, .int 0])), (pl, .inr (1, [.int 0, .ref de, .int 0])), (ru, .inr (1, [.int 0, .ref de, .int 0])), (sh, .inr (1, [.int 0, .ref de, .int 0])), (sp, .inl (cP, 6, .inr (.inr (.inr (.inr (fun _ => none)))))), (ga, .inr (5, [.ref gpl, .ref gin, .int (-1), .int 0, .int 112, .int 0])), (bo, .inr (2, [.ref fa, .ref bbe, .ref bdi, .int 0, .int 0])), (fa, .inl (cI, 96, .inl (fun _ => 0)))]) (w1 := []) hP hD [] [0, 1, 2, 3, 4, 5, 6, 7] rfl rfl (by decide) (by decide) hk1 hFc hP1 hD1
    have hK := (hK.sub (tys' := [(cP, .object "Levelsmith$Player"), (cI, .int)]) [0, 1] rfl).app hK1
    generalize H1 = H at hP hS ⊢
    replace hP : va_P (dC, dI) vwCl [(ox, .inr (13, [.ref pl, .ref ru, .ref sh, .ref sp, .ref sl, .ref gr, .ref re, .ref pr, .ref ga, .ref rp, .ref bo, .int 0])), (pl, .inr (1, [.int 0, .ref de, .int 0])), (ru, .inr (1, [.int 0, .ref de, .int 0])), (sh, .inr (1, [.int 0, .ref de, .int 0])), (sp, .inl (cP, 6, .inr (.inr (.inr (.inr (fun _ => none)))))), (ga, .inr (5, [.ref gpl, .ref gin, .int (-1), .int 0, .int 112, .int 0])), (bo, .inr (2, [.ref fa, .ref bbe, .ref bdi, .int 0, .int 0])), (fa, .inl (cI, 96, .inl (fun _ => 0)))] H := hP
    replace hD : va_D A [(ox, .inr (13, [.ref pl, .ref ru, .ref sh, .ref sp, .ref sl, .ref gr, .ref re, .ref pr, .ref ga, .ref rp, .ref bo, .int 0])), (pl, .inr (1, [.int 0, .ref de, .int 0])), (ru, .inr (1, [.int 0, .ref de, .int 0])), (sh, .inr (1, [.int 0, .ref de, .int 0])), (sp, .inl (cP, 6, .inr (.inr (.inr (.inr (fun _ => none)))))), (ga, .inr (5, [.ref gpl, .ref gin, .int (-1), .int 0, .int 112, .int 0])), (bo, .inr (2, [.ref fa, .ref bbe, .ref bdi, .int 0, .int 0])), (fa, .inl (cI, 96, .inl (fun _ => 0)))] := hD
    have hK : va_K (dC, dI) vwCl [(cP, .object "Levelsmith$Player"), (cI, .int)] s := hK
    refine W.widen (k := 1) (n := 6) (Nat.le_of_ble_eq_true rfl) (Nat.le_of_ble_eq_true rfl) ?_
    have hw_1 := hw
    refine lv_aload_n hx hb dX11_hardest_4 rfl (lv_at hl 0 rfl) ?_
    refine va_get (D := (dC, dI)) (ci := 13) (v := .ref bo) (C := RX11) (T := TX11) (N := 12) hx hb ht inlX11 hown hK hP 0 rfl rfl 10 (by decide) (ht _ (wr_2 _ (List.mem_of_getElem? (i := 20) rfl))) (fun _ h9 => h9) rfl dX11_hardest_5 ?_
    have hPc := hP.sub (ws' := [(bo, .inr (2, [.ref fa, .ref bbe, .ref bdi, .int 0, .int 0])), (fa, .inl (cI, 96, .inl (fun _ => 0)))]) [6, 7] rfl
    have hDc := hD.sub (ws' := [(bo, .inr (2, [.ref fa, .ref bbe, .ref bdi, .int 0, .int 0])), (fa, .inl (cI, 96, .inl (fun _ => 0)))]) [6, 7] (by decide) rfl
    have hKc := hK.sub (tys' := [(cI, .int)]) [1] rfl
    have hFc := va_free (wc := [(bo, .inr (2, [.ref fa, .ref bbe, .ref bdi, .int 0, .int 0])), (fa, .inl (cI, 96, .inl (fun _ => 0)))]) hD hS hA [6, 7] rfl
    refine va_calli (va_runV (As := []) (rest := []) ⟨hx, hb, hml, hown, ht⟩ (c_X0_hardestCell l dC dI de (bo) (fa) (bbe) (bdi) (cI) H.size) (cwV 0 ht (gWV (wr_65 _ (List.mem_of_getElem? (i := 2) rfl)) (wr_65 _ (List.mem_of_getElem? (i := 3) rfl)) (wr_65 _ (List.mem_of_getElem? (i := 4) rfl)) (wr_2 _ (List.mem_of_getElem? (i := 19) rfl)) (wr_65 _ (List.mem_of_getElem? (i := 5) rfl))) rfl rfl rfl (by decide +kernel) ⟨Nat.le_of_ble_eq_true rfl, Nat.le_of_ble_eq_true rfl⟩) ⟨PW_blind, va_recv hKc hPc (ci := 2) (q0 := 0) rfl rfl, PW_call hPc hDc hKc hS hG hFc⟩ rfl rfl hl.1 rfl (lv_room (Nat.le_of_ble_eq_true rfl)) dX11_hardest_8 ⟨Nat.le_of_ble_eq_true rfl, Nat.le_of_ble_eq_true rfl⟩) hS (fun q _ h => hFc q h) hFc (fun r_8 u t H1 locs ht9 hvm hw hB hz1 hk1 hS => ?_)
    obtain ⟨hP1, hK1, hD1⟩ := hB
    rw [ht9] at hP1
    have hK1 := va_K.moved hvm.symm hK1
    obtain ⟨hP, hD⟩ := va_join (wr := [(ox, .inr (13, [.ref pl, .ref ru, .ref sh, .ref sp, .ref sl, .ref gr, .ref re, .ref pr, .ref ga, .ref rp, .ref bo, .int 0])), (pl, .inr (1, [.int 0, .ref de, .int 0])), (ru, .inr (1, [.int 0, .ref de, .int 0])), (sh, .inr (1, [.int 0, .ref de, .int 0])), (sp, .inl (cP, 6, .inr (.inr (.inr (.inr (fun _ => none)))))), (ga, .inr (5, [.ref gpl, .ref gin, .int (-1), .int 0, .int 112, .int 0]))]) (w1 := [(bo, .inr (2, [.ref fa, .ref bbe, .ref bdi, .int 0, .int 0])), (fa, .inl (cI, 96, .inl (fun _ => 0)))]) hP hD [6, 7] [0, 1, 2, 3, 4, 5] rfl rfl (by decide) (by decide) hk1 hFc hP1 hD1
    have hK := (hK.sub (tys' := [(cP, .object "Levelsmith$Player")]) [0] rfl).app hK1
    generalize H1 = H at hP hS ⊢
    replace hP : va_P (dC, dI) vwCl [(ox, .inr (13, [.ref pl, .ref ru, .ref sh, .ref sp, .ref sl, .ref gr, .ref re, .ref pr, .ref ga, .ref rp, .ref bo, .int 0])), (pl, .inr (1, [.int 0, .ref de, .int 0])), (ru, .inr (1, [.int 0, .ref de, .int 0])), (sh, .inr (1, [.int 0, .ref de, .int 0])), (sp, .inl (cP, 6, .inr (.inr (.inr (.inr (fun _ => none)))))), (ga, .inr (5, [.ref gpl, .ref gin, .int (-1), .int 0, .int 112, .int 0])), (bo, .inr (2, [.ref fa, .ref bbe, .ref bdi, .int 0, .int 0])), (fa, .inl (cI, 96, .inl (fun _ => 0)))] H := hP
    replace hD : va_D A [(ox, .inr (13, [.ref pl, .ref ru, .ref sh, .ref sp, .ref sl, .ref gr, .ref re, .ref pr, .ref ga, .ref rp, .ref bo, .int 0])), (pl, .inr (1, [.int 0, .ref de, .int 0])), (ru, .inr (1, [.int 0, .ref de, .int 0])), (sh, .inr (1, [.int 0, .ref de, .int 0])), (sp, .inl (cP, 6, .inr (.inr (.inr (.inr (fun _ => none)))))), (ga, .inr (5, [.ref gpl, .ref gin, .int (-1), .int 0, .int 112, .int 0])), (bo, .inr (2, [.ref fa, .ref bbe, .ref bdi, .int 0, .int 0])), (fa, .inl (cI, 96, .inl (fun _ => 0)))] := hD
    have hK : va_K (dC, dI) vwCl [(cP, .object "Levelsmith$Player"), (cI, .int)] s := hK
    have e_8 : r_8 = (-1) := hw
    subst e_8
    refine lv_istore_n (lv' := [(2, .int (-1)), (0, .ref ox), (1, .int a1)]) hx hb dX11_hardest_11 rfl hl (by decide) rfl (fun ls hl => ?_)
    refine lv_iload_n hx hb dX11_hardest_12 rfl (lv_at hl 0 rfl) ?_
    refine lv_if_ge (tgt := 27) hx hb dX11_hardest_13 (by decide) (fun c_13 => absurd c_13 (by decide)) (fun c_13 => ?_)
    obtain ⟨sa, hstr⟩ := hG.2.1 (394, "it never died") (List.mem_of_getElem? (i := 29) rfl)
    exact nx_throwSW hx hb hlt ns_0 ns_1 ns_2 ns_5 hown (by decide) (by decide) (by decide) (ht _ (wr_38 _ (List.mem_of_getElem? (i := 3) rfl))) (ht _ (wr_38 _ (List.mem_of_getElem? (i := 4) rfl))) hstr (vx_hat (fun w h => ht w (wx_3 w h)) te_3 (gx_bad hG (X := "java/util/NoSuchElementException") (List.mem_of_getElem? (i := 3) rfl))) tg_3 hG.1.1 hG.1.2.1 hS (by rw [hml]; exact hl.1) dX11_hardest_16 dX11_hardest_19 dX11_hardest_20 dX11_hardest_23 dX11_hardest_26 (fun x hx => (hex x hx).elim) (Nat.le_of_ble_eq_true rfl) (Nat.le_of_ble_eq_true rfl) (Nat.le_of_ble_eq_true rfl) (Nat.le_of_ble_eq_true rfl) hlocks (fun t hv9 h1 h2 => XX_of (Or.inr ⟨rfl, hw_1⟩) hS hA h1 h2) hS.2.2 (Nat.le_of_ble_eq_true rfl) (Nat.le_of_ble_eq_true rfl)
set_option maxHeartbeats 4000000 in
set_option maxRecDepth 100000 in
theorem c_X18_input (l : Launch) (dC : Nat → ClassId) (dI : Nat → Nat → Nat) (de : Nat) (om : Nat) (mt : Nat) (qu : Nat) (lv : Nat) (mi : Nat) (ml : Nat) (mss : Nat) (rn : Nat) (sw : Nat) (mf : Nat) (msp : Nat) (cS : ClassId) (cF : ClassId) (th : Int32) (a1 : Int32) (sz : Nat) : Met l yX18_input (.code yX18_input cX18_input 3 (some .char) :: wsL_law) { frames := 1, cells := 0, slots := 0, locals := 22 } (va_Pc [.ref om, .int a1] (PW dC dI de [(cS, .int), (cF, .int)] (WM om mt qu lv mi ml mss rn sw mf msp cS cF th de) sz)) (va_Qi (fun (r : Int32) (th2 : Int32) => (th2 = 1 ∧ ¬ (0 ≤ a1 ∧ a1 ≤ 5)) ∨ (th2 = 2 ∧ (0 ≤ a1 ∧ a1 ≤ 5))) (fun (th2 : Int32) (t : State) => QW dC dI [(cS, .int), (cF, .int)] (WM om mt qu lv mi ml mss rn sw mf msp cS cF th2 de) (va_A (WM om mt qu lv mi ml mss rn sw mf msp cS cF th de) sz) t) (va_A (WM om mt qu lv mi ml mss rn sw mf msp cS cF th de) sz)) 0 0 (va_A (WM om mt qu lv mi ml mss rn sw mf msp cS cF th de) sz) := by
  refine Met.ofW (cc := cX18_input) (maxL := 3) (ret := (some .char)) (by decide) rfl ?_
  intro p e s m args below meth c s₁ B hml hv
  obtain ⟨rfl, hsz, hP, hK, hD0, hG⟩ := hv
  have hx := B.exec
  have hb := B.bytes
  have hr := B.returns
  have hts := atoms_spec (ws := .code yX18_input cX18_input 3 (some .char) :: wsL_law) B.pre
  have ht : ∀ w ∈ wsL_law, w.before _ s = true := fun w h => hts w (List.mem_cons_of_mem _ h)
  have hown : s.vm.findClass RX18 = some m.cls := findClass_of_methodNamed B.named
  have hlocks := B.notSynchronized
  subst hsz
  have hD := hD0.self (sz := s.heap.size)
  generalize hAe : va_A (WM om mt qu lv mi ml mss rn sw mf msp cS cF th de) s.heap.size = A at hD hG ⊢
  have hA : ∀ q : Nat, s.heap.size ≤ q → A q := fun q h => by rw [← hAe]; exact Or.inr h
  have hS : va_S A s.heap s.heap [] := va_S.rf
  have hP : va_P (dC, dI) vwCl [(om, .inr (20, [.ref mt, .ref qu, .int 0, .int th, .ref lv, .int (-1), .int 0, .int 0, .ref mi, .int 0, .int 0, .int 0, .int 0, .ref ml, .ref mss, .ref rn, .ref sw, .ref mf, .null, .int 0, .ref msp, .int 0, .int 0, .int 0])), (lv, .inr (1, [.int 0, .ref de, .int 0])), (rn, .inr (1, [.int 0, .ref de, .int 0])), (sw, .inr (1, [.int 0, .ref de, .int 0])), (ml, .inl (cS, 6, .inl (slotF))), (mf, .inl (cF, 96, .inl (fun _ => 0)))] s.heap := hP
  have hD : va_D A [(om, .inr (20, [.ref mt, .ref qu, .int 0, .int th, .ref lv, .int (-1), .int 0, .int 0, .ref mi, .int 0, .int 0, .int 0, .int 0, .ref ml, .ref mss, .ref rn, .ref sw, .ref mf, .null, .int 0, .ref msp, .int 0, .int 0, .int 0])), (lv, .inr (1, [.int 0, .ref de, .int 0])), (rn, .inr (1, [.int 0, .ref de, .int 0])), (sw, .inr (1, [.int 0, .ref de, .int 0])), (ml, .inl (cS, 6, .inl (slotF))), (mf, .inl (cF, 96, .inl (fun _ => 0)))] := hD
  have hl := lv_entry ([.ref om, .int a1]) (n := 3) (Nat.le_of_ble_eq_true rfl)
  rw [lg_entry_eq]
  generalize (lg_sl ([.ref om, .int a1]) ++ List.replicate (3 - (lg_sl ([.ref om, .int a1])).length) Slot.unset).toArray = ls at hl ⊢
  have hl : lv_has ls 3 [(0, .ref om), (1, .int a1)] := hl
  refine lv_aload_n hx hb dX18_input_0 rfl (lv_at hl 0 rfl) ?_
  refine lv_iload_n hx hb dX18_input_1 rfl (lv_at hl 1 rfl) ?_
  refine lv_iconst (v := 0) hx hb dX18_input_2 (by decide) ?_
  refine lv_iconst (v := 5) hx hb dX18_input_3 (by decide) ?_
  have hPc := hP.sub (ws' := []) [] rfl
  have hDc := hD.sub (ws' := []) [] (by decide) rfl
  have hKc := hK.sub (tys' := []) [] rfl
  have hFc := va_free (wc := []) hD hS hA [] rfl
  refine va_calli (va_runS (As := [.int a1, .int 0, .int 5]) (rest := [.ref om]) ⟨hx, hb, hml, hown, ht⟩ (c_X18_in l dC dI de (a1) (0) (5) s.heap.size) (cwS 3 ht (gWS (wr_17 _ (List.mem_of_getElem? (i := 9) rfl)) (wr_17 _ (List.mem_of_getElem? (i := 10) rfl)) (wr_1 _ (List.mem_of_getElem? (i := 5) rfl)) (wr_17 _ (List.mem_of_getElem? (i := 11) rfl))) rfl rfl rfl (by decide +kernel) ⟨Nat.le_of_ble_eq_true rfl, Nat.le_of_ble_eq_true rfl⟩) ⟨PW_blind, PW_call hPc hDc hKc hS hG hFc⟩ rfl rfl hl.1 rfl (lv_room (Nat.le_of_ble_eq_true rfl)) dX18_input_4 ⟨Nat.le_of_ble_eq_true rfl, Nat.le_of_ble_eq_true rfl⟩) hS (fun q _ h => hFc q h) hFc (fun r_4 u t H1 locs ht9 hvm hw hB hz1 hk1 hS => ?_)
  obtain ⟨hP1, hK1, hD1⟩ := hB
  rw [ht9] at hP1
  have hK1 := va_K.moved hvm.symm hK1
  obtain ⟨hP, hD⟩ := va_join (wr := [(om, .inr (20, [.ref mt, .ref qu, .int 0, .int th, .ref lv, .int (-1), .int 0, .int 0, .ref mi, .int 0, .int 0, .int 0, .int 0, .ref ml, .ref mss, .ref rn, .ref sw, .ref mf, .null, .int 0, .ref msp, .int 0, .int 0, .int 0])), (lv, .inr (1, [.int 0, .ref de, .int 0])), (rn, .inr (1, [.int 0, .ref de, .int 0])), (sw, .inr (1, [.int 0, .ref de, .int 0])), (ml, .inl (cS, 6, .inl (slotF))), (mf, .inl (cF, 96, .inl (fun _ => 0)))]) (w1 := []) hP hD [] [0, 1, 2, 3, 4, 5] rfl rfl (by decide) (by decide) hk1 hFc hP1 hD1
  have hK := (hK.sub (tys' := [(cS, .int), (cF, .int)]) [0, 1] rfl).app hK1
  generalize H1 = H at hP hS ⊢
  replace hP : va_P (dC, dI) vwCl [(om, .inr (20, [.ref mt, .ref qu, .int 0, .int th, .ref lv, .int (-1), .int 0, .int 0, .ref mi, .int 0, .int 0, .int 0, .int 0, .ref ml, .ref mss, .ref rn, .ref sw, .ref mf, .null, .int 0, .ref msp, .int 0, .int 0, .int 0])), (lv, .inr (1, [.int 0, .ref de, .int 0])), (rn, .inr (1, [.int 0, .ref de, .int 0])), (sw, .inr (1, [.int 0, .ref de, .int 0])), (ml, .inl (cS, 6, .inl (slotF))), (mf, .inl (cF, 96, .inl (fun _ => 0)))] H := hP
  replace hD : va_D A [(om, .inr (20, [.ref mt, .ref qu, .int 0, .int th, .ref lv, .int (-1), .int 0, .int 0, .ref mi, .int 0, .int 0, .int 0, .int 0, .ref ml, .ref mss, .ref rn, .ref sw, .ref mf, .null, .int 0, .ref msp, .int 0, .int 0, .int 0])), (lv, .inr (1, [.int 0, .ref de, .int 0])), (rn, .inr (1, [.int 0, .ref de, .int 0])), (sw, .inr (1, [.int 0, .ref de, .int 0])), (ml, .inl (cS, 6, .inl (slotF))), (mf, .inl (cF, 96, .inl (fun _ => 0)))] := hD
  have hK : va_K (dC, dI) vwCl [(cS, .int), (cF, .int)] s := hK
  rcases hw with ⟨rfl, m_4⟩ | ⟨rfl, m_4⟩
  · refine lv_if_ne (tgt := 14) hx hb dX18_input_7 (by decide) (fun c_7 => ?_) (fun c_7 => absurd c_7 (by decide))
    refine lv_aload_n hx hb dX18_input_14 rfl (lv_at hl 0 rfl) ?_
    refine va_get (D := (dC, dI)) (ci := 20) (v := .int 0) (C := RX18) (T := TX18) (N := 24) hx hb ht inlX18 hown hK hP 0 rfl rfl 6 (by decide) (ht _ (wr_52 _ (List.mem_of_getElem? (i := 23) rfl))) (fun _ h9 => h9) rfl dX18_input_15 ?_
    refine lv_if_eq (tgt := 31) hx hb dX18_input_18 (by decide) (fun c_18 => ?_) (fun c_18 => absurd c_18 (by decide))
    refine lv_iconst (v := 2) hx hb dX18_input_31 (by decide) ?_
    refine lv_goto (tgt := 36) hx hb dX18_input_32 (by decide) ?_
    refine va_put (D := (dC, dI)) (ci := 20) (v := .int 2) (ty := .int) (C := RX18) (T := TX18) (N := 24) hx hb ht inlX18 tyX18 tyX18_ok nmX18 hown hK hP hD hS 0 rfl rfl 3 (by decide) (ht _ (wr_17 _ (List.mem_of_getElem? (i := 5) rfl))) (fun _ h9 => h9) rfl (by decide +kernel) rfl rfl (Nat.le_of_ble_eq_true rfl) dX18_input_36 (fun H locs hP hD hS => ?_)
    replace hP : va_P (dC, dI) vwCl [(om, .inr (20, [.ref mt, .ref qu, .int 0, .int 2, .ref lv, .int (-1), .int 0, .int 0, .ref mi, .int 0, .int 0, .int 0, .int 0, .ref ml, .ref mss, .ref rn, .ref sw, .ref mf, .null, .int 0, .ref msp, .int 0, .int 0, .int 0])), (lv, .inr (1, [.int 0, .ref de, .int 0])), (rn, .inr (1, [.int 0, .ref de, .int 0])), (sw, .inr (1, [.int 0, .ref de, .int 0])), (ml, .inl (cS, 6, .inl (slotF))), (mf, .inl (cF, 96, .inl (fun _ => 0)))] H := hP
    replace hD : va_D A [(om, .inr (20, [.ref mt, .ref qu, .int 0, .int 2, .ref lv, .int (-1), .int 0, .int 0, .ref mi, .int 0, .int 0, .int 0, .int 0, .ref ml, .ref mss, .ref rn, .ref sw, .ref mf, .null, .int 0, .ref msp, .int 0, .int 0, .int 0])), (lv, .inr (1, [.int 0, .ref de, .int 0])), (rn, .inr (1, [.int 0, .ref de, .int 0])), (sw, .inr (1, [.int 0, .ref de, .int 0])), (ml, .inl (cS, 6, .inl (slotF))), (mf, .inl (cF, 96, .inl (fun _ => 0)))] := hD
    refine lv_aload_n hx hb dX18_input_39 rfl (lv_at hl 0 rfl) ?_
    refine va_get (D := (dC, dI)) (ci := 20) (v := .int 2) (C := RX18) (T := TX18) (N := 24) hx hb ht inlX18 hown hK hP 0 rfl rfl 3 (by decide) (ht _ (wr_17 _ (List.mem_of_getElem? (i := 5) rfl))) (fun _ h9 => h9) rfl dX18_input_40 ?_
    refine lv_if_le (tgt := 49) hx hb dX18_input_43 (by decide) (fun c_43 => absurd c_43 (by decide)) (fun c_43 => ?_)
    refine lv_bipush (v := 32) hx hb dX18_input_46 (by decide) ?_
    have hP9 := hP.sub (ws' := [(om, .inr (20, [.ref mt, .ref qu, .int 0, .int 2, .ref lv, .int (-1), .int 0, .int 0, .ref mi, .int 0, .int 0, .int 0, .int 0, .ref ml, .ref mss, .ref rn, .ref sw, .ref mf, .null, .int 0, .ref msp, .int 0, .int 0, .int 0])), (lv, .inr (1, [.int 0, .ref de, .int 0])), (rn, .inr (1, [.int 0, .ref de, .int 0])), (sw, .inr (1, [.int 0, .ref de, .int 0])), (ml, .inl (cS, 6, .inl (slotF))), (mf, .inl (cF, 96, .inl (fun _ => 0)))]) [0, 1, 2, 3, 4, 5] rfl
    have hD9 := hD.sub (ws' := [(om, .inr (20, [.ref mt, .ref qu, .int 0, .int 2, .ref lv, .int (-1), .int 0, .int 0, .ref mi, .int 0, .int 0, .int 0, .int 0, .ref ml, .ref mss, .ref rn, .ref sw, .ref mf, .null, .int 0, .ref msp, .int 0, .int 0, .int 0])), (lv, .inr (1, [.int 0, .ref de, .int 0])), (rn, .inr (1, [.int 0, .ref de, .int 0])), (sw, .inr (1, [.int 0, .ref de, .int 0])), (ml, .inl (cS, 6, .inl (slotF))), (mf, .inl (cF, 96, .inl (fun _ => 0)))]) [0, 1, 2, 3, 4, 5] (by decide) rfl
    have hK9 := hK.sub (tys' := [(cS, .int), (cF, .int)]) [0, 1] rfl
    exact W.zret (v := 32) hx hb hr (by decide) (fun t htt hW => have ht := htt; ⟨⟨32, 2, rfl, (Or.inr ⟨rfl, m_4⟩), QW_of ht hW hP9 hK9 hD9⟩, hS.F ht⟩) hS.2.2 dX18_input_48
  · refine lv_if_ne (tgt := 14) hx hb dX18_input_7 (by decide) (fun c_7 => absurd c_7 (by decide)) (fun c_7 => ?_)
    refine lv_iconst (v := 1) hx hb dX18_input_10 (by decide) ?_
    refine lv_goto (tgt := 36) hx hb dX18_input_11 (by decide) ?_
    refine va_put (D := (dC, dI)) (ci := 20) (v := .int 1) (ty := .int) (C := RX18) (T := TX18) (N := 24) hx hb ht inlX18 tyX18 tyX18_ok nmX18 hown hK hP hD hS 0 rfl rfl 3 (by decide) (ht _ (wr_17 _ (List.mem_of_getElem? (i := 5) rfl))) (fun _ h9 => h9) rfl (by decide +kernel) rfl rfl (Nat.le_of_ble_eq_true rfl) dX18_input_36 (fun H locs hP hD hS => ?_)
    replace hP : va_P (dC, dI) vwCl [(om, .inr (20, [.ref mt, .ref qu, .int 0, .int 1, .ref lv, .int (-1), .int 0, .int 0, .ref mi, .int 0, .int 0, .int 0, .int 0, .ref ml, .ref mss, .ref rn, .ref sw, .ref mf, .null, .int 0, .ref msp, .int 0, .int 0, .int 0])), (lv, .inr (1, [.int 0, .ref de, .int 0])), (rn, .inr (1, [.int 0, .ref de, .int 0])), (sw, .inr (1, [.int 0, .ref de, .int 0])), (ml, .inl (cS, 6, .inl (slotF))), (mf, .inl (cF, 96, .inl (fun _ => 0)))] H := hP
    replace hD : va_D A [(om, .inr (20, [.ref mt, .ref qu, .int 0, .int 1, .ref lv, .int (-1), .int 0, .int 0, .ref mi, .int 0, .int 0, .int 0, .int 0, .ref ml, .ref mss, .ref rn, .ref sw, .ref mf, .null, .int 0, .ref msp, .int 0, .int 0, .int 0])), (lv, .inr (1, [.int 0, .ref de, .int 0])), (rn, .inr (1, [.int 0, .ref de, .int 0])), (sw, .inr (1, [.int 0, .ref de, .int 0])), (ml, .inl (cS, 6, .inl (slotF))), (mf, .inl (cF, 96, .inl (fun _ => 0)))] := hD
    refine lv_aload_n hx hb dX18_input_39 rfl (lv_at hl 0 rfl) ?_
    refine va_get (D := (dC, dI)) (ci := 20) (v := .int 1) (C := RX18) (T := TX18) (N := 24) hx hb ht inlX18 hown hK hP 0 rfl rfl 3 (by decide) (ht _ (wr_17 _ (List.mem_of_getElem? (i := 5) rfl))) (fun _ h9 => h9) rfl dX18_input_40 ?_
    refine lv_if_le (tgt := 49) hx hb dX18_input_43 (by decide) (fun c_43 => absurd c_43 (by decide)) (fun c_43 => ?_)
    refine lv_bipush (v := 32) hx hb dX18_input_46 (by decide) ?_
    have hP9 := hP.sub (ws' := [(om, .inr (20, [.ref mt, .ref qu, .int 0, .int 1, .ref lv, .int (-1), .int 0, .int 0, .ref mi, .int 0, .int 0, .int 0, .int 0, .ref ml, .ref mss, .ref rn, .ref sw, .ref mf, .null, .int 0, .ref msp, .int 0, .int 0, .int 0])), (lv, .inr (1, [.int 0, .ref de, .int 0])), (rn, .inr (1, [.int 0, .ref de, .int 0])), (sw, .inr (1, [.int 0, .ref de, .int 0])), (ml, .inl (cS, 6, .inl (slotF))), (mf, .inl (cF, 96, .inl (fun _ => 0)))]) [0, 1, 2, 3, 4, 5] rfl
    have hD9 := hD.sub (ws' := [(om, .inr (20, [.ref mt, .ref qu, .int 0, .int 1, .ref lv, .int (-1), .int 0, .int 0, .ref mi, .int 0, .int 0, .int 0, .int 0, .ref ml, .ref mss, .ref rn, .ref sw, .ref mf, .null, .int 0, .ref msp, .int 0, .int 0, .int 0])), (lv, .inr (1, [.int 0, .ref de, .int 0])), (rn, .inr (1, [.int 0, .ref de, .int 0])), (sw, .inr (1, [.int 0, .ref de, .int 0])), (ml, .inl (cS, 6, .inl (slotF))), (mf, .inl (cF, 96, .inl (fun _ => 0)))]) [0, 1, 2, 3, 4, 5] (by decide) rfl
    have hK9 := hK.sub (tys' := [(cS, .int), (cF, .int)]) [0, 1] rfl
    exact W.zret (v := 32) hx hb hr (by decide) (fun t htt hW => have ht := htt; ⟨⟨32, 1, rfl, (Or.inl ⟨rfl, m_4⟩), QW_of ht hW hP9 hK9 hD9⟩, hS.F ht⟩) hS.2.2 dX18_input_48
set_option maxHeartbeats 4000000 in
set_option maxRecDepth 100000 in
theorem c_X18_save (l : Launch) (dC : Nat → ClassId) (dI : Nat → Nat → Nat) (de : Nat) (om : Nat) (mt : Nat) (qu : Nat) (lv : Nat) (mi : Nat) (ml : Nat) (mss : Nat) (rn : Nat) (sw : Nat) (mf : Nat) (msp : Nat) (cS : ClassId) (cF : ClassId) (th : Int32) (a1 : Int32) (sz : Nat) : Met l yX18_save (.code yX18_save cX18_save 3 (some .boolean) :: wsL_law) { frames := 1, cells := 0, slots := 0, locals := 22 } (va_Pc [.ref om, .int a1] (PW dC dI de [(cS, .int), (cF, .int)] (WM om mt qu lv mi ml mss rn sw mf msp cS cF th de) sz)) (va_Qi (fun (r : Int32) (th2 : Int32) => (th2 = 1 ∧ ¬ (0 ≤ a1 ∧ a1 ≤ 5)) ∨ (th2 = 2 ∧ (0 ≤ a1 ∧ a1 ≤ 5))) (fun (th2 : Int32) (t : State) => QW dC dI [(cS, .int), (cF, .int)] (WM om mt qu lv mi ml mss rn sw mf msp cS cF th2 de) (va_A (WM om mt qu lv mi ml mss rn sw mf msp cS cF th de) sz) t) (va_A (WM om mt qu lv mi ml mss rn sw mf msp cS cF th de) sz)) 0 0 (va_A (WM om mt qu lv mi ml mss rn sw mf msp cS cF th de) sz) := by
  refine Met.ofW (cc := cX18_save) (maxL := 3) (ret := (some .boolean)) (by decide) rfl ?_
  intro p e s m args below meth c s₁ B hml hv
  obtain ⟨rfl, hsz, hP, hK, hD0, hG⟩ := hv
  have hx := B.exec
  have hb := B.bytes
  have hr := B.returns
  have hts := atoms_spec (ws := .code yX18_save cX18_save 3 (some .boolean) :: wsL_law) B.pre
  have ht : ∀ w ∈ wsL_law, w.before _ s = true := fun w h => hts w (List.mem_cons_of_mem _ h)
  have hown : s.vm.findClass RX18 = some m.cls := findClass_of_methodNamed B.named
  have hlocks := B.notSynchronized
  subst hsz
  have hD := hD0.self (sz := s.heap.size)
  generalize hAe : va_A (WM om mt qu lv mi ml mss rn sw mf msp cS cF th de) s.heap.size = A at hD hG ⊢
  have hA : ∀ q : Nat, s.heap.size ≤ q → A q := fun q h => by rw [← hAe]; exact Or.inr h
  have hS : va_S A s.heap s.heap [] := va_S.rf
  have hP : va_P (dC, dI) vwCl [(om, .inr (20, [.ref mt, .ref qu, .int 0, .int th, .ref lv, .int (-1), .int 0, .int 0, .ref mi, .int 0, .int 0, .int 0, .int 0, .ref ml, .ref mss, .ref rn, .ref sw, .ref mf, .null, .int 0, .ref msp, .int 0, .int 0, .int 0])), (lv, .inr (1, [.int 0, .ref de, .int 0])), (rn, .inr (1, [.int 0, .ref de, .int 0])), (sw, .inr (1, [.int 0, .ref de, .int 0])), (ml, .inl (cS, 6, .inl (slotF))), (mf, .inl (cF, 96, .inl (fun _ => 0)))] s.heap := hP
  have hD : va_D A [(om, .inr (20, [.ref mt, .ref qu, .int 0, .int th, .ref lv, .int (-1), .int 0, .int 0, .ref mi, .int 0, .int 0, .int 0, .int 0, .ref ml, .ref mss, .ref rn, .ref sw, .ref mf, .null, .int 0, .ref msp, .int 0, .int 0, .int 0])), (lv, .inr (1, [.int 0, .ref de, .int 0])), (rn, .inr (1, [.int 0, .ref de, .int 0])), (sw, .inr (1, [.int 0, .ref de, .int 0])), (ml, .inl (cS, 6, .inl (slotF))), (mf, .inl (cF, 96, .inl (fun _ => 0)))] := hD
  have hl := lv_entry ([.ref om, .int a1]) (n := 3) (Nat.le_of_ble_eq_true rfl)
  rw [lg_entry_eq]
  generalize (lg_sl ([.ref om, .int a1]) ++ List.replicate (3 - (lg_sl ([.ref om, .int a1])).length) Slot.unset).toArray = ls at hl ⊢
  have hl : lv_has ls 3 [(0, .ref om), (1, .int a1)] := hl
  refine lv_aload_n hx hb dX18_save_0 rfl (lv_at hl 0 rfl) ?_
  refine lv_iload_n hx hb dX18_save_1 rfl (lv_at hl 1 rfl) ?_
  refine lv_iconst (v := 0) hx hb dX18_save_2 (by decide) ?_
  refine lv_iconst (v := 5) hx hb dX18_save_3 (by decide) ?_
  have hPc := hP.sub (ws' := []) [] rfl
  have hDc := hD.sub (ws' := []) [] (by decide) rfl
  have hKc := hK.sub (tys' := []) [] rfl
  have hFc := va_free (wc := []) hD hS hA [] rfl
  refine va_calli (va_runS (As := [.int a1, .int 0, .int 5]) (rest := [.ref om]) ⟨hx, hb, hml, hown, ht⟩ (c_X18_in l dC dI de (a1) (0) (5) s.heap.size) (cwS 3 ht (gWS (wr_17 _ (List.mem_of_getElem? (i := 9) rfl)) (wr_17 _ (List.mem_of_getElem? (i := 10) rfl)) (wr_1 _ (List.mem_of_getElem? (i := 5) rfl)) (wr_17 _ (List.mem_of_getElem? (i := 11) rfl))) rfl rfl rfl (by decide +kernel) ⟨Nat.le_of_ble_eq_true rfl, Nat.le_of_ble_eq_true rfl⟩) ⟨PW_blind, PW_call hPc hDc hKc hS hG hFc⟩ rfl rfl hl.1 rfl (lv_room (Nat.le_of_ble_eq_true rfl)) dX18_save_4 ⟨Nat.le_of_ble_eq_true rfl, Nat.le_of_ble_eq_true rfl⟩) hS (fun q _ h => hFc q h) hFc (fun r_4 u t H1 locs ht9 hvm hw hB hz1 hk1 hS => ?_)
  obtain ⟨hP1, hK1, hD1⟩ := hB
  rw [ht9] at hP1
  have hK1 := va_K.moved hvm.symm hK1
  obtain ⟨hP, hD⟩ := va_join (wr := [(om, .inr (20, [.ref mt, .ref qu, .int 0, .int th, .ref lv, .int (-1), .int 0, .int 0, .ref mi, .int 0, .int 0, .int 0, .int 0, .ref ml, .ref mss, .ref rn, .ref sw, .ref mf, .null, .int 0, .ref msp, .int 0, .int 0, .int 0])), (lv, .inr (1, [.int 0, .ref de, .int 0])), (rn, .inr (1, [.int 0, .ref de, .int 0])), (sw, .inr (1, [.int 0, .ref de, .int 0])), (ml, .inl (cS, 6, .inl (slotF))), (mf, .inl (cF, 96, .inl (fun _ => 0)))]) (w1 := []) hP hD [] [0, 1, 2, 3, 4, 5] rfl rfl (by decide) (by decide) hk1 hFc hP1 hD1
  have hK := (hK.sub (tys' := [(cS, .int), (cF, .int)]) [0, 1] rfl).app hK1
  generalize H1 = H at hP hS ⊢
  replace hP : va_P (dC, dI) vwCl [(om, .inr (20, [.ref mt, .ref qu, .int 0, .int th, .ref lv, .int (-1), .int 0, .int 0, .ref mi, .int 0, .int 0, .int 0, .int 0, .ref ml, .ref mss, .ref rn, .ref sw, .ref mf, .null, .int 0, .ref msp, .int 0, .int 0, .int 0])), (lv, .inr (1, [.int 0, .ref de, .int 0])), (rn, .inr (1, [.int 0, .ref de, .int 0])), (sw, .inr (1, [.int 0, .ref de, .int 0])), (ml, .inl (cS, 6, .inl (slotF))), (mf, .inl (cF, 96, .inl (fun _ => 0)))] H := hP
  replace hD : va_D A [(om, .inr (20, [.ref mt, .ref qu, .int 0, .int th, .ref lv, .int (-1), .int 0, .int 0, .ref mi, .int 0, .int 0, .int 0, .int 0, .ref ml, .ref mss, .ref rn, .ref sw, .ref mf, .null, .int 0, .ref msp, .int 0, .int 0, .int 0])), (lv, .inr (1, [.int 0, .ref de, .int 0])), (rn, .inr (1, [.int 0, .ref de, .int 0])), (sw, .inr (1, [.int 0, .ref de, .int 0])), (ml, .inl (cS, 6, .inl (slotF))), (mf, .inl (cF, 96, .inl (fun _ => 0)))] := hD
  have hK : va_K (dC, dI) vwCl [(cS, .int), (cF, .int)] s := hK
  rcases hw with ⟨rfl, m_4⟩ | ⟨rfl, m_4⟩
  · refine lv_if_ne (tgt := 14) hx hb dX18_save_7 (by decide) (fun c_7 => ?_) (fun c_7 => absurd c_7 (by decide))
    refine lv_aload_n hx hb dX18_save_14 rfl (lv_at hl 0 rfl) ?_
    refine va_get (D := (dC, dI)) (ci := 20) (v := .int 0) (C := RX18) (T := TX18) (N := 24) hx hb ht inlX18 hown hK hP 0 rfl rfl 6 (by decide) (ht _ (wr_52 _ (List.mem_of_getElem? (i := 23) rfl))) (fun _ h9 => h9) rfl dX18_save_15 ?_
    refine lv_if_ne (tgt := 25) hx hb dX18_save_18 (by decide) (fun c_18 => absurd c_18 (by decide)) (fun c_18 => ?_)
    refine lv_iconst (v := 2) hx hb dX18_save_21 (by decide) ?_
    refine lv_goto (tgt := 26) hx hb dX18_save_22 (by decide) ?_
    refine va_put (D := (dC, dI)) (ci := 20) (v := .int 2) (ty := .int) (C := RX18) (T := TX18) (N := 24) hx hb ht inlX18 tyX18 tyX18_ok nmX18 hown hK hP hD hS 0 rfl rfl 3 (by decide) (ht _ (wr_17 _ (List.mem_of_getElem? (i := 5) rfl))) (fun _ h9 => h9) rfl (by decide +kernel) rfl rfl (Nat.le_of_ble_eq_true rfl) dX18_save_26 (fun H locs hP hD hS => ?_)
    replace hP : va_P (dC, dI) vwCl [(om, .inr (20, [.ref mt, .ref qu, .int 0, .int 2, .ref lv, .int (-1), .int 0, .int 0, .ref mi, .int 0, .int 0, .int 0, .int 0, .ref ml, .ref mss, .ref rn, .ref sw, .ref mf, .null, .int 0, .ref msp, .int 0, .int 0, .int 0])), (lv, .inr (1, [.int 0, .ref de, .int 0])), (rn, .inr (1, [.int 0, .ref de, .int 0])), (sw, .inr (1, [.int 0, .ref de, .int 0])), (ml, .inl (cS, 6, .inl (slotF))), (mf, .inl (cF, 96, .inl (fun _ => 0)))] H := hP
    replace hD : va_D A [(om, .inr (20, [.ref mt, .ref qu, .int 0, .int 2, .ref lv, .int (-1), .int 0, .int 0, .ref mi, .int 0, .int 0, .int 0, .int 0, .ref ml, .ref mss, .ref rn, .ref sw, .ref mf, .null, .int 0, .ref msp, .int 0, .int 0, .int 0])), (lv, .inr (1, [.int 0, .ref de, .int 0])), (rn, .inr (1, [.int 0, .ref de, .int 0])), (sw, .inr (1, [.int 0, .ref de, .int 0])), (ml, .inl (cS, 6, .inl (slotF))), (mf, .inl (cF, 96, .inl (fun _ => 0)))] := hD
    refine lv_aload_n hx hb dX18_save_29 rfl (lv_at hl 0 rfl) ?_
    refine va_get (D := (dC, dI)) (ci := 20) (v := .int 2) (C := RX18) (T := TX18) (N := 24) hx hb ht inlX18 hown hK hP 0 rfl rfl 3 (by decide) (ht _ (wr_17 _ (List.mem_of_getElem? (i := 5) rfl))) (fun _ h9 => h9) rfl dX18_save_30 ?_
    refine lv_if_le (tgt := 38) hx hb dX18_save_33 (by decide) (fun c_33 => absurd c_33 (by decide)) (fun c_33 => ?_)
    refine lv_iconst (v := 0) hx hb dX18_save_36 (by decide) ?_
    have hP9 := hP.sub (ws' := [(om, .inr (20, [.ref mt, .ref qu, .int 0, .int 2, .ref lv, .int (-1), .int 0, .int 0, .ref mi, .int 0, .int 0, .int 0, .int 0, .ref ml, .ref mss, .ref rn, .ref sw, .ref mf, .null, .int 0, .ref msp, .int 0, .int 0, .int 0])), (lv, .inr (1, [.int 0, .ref de, .int 0])), (rn, .inr (1, [.int 0, .ref de, .int 0])), (sw, .inr (1, [.int 0, .ref de, .int 0])), (ml, .inl (cS, 6, .inl (slotF))), (mf, .inl (cF, 96, .inl (fun _ => 0)))]) [0, 1, 2, 3, 4, 5] rfl
    have hD9 := hD.sub (ws' := [(om, .inr (20, [.ref mt, .ref qu, .int 0, .int 2, .ref lv, .int (-1), .int 0, .int 0, .ref mi, .int 0, .int 0, .int 0, .int 0, .ref ml, .ref mss, .ref rn, .ref sw, .ref mf, .null, .int 0, .ref msp, .int 0, .int 0, .int 0])), (lv, .inr (1, [.int 0, .ref de, .int 0])), (rn, .inr (1, [.int 0, .ref de, .int 0])), (sw, .inr (1, [.int 0, .ref de, .int 0])), (ml, .inl (cS, 6, .inl (slotF))), (mf, .inl (cF, 96, .inl (fun _ => 0)))]) [0, 1, 2, 3, 4, 5] (by decide) rfl
    have hK9 := hK.sub (tys' := [(cS, .int), (cF, .int)]) [0, 1] rfl
    exact W.zret (v := 0) hx hb hr (by decide) (fun t htt hW => have ht := htt; ⟨⟨0, 2, rfl, (Or.inr ⟨rfl, m_4⟩), QW_of ht hW hP9 hK9 hD9⟩, hS.F ht⟩) hS.2.2 dX18_save_37
  · refine lv_if_ne (tgt := 14) hx hb dX18_save_7 (by decide) (fun c_7 => absurd c_7 (by decide)) (fun c_7 => ?_)
    refine lv_iconst (v := 1) hx hb dX18_save_10 (by decide) ?_
    refine lv_goto (tgt := 26) hx hb dX18_save_11 (by decide) ?_
    refine va_put (D := (dC, dI)) (ci := 20) (v := .int 1) (ty := .int) (C := RX18) (T := TX18) (N := 24) hx hb ht inlX18 tyX18 tyX18_ok nmX18 hown hK hP hD hS 0 rfl rfl 3 (by decide) (ht _ (wr_17 _ (List.mem_of_getElem? (i := 5) rfl))) (fun _ h9 => h9) rfl (by decide +kernel) rfl rfl (Nat.le_of_ble_eq_true rfl) dX18_save_26 (fun H locs hP hD hS => ?_)
    replace hP : va_P (dC, dI) vwCl [(om, .inr (20, [.ref mt, .ref qu, .int 0, .int 1, .ref lv, .int (-1), .int 0, .int 0, .ref mi, .int 0, .int 0, .int 0, .int 0, .ref ml, .ref mss, .ref rn, .ref sw, .ref mf, .null, .int 0, .ref msp, .int 0, .int 0, .int 0])), (lv, .inr (1, [.int 0, .ref de, .int 0])), (rn, .inr (1, [.int 0, .ref de, .int 0])), (sw, .inr (1, [.int 0, .ref de, .int 0])), (ml, .inl (cS, 6, .inl (slotF))), (mf, .inl (cF, 96, .inl (fun _ => 0)))] H := hP
    replace hD : va_D A [(om, .inr (20, [.ref mt, .ref qu, .int 0, .int 1, .ref lv, .int (-1), .int 0, .int 0, .ref mi, .int 0, .int 0, .int 0, .int 0, .ref ml, .ref mss, .ref rn, .ref sw, .ref mf, .null, .int 0, .ref msp, .int 0, .int 0, .int 0])), (lv, .inr (1, [.int 0, .ref de, .int 0])), (rn, .inr (1, [.int 0, .ref de, .int 0])), (sw, .inr (1, [.int 0, .ref de, .int 0])), (ml, .inl (cS, 6, .inl (slotF))), (mf, .inl (cF, 96, .inl (fun _ => 0)))] := hD
    refine lv_aload_n hx hb dX18_save_29 rfl (lv_at hl 0 rfl) ?_
    refine va_get (D := (dC, dI)) (ci := 20) (v := .int 1) (C := RX18) (T := TX18) (N := 24) hx hb ht inlX18 hown hK hP 0 rfl rfl 3 (by decide) (ht _ (wr_17 _ (List.mem_of_getElem? (i := 5) rfl))) (fun _ h9 => h9) rfl dX18_save_30 ?_
    refine lv_if_le (tgt := 38) hx hb dX18_save_33 (by decide) (fun c_33 => absurd c_33 (by decide)) (fun c_33 => ?_)
    refine lv_iconst (v := 0) hx hb dX18_save_36 (by decide) ?_
    have hP9 := hP.sub (ws' := [(om, .inr (20, [.ref mt, .ref qu, .int 0, .int 1, .ref lv, .int (-1), .int 0, .int 0, .ref mi, .int 0, .int 0, .int 0, .int 0, .ref ml, .ref mss, .ref rn, .ref sw, .ref mf, .null, .int 0, .ref msp, .int 0, .int 0, .int 0])), (lv, .inr (1, [.int 0, .ref de, .int 0])), (rn, .inr (1, [.int 0, .ref de, .int 0])), (sw, .inr (1, [.int 0, .ref de, .int 0])), (ml, .inl (cS, 6, .inl (slotF))), (mf, .inl (cF, 96, .inl (fun _ => 0)))]) [0, 1, 2, 3, 4, 5] rfl
    have hD9 := hD.sub (ws' := [(om, .inr (20, [.ref mt, .ref qu, .int 0, .int 1, .ref lv, .int (-1), .int 0, .int 0, .ref mi, .int 0, .int 0, .int 0, .int 0, .ref ml, .ref mss, .ref rn, .ref sw, .ref mf, .null, .int 0, .ref msp, .int 0, .int 0, .int 0])), (lv, .inr (1, [.int 0, .ref de, .int 0])), (rn, .inr (1, [.int 0, .ref de, .int 0])), (sw, .inr (1, [.int 0, .ref de, .int 0])), (ml, .inl (cS, 6, .inl (slotF))), (mf, .inl (cF, 96, .inl (fun _ => 0)))]) [0, 1, 2, 3, 4, 5] (by decide) rfl
    have hK9 := hK.sub (tys' := [(cS, .int), (cF, .int)]) [0, 1] rfl
    exact W.zret (v := 0) hx hb hr (by decide) (fun t htt hW => have ht := htt; ⟨⟨0, 1, rfl, (Or.inl ⟨rfl, m_4⟩), QW_of ht hW hP9 hK9 hD9⟩, hS.F ht⟩) hS.2.2 dX18_save_37
set_option maxHeartbeats 4000000 in
set_option maxRecDepth 100000 in
theorem c_X18_load (l : Launch) (dC : Nat → ClassId) (dI : Nat → Nat → Nat) (de : Nat) (om : Nat) (mt : Nat) (qu : Nat) (lv : Nat) (mi : Nat) (ml : Nat) (mss : Nat) (rn : Nat) (sw : Nat) (mf : Nat) (msp : Nat) (cS : ClassId) (cF : ClassId) (th : Int32) (a1 : Int32) (sz : Nat) : Met l yX18_load (.code yX18_load cX18_load 7 (some .int) :: wsL_law) { frames := 1, cells := 0, slots := 0, locals := 22 } (va_Pc [.ref om, .int a1] (PW dC dI de [(cS, .int), (cF, .int)] (WM om mt qu lv mi ml mss rn sw mf msp cS cF th de) sz)) (va_Qi (fun (r : Int32) (th2 : Int32) => (th2 = 1 ∧ ¬ (0 ≤ a1 ∧ a1 ≤ 5)) ∨ (th2 = 2 ∧ (0 ≤ a1 ∧ a1 ≤ 5))) (fun (th2 : Int32) (t : State) => QW dC dI [(cS, .int), (cF, .int)] (WM om mt qu lv mi ml mss rn sw mf msp cS cF th2 de) (va_A (WM om mt qu lv mi ml mss rn sw mf msp cS cF th de) sz) t) (va_A (WM om mt qu lv mi ml mss rn sw mf msp cS cF th de) sz)) 0 0 (va_A (WM om mt qu lv mi ml mss rn sw mf msp cS cF th de) sz) := by
  refine Met.ofW (cc := cX18_load) (maxL := 7) (ret := (some .int)) (by decide) rfl ?_
  intro p e s m args below meth c s₁ B hml hv
  obtain ⟨rfl, hsz, hP, hK, hD0, hG⟩ := hv
  have hx := B.exec
  have hb := B.bytes
  have hr := B.returns
  have hts := atoms_spec (ws := .code yX18_load cX18_load 7 (some .int) :: wsL_law) B.pre
  have ht : ∀ w ∈ wsL_law, w.before _ s = true := fun w h => hts w (List.mem_cons_of_mem _ h)
  have hown : s.vm.findClass RX18 = some m.cls := findClass_of_methodNamed B.named
  have hlocks := B.notSynchronized
  subst hsz
  have hD := hD0.self (sz := s.heap.size)
  generalize hAe : va_A (WM om mt qu lv mi ml mss rn sw mf msp cS cF th de) s.heap.size = A at hD hG ⊢
  have hA : ∀ q : Nat, s.heap.size ≤ q → A q := fun q h => by rw [← hAe]; exact Or.inr h
  have hS : va_S A s.heap s.heap [] := va_S.rf
  have hP : va_P (dC, dI) vwCl [(om, .inr (20, [.ref mt, .ref qu, .int 0, .int th, .ref lv, .int (-1), .int 0, .int 0, .ref mi, .int 0, .int 0, .int 0, .int 0, .ref ml, .ref mss, .ref rn, .ref sw, .ref mf, .null, .int 0, .ref msp, .int 0, .int 0, .int 0])), (lv, .inr (1, [.int 0, .ref de, .int 0])), (rn, .inr (1, [.int 0, .ref de, .int 0])), (sw, .inr (1, [.int 0, .ref de, .int 0])), (ml, .inl (cS, 6, .inl (slotF))), (mf, .inl (cF, 96, .inl (fun _ => 0)))] s.heap := hP
  have hD : va_D A [(om, .inr (20, [.ref mt, .ref qu, .int 0, .int th, .ref lv, .int (-1), .int 0, .int 0, .ref mi, .int 0, .int 0, .int 0, .int 0, .ref ml, .ref mss, .ref rn, .ref sw, .ref mf, .null, .int 0, .ref msp, .int 0, .int 0, .int 0])), (lv, .inr (1, [.int 0, .ref de, .int 0])), (rn, .inr (1, [.int 0, .ref de, .int 0])), (sw, .inr (1, [.int 0, .ref de, .int 0])), (ml, .inl (cS, 6, .inl (slotF))), (mf, .inl (cF, 96, .inl (fun _ => 0)))] := hD
  have hl := lv_entry ([.ref om, .int a1]) (n := 7) (Nat.le_of_ble_eq_true rfl)
  rw [lg_entry_eq]
  generalize (lg_sl ([.ref om, .int a1]) ++ List.replicate (7 - (lg_sl ([.ref om, .int a1])).length) Slot.unset).toArray = ls at hl ⊢
  have hl : lv_has ls 7 [(0, .ref om), (1, .int a1)] := hl
  refine lv_iload_n hx hb dX18_load_0 rfl (lv_at hl 1 rfl) ?_
  refine lv_iconst (v := 0) hx hb dX18_load_1 (by decide) ?_
  refine lv_iconst (v := 5) hx hb dX18_load_2 (by decide) ?_
  have hPc := hP.sub (ws' := []) [] rfl
  have hDc := hD.sub (ws' := []) [] (by decide) rfl
  have hKc := hK.sub (tys' := []) [] rfl
  have hFc := va_free (wc := []) hD hS hA [] rfl
  refine va_calli (va_runS (As := [.int a1, .int 0, .int 5]) (rest := []) ⟨hx, hb, hml, hown, ht⟩ (c_X18_in l dC dI de (a1) (0) (5) s.heap.size) (cwS 3 ht (gWS (wr_17 _ (List.mem_of_getElem? (i := 9) rfl)) (wr_17 _ (List.mem_of_getElem? (i := 10) rfl)) (wr_1 _ (List.mem_of_getElem? (i := 5) rfl)) (wr_17 _ (List.mem_of_getElem? (i := 11) rfl))) rfl rfl rfl (by decide +kernel) ⟨Nat.le_of_ble_eq_true rfl, Nat.le_of_ble_eq_true rfl⟩) ⟨PW_blind, PW_call hPc hDc hKc hS hG hFc⟩ rfl rfl hl.1 rfl (lv_room (Nat.le_of_ble_eq_true rfl)) dX18_load_3 ⟨Nat.le_of_ble_eq_true rfl, Nat.le_of_ble_eq_true rfl⟩) hS (fun q _ h => hFc q h) hFc (fun r_3 u t H1 locs ht9 hvm hw hB hz1 hk1 hS => ?_)
  obtain ⟨hP1, hK1, hD1⟩ := hB
  rw [ht9] at hP1
  have hK1 := va_K.moved hvm.symm hK1
  obtain ⟨hP, hD⟩ := va_join (wr := [(om, .inr (20, [.ref mt, .ref qu, .int 0, .int th, .ref lv, .int (-1), .int 0, .int 0, .ref mi, .int 0, .int 0, .int 0, .int 0, .ref ml, .ref mss, .ref rn, .ref sw, .ref mf, .null, .int 0, .ref msp, .int 0, .int 0, .int 0])), (lv, .inr (1, [.int 0, .ref de, .int 0])), (rn, .inr (1, [.int 0, .ref de, .int 0])), (sw, .inr (1, [.int 0, .ref de, .int 0])), (ml, .inl (cS, 6, .inl (slotF))), (mf, .inl (cF, 96, .inl (fun _ => 0)))]) (w1 := []) hP hD [] [0, 1, 2, 3, 4, 5] rfl rfl (by decide) (by decide) hk1 hFc hP1 hD1
  have hK := (hK.sub (tys' := [(cS, .int), (cF, .int)]) [0, 1] rfl).app hK1
  generalize H1 = H at hP hS ⊢
  replace hP : va_P (dC, dI) vwCl [(om, .inr (20, [.ref mt, .ref qu, .int 0, .int th, .ref lv, .int (-1), .int 0, .int 0, .ref mi, .int 0, .int 0, .int 0, .int 0, .ref ml, .ref mss, .ref rn, .ref sw, .ref mf, .null, .int 0, .ref msp, .int 0, .int 0, .int 0])), (lv, .inr (1, [.int 0, .ref de, .int 0])), (rn, .inr (1, [.int 0, .ref de, .int 0])), (sw, .inr (1, [.int 0, .ref de, .int 0])), (ml, .inl (cS, 6, .inl (slotF))), (mf, .inl (cF, 96, .inl (fun _ => 0)))] H := hP
  replace hD : va_D A [(om, .inr (20, [.ref mt, .ref qu, .int 0, .int th, .ref lv, .int (-1), .int 0, .int 0, .ref mi, .int 0, .int 0, .int 0, .int 0, .ref ml, .ref mss, .ref rn, .ref sw, .ref mf, .null, .int 0, .ref msp, .int 0, .int 0, .int 0])), (lv, .inr (1, [.int 0, .ref de, .int 0])), (rn, .inr (1, [.int 0, .ref de, .int 0])), (sw, .inr (1, [.int 0, .ref de, .int 0])), (ml, .inl (cS, 6, .inl (slotF))), (mf, .inl (cF, 96, .inl (fun _ => 0)))] := hD
  have hK : va_K (dC, dI) vwCl [(cS, .int), (cF, .int)] s := hK
  rcases hw with ⟨rfl, m_3⟩ | ⟨rfl, m_3⟩
  · refine lv_if_ne (tgt := 15) hx hb dX18_load_6 (by decide) (fun c_6 => ?_) (fun c_6 => absurd c_6 (by decide))
    refine lv_aload_n hx hb dX18_load_15 rfl (lv_at hl 0 rfl) ?_
    refine va_get (D := (dC, dI)) (ci := 20) (v := .ref ml) (C := RX18) (T := TX18) (N := 24) hx hb ht inlX18 hown hK hP 0 rfl rfl 13 (by decide) (ht _ (wr_8 _ (List.mem_of_getElem? (i := 10) rfl))) (fun _ h9 => h9) rfl dX18_load_16 ?_
    refine lv_iload_n hx hb dX18_load_19 rfl (lv_at hl 1 rfl) ?_
    refine va_iald hx hb hK hP 4 0 rfl rfl (in6b m_3) dX18_load_20 ?_
    refine lv_iconst (v := -1) hx hb dX18_load_21 (by decide) ?_
    refine lv_icmp_ne (tgt := 31) hx hb dX18_load_22 (by decide) (fun c_22 => absurd (slot_m1 m_3) c_22) (fun c_22 => ?_)
    refine lv_aload_n hx hb dX18_load_25 rfl (lv_at hl 0 rfl) ?_
    refine lv_iconst (v := 2) hx hb dX18_load_26 (by decide) ?_
    have hPc := hP.sub (ws' := [(om, .inr (20, [.ref mt, .ref qu, .int 0, .int th, .ref lv, .int (-1), .int 0, .int 0, .ref mi, .int 0, .int 0, .int 0, .int 0, .ref ml, .ref mss, .ref rn, .ref sw, .ref mf, .null, .int 0, .ref msp, .int 0, .int 0, .int 0])), (lv, .inr (1, [.int 0, .ref de, .int 0])), (rn, .inr (1, [.int 0, .ref de, .int 0])), (sw, .inr (1, [.int 0, .ref de, .int 0])), (ml, .inl (cS, 6, .inl (slotF))), (mf, .inl (cF, 96, .inl (fun _ => 0)))]) [0, 1, 2, 3, 4, 5] rfl
    have hDc := hD.sub (ws' := [(om, .inr (20, [.ref mt, .ref qu, .int 0, .int th, .ref lv, .int (-1), .int 0, .int 0, .ref mi, .int 0, .int 0, .int 0, .int 0, .ref ml, .ref mss, .ref rn, .ref sw, .ref mf, .null, .int 0, .ref msp, .int 0, .int 0, .int 0])), (lv, .inr (1, [.int 0, .ref de, .int 0])), (rn, .inr (1, [.int 0, .ref de, .int 0])), (sw, .inr (1, [.int 0, .ref de, .int 0])), (ml, .inl (cS, 6, .inl (slotF))), (mf, .inl (cF, 96, .inl (fun _ => 0)))]) [0, 1, 2, 3, 4, 5] (by decide) rfl
    have hKc := hK.sub (tys' := [(cS, .int), (cF, .int)]) [0, 1] rfl
    have hFc := va_free (wc := [(om, .inr (20, [.ref mt, .ref qu, .int 0, .int th, .ref lv, .int (-1), .int 0, .int 0, .ref mi, .int 0, .int 0, .int 0, .int 0, .ref ml, .ref mss, .ref rn, .ref sw, .ref mf, .null, .int 0, .ref msp, .int 0, .int 0, .int 0])), (lv, .inr (1, [.int 0, .ref de, .int 0])), (rn, .inr (1, [.int 0, .ref de, .int 0])), (sw, .inr (1, [.int 0, .ref de, .int 0])), (ml, .inl (cS, 6, .inl (slotF))), (mf, .inl (cF, 96, .inl (fun _ => 0)))]) hD hS hA [0, 1, 2, 3, 4, 5] rfl
    refine va_calli (va_runV (As := [.int 2]) (rest := []) ⟨hx, hb, hml, hown, ht⟩ (c_X18_raises l dC dI de (om) (mt) (qu) (lv) (mi) (ml) (mss) (rn) (sw) (mf) (msp) (cS) (cF) (th) (2) H.size) (cwV 1 ht (gWV (wr_21 _ (List.mem_of_getElem? (i := 4) rfl)) (wr_21 _ (List.mem_of_getElem? (i := 5) rfl)) (wr_21 _ (List.mem_of_getElem? (i := 6) rfl)) (wr_1 _ (List.mem_of_getElem? (i := 5) rfl)) (wr_21 _ (List.mem_of_getElem? (i := 7) rfl))) rfl rfl rfl (by decide +kernel) ⟨Nat.le_of_ble_eq_true rfl, Nat.le_of_ble_eq_true rfl⟩) ⟨PW_blind, va_recv hKc hPc (ci := 20) (q0 := 0) rfl rfl, PW_call hPc hDc hKc hS hG hFc⟩ rfl rfl hl.1 rfl (lv_room (Nat.le_of_ble_eq_true rfl)) dX18_load_27 ⟨Nat.le_of_ble_eq_true rfl, Nat.le_of_ble_eq_true rfl⟩) hS (fun q _ h => hFc q h) hFc (fun r_27 u t H1 locs ht9 hvm hw hB hz1 hk1 hS => ?_)
    obtain ⟨hP1, hK1, hD1⟩ := hB
    rw [ht9] at hP1
    have hK1 := va_K.moved hvm.symm hK1
    obtain ⟨hP, hD⟩ := va_join (wr := []) (w1 := [(om, .inr (20, [.ref mt, .ref qu, .int 0, .int 2, .ref lv, .int (-1), .int 0, .int 0, .ref mi, .int 0, .int 0, .int 0, .int 0, .ref ml, .ref mss, .ref rn, .ref sw, .ref mf, .null, .int 0, .ref msp, .int 0, .int 0, .int 0])), (lv, .inr (1, [.int 0, .ref de, .int 0])), (rn, .inr (1, [.int 0, .ref de, .int 0])), (sw, .inr (1, [.int 0, .ref de, .int 0])), (ml, .inl (cS, 6, .inl (slotF))), (mf, .inl (cF, 96, .inl (fun _ => 0)))]) hP hD [0, 1, 2, 3, 4, 5] [] rfl rfl (by decide) (by decide) hk1 hFc hP1 hD1
    have hK := (hK.sub (tys' := []) [] rfl).app hK1
    generalize H1 = H at hP hS ⊢
    replace hP : va_P (dC, dI) vwCl [(om, .inr (20, [.ref mt, .ref qu, .int 0, .int 2, .ref lv, .int (-1), .int 0, .int 0, .ref mi, .int 0, .int 0, .int 0, .int 0, .ref ml, .ref mss, .ref rn, .ref sw, .ref mf, .null, .int 0, .ref msp, .int 0, .int 0, .int 0])), (lv, .inr (1, [.int 0, .ref de, .int 0])), (rn, .inr (1, [.int 0, .ref de, .int 0])), (sw, .inr (1, [.int 0, .ref de, .int 0])), (ml, .inl (cS, 6, .inl (slotF))), (mf, .inl (cF, 96, .inl (fun _ => 0)))] H := hP
    replace hD : va_D A [(om, .inr (20, [.ref mt, .ref qu, .int 0, .int 2, .ref lv, .int (-1), .int 0, .int 0, .ref mi, .int 0, .int 0, .int 0, .int 0, .ref ml, .ref mss, .ref rn, .ref sw, .ref mf, .null, .int 0, .ref msp, .int 0, .int 0, .int 0])), (lv, .inr (1, [.int 0, .ref de, .int 0])), (rn, .inr (1, [.int 0, .ref de, .int 0])), (sw, .inr (1, [.int 0, .ref de, .int 0])), (ml, .inl (cS, 6, .inl (slotF))), (mf, .inl (cF, 96, .inl (fun _ => 0)))] := hD
    have hK : va_K (dC, dI) vwCl [(cS, .int), (cF, .int)] s := hK
    have e_27 : r_27 = 0 := hw
    subst e_27
    have hP9 := hP.sub (ws' := [(om, .inr (20, [.ref mt, .ref qu, .int 0, .int 2, .ref lv, .int (-1), .int 0, .int 0, .ref mi, .int 0, .int 0, .int 0, .int 0, .ref ml, .ref mss, .ref rn, .ref sw, .ref mf, .null, .int 0, .ref msp, .int 0, .int 0, .int 0])), (lv, .inr (1, [.int 0, .ref de, .int 0])), (rn, .inr (1, [.int 0, .ref de, .int 0])), (sw, .inr (1, [.int 0, .ref de, .int 0])), (ml, .inl (cS, 6, .inl (slotF))), (mf, .inl (cF, 96, .inl (fun _ => 0)))]) [0, 1, 2, 3, 4, 5] rfl
    have hD9 := hD.sub (ws' := [(om, .inr (20, [.ref mt, .ref qu, .int 0, .int 2, .ref lv, .int (-1), .int 0, .int 0, .ref mi, .int 0, .int 0, .int 0, .int 0, .ref ml, .ref mss, .ref rn, .ref sw, .ref mf, .null, .int 0, .ref msp, .int 0, .int 0, .int 0])), (lv, .inr (1, [.int 0, .ref de, .int 0])), (rn, .inr (1, [.int 0, .ref de, .int 0])), (sw, .inr (1, [.int 0, .ref de, .int 0])), (ml, .inl (cS, 6, .inl (slotF))), (mf, .inl (cF, 96, .inl (fun _ => 0)))]) [0, 1, 2, 3, 4, 5] (by decide) rfl
    have hK9 := hK.sub (tys' := [(cS, .int), (cF, .int)]) [0, 1] rfl
    exact W.iret (v := 0) hx hb hr (fun t htt hW => have ht := htt; ⟨⟨0, 2, rfl, (Or.inr ⟨rfl, m_3⟩), QW_of ht hW hP9 hK9 hD9⟩, hS.F ht⟩) hS.2.2 dX18_load_30
  · refine lv_if_ne (tgt := 15) hx hb dX18_load_6 (by decide) (fun c_6 => absurd c_6 (by decide)) (fun c_6 => ?_)
    refine lv_aload_n hx hb dX18_load_9 rfl (lv_at hl 0 rfl) ?_
    refine lv_iconst (v := 1) hx hb dX18_load_10 (by decide) ?_
    have hPc := hP.sub (ws' := [(om, .inr (20, [.ref mt, .ref qu, .int 0, .int th, .ref lv, .int (-1), .int 0, .int 0, .ref mi, .int 0, .int 0, .int 0, .int 0, .ref ml, .ref mss, .ref rn, .ref sw, .ref mf, .null, .int 0, .ref msp, .int 0, .int 0, .int 0])), (lv, .inr (1, [.int 0, .ref de, .int 0])), (rn, .inr (1, [.int 0, .ref de, .int 0])), (sw, .inr (1, [.int 0, .ref de, .int 0])), (ml, .inl (cS, 6, .inl (slotF))), (mf, .inl (cF, 96, .inl (fun _ => 0)))]) [0, 1, 2, 3, 4, 5] rfl
    have hDc := hD.sub (ws' := [(om, .inr (20, [.ref mt, .ref qu, .int 0, .int th, .ref lv, .int (-1), .int 0, .int 0, .ref mi, .int 0, .int 0, .int 0, .int 0, .ref ml, .ref mss, .ref rn, .ref sw, .ref mf, .null, .int 0, .ref msp, .int 0, .int 0, .int 0])), (lv, .inr (1, [.int 0, .ref de, .int 0])), (rn, .inr (1, [.int 0, .ref de, .int 0])), (sw, .inr (1, [.int 0, .ref de, .int 0])), (ml, .inl (cS, 6, .inl (slotF))), (mf, .inl (cF, 96, .inl (fun _ => 0)))]) [0, 1, 2, 3, 4, 5] (by decide) rfl
    have hKc := hK.sub (tys' := [(cS, .int), (cF, .int)]) [0, 1] rfl
    have hFc := va_free (wc := [(om, .inr (20, [.ref mt, .ref qu, .int 0, .int th, .ref lv, .int (-1), .int 0, .int 0, .ref mi, .int 0, .int 0, .int 0, .int 0, .ref ml, .ref mss, .ref rn, .ref sw, .ref mf, .null, .int 0, .ref msp, .int 0, .int 0, .int 0])), (lv, .inr (1, [.int 0, .ref de, .int 0])), (rn, .inr (1, [.int 0, .ref de, .int 0])), (sw, .inr (1, [.int 0, .ref de, .int 0])), (ml, .inl (cS, 6, .inl (slotF))), (mf, .inl (cF, 96, .inl (fun _ => 0)))]) hD hS hA [0, 1, 2, 3, 4, 5] rfl
    refine va_calli (va_runV (As := [.int 1]) (rest := []) ⟨hx, hb, hml, hown, ht⟩ (c_X18_raises l dC dI de (om) (mt) (qu) (lv) (mi) (ml) (mss) (rn) (sw) (mf) (msp) (cS) (cF) (th) (1) H.size) (cwV 1 ht (gWV (wr_21 _ (List.mem_of_getElem? (i := 4) rfl)) (wr_21 _ (List.mem_of_getElem? (i := 5) rfl)) (wr_21 _ (List.mem_of_getElem? (i := 6) rfl)) (wr_1 _ (List.mem_of_getElem? (i := 5) rfl)) (wr_21 _ (List.mem_of_getElem? (i := 7) rfl))) rfl rfl rfl (by decide +kernel) ⟨Nat.le_of_ble_eq_true rfl, Nat.le_of_ble_eq_true rfl⟩) ⟨PW_blind, va_recv hKc hPc (ci := 20) (q0 := 0) rfl rfl, PW_call hPc hDc hKc hS hG hFc⟩ rfl rfl hl.1 rfl (lv_room (Nat.le_of_ble_eq_true rfl)) dX18_load_11 ⟨Nat.le_of_ble_eq_true rfl, Nat.le_of_ble_eq_true rfl⟩) hS (fun q _ h => hFc q h) hFc (fun r_11 u t H1 locs ht9 hvm hw hB hz1 hk1 hS => ?_)
    obtain ⟨hP1, hK1, hD1⟩ := hB
    rw [ht9] at hP1
    have hK1 := va_K.moved hvm.symm hK1
    obtain ⟨hP, hD⟩ := va_join (wr := []) (w1 := [(om, .inr (20, [.ref mt, .ref qu, .int 0, .int 1, .ref lv, .int (-1), .int 0, .int 0, .ref mi, .int 0, .int 0, .int 0, .int 0, .ref ml, .ref mss, .ref rn, .ref sw, .ref mf, .null, .int 0, .ref msp, .int 0, .int 0, .int 0])), (lv, .inr (1, [.int 0, .ref de, .int 0])), (rn, .inr (1, [.int 0, .ref de, .int 0])), (sw, .inr (1, [.int 0, .ref de, .int 0])), (ml, .inl (cS, 6, .inl (slotF))), (mf, .inl (cF, 96, .inl (fun _ => 0)))]) hP hD [0, 1, 2, 3, 4, 5] [] rfl rfl (by decide) (by decide) hk1 hFc hP1 hD1
    have hK := (hK.sub (tys' := []) [] rfl).app hK1
    generalize H1 = H at hP hS ⊢
    replace hP : va_P (dC, dI) vwCl [(om, .inr (20, [.ref mt, .ref qu, .int 0, .int 1, .ref lv, .int (-1), .int 0, .int 0, .ref mi, .int 0, .int 0, .int 0, .int 0, .ref ml, .ref mss, .ref rn, .ref sw, .ref mf, .null, .int 0, .ref msp, .int 0, .int 0, .int 0])), (lv, .inr (1, [.int 0, .ref de, .int 0])), (rn, .inr (1, [.int 0, .ref de, .int 0])), (sw, .inr (1, [.int 0, .ref de, .int 0])), (ml, .inl (cS, 6, .inl (slotF))), (mf, .inl (cF, 96, .inl (fun _ => 0)))] H := hP
    replace hD : va_D A [(om, .inr (20, [.ref mt, .ref qu, .int 0, .int 1, .ref lv, .int (-1), .int 0, .int 0, .ref mi, .int 0, .int 0, .int 0, .int 0, .ref ml, .ref mss, .ref rn, .ref sw, .ref mf, .null, .int 0, .ref msp, .int 0, .int 0, .int 0])), (lv, .inr (1, [.int 0, .ref de, .int 0])), (rn, .inr (1, [.int 0, .ref de, .int 0])), (sw, .inr (1, [.int 0, .ref de, .int 0])), (ml, .inl (cS, 6, .inl (slotF))), (mf, .inl (cF, 96, .inl (fun _ => 0)))] := hD
    have hK : va_K (dC, dI) vwCl [(cS, .int), (cF, .int)] s := hK
    have e_11 : r_11 = 0 := hw
    subst e_11
    have hP9 := hP.sub (ws' := [(om, .inr (20, [.ref mt, .ref qu, .int 0, .int 1, .ref lv, .int (-1), .int 0, .int 0, .ref mi, .int 0, .int 0, .int 0, .int 0, .ref ml, .ref mss, .ref rn, .ref sw, .ref mf, .null, .int 0, .ref msp, .int 0, .int 0, .int 0])), (lv, .inr (1, [.int 0, .ref de, .int 0])), (rn, .inr (1, [.int 0, .ref de, .int 0])), (sw, .inr (1, [.int 0, .ref de, .int 0])), (ml, .inl (cS, 6, .inl (slotF))), (mf, .inl (cF, 96, .inl (fun _ => 0)))]) [0, 1, 2, 3, 4, 5] rfl
    have hD9 := hD.sub (ws' := [(om, .inr (20, [.ref mt, .ref qu, .int 0, .int 1, .ref lv, .int (-1), .int 0, .int 0, .ref mi, .int 0, .int 0, .int 0, .int 0, .ref ml, .ref mss, .ref rn, .ref sw, .ref mf, .null, .int 0, .ref msp, .int 0, .int 0, .int 0])), (lv, .inr (1, [.int 0, .ref de, .int 0])), (rn, .inr (1, [.int 0, .ref de, .int 0])), (sw, .inr (1, [.int 0, .ref de, .int 0])), (ml, .inl (cS, 6, .inl (slotF))), (mf, .inl (cF, 96, .inl (fun _ => 0)))]) [0, 1, 2, 3, 4, 5] (by decide) rfl
    have hK9 := hK.sub (tys' := [(cS, .int), (cF, .int)]) [0, 1] rfl
    exact W.iret (v := 0) hx hb hr (fun t htt hW => have ht := htt; ⟨⟨0, 1, rfl, (Or.inl ⟨rfl, m_3⟩), QW_of ht hW hP9 hK9 hD9⟩, hS.F ht⟩) hS.2.2 dX18_load_14
set_option maxHeartbeats 4000000 in
set_option maxRecDepth 100000 in
theorem c_X18_hardest (l : Launch) (dC : Nat → ClassId) (dI : Nat → Nat → Nat) (de : Nat) (om : Nat) (mt : Nat) (qu : Nat) (lv : Nat) (mi : Nat) (ml : Nat) (mss : Nat) (rn : Nat) (sw : Nat) (mf : Nat) (msp : Nat) (cS : ClassId) (cF : ClassId) (th : Int32) (a1 : Int32) (sz : Nat) : Met l yX18_hardest (.code yX18_hardest cX18_hardest 5 (some .int) :: wsL_law) { frames := 1, cells := 0, slots := 0, locals := 40 } (va_Pc [.ref om, .int a1] (PW dC dI de [(cS, .int), (cF, .int)] (WM om mt qu lv mi ml mss rn sw mf msp cS cF th de) sz)) (va_Qi (fun (r : Int32) (th2 : Int32) => (th2 = 1 ∧ ¬ (a1 = 120 ∨ a1 = 121)) ∨ (th2 = 2 ∧ (a1 = 120 ∨ a1 = 121))) (fun (th2 : Int32) (t : State) => QW dC dI [(cS, .int), (cF, .int)] (WM om mt qu lv mi ml mss rn sw mf msp cS cF th2 de) (va_A (WM om mt qu lv mi ml mss rn sw mf msp cS cF th de) sz) t) (va_A (WM om mt qu lv mi ml mss rn sw mf msp cS cF th de) sz)) 0 0 (va_A (WM om mt qu lv mi ml mss rn sw mf msp cS cF th de) sz) := by
  refine Met.ofW (cc := cX18_hardest) (maxL := 5) (ret := (some .int)) (by decide) rfl ?_
  intro p e s m args below meth c s₁ B hml hv
  obtain ⟨rfl, hsz, hP, hK, hD0, hG⟩ := hv
  have hx := B.exec
  have hb := B.bytes
  have hr := B.returns
  have hts := atoms_spec (ws := .code yX18_hardest cX18_hardest 5 (some .int) :: wsL_law) B.pre
  have ht : ∀ w ∈ wsL_law, w.before _ s = true := fun w h => hts w (List.mem_cons_of_mem _ h)
  have hown : s.vm.findClass RX18 = some m.cls := findClass_of_methodNamed B.named
  have hlocks := B.notSynchronized
  subst hsz
  have hD := hD0.self (sz := s.heap.size)
  generalize hAe : va_A (WM om mt qu lv mi ml mss rn sw mf msp cS cF th de) s.heap.size = A at hD hG ⊢
  have hA : ∀ q : Nat, s.heap.size ≤ q → A q := fun q h => by rw [← hAe]; exact Or.inr h
  have hS : va_S A s.heap s.heap [] := va_S.rf
  have hP : va_P (dC, dI) vwCl [(om, .inr (20, [.ref mt, .ref qu, .int 0, .int th, .ref lv, .int (-1), .int 0, .int 0, .ref mi, .int 0, .int 0, .int 0, .int 0, .ref ml, .ref mss, .ref rn, .ref sw, .ref mf, .null, .int 0, .ref msp, .int 0, .int 0, .int 0])), (lv, .inr (1, [.int 0, .ref de, .int 0])), (rn, .inr (1, [.int 0, .ref de, .int 0])), (sw, .inr (1, [.int 0, .ref de, .int 0])), (ml, .inl (cS, 6, .inl (slotF))), (mf, .inl (cF, 96, .inl (fun _ => 0)))] s.heap := hP
  have hD : va_D A [(om, .inr (20, [.ref mt, .ref qu, .int 0, .int th, .ref lv, .int (-1), .int 0, .int 0, .ref mi, .int 0, .int 0, .int 0, .int 0, .ref ml, .ref mss, .ref rn, .ref sw, .ref mf, .null, .int 0, .ref msp, .int 0, .int 0, .int 0])), (lv, .inr (1, [.int 0, .ref de, .int 0])), (rn, .inr (1, [.int 0, .ref de, .int 0])), (sw, .inr (1, [.int 0, .ref de, .int 0])), (ml, .inl (cS, 6, .inl (slotF))), (mf, .inl (cF, 96, .inl (fun _ => 0)))] := hD
  have hl := lv_entry ([.ref om, .int a1]) (n := 5) (Nat.le_of_ble_eq_true rfl)
  rw [lg_entry_eq]
  generalize (lg_sl ([.ref om, .int a1]) ++ List.replicate (5 - (lg_sl ([.ref om, .int a1])).length) Slot.unset).toArray = ls at hl ⊢
  have hl : lv_has ls 5 [(0, .ref om), (1, .int a1)] := hl
  refine lv_iload_n hx hb dX18_hardest_0 rfl (lv_at hl 1 rfl) ?_
  refine lv_bipush (v := 120) hx hb dX18_hardest_1 (by decide) ?_
  refine lv_icmp_eq (tgt := 18) hx hb dX18_hardest_3 (by decide) (fun c_3 => ?_) (fun c_3 => ?_)
  · refine lv_iconst (v := -1) hx hb dX18_hardest_18 (by decide) ?_
    refine lv_istore_n (lv' := [(2, .int (-1)), (0, .ref om), (1, .int a1)]) hx hb dX18_hardest_19 rfl hl (by decide) rfl (fun ls hl => ?_)
    refine lv_iconst (v := 0) hx hb dX18_hardest_20 (by decide) ?_
    refine lv_istore_n (lv' := [(3, .int 0), (2, .int (-1)), (0, .ref om), (1, .int a1)]) hx hb dX18_hardest_21 rfl hl (by decide) rfl (fun ls hl => ?_)
    refine lv_iconst (v := 0) hx hb dX18_hardest_22 (by decide) ?_
    refine lv_istore (lv' := [(4, .int 0), (3, .int 0), (2, .int (-1)), (0, .ref om), (1, .int a1)]) hx hb dX18_hardest_23 hl (by decide) rfl (fun ls hl => ?_)
    obtain ⟨n, i, hi0, hn⟩ : ∃ n i : Nat, i = 0 ∧ i + n = 96 := ⟨96, 0, rfl, rfl⟩
    replace hl : lv_has ls 5 [(4, .int (nI i)), (3, .int 0), (2, .int (-1)), (0, .ref om), (1, .int a1)] := by rw [hi0]; exact hl
    clear hi0
    induction n generalizing i ls with
    | zero =>
      refine lv_iload hx hb dX18_hardest_25 (lv_at hl 0 rfl) ?_
      refine lv_aload_n hx hb dX18_hardest_27 rfl (lv_at hl 3 rfl) ?_
      refine va_get (D := (dC, dI)) (ci := 20) (v := .ref mf) (C := RX18) (T := TX18) (N := 24) hx hb ht inlX18 hown hK hP 0 rfl rfl 17 (by decide) (ht _ (wr_8 _ (List.mem_of_getElem? (i := 14) rfl))) (fun _ h9 => h9) rfl dX18_hardest_28 ?_
      refine va_alen hx hb hK hP 5 1 rfl rfl (v := 96) (by decide +kernel) dX18_hardest_31 ?_
      refine lv_icmp_ge (tgt := 71) hx hb dX18_hardest_32 (by decide) (fun c_32 => ?_) (fun c_32 => absurd (nI_le (a := 96) (b := i) (by omega) (by omega)) c_32)
      refine lv_aload_n hx hb dX18_hardest_71 rfl (lv_at hl 3 rfl) ?_
      refine lv_iload_n hx hb dX18_hardest_72 rfl (lv_at hl 2 rfl) ?_
      refine lv_iconst (v := -1) hx hb dX18_hardest_73 (by decide) ?_
      refine lv_icmp_ne (tgt := 81) hx hb dX18_hardest_74 (by decide) (fun c_74 => absurd c_74 (by decide)) (fun c_74 => ?_)
      refine lv_iconst (v := 2) hx hb dX18_hardest_77 (by decide) ?_
      refine lv_goto (tgt := 82) hx hb dX18_hardest_78 (by decide) ?_
      refine va_put (D := (dC, dI)) (ci := 20) (v := .int 2) (ty := .int) (C := RX18) (T := TX18) (N := 24) hx hb ht inlX18 tyX18 tyX18_ok nmX18 hown hK hP hD hS 0 rfl rfl 3 (by decide) (ht _ (wr_17 _ (List.mem_of_getElem? (i := 5) rfl))) (fun _ h9 => h9) rfl (by decide +kernel) rfl rfl (Nat.le_of_ble_eq_true rfl) dX18_hardest_82 (fun H locs hP hD hS => ?_)
      replace hP : va_P (dC, dI) vwCl [(om, .inr (20, [.ref mt, .ref qu, .int 0, .int 2, .ref lv, .int (-1), .int 0, .int 0, .ref mi, .int 0, .int 0, .int 0, .int 0, .ref ml, .ref mss, .ref rn, .ref sw, .ref mf, .null, .int 0, .ref msp, .int 0, .int 0, .int 0])), (lv, .inr (1, [.int 0, .ref de, .int 0])), (rn, .inr (1, [.int 0, .ref de, .int 0])), (sw, .inr (1, [.int 0, .ref de, .int 0])), (ml, .inl (cS, 6, .inl (slotF))), (mf, .inl (cF, 96, .inl (fun _ => 0)))] H := hP
      replace hD : va_D A [(om, .inr (20, [.ref mt, .ref qu, .int 0, .int 2, .ref lv, .int (-1), .int 0, .int 0, .ref mi, .int 0, .int 0, .int 0, .int 0, .ref ml, .ref mss, .ref rn, .ref sw, .ref mf, .null, .int 0, .ref msp, .int 0, .int 0, .int 0])), (lv, .inr (1, [.int 0, .ref de, .int 0])), (rn, .inr (1, [.int 0, .ref de, .int 0])), (sw, .inr (1, [.int 0, .ref de, .int 0])), (ml, .inl (cS, 6, .inl (slotF))), (mf, .inl (cF, 96, .inl (fun _ => 0)))] := hD
      refine lv_aload_n hx hb dX18_hardest_85 rfl (lv_at hl 3 rfl) ?_
      refine va_get (D := (dC, dI)) (ci := 20) (v := .int 2) (C := RX18) (T := TX18) (N := 24) hx hb ht inlX18 hown hK hP 0 rfl rfl 3 (by decide) (ht _ (wr_17 _ (List.mem_of_getElem? (i := 5) rfl))) (fun _ h9 => h9) rfl dX18_hardest_86 ?_
      refine lv_if_le (tgt := 96) hx hb dX18_hardest_89 (by decide) (fun c_89 => absurd c_89 (by decide)) (fun c_89 => ?_)
      refine lv_iconst (v := 0) hx hb dX18_hardest_92 (by decide) ?_
      refine lv_goto (tgt := 113) hx hb dX18_hardest_93 (by decide) ?_
      have hP9 := hP.sub (ws' := [(om, .inr (20, [.ref mt, .ref qu, .int 0, .int 2, .ref lv, .int (-1), .int 0, .int 0, .ref mi, .int 0, .int 0, .int 0, .int 0, .ref ml, .ref mss, .ref rn, .ref sw, .ref mf, .null, .int 0, .ref msp, .int 0, .int 0, .int 0])), (lv, .inr (1, [.int 0, .ref de, .int 0])), (rn, .inr (1, [.int 0, .ref de, .int 0])), (sw, .inr (1, [.int 0, .ref de, .int 0])), (ml, .inl (cS, 6, .inl (slotF))), (mf, .inl (cF, 96, .inl (fun _ => 0)))]) [0, 1, 2, 3, 4, 5] rfl
      have hD9 := hD.sub (ws' := [(om, .inr (20, [.ref mt, .ref qu, .int 0, .int 2, .ref lv, .int (-1), .int 0, .int 0, .ref mi, .int 0, .int 0, .int 0, .int 0, .ref ml, .ref mss, .ref rn, .ref sw, .ref mf, .null, .int 0, .ref msp, .int 0, .int 0, .int 0])), (lv, .inr (1, [.int 0, .ref de, .int 0])), (rn, .inr (1, [.int 0, .ref de, .int 0])), (sw, .inr (1, [.int 0, .ref de, .int 0])), (ml, .inl (cS, 6, .inl (slotF))), (mf, .inl (cF, 96, .inl (fun _ => 0)))]) [0, 1, 2, 3, 4, 5] (by decide) rfl
      have hK9 := hK.sub (tys' := [(cS, .int), (cF, .int)]) [0, 1] rfl
      exact W.iret (v := 0) hx hb hr (fun t htt hW => have ht := htt; ⟨⟨0, 2, rfl, (Or.inr ⟨rfl, (Or.inl c_3)⟩), QW_of ht hW hP9 hK9 hD9⟩, hS.F ht⟩) hS.2.2 dX18_hardest_113
    | succ n ih =>
      refine lv_iload hx hb dX18_hardest_25 (lv_at hl 0 rfl) ?_
      refine lv_aload_n hx hb dX18_hardest_27 rfl (lv_at hl 3 rfl) ?_
      refine va_get (D := (dC, dI)) (ci := 20) (v := .ref mf) (C := RX18) (T := TX18) (N := 24) hx hb ht inlX18 hown hK hP 0 rfl rfl 17 (by decide) (ht _ (wr_8 _ (List.mem_of_getElem? (i := 14) rfl))) (fun _ h9 => h9) rfl dX18_hardest_28 ?_
      refine va_alen hx hb hK hP 5 1 rfl rfl (v := 96) (by decide +kernel) dX18_hardest_31 ?_
      refine lv_icmp_ge (tgt := 71) hx hb dX18_hardest_32 (by decide) (fun c_32 => absurd c_32 (nI_ge (b := 96) (show i < 96 by omega) (by decide))) (fun c_32 => ?_)
      refine lv_aload_n hx hb dX18_hardest_35 rfl (lv_at hl 3 rfl) ?_
      refine va_get (D := (dC, dI)) (ci := 20) (v := .ref mf) (C := RX18) (T := TX18) (N := 24) hx hb ht inlX18 hown hK hP 0 rfl rfl 17 (by decide) (ht _ (wr_8 _ (List.mem_of_getElem? (i := 14) rfl))) (fun _ h9 => h9) rfl dX18_hardest_36 ?_
      refine lv_iload hx hb dX18_hardest_39 (lv_at hl 0 rfl) ?_
      refine va_iald hx hb hK hP 5 1 rfl rfl (vp_in_nI (n := i) (by omega) (by decide)) dX18_hardest_41 ?_
      refine W.eq (g2 := F0 m 42 ls [.int 0]) rfl ?_
      refine lv_iload_n hx hb dX18_hardest_42 rfl (lv_at hl 1 rfl) ?_
      refine lv_icmp_le (tgt := 51) hx hb dX18_hardest_43 (by decide) (fun c_43 => ?_) (fun c_43 => absurd c_43 (by decide))
      refine lv_iload_n hx hb dX18_hardest_51 rfl (lv_at hl 2 rfl) ?_
      refine lv_istore_n (lv' := [(2, .int (-1)), (4, .int (nI i)), (3, .int 0), (0, .ref om), (1, .int a1)]) hx hb dX18_hardest_52 rfl hl (by decide) rfl (fun ls hl => ?_)
      refine lv_iload_n hx hb dX18_hardest_53 rfl (lv_at hl 2 rfl) ?_
      refine lv_aload_n hx hb dX18_hardest_54 rfl (lv_at hl 3 rfl) ?_
      refine va_get (D := (dC, dI)) (ci := 20) (v := .ref mf) (C := RX18) (T := TX18) (N := 24) hx hb ht inlX18 hown hK hP 0 rfl rfl 17 (by decide) (ht _ (wr_8 _ (List.mem_of_getElem? (i := 14) rfl))) (fun _ h9 => h9) rfl dX18_hardest_55 ?_
      refine lv_iload hx hb dX18_hardest_58 (lv_at hl 1 rfl) ?_
      refine va_iald hx hb hK hP 5 1 rfl rfl (vp_in_nI (n := i) (by omega) (by decide)) dX18_hardest_60 ?_
      refine W.eq (g2 := F0 m 61 ls [.int 0, .int 0]) rfl ?_
      refine va_mmax hx hb (hml.trans hl.1.symm) hown (ht _ (wr_27 _ (List.mem_of_getElem? (i := 22) rfl))) (ht _ (wr_11 _ (List.mem_of_getElem? (i := 11) rfl))) (ht _ (wr_11 _ (List.mem_of_getElem? (i := 12) rfl))) (ht _ (wr_11 _ (List.mem_of_getElem? (i := 13) rfl))) (Nat.le_of_ble_eq_true rfl) (Nat.le_of_ble_eq_true rfl) (Nat.le_of_ble_eq_true rfl) (Nat.le_of_ble_eq_true rfl) dX18_hardest_61 ?_
      refine W.eq (g2 := F0 m 64 ls [.int 0]) rfl ?_
      refine lv_istore_n (lv' := [(3, .int 0), (2, .int (-1)), (4, .int (nI i)), (0, .ref om), (1, .int a1)]) hx hb dX18_hardest_64 rfl hl (by decide) rfl (fun ls hl => ?_)
      obtain ⟨i_1, ei_1⟩ : ∃ y : Int32, y = (nI i) + 1 := ⟨_, rfl⟩
      refine lv_iinc (v := i_1) (lv' := [(4, .int i_1), (3, .int 0), (2, .int (-1)), (0, .ref om), (1, .int a1)]) hx hb dX18_hardest_65 hl (k := 2) rfl (by rw [ei_1]; rfl) (by decide) rfl (fun ls hl => ?_)
      refine lv_goto (tgt := 25) hx hb dX18_hardest_68 (by decide) ?_
      have e9 : i_1 = nI (i + 1) := ei_1.trans (nI_1 i)
      subst e9
      exact ih (i := i + 1) (ls := ls) (hn := by omega) (hl := lv_sub hl [0, 1, 2, 3, 4] rfl)
  · refine lv_iload_n hx hb dX18_hardest_6 rfl (lv_at hl 1 rfl) ?_
    refine lv_bipush (v := 121) hx hb dX18_hardest_7 (by decide) ?_
    refine lv_icmp_eq (tgt := 18) hx hb dX18_hardest_9 (by decide) (fun c_9 => ?_) (fun c_9 => ?_)
    · refine lv_iconst (v := -1) hx hb dX18_hardest_18 (by decide) ?_
      refine lv_istore_n (lv' := [(2, .int (-1)), (0, .ref om), (1, .int a1)]) hx hb dX18_hardest_19 rfl hl (by decide) rfl (fun ls hl => ?_)
      refine lv_iconst (v := 0) hx hb dX18_hardest_20 (by decide) ?_
      refine lv_istore_n (lv' := [(3, .int 0), (2, .int (-1)), (0, .ref om), (1, .int a1)]) hx hb dX18_hardest_21 rfl hl (by decide) rfl (fun ls hl => ?_)
      refine lv_iconst (v := 0) hx hb dX18_hardest_22 (by decide) ?_
      refine lv_istore (lv' := [(4, .int 0), (3, .int 0), (2, .int (-1)), (0, .ref om), (1, .int a1)]) hx hb dX18_hardest_23 hl (by decide) rfl (fun ls hl => ?_)
      obtain ⟨n, i, hi0, hn⟩ : ∃ n i : Nat, i = 0 ∧ i + n = 96 := ⟨96, 0, rfl, rfl⟩
      replace hl : lv_has ls 5 [(4, .int (nI i)), (3, .int 0), (2, .int (-1)), (0, .ref om), (1, .int a1)] := by rw [hi0]; exact hl
      clear hi0
      induction n generalizing i ls with
      | zero =>
        refine lv_iload hx hb dX18_hardest_25 (lv_at hl 0 rfl) ?_
        refine lv_aload_n hx hb dX18_hardest_27 rfl (lv_at hl 3 rfl) ?_
        refine va_get (D := (dC, dI)) (ci := 20) (v := .ref mf) (C := RX18) (T := TX18) (N := 24) hx hb ht inlX18 hown hK hP 0 rfl rfl 17 (by decide) (ht _ (wr_8 _ (List.mem_of_getElem? (i := 14) rfl))) (fun _ h9 => h9) rfl dX18_hardest_28 ?_
        refine va_alen hx hb hK hP 5 1 rfl rfl (v := 96) (by decide +kernel) dX18_hardest_31 ?_
        refine lv_icmp_ge (tgt := 71) hx hb dX18_hardest_32 (by decide) (fun c_32 => ?_) (fun c_32 => absurd (nI_le (a := 96) (b := i) (by omega) (by omega)) c_32)
        refine lv_aload_n hx hb dX18_hardest_71 rfl (lv_at hl 3 rfl) ?_
        refine lv_iload_n hx hb dX18_hardest_72 rfl (lv_at hl 2 rfl) ?_
        refine lv_iconst (v := -1) hx hb dX18_hardest_73 (by decide) ?_
        refine lv_icmp_ne (tgt := 81) hx hb dX18_hardest_74 (by decide) (fun c_74 => absurd c_74 (by decide)) (fun c_74 => ?_)
        refine lv_iconst (v := 2) hx hb dX18_hardest_77 (by decide) ?_
        refine lv_goto (tgt := 82) hx hb dX18_hardest_78 (by decide) ?_
        refine va_put (D := (dC, dI)) (ci := 20) (v := .int 2) (ty := .int) (C := RX18) (T := TX18) (N := 24) hx hb ht inlX18 tyX18 tyX18_ok nmX18 hown hK hP hD hS 0 rfl rfl 3 (by decide) (ht _ (wr_17 _ (List.mem_of_getElem? (i := 5) rfl))) (fun _ h9 => h9) rfl (by decide +kernel) rfl rfl (Nat.le_of_ble_eq_true rfl) dX18_hardest_82 (fun H locs hP hD hS => ?_)
        replace hP : va_P (dC, dI) vwCl [(om, .inr (20, [.ref mt, .ref qu, .int 0, .int 2, .ref lv, .int (-1), .int 0, .int 0, .ref mi, .int 0, .int 0, .int 0, .int 0, .ref ml, .ref mss, .ref rn, .ref sw, .ref mf, .null, .int 0, .ref msp, .int 0, .int 0, .int 0])), (lv, .inr (1, [.int 0, .ref de, .int 0])), (rn, .inr (1, [.int 0, .ref de, .int 0])), (sw, .inr (1, [.int 0, .ref de, .int 0])), (ml, .inl (cS, 6, .inl (slotF))), (mf, .inl (cF, 96, .inl (fun _ => 0)))] H := hP
        replace hD : va_D A [(om, .inr (20, [.ref mt, .ref qu, .int 0, .int 2, .ref lv, .int (-1), .int 0, .int 0, .ref mi, .int 0, .int 0, .int 0, .int 0, .ref ml, .ref mss, .ref rn, .ref sw, .ref mf, .null, .int 0, .ref msp, .int 0, .int 0, .int 0])), (lv, .inr (1, [.int 0, .ref de, .int 0])), (rn, .inr (1, [.int 0, .ref de, .int 0])), (sw, .inr (1, [.int 0, .ref de, .int 0])), (ml, .inl (cS, 6, .inl (slotF))), (mf, .inl (cF, 96, .inl (fun _ => 0)))] := hD
        refine lv_aload_n hx hb dX18_hardest_85 rfl (lv_at hl 3 rfl) ?_
        refine va_get (D := (dC, dI)) (ci := 20) (v := .int 2) (C := RX18) (T := TX18) (N := 24) hx hb ht inlX18 hown hK hP 0 rfl rfl 3 (by decide) (ht _ (wr_17 _ (List.mem_of_getElem? (i := 5) rfl))) (fun _ h9 => h9) rfl dX18_hardest_86 ?_
        refine lv_if_le (tgt := 96) hx hb dX18_hardest_89 (by decide) (fun c_89 => absurd c_89 (by decide)) (fun c_89 => ?_)
        refine lv_iconst (v := 0) hx hb dX18_hardest_92 (by decide) ?_
        refine lv_goto (tgt := 113) hx hb dX18_hardest_93 (by decide) ?_
        have hP9 := hP.sub (ws' := [(om, .inr (20, [.ref mt, .ref qu, .int 0, .int 2, .ref lv, .int (-1), .int 0, .int 0, .ref mi, .int 0, .int 0, .int 0, .int 0, .ref ml, .ref mss, .ref rn, .ref sw, .ref mf, .null, .int 0, .ref msp, .int 0, .int 0, .int 0])), (lv, .inr (1, [.int 0, .ref de, .int 0])), (rn, .inr (1, [.int 0, .ref de, .int 0])), (sw, .inr (1, [.int 0, .ref de, .int 0])), (ml, .inl (cS, 6, .inl (slotF))), (mf, .inl (cF, 96, .inl (fun _ => 0)))]) [0, 1, 2, 3, 4, 5] rfl
        have hD9 := hD.sub (ws' := [(om, .inr (20, [.ref mt, .ref qu, .int 0, .int 2, .ref lv, .int (-1), .int 0, .int 0, .ref mi, .int 0, .int 0, .int 0, .int 0, .ref ml, .ref mss, .ref rn, .ref sw, .ref mf, .null, .int 0, .ref msp, .int 0, .int 0, .int 0])), (lv, .inr (1, [.int 0, .ref de, .int 0])), (rn, .inr (1, [.int 0, .ref de, .int 0])), (sw, .inr (1, [.int 0, .ref de, .int 0])), (ml, .inl (cS, 6, .inl (slotF))), (mf, .inl (cF, 96, .inl (fun _ => 0)))]) [0, 1, 2, 3, 4, 5] (by decide) rfl
        have hK9 := hK.sub (tys' := [(cS, .int), (cF, .int)]) [0, 1] rfl
        exact W.iret (v := 0) hx hb hr (fun t htt hW => have ht := htt; ⟨⟨0, 2, rfl, (Or.inr ⟨rfl, (Or.inr c_9)⟩), QW_of ht hW hP9 hK9 hD9⟩, hS.F ht⟩) hS.2.2 dX18_hardest_113
      | succ n ih =>
        refine lv_iload hx hb dX18_hardest_25 (lv_at hl 0 rfl) ?_
        refine lv_aload_n hx hb dX18_hardest_27 rfl (lv_at hl 3 rfl) ?_
        refine va_get (D := (dC, dI)) (ci := 20) (v := .ref mf) (C := RX18) (T := TX18) (N := 24) hx hb ht inlX18 hown hK hP 0 rfl rfl 17 (by decide) (ht _ (wr_8 _ (List.mem_of_getElem? (i := 14) rfl))) (fun _ h9 => h9) rfl dX18_hardest_28 ?_
        refine va_alen hx hb hK hP 5 1 rfl rfl (v := 96) (by decide +kernel) dX18_hardest_31 ?_
        refine lv_icmp_ge (tgt := 71) hx hb dX18_hardest_32 (by decide) (fun c_32 => absurd c_32 (nI_ge (b := 96) (show i < 96 by omega) (by decide))) (fun c_32 => ?_)
        refine lv_aload_n hx hb dX18_hardest_35 rfl (lv_at hl 3 rfl) ?_
        refine va_get (D := (dC, dI)) (ci := 20) (v := .ref mf) (C := RX18) (T := TX18) (N := 24) hx hb ht inlX18 hown hK hP 0 rfl rfl 17 (by decide) (ht _ (wr_8 _ (List.mem_of_getElem? (i := 14) rfl))) (fun _ h9 => h9) rfl dX18_hardest_36 ?_
        refine lv_iload hx hb dX18_hardest_39 (lv_at hl 0 rfl) ?_
        refine va_iald hx hb hK hP 5 1 rfl rfl (vp_in_nI (n := i) (by omega) (by decide)) dX18_hardest_41 ?_
        refine W.eq (g2 := F0 m 42 ls [.int 0]) rfl ?_
        refine lv_iload_n hx hb dX18_hardest_42 rfl (lv_at hl 1 rfl) ?_
        refine lv_icmp_le (tgt := 51) hx hb dX18_hardest_43 (by decide) (fun c_43 => ?_) (fun c_43 => absurd c_43 (by decide))
        refine lv_iload_n hx hb dX18_hardest_51 rfl (lv_at hl 2 rfl) ?_
        refine lv_istore_n (lv' := [(2, .int (-1)), (4, .int (nI i)), (3, .int 0), (0, .ref om), (1, .int a1)]) hx hb dX18_hardest_52 rfl hl (by decide) rfl (fun ls hl => ?_)
        refine lv_iload_n hx hb dX18_hardest_53 rfl (lv_at hl 2 rfl) ?_
        refine lv_aload_n hx hb dX18_hardest_54 rfl (lv_at hl 3 rfl) ?_
        refine va_get (D := (dC, dI)) (ci := 20) (v := .ref mf) (C := RX18) (T := TX18) (N := 24) hx hb ht inlX18 hown hK hP 0 rfl rfl 17 (by decide) (ht _ (wr_8 _ (List.mem_of_getElem? (i := 14) rfl))) (fun _ h9 => h9) rfl dX18_hardest_55 ?_
        refine lv_iload hx hb dX18_hardest_58 (lv_at hl 1 rfl) ?_
        refine va_iald hx hb hK hP 5 1 rfl rfl (vp_in_nI (n := i) (by omega) (by decide)) dX18_hardest_60 ?_
        refine W.eq (g2 := F0 m 61 ls [.int 0, .int 0]) rfl ?_
        refine va_mmax hx hb (hml.trans hl.1.symm) hown (ht _ (wr_27 _ (List.mem_of_getElem? (i := 22) rfl))) (ht _ (wr_11 _ (List.mem_of_getElem? (i := 11) rfl))) (ht _ (wr_11 _ (List.mem_of_getElem? (i := 12) rfl))) (ht _ (wr_11 _ (List.mem_of_getElem? (i := 13) rfl))) (Nat.le_of_ble_eq_true rfl) (Nat.le_of_ble_eq_true rfl) (Nat.le_of_ble_eq_true rfl) (Nat.le_of_ble_eq_true rfl) dX18_hardest_61 ?_
        refine W.eq (g2 := F0 m 64 ls [.int 0]) rfl ?_
        refine lv_istore_n (lv' := [(3, .int 0), (2, .int (-1)), (4, .int (nI i)), (0, .ref om), (1, .int a1)]) hx hb dX18_hardest_64 rfl hl (by decide) rfl (fun ls hl => ?_)
        obtain ⟨i_2, ei_2⟩ : ∃ y : Int32, y = (nI i) + 1 := ⟨_, rfl⟩
        refine lv_iinc (v := i_2) (lv' := [(4, .int i_2), (3, .int 0), (2, .int (-1)), (0, .ref om), (1, .int a1)]) hx hb dX18_hardest_65 hl (k := 2) rfl (by rw [ei_2]; rfl) (by decide) rfl (fun ls hl => ?_)
        refine lv_goto (tgt := 25) hx hb dX18_hardest_68 (by decide) ?_
        have e9 : i_2 = nI (i + 1) := ei_2.trans (nI_1 i)
        subst e9
        exact ih (i := i + 1) (ls := ls) (hn := by omega) (hl := lv_sub hl [0, 1, 2, 3, 4] rfl)
    · refine lv_aload_n hx hb dX18_hardest_12 rfl (lv_at hl 0 rfl) ?_
      refine lv_iconst (v := 1) hx hb dX18_hardest_13 (by decide) ?_
      have hPc := hP.sub (ws' := [(om, .inr (20, [.ref mt, .ref qu, .int 0, .int th, .ref lv, .int (-1), .int 0, .int 0, .ref mi, .int 0, .int 0, .int 0, .int 0, .ref ml, .ref mss, .ref rn, .ref sw, .ref mf, .null, .int 0, .ref msp, .int 0, .int 0, .int 0])), (lv, .inr (1, [.int 0, .ref de, .int 0])), (rn, .inr (1, [.int 0, .ref de, .int 0])), (sw, .inr (1, [.int 0, .ref de, .int 0])), (ml, .inl (cS, 6, .inl (slotF))), (mf, .inl (cF, 96, .inl (fun _ => 0)))]) [0, 1, 2, 3, 4, 5] rfl
      have hDc := hD.sub (ws' := [(om, .inr (20, [.ref mt, .ref qu, .int 0, .int th, .ref lv, .int (-1), .int 0, .int 0, .ref mi, .int 0, .int 0, .int 0, .int 0, .ref ml, .ref mss, .ref rn, .ref sw, .ref mf, .null, .int 0, .ref msp, .int 0, .int 0, .int 0])), (lv, .inr (1, [.int 0, .ref de, .int 0])), (rn, .inr (1, [.int 0, .ref de, .int 0])), (sw, .inr (1, [.int 0, .ref de, .int 0])), (ml, .inl (cS, 6, .inl (slotF))), (mf, .inl (cF, 96, .inl (fun _ => 0)))]) [0, 1, 2, 3, 4, 5] (by decide) rfl
      have hKc := hK.sub (tys' := [(cS, .int), (cF, .int)]) [0, 1] rfl
      have hFc := va_free (wc := [(om, .inr (20, [.ref mt, .ref qu, .int 0, .int th, .ref lv, .int (-1), .int 0, .int 0, .ref mi, .int 0, .int 0, .int 0, .int 0, .ref ml, .ref mss, .ref rn, .ref sw, .ref mf, .null, .int 0, .ref msp, .int 0, .int 0, .int 0])), (lv, .inr (1, [.int 0, .ref de, .int 0])), (rn, .inr (1, [.int 0, .ref de, .int 0])), (sw, .inr (1, [.int 0, .ref de, .int 0])), (ml, .inl (cS, 6, .inl (slotF))), (mf, .inl (cF, 96, .inl (fun _ => 0)))]) hD hS hA [0, 1, 2, 3, 4, 5] rfl
      refine va_calli (va_runV (As := [.int 1]) (rest := []) ⟨hx, hb, hml, hown, ht⟩ (c_X18_raises l dC dI de (om) (mt) (qu) (lv) (mi) (ml) (mss) (rn) (sw) (mf) (msp) (cS) (cF) (th) (1) s.heap.size) (cwV 1 ht (gWV (wr_21 _ (List.mem_of_getElem? (i := 4) rfl)) (wr_21 _ (List.mem_of_getElem? (i := 5) rfl)) (wr_21 _ (List.mem_of_getElem? (i := 6) rfl)) (wr_1 _ (List.mem_of_getElem? (i := 5) rfl)) (wr_21 _ (List.mem_of_getElem? (i := 7) rfl))) rfl rfl rfl (by decide +kernel) ⟨Nat.le_of_ble_eq_true rfl, Nat.le_of_ble_eq_true rfl⟩) ⟨PW_blind, va_recv hKc hPc (ci := 20) (q0 := 0) rfl rfl, PW_call hPc hDc hKc hS hG hFc⟩ rfl rfl hl.1 rfl (lv_room (Nat.le_of_ble_eq_true rfl)) dX18_hardest_14 ⟨Nat.le_of_ble_eq_true rfl, Nat.le_of_ble_eq_true rfl⟩) hS (fun q _ h => hFc q h) hFc (fun r_14 u t H1 locs ht9 hvm hw hB hz1 hk1 hS => ?_)
      obtain ⟨hP1, hK1, hD1⟩ := hB
      rw [ht9] at hP1
      have hK1 := va_K.moved hvm.symm hK1
      obtain ⟨hP, hD⟩ := va_join (wr := []) (w1 := [(om, .inr (20, [.ref mt, .ref qu, .int 0, .int 1, .ref lv, .int (-1), .int 0, .int 0, .ref mi, .int 0, .int 0, .int 0, .int 0, .ref ml, .ref mss, .ref rn, .ref sw, .ref mf, .null, .int 0, .ref msp, .int 0, .int 0, .int 0])), (lv, .inr (1, [.int 0, .ref de, .int 0])), (rn, .inr (1, [.int 0, .ref de, .int 0])), (sw, .inr (1, [.int 0, .ref de, .int 0])), (ml, .inl (cS, 6, .inl (slotF))), (mf, .inl (cF, 96, .inl (fun _ => 0)))]) hP hD [0, 1, 2, 3, 4, 5] [] rfl rfl (by decide) (by decide) hk1 hFc hP1 hD1
      have hK := (hK.sub (tys' := []) [] rfl).app hK1
      generalize H1 = H at hP hS ⊢
      replace hP : va_P (dC, dI) vwCl [(om, .inr (20, [.ref mt, .ref qu, .int 0, .int 1, .ref lv, .int (-1), .int 0, .int 0, .ref mi, .int 0, .int 0, .int 0, .int 0, .ref ml, .ref mss, .ref rn, .ref sw, .ref mf, .null, .int 0, .ref msp, .int 0, .int 0, .int 0])), (lv, .inr (1, [.int 0, .ref de, .int 0])), (rn, .inr (1, [.int 0, .ref de, .int 0])), (sw, .inr (1, [.int 0, .ref de, .int 0])), (ml, .inl (cS, 6, .inl (slotF))), (mf, .inl (cF, 96, .inl (fun _ => 0)))] H := hP
      replace hD : va_D A [(om, .inr (20, [.ref mt, .ref qu, .int 0, .int 1, .ref lv, .int (-1), .int 0, .int 0, .ref mi, .int 0, .int 0, .int 0, .int 0, .ref ml, .ref mss, .ref rn, .ref sw, .ref mf, .null, .int 0, .ref msp, .int 0, .int 0, .int 0])), (lv, .inr (1, [.int 0, .ref de, .int 0])), (rn, .inr (1, [.int 0, .ref de, .int 0])), (sw, .inr (1, [.int 0, .ref de, .int 0])), (ml, .inl (cS, 6, .inl (slotF))), (mf, .inl (cF, 96, .inl (fun _ => 0)))] := hD
      have hK : va_K (dC, dI) vwCl [(cS, .int), (cF, .int)] s := hK
      have e_14 : r_14 = 0 := hw
      subst e_14
      have hP9 := hP.sub (ws' := [(om, .inr (20, [.ref mt, .ref qu, .int 0, .int 1, .ref lv, .int (-1), .int 0, .int 0, .ref mi, .int 0, .int 0, .int 0, .int 0, .ref ml, .ref mss, .ref rn, .ref sw, .ref mf, .null, .int 0, .ref msp, .int 0, .int 0, .int 0])), (lv, .inr (1, [.int 0, .ref de, .int 0])), (rn, .inr (1, [.int 0, .ref de, .int 0])), (sw, .inr (1, [.int 0, .ref de, .int 0])), (ml, .inl (cS, 6, .inl (slotF))), (mf, .inl (cF, 96, .inl (fun _ => 0)))]) [0, 1, 2, 3, 4, 5] rfl
      have hD9 := hD.sub (ws' := [(om, .inr (20, [.ref mt, .ref qu, .int 0, .int 1, .ref lv, .int (-1), .int 0, .int 0, .ref mi, .int 0, .int 0, .int 0, .int 0, .ref ml, .ref mss, .ref rn, .ref sw, .ref mf, .null, .int 0, .ref msp, .int 0, .int 0, .int 0])), (lv, .inr (1, [.int 0, .ref de, .int 0])), (rn, .inr (1, [.int 0, .ref de, .int 0])), (sw, .inr (1, [.int 0, .ref de, .int 0])), (ml, .inl (cS, 6, .inl (slotF))), (mf, .inl (cF, 96, .inl (fun _ => 0)))]) [0, 1, 2, 3, 4, 5] (by decide) rfl
      have hK9 := hK.sub (tys' := [(cS, .int), (cF, .int)]) [0, 1] rfl
      exact W.iret (v := 0) hx hb hr (fun t htt hW => have ht := htt; ⟨⟨0, 1, rfl, (Or.inl ⟨rfl, (fun h => h.elim c_3 c_9)⟩), QW_of ht hW hP9 hK9 hD9⟩, hS.F ht⟩) hS.2.2 dX18_hardest_17
set_option maxHeartbeats 4000000 in
set_option maxRecDepth 100000 in
theorem c_X18_keep (l : Launch) (dC : Nat → ClassId) (dI : Nat → Nat → Nat) (de : Nat) (om : Nat) (mt : Nat) (qu : Nat) (lv : Nat) (mi : Nat) (ml : Nat) (mss : Nat) (rn : Nat) (sw : Nat) (mf : Nat) (msp : Nat) (cS : ClassId) (cF : ClassId) (th : Int32) (sz : Nat) : Met l yX18_keep (.code yX18_keep cX18_keep 2 (some .int) :: wsL_law) { frames := 0, cells := 0, slots := 0, locals := 0 } (va_Pc [.ref om] (PW dC dI de [(cS, .int), (cF, .int)] (WM om mt qu lv mi ml mss rn sw mf msp cS cF th de) sz)) (va_Qi (fun (r : Int32) (u : Unit) => True) (fun (_ : Unit) (t : State) => QW dC dI [(cS, .int), (cF, .int)] (WM om mt qu lv mi ml mss rn sw mf msp cS cF 1 de) (va_A (WM om mt qu lv mi ml mss rn sw mf msp cS cF th de) sz) t) (va_A (WM om mt qu lv mi ml mss rn sw mf msp cS cF th de) sz)) 0 0 (va_A (WM om mt qu lv mi ml mss rn sw mf msp cS cF th de) sz) := by
  refine Met.ofW (cc := cX18_keep) (maxL := 2) (ret := (some .int)) (by decide) rfl ?_
  intro p e s m args below meth c s₁ B hml hv
  obtain ⟨rfl, hsz, hP, hK, hD0, hG⟩ := hv
  have hx := B.exec
  have hb := B.bytes
  have hr := B.returns
  have hts := atoms_spec (ws := .code yX18_keep cX18_keep 2 (some .int) :: wsL_law) B.pre
  have ht : ∀ w ∈ wsL_law, w.before _ s = true := fun w h => hts w (List.mem_cons_of_mem _ h)
  have hown : s.vm.findClass RX18 = some m.cls := findClass_of_methodNamed B.named
  have hlocks := B.notSynchronized
  subst hsz
  have hD := hD0.self (sz := s.heap.size)
  generalize hAe : va_A (WM om mt qu lv mi ml mss rn sw mf msp cS cF th de) s.heap.size = A at hD hG ⊢
  have hA : ∀ q : Nat, s.heap.size ≤ q → A q := fun q h => by rw [← hAe]; exact Or.inr h
  have hS : va_S A s.heap s.heap [] := va_S.rf
  have hP : va_P (dC, dI) vwCl [(om, .inr (20, [.ref mt, .ref qu, .int 0, .int th, .ref lv, .int (-1), .int 0, .int 0, .ref mi, .int 0, .int 0, .int 0, .int 0, .ref ml, .ref mss, .ref rn, .ref sw, .ref mf, .null, .int 0, .ref msp, .int 0, .int 0, .int 0])), (lv, .inr (1, [.int 0, .ref de, .int 0])), (rn, .inr (1, [.int 0, .ref de, .int 0])), (sw, .inr (1, [.int 0, .ref de, .int 0])), (ml, .inl (cS, 6, .inl (slotF))), (mf, .inl (cF, 96, .inl (fun _ => 0)))] s.heap := hP
  have hD : va_D A [(om, .inr (20, [.ref mt, .ref qu, .int 0, .int th, .ref lv, .int (-1), .int 0, .int 0, .ref mi, .int 0, .int 0, .int 0, .int 0, .ref ml, .ref mss, .ref rn, .ref sw, .ref mf, .null, .int 0, .ref msp, .int 0, .int 0, .int 0])), (lv, .inr (1, [.int 0, .ref de, .int 0])), (rn, .inr (1, [.int 0, .ref de, .int 0])), (sw, .inr (1, [.int 0, .ref de, .int 0])), (ml, .inl (cS, 6, .inl (slotF))), (mf, .inl (cF, 96, .inl (fun _ => 0)))] := hD
  have hl := lv_entry ([.ref om]) (n := 2) (Nat.le_of_ble_eq_true rfl)
  rw [lg_entry_eq]
  generalize (lg_sl ([.ref om]) ++ List.replicate (2 - (lg_sl ([.ref om])).length) Slot.unset).toArray = ls at hl ⊢
  have hl : lv_has ls 2 [(0, .ref om)] := hl
  refine lv_aload_n hx hb dX18_keep_0 rfl (lv_at hl 0 rfl) ?_
  refine lv_aload_n hx hb dX18_keep_1 rfl (lv_at hl 0 rfl) ?_
  refine va_get (D := (dC, dI)) (ci := 20) (v := .int (-1)) (C := RX18) (T := TX18) (N := 24) hx hb ht inlX18 hown hK hP 0 rfl rfl 5 (by decide) (ht _ (wr_8 _ (List.mem_of_getElem? (i := 8) rfl))) (fun _ h9 => h9) rfl dX18_keep_2 ?_
  refine lv_iconst (v := -1) hx hb dX18_keep_5 (by decide) ?_
  refine lv_icmp_eq (tgt := 23) hx hb dX18_keep_6 (by decide) (fun c_6 => ?_) (fun c_6 => absurd c_6 (by decide))
  refine lv_iconst (v := 1) hx hb dX18_keep_23 (by decide) ?_
  refine lv_goto (tgt := 44) hx hb dX18_keep_24 (by decide) ?_
  refine va_put (D := (dC, dI)) (ci := 20) (v := .int 1) (ty := .int) (C := RX18) (T := TX18) (N := 24) hx hb ht inlX18 tyX18 tyX18_ok nmX18 hown hK hP hD hS 0 rfl rfl 3 (by decide) (ht _ (wr_17 _ (List.mem_of_getElem? (i := 5) rfl))) (fun _ h9 => h9) rfl (by decide +kernel) rfl rfl (Nat.le_of_ble_eq_true rfl) dX18_keep_44 (fun H locs hP hD hS => ?_)
  replace hP : va_P (dC, dI) vwCl [(om, .inr (20, [.ref mt, .ref qu, .int 0, .int 1, .ref lv, .int (-1), .int 0, .int 0, .ref mi, .int 0, .int 0, .int 0, .int 0, .ref ml, .ref mss, .ref rn, .ref sw, .ref mf, .null, .int 0, .ref msp, .int 0, .int 0, .int 0])), (lv, .inr (1, [.int 0, .ref de, .int 0])), (rn, .inr (1, [.int 0, .ref de, .int 0])), (sw, .inr (1, [.int 0, .ref de, .int 0])), (ml, .inl (cS, 6, .inl (slotF))), (mf, .inl (cF, 96, .inl (fun _ => 0)))] H := hP
  replace hD : va_D A [(om, .inr (20, [.ref mt, .ref qu, .int 0, .int 1, .ref lv, .int (-1), .int 0, .int 0, .ref mi, .int 0, .int 0, .int 0, .int 0, .ref ml, .ref mss, .ref rn, .ref sw, .ref mf, .null, .int 0, .ref msp, .int 0, .int 0, .int 0])), (lv, .inr (1, [.int 0, .ref de, .int 0])), (rn, .inr (1, [.int 0, .ref de, .int 0])), (sw, .inr (1, [.int 0, .ref de, .int 0])), (ml, .inl (cS, 6, .inl (slotF))), (mf, .inl (cF, 96, .inl (fun _ => 0)))] := hD
  refine lv_aload_n hx hb dX18_keep_47 rfl (lv_at hl 0 rfl) ?_
  refine va_get (D := (dC, dI)) (ci := 20) (v := .int 1) (C := RX18) (T := TX18) (N := 24) hx hb ht inlX18 hown hK hP 0 rfl rfl 3 (by decide) (ht _ (wr_17 _ (List.mem_of_getElem? (i := 5) rfl))) (fun _ h9 => h9) rfl dX18_keep_48 ?_
  refine lv_if_le (tgt := 56) hx hb dX18_keep_51 (by decide) (fun c_51 => absurd c_51 (by decide)) (fun c_51 => ?_)
  refine lv_iconst (v := 0) hx hb dX18_keep_54 (by decide) ?_
  have hP9 := hP.sub (ws' := [(om, .inr (20, [.ref mt, .ref qu, .int 0, .int 1, .ref lv, .int (-1), .int 0, .int 0, .ref mi, .int 0, .int 0, .int 0, .int 0, .ref ml, .ref mss, .ref rn, .ref sw, .ref mf, .null, .int 0, .ref msp, .int 0, .int 0, .int 0])), (lv, .inr (1, [.int 0, .ref de, .int 0])), (rn, .inr (1, [.int 0, .ref de, .int 0])), (sw, .inr (1, [.int 0, .ref de, .int 0])), (ml, .inl (cS, 6, .inl (slotF))), (mf, .inl (cF, 96, .inl (fun _ => 0)))]) [0, 1, 2, 3, 4, 5] rfl
  have hD9 := hD.sub (ws' := [(om, .inr (20, [.ref mt, .ref qu, .int 0, .int 1, .ref lv, .int (-1), .int 0, .int 0, .ref mi, .int 0, .int 0, .int 0, .int 0, .ref ml, .ref mss, .ref rn, .ref sw, .ref mf, .null, .int 0, .ref msp, .int 0, .int 0, .int 0])), (lv, .inr (1, [.int 0, .ref de, .int 0])), (rn, .inr (1, [.int 0, .ref de, .int 0])), (sw, .inr (1, [.int 0, .ref de, .int 0])), (ml, .inl (cS, 6, .inl (slotF))), (mf, .inl (cF, 96, .inl (fun _ => 0)))]) [0, 1, 2, 3, 4, 5] (by decide) rfl
  have hK9 := hK.sub (tys' := [(cS, .int), (cF, .int)]) [0, 1] rfl
  exact W.iret (v := 0) hx hb hr (fun t htt hW => have ht := htt; ⟨⟨0, (), rfl, trivial, QW_of ht hW hP9 hK9 hD9⟩, hS.F ht⟩) hS.2.2 dX18_keep_55
set_option maxHeartbeats 4000000 in
set_option maxRecDepth 100000 in
theorem c_X18_levels (l : Launch) (dC : Nat → ClassId) (dI : Nat → Nat → Nat) (de : Nat) (om : Nat) (mt : Nat) (qu : Nat) (lv : Nat) (mi : Nat) (ml : Nat) (mss : Nat) (rn : Nat) (sw : Nat) (mf : Nat) (msp : Nat) (cS : ClassId) (cF : ClassId) (th : Int32) (sz : Nat) : Met l yX18_levels (.code yX18_levels cX18_levels 1 (some .int) :: wsL_law) { frames := 1, cells := 0, slots := 0, locals := 20 } (va_Pc [.ref om] (PW dC dI de [(cS, .int), (cF, .int)] (WM om mt qu lv mi ml mss rn sw mf msp cS cF th de) sz)) (va_Qi (fun (r : Int32) (u : Unit) => r = 0) (fun (_ : Unit) (t : State) => QW dC dI [(cS, .int), (cF, .int)] (WM om mt qu lv mi ml mss rn sw mf msp cS cF 0 de) (va_A (WM om mt qu lv mi ml mss rn sw mf msp cS cF th de) sz) t) (va_A (WM om mt qu lv mi ml mss rn sw mf msp cS cF th de) sz)) 0 0 (va_A (WM om mt qu lv mi ml mss rn sw mf msp cS cF th de) sz) := by
  refine Met.ofW (cc := cX18_levels) (maxL := 1) (ret := (some .int)) (by decide) rfl ?_
  intro p e s m args below meth c s₁ B hml hv
  obtain ⟨rfl, hsz, hP, hK, hD0, hG⟩ := hv
  have hx := B.exec
  have hb := B.bytes
  have hr := B.returns
  have hts := atoms_spec (ws := .code yX18_levels cX18_levels 1 (some .int) :: wsL_law) B.pre
  have ht : ∀ w ∈ wsL_law, w.before _ s = true := fun w h => hts w (List.mem_cons_of_mem _ h)
  have hown : s.vm.findClass RX18 = some m.cls := findClass_of_methodNamed B.named
  have hlocks := B.notSynchronized
  subst hsz
  have hD := hD0.self (sz := s.heap.size)
  generalize hAe : va_A (WM om mt qu lv mi ml mss rn sw mf msp cS cF th de) s.heap.size = A at hD hG ⊢
  have hA : ∀ q : Nat, s.heap.size ≤ q → A q := fun q h => by rw [← hAe]; exact Or.inr h
  have hS : va_S A s.heap s.heap [] := va_S.rf
  have hP : va_P (dC, dI) vwCl [(om, .inr (20, [.ref mt, .ref qu, .int 0, .int th, .ref lv, .int (-1), .int 0, .int 0, .ref mi, .int 0, .int 0, .int 0, .int 0, .ref ml, .ref mss, .ref rn, .ref sw, .ref mf, .null, .int 0, .ref msp, .int 0, .int 0, .int 0])), (lv, .inr (1, [.int 0, .ref de, .int 0])), (rn, .inr (1, [.int 0, .ref de, .int 0])), (sw, .inr (1, [.int 0, .ref de, .int 0])), (ml, .inl (cS, 6, .inl (slotF))), (mf, .inl (cF, 96, .inl (fun _ => 0)))] s.heap := hP
  have hD : va_D A [(om, .inr (20, [.ref mt, .ref qu, .int 0, .int th, .ref lv, .int (-1), .int 0, .int 0, .ref mi, .int 0, .int 0, .int 0, .int 0, .ref ml, .ref mss, .ref rn, .ref sw, .ref mf, .null, .int 0, .ref msp, .int 0, .int 0, .int 0])), (lv, .inr (1, [.int 0, .ref de, .int 0])), (rn, .inr (1, [.int 0, .ref de, .int 0])), (sw, .inr (1, [.int 0, .ref de, .int 0])), (ml, .inl (cS, 6, .inl (slotF))), (mf, .inl (cF, 96, .inl (fun _ => 0)))] := hD
  have hl := lv_entry ([.ref om]) (n := 1) (Nat.le_of_ble_eq_true rfl)
  rw [lg_entry_eq]
  generalize (lg_sl ([.ref om]) ++ List.replicate (1 - (lg_sl ([.ref om])).length) Slot.unset).toArray = ls at hl ⊢
  have hl : lv_has ls 1 [(0, .ref om)] := hl
  refine lv_aload_n hx hb dX18_levels_0 rfl (lv_at hl 0 rfl) ?_
  refine lv_iconst (v := 0) hx hb dX18_levels_1 (by decide) ?_
  refine va_put (D := (dC, dI)) (ci := 20) (v := .int 0) (ty := .int) (C := RX18) (T := TX18) (N := 24) hx hb ht inlX18 tyX18 tyX18_ok nmX18 hown hK hP hD hS 0 rfl rfl 3 (by decide) (ht _ (wr_17 _ (List.mem_of_getElem? (i := 5) rfl))) (fun _ h9 => h9) rfl (by decide +kernel) rfl rfl (Nat.le_of_ble_eq_true rfl) dX18_levels_2 (fun H locs hP hD hS => ?_)
  replace hP : va_P (dC, dI) vwCl [(om, .inr (20, [.ref mt, .ref qu, .int 0, .int 0, .ref lv, .int (-1), .int 0, .int 0, .ref mi, .int 0, .int 0, .int 0, .int 0, .ref ml, .ref mss, .ref rn, .ref sw, .ref mf, .null, .int 0, .ref msp, .int 0, .int 0, .int 0])), (lv, .inr (1, [.int 0, .ref de, .int 0])), (rn, .inr (1, [.int 0, .ref de, .int 0])), (sw, .inr (1, [.int 0, .ref de, .int 0])), (ml, .inl (cS, 6, .inl (slotF))), (mf, .inl (cF, 96, .inl (fun _ => 0)))] H := hP
  replace hD : va_D A [(om, .inr (20, [.ref mt, .ref qu, .int 0, .int 0, .ref lv, .int (-1), .int 0, .int 0, .ref mi, .int 0, .int 0, .int 0, .int 0, .ref ml, .ref mss, .ref rn, .ref sw, .ref mf, .null, .int 0, .ref msp, .int 0, .int 0, .int 0])), (lv, .inr (1, [.int 0, .ref de, .int 0])), (rn, .inr (1, [.int 0, .ref de, .int 0])), (sw, .inr (1, [.int 0, .ref de, .int 0])), (ml, .inl (cS, 6, .inl (slotF))), (mf, .inl (cF, 96, .inl (fun _ => 0)))] := hD
  refine lv_aload_n hx hb dX18_levels_5 rfl (lv_at hl 0 rfl) ?_
  refine va_get (D := (dC, dI)) (ci := 20) (v := .ref lv) (C := RX18) (T := TX18) (N := 24) hx hb ht inlX18 hown hK hP 0 rfl rfl 4 (by decide) (ht _ (wr_8 _ (List.mem_of_getElem? (i := 7) rfl))) (fun _ h9 => h9) rfl dX18_levels_6 ?_
  have hPc := hP.sub (ws' := [(lv, .inr (1, [.int 0, .ref de, .int 0]))]) [1] rfl
  have hDc := hD.sub (ws' := [(lv, .inr (1, [.int 0, .ref de, .int 0]))]) [1] (by decide) rfl
  have hKc := hK.sub (tys' := []) [] rfl
  have hFc := va_free (wc := [(lv, .inr (1, [.int 0, .ref de, .int 0]))]) hD hS hA [1] rfl
  refine va_calli (va_runV (As := []) (rest := []) ⟨hx, hb, hml, hown, ht⟩ (c_Jx4a65c_size_8abf5 l dC dI de (lv) (0) (.ref de) (0) H.size) (cwV 0 ht (gWV (wr_17 _ (List.mem_of_getElem? (i := 16) rfl)) (wr_14 _ (List.mem_of_getElem? (i := 6) rfl)) (wr_14 _ (List.mem_of_getElem? (i := 7) rfl)) (wr_1 _ (List.mem_of_getElem? (i := 16) rfl)) (wr_14 _ (List.mem_of_getElem? (i := 8) rfl))) rfl rfl rfl (by decide +kernel) ⟨Nat.le_of_ble_eq_true rfl, Nat.le_of_ble_eq_true rfl⟩) ⟨PW_blind, va_recv hKc hPc (ci := 1) (q0 := 0) rfl rfl, PW_call hPc hDc hKc hS hG hFc⟩ rfl rfl hl.1 rfl (lv_room (Nat.le_of_ble_eq_true rfl)) dX18_levels_9 ⟨Nat.le_of_ble_eq_true rfl, Nat.le_of_ble_eq_true rfl⟩) hS (fun q _ h => hFc q h) hFc (fun r_9 u t H1 locs ht9 hvm hw hB hz1 hk1 hS => ?_)
  obtain ⟨hP1, hK1, hD1⟩ := hB
  rw [ht9] at hP1
  have hK1 := va_K.moved hvm.symm hK1
  obtain ⟨hP, hD⟩ := va_join (wr := [(om, .inr (20, [.ref mt, .ref qu, .int 0, .int 0, .ref lv, .int (-1), .int 0, .int 0, .ref mi, .int 0, .int 0, .int 0, .int 0, .ref ml, .ref mss, .ref rn, .ref sw, .ref mf, .null, .int 0, .ref msp, .int 0, .int 0, .int 0])), (rn, .inr (1, [.int 0, .ref de, .int 0])), (sw, .inr (1, [.int 0, .ref de, .int 0])), (ml, .inl (cS, 6, .inl (slotF))), (mf, .inl (cF, 96, .inl (fun _ => 0)))]) (w1 := [(lv, .inr (1, [.int 0, .ref de, .int 0]))]) hP hD [1] [0, 2, 3, 4, 5] rfl rfl (by decide) (by decide) hk1 hFc hP1 hD1
  have hK := (hK.sub (tys' := [(cS, .int), (cF, .int)]) [0, 1] rfl).app hK1
  generalize H1 = H at hP hS ⊢
  replace hP : va_P (dC, dI) vwCl [(om, .inr (20, [.ref mt, .ref qu, .int 0, .int 0, .ref lv, .int (-1), .int 0, .int 0, .ref mi, .int 0, .int 0, .int 0, .int 0, .ref ml, .ref mss, .ref rn, .ref sw, .ref mf, .null, .int 0, .ref msp, .int 0, .int 0, .int 0])), (rn, .inr (1, [.int 0, .ref de, .int 0])), (sw, .inr (1, [.int 0, .ref de, .int 0])), (ml, .inl (cS, 6, .inl (slotF))), (mf, .inl (cF, 96, .inl (fun _ => 0))), (lv, .inr (1, [.int 0, .ref de, .int 0]))] H := hP
  replace hD : va_D A [(om, .inr (20, [.ref mt, .ref qu, .int 0, .int 0, .ref lv, .int (-1), .int 0, .int 0, .ref mi, .int 0, .int 0, .int 0, .int 0, .ref ml, .ref mss, .ref rn, .ref sw, .ref mf, .null, .int 0, .ref msp, .int 0, .int 0, .int 0])), (rn, .inr (1, [.int 0, .ref de, .int 0])), (sw, .inr (1, [.int 0, .ref de, .int 0])), (ml, .inl (cS, 6, .inl (slotF))), (mf, .inl (cF, 96, .inl (fun _ => 0))), (lv, .inr (1, [.int 0, .ref de, .int 0]))] := hD
  have hK : va_K (dC, dI) vwCl [(cS, .int), (cF, .int)] s := hK
  have e_9 : r_9 = 0 := hw
  subst e_9
  have hP9 := hP.sub (ws' := [(om, .inr (20, [.ref mt, .ref qu, .int 0, .int 0, .ref lv, .int (-1), .int 0, .int 0, .ref mi, .int 0, .int 0, .int 0, .int 0, .ref ml, .ref mss, .ref rn, .ref sw, .ref mf, .null, .int 0, .ref msp, .int 0, .int 0, .int 0])), (lv, .inr (1, [.int 0, .ref de, .int 0])), (rn, .inr (1, [.int 0, .ref de, .int 0])), (sw, .inr (1, [.int 0, .ref de, .int 0])), (ml, .inl (cS, 6, .inl (slotF))), (mf, .inl (cF, 96, .inl (fun _ => 0)))]) [0, 5, 1, 2, 3, 4] rfl
  have hD9 := hD.sub (ws' := [(om, .inr (20, [.ref mt, .ref qu, .int 0, .int 0, .ref lv, .int (-1), .int 0, .int 0, .ref mi, .int 0, .int 0, .int 0, .int 0, .ref ml, .ref mss, .ref rn, .ref sw, .ref mf, .null, .int 0, .ref msp, .int 0, .int 0, .int 0])), (lv, .inr (1, [.int 0, .ref de, .int 0])), (rn, .inr (1, [.int 0, .ref de, .int 0])), (sw, .inr (1, [.int 0, .ref de, .int 0])), (ml, .inl (cS, 6, .inl (slotF))), (mf, .inl (cF, 96, .inl (fun _ => 0)))]) [0, 5, 1, 2, 3, 4] (by decide) rfl
  have hK9 := hK.sub (tys' := [(cS, .int), (cF, .int)]) [0, 1] rfl
  exact W.iret (v := 0) hx hb hr (fun t htt hW => have ht := htt; ⟨⟨0, (), rfl, rfl, QW_of ht hW hP9 hK9 hD9⟩, hS.F ht⟩) hS.2.2 dX18_levels_12
set_option maxHeartbeats 4000000 in
set_option maxRecDepth 100000 in
theorem c_X18_deaths (l : Launch) (dC : Nat → ClassId) (dI : Nat → Nat → Nat) (de : Nat) (om : Nat) (mt : Nat) (qu : Nat) (lv : Nat) (mi : Nat) (ml : Nat) (mss : Nat) (rn : Nat) (sw : Nat) (mf : Nat) (msp : Nat) (cS : ClassId) (cF : ClassId) (th : Int32) (sz : Nat) : Met l yX18_deaths (.code yX18_deaths cX18_deaths 1 (some .int) :: wsL_law) { frames := 0, cells := 0, slots := 0, locals := 0 } (va_Pc [.ref om] (PW dC dI de [(cS, .int), (cF, .int)] (WM om mt qu lv mi ml mss rn sw mf msp cS cF th de) sz)) (va_Qi (fun (r : Int32) (u : Unit) => r = 0) (fun (_ : Unit) (t : State) => QW dC dI [(cS, .int), (cF, .int)] (WM om mt qu lv mi ml mss rn sw mf msp cS cF 0 de) (va_A (WM om mt qu lv mi ml mss rn sw mf msp cS cF th de) sz) t) (va_A (WM om mt qu lv mi ml mss rn sw mf msp cS cF th de) sz)) 0 0 (va_A (WM om mt qu lv mi ml mss rn sw mf msp cS cF th de) sz) := by
  refine Met.ofW (cc := cX18_deaths) (maxL := 1) (ret := (some .int)) (by decide) rfl ?_
  intro p e s m args below meth c s₁ B hml hv
  obtain ⟨rfl, hsz, hP, hK, hD0, hG⟩ := hv
  have hx := B.exec
  have hb := B.bytes
  have hr := B.returns
  have hts := atoms_spec (ws := .code yX18_deaths cX18_deaths 1 (some .int) :: wsL_law) B.pre
  have ht : ∀ w ∈ wsL_law, w.before _ s = true := fun w h => hts w (List.mem_cons_of_mem _ h)
  have hown : s.vm.findClass RX18 = some m.cls := findClass_of_methodNamed B.named
  have hlocks := B.notSynchronized
  subst hsz
  have hD := hD0.self (sz := s.heap.size)
  generalize hAe : va_A (WM om mt qu lv mi ml mss rn sw mf msp cS cF th de) s.heap.size = A at hD hG ⊢
  have hA : ∀ q : Nat, s.heap.size ≤ q → A q := fun q h => by rw [← hAe]; exact Or.inr h
  have hS : va_S A s.heap s.heap [] := va_S.rf
  have hP : va_P (dC, dI) vwCl [(om, .inr (20, [.ref mt, .ref qu, .int 0, .int th, .ref lv, .int (-1), .int 0, .int 0, .ref mi, .int 0, .int 0, .int 0, .int 0, .ref ml, .ref mss, .ref rn, .ref sw, .ref mf, .null, .int 0, .ref msp, .int 0, .int 0, .int 0])), (lv, .inr (1, [.int 0, .ref de, .int 0])), (rn, .inr (1, [.int 0, .ref de, .int 0])), (sw, .inr (1, [.int 0, .ref de, .int 0])), (ml, .inl (cS, 6, .inl (slotF))), (mf, .inl (cF, 96, .inl (fun _ => 0)))] s.heap := hP
  have hD : va_D A [(om, .inr (20, [.ref mt, .ref qu, .int 0, .int th, .ref lv, .int (-1), .int 0, .int 0, .ref mi, .int 0, .int 0, .int 0, .int 0, .ref ml, .ref mss, .ref rn, .ref sw, .ref mf, .null, .int 0, .ref msp, .int 0, .int 0, .int 0])), (lv, .inr (1, [.int 0, .ref de, .int 0])), (rn, .inr (1, [.int 0, .ref de, .int 0])), (sw, .inr (1, [.int 0, .ref de, .int 0])), (ml, .inl (cS, 6, .inl (slotF))), (mf, .inl (cF, 96, .inl (fun _ => 0)))] := hD
  have hl := lv_entry ([.ref om]) (n := 1) (Nat.le_of_ble_eq_true rfl)
  rw [lg_entry_eq]
  generalize (lg_sl ([.ref om]) ++ List.replicate (1 - (lg_sl ([.ref om])).length) Slot.unset).toArray = ls at hl ⊢
  have hl : lv_has ls 1 [(0, .ref om)] := hl
  refine lv_aload_n hx hb dX18_deaths_0 rfl (lv_at hl 0 rfl) ?_
  refine lv_iconst (v := 0) hx hb dX18_deaths_1 (by decide) ?_
  refine va_put (D := (dC, dI)) (ci := 20) (v := .int 0) (ty := .int) (C := RX18) (T := TX18) (N := 24) hx hb ht inlX18 tyX18 tyX18_ok nmX18 hown hK hP hD hS 0 rfl rfl 3 (by decide) (ht _ (wr_17 _ (List.mem_of_getElem? (i := 5) rfl))) (fun _ h9 => h9) rfl (by decide +kernel) rfl rfl (Nat.le_of_ble_eq_true rfl) dX18_deaths_2 (fun H locs hP hD hS => ?_)
  replace hP : va_P (dC, dI) vwCl [(om, .inr (20, [.ref mt, .ref qu, .int 0, .int 0, .ref lv, .int (-1), .int 0, .int 0, .ref mi, .int 0, .int 0, .int 0, .int 0, .ref ml, .ref mss, .ref rn, .ref sw, .ref mf, .null, .int 0, .ref msp, .int 0, .int 0, .int 0])), (lv, .inr (1, [.int 0, .ref de, .int 0])), (rn, .inr (1, [.int 0, .ref de, .int 0])), (sw, .inr (1, [.int 0, .ref de, .int 0])), (ml, .inl (cS, 6, .inl (slotF))), (mf, .inl (cF, 96, .inl (fun _ => 0)))] H := hP
  replace hD : va_D A [(om, .inr (20, [.ref mt, .ref qu, .int 0, .int 0, .ref lv, .int (-1), .int 0, .int 0, .ref mi, .int 0, .int 0, .int 0, .int 0, .ref ml, .ref mss, .ref rn, .ref sw, .ref mf, .null, .int 0, .ref msp, .int 0, .int 0, .int 0])), (lv, .inr (1, [.int 0, .ref de, .int 0])), (rn, .inr (1, [.int 0, .ref de, .int 0])), (sw, .inr (1, [.int 0, .ref de, .int 0])), (ml, .inl (cS, 6, .inl (slotF))), (mf, .inl (cF, 96, .inl (fun _ => 0)))] := hD
  refine lv_aload_n hx hb dX18_deaths_5 rfl (lv_at hl 0 rfl) ?_
  refine va_get (D := (dC, dI)) (ci := 20) (v := .int 0) (C := RX18) (T := TX18) (N := 24) hx hb ht inlX18 hown hK hP 0 rfl rfl 12 (by decide) (ht _ (wr_54 _ (List.mem_of_getElem? (i := 6) rfl))) (fun _ h9 => h9) rfl dX18_deaths_6 ?_
  have hP9 := hP.sub (ws' := [(om, .inr (20, [.ref mt, .ref qu, .int 0, .int 0, .ref lv, .int (-1), .int 0, .int 0, .ref mi, .int 0, .int 0, .int 0, .int 0, .ref ml, .ref mss, .ref rn, .ref sw, .ref mf, .null, .int 0, .ref msp, .int 0, .int 0, .int 0])), (lv, .inr (1, [.int 0, .ref de, .int 0])), (rn, .inr (1, [.int 0, .ref de, .int 0])), (sw, .inr (1, [.int 0, .ref de, .int 0])), (ml, .inl (cS, 6, .inl (slotF))), (mf, .inl (cF, 96, .inl (fun _ => 0)))]) [0, 1, 2, 3, 4, 5] rfl
  have hD9 := hD.sub (ws' := [(om, .inr (20, [.ref mt, .ref qu, .int 0, .int 0, .ref lv, .int (-1), .int 0, .int 0, .ref mi, .int 0, .int 0, .int 0, .int 0, .ref ml, .ref mss, .ref rn, .ref sw, .ref mf, .null, .int 0, .ref msp, .int 0, .int 0, .int 0])), (lv, .inr (1, [.int 0, .ref de, .int 0])), (rn, .inr (1, [.int 0, .ref de, .int 0])), (sw, .inr (1, [.int 0, .ref de, .int 0])), (ml, .inl (cS, 6, .inl (slotF))), (mf, .inl (cF, 96, .inl (fun _ => 0)))]) [0, 1, 2, 3, 4, 5] (by decide) rfl
  have hK9 := hK.sub (tys' := [(cS, .int), (cF, .int)]) [0, 1] rfl
  exact W.iret (v := 0) hx hb hr (fun t htt hW => have ht := htt; ⟨⟨0, (), rfl, rfl, QW_of ht hW hP9 hK9 hD9⟩, hS.F ht⟩) hS.2.2 dX18_deaths_9
set_option maxHeartbeats 4000000 in
set_option maxRecDepth 100000 in
theorem c_X18_isSound (l : Launch) (dC : Nat → ClassId) (dI : Nat → Nat → Nat) (de : Nat) (om : Nat) (mt : Nat) (qu : Nat) (lv : Nat) (mi : Nat) (ml : Nat) (mss : Nat) (rn : Nat) (sw : Nat) (mf : Nat) (msp : Nat) (cS : ClassId) (cF : ClassId) (th : Int32) (sz : Nat) : Met l yX18_isSound (.code yX18_isSound cX18_isSound 1 (some .boolean) :: wsL_law) { frames := 0, cells := 0, slots := 0, locals := 0 } (va_Pc [.ref om] (PW dC dI de [(cS, .int), (cF, .int)] (WM om mt qu lv mi ml mss rn sw mf msp cS cF th de) sz)) (va_Qi (fun (r : Int32) (u : Unit) => r = 1) (fun (_ : Unit) (t : State) => QW dC dI [(cS, .int), (cF, .int)] (WM om mt qu lv mi ml mss rn sw mf msp cS cF 0 de) (va_A (WM om mt qu lv mi ml mss rn sw mf msp cS cF th de) sz) t) (va_A (WM om mt qu lv mi ml mss rn sw mf msp cS cF th de) sz)) 0 0 (va_A (WM om mt qu lv mi ml mss rn sw mf msp cS cF th de) sz) := by
  refine Met.ofW (cc := cX18_isSound) (maxL := 1) (ret := (some .boolean)) (by decide) rfl ?_
  intro p e s m args below meth c s₁ B hml hv
  obtain ⟨rfl, hsz, hP, hK, hD0, hG⟩ := hv
  have hx := B.exec
  have hb := B.bytes
  have hr := B.returns
  have hts := atoms_spec (ws := .code yX18_isSound cX18_isSound 1 (some .boolean) :: wsL_law) B.pre
  have ht : ∀ w ∈ wsL_law, w.before _ s = true := fun w h => hts w (List.mem_cons_of_mem _ h)
  have hown : s.vm.findClass RX18 = some m.cls := findClass_of_methodNamed B.named
  have hlocks := B.notSynchronized
  subst hsz
  have hD := hD0.self (sz := s.heap.size)
  generalize hAe : va_A (WM om mt qu lv mi ml mss rn sw mf msp cS cF th de) s.heap.size = A at hD hG ⊢
  have hA : ∀ q : Nat, s.heap.size ≤ q → A q := fun q h => by rw [← hAe]; exact Or.inr h
  have hS : va_S A s.heap s.heap [] := va_S.rf
  have hP : va_P (dC, dI) vwCl [(om, .inr (20, [.ref mt, .ref qu, .int 0, .int th, .ref lv, .int (-1), .int 0, .int 0, .ref mi, .int 0, .int 0, .int 0, .int 0, .ref ml, .ref mss, .ref rn, .ref sw, .ref mf, .null, .int 0, .ref msp, .int 0, .int 0, .int 0])), (lv, .inr (1, [.int 0, .ref de, .int 0])), (rn, .inr (1, [.int 0, .ref de, .int 0])), (sw, .inr (1, [.int 0, .ref de, .int 0])), (ml, .inl (cS, 6, .inl (slotF))), (mf, .inl (cF, 96, .inl (fun _ => 0)))] s.heap := hP
  have hD : va_D A [(om, .inr (20, [.ref mt, .ref qu, .int 0, .int th, .ref lv, .int (-1), .int 0, .int 0, .ref mi, .int 0, .int 0, .int 0, .int 0, .ref ml, .ref mss, .ref rn, .ref sw, .ref mf, .null, .int 0, .ref msp, .int 0, .int 0, .int 0])), (lv, .inr (1, [.int 0, .ref de, .int 0])), (rn, .inr (1, [.int 0, .ref de, .int 0])), (sw, .inr (1, [.int 0, .ref de, .int 0])), (ml, .inl (cS, 6, .inl (slotF))), (mf, .inl (cF, 96, .inl (fun _ => 0)))] := hD
  have hl := lv_entry ([.ref om]) (n := 1) (Nat.le_of_ble_eq_true rfl)
  rw [lg_entry_eq]
  generalize (lg_sl ([.ref om]) ++ List.replicate (1 - (lg_sl ([.ref om])).length) Slot.unset).toArray = ls at hl ⊢
  have hl : lv_has ls 1 [(0, .ref om)] := hl
  refine lv_aload_n hx hb dX18_isSound_0 rfl (lv_at hl 0 rfl) ?_
  refine lv_iconst (v := 0) hx hb dX18_isSound_1 (by decide) ?_
  refine va_put (D := (dC, dI)) (ci := 20) (v := .int 0) (ty := .int) (C := RX18) (T := TX18) (N := 24) hx hb ht inlX18 tyX18 tyX18_ok nmX18 hown hK hP hD hS 0 rfl rfl 3 (by decide) (ht _ (wr_17 _ (List.mem_of_getElem? (i := 5) rfl))) (fun _ h9 => h9) rfl (by decide +kernel) rfl rfl (Nat.le_of_ble_eq_true rfl) dX18_isSound_2 (fun H locs hP hD hS => ?_)
  replace hP : va_P (dC, dI) vwCl [(om, .inr (20, [.ref mt, .ref qu, .int 0, .int 0, .ref lv, .int (-1), .int 0, .int 0, .ref mi, .int 0, .int 0, .int 0, .int 0, .ref ml, .ref mss, .ref rn, .ref sw, .ref mf, .null, .int 0, .ref msp, .int 0, .int 0, .int 0])), (lv, .inr (1, [.int 0, .ref de, .int 0])), (rn, .inr (1, [.int 0, .ref de, .int 0])), (sw, .inr (1, [.int 0, .ref de, .int 0])), (ml, .inl (cS, 6, .inl (slotF))), (mf, .inl (cF, 96, .inl (fun _ => 0)))] H := hP
  replace hD : va_D A [(om, .inr (20, [.ref mt, .ref qu, .int 0, .int 0, .ref lv, .int (-1), .int 0, .int 0, .ref mi, .int 0, .int 0, .int 0, .int 0, .ref ml, .ref mss, .ref rn, .ref sw, .ref mf, .null, .int 0, .ref msp, .int 0, .int 0, .int 0])), (lv, .inr (1, [.int 0, .ref de, .int 0])), (rn, .inr (1, [.int 0, .ref de, .int 0])), (sw, .inr (1, [.int 0, .ref de, .int 0])), (ml, .inl (cS, 6, .inl (slotF))), (mf, .inl (cF, 96, .inl (fun _ => 0)))] := hD
  refine lv_iconst (v := 1) hx hb dX18_isSound_5 (by decide) ?_
  have hP9 := hP.sub (ws' := [(om, .inr (20, [.ref mt, .ref qu, .int 0, .int 0, .ref lv, .int (-1), .int 0, .int 0, .ref mi, .int 0, .int 0, .int 0, .int 0, .ref ml, .ref mss, .ref rn, .ref sw, .ref mf, .null, .int 0, .ref msp, .int 0, .int 0, .int 0])), (lv, .inr (1, [.int 0, .ref de, .int 0])), (rn, .inr (1, [.int 0, .ref de, .int 0])), (sw, .inr (1, [.int 0, .ref de, .int 0])), (ml, .inl (cS, 6, .inl (slotF))), (mf, .inl (cF, 96, .inl (fun _ => 0)))]) [0, 1, 2, 3, 4, 5] rfl
  have hD9 := hD.sub (ws' := [(om, .inr (20, [.ref mt, .ref qu, .int 0, .int 0, .ref lv, .int (-1), .int 0, .int 0, .ref mi, .int 0, .int 0, .int 0, .int 0, .ref ml, .ref mss, .ref rn, .ref sw, .ref mf, .null, .int 0, .ref msp, .int 0, .int 0, .int 0])), (lv, .inr (1, [.int 0, .ref de, .int 0])), (rn, .inr (1, [.int 0, .ref de, .int 0])), (sw, .inr (1, [.int 0, .ref de, .int 0])), (ml, .inl (cS, 6, .inl (slotF))), (mf, .inl (cF, 96, .inl (fun _ => 0)))]) [0, 1, 2, 3, 4, 5] (by decide) rfl
  have hK9 := hK.sub (tys' := [(cS, .int), (cF, .int)]) [0, 1] rfl
  exact W.zret (v := 1) hx hb hr (by decide) (fun t htt hW => have ht := htt; ⟨⟨1, (), rfl, rfl, QW_of ht hW hP9 hK9 hD9⟩, hS.F ht⟩) hS.2.2 dX18_isSound_6
set_option maxHeartbeats 4000000 in
set_option maxRecDepth 100000 in
theorem c_X18_publish (l : Launch) (dC : Nat → ClassId) (dI : Nat → Nat → Nat) (de : Nat) (om : Nat) (mt : Nat) (qu : Nat) (lv : Nat) (mi : Nat) (ml : Nat) (mss : Nat) (rn : Nat) (sw : Nat) (mf : Nat) (msp : Nat) (cS : ClassId) (cF : ClassId) (th : Int32) (a1 : Int32) (a2 : Int32) (a3 : Int32) (sz : Nat) : Met l yX18_publish (.code yX18_publish cX18_publish 8 (some .int) :: wsL_law) { frames := 1, cells := 0, slots := 0, locals := 22 } (va_Pc [.ref om, .int a1, .int a2, .int a3] (PW dC dI de [(cS, .int), (cF, .int)] (WM om mt qu lv mi ml mss rn sw mf msp cS cF th de) sz)) (va_Qi (fun (r : Int32) (u : Unit) => True) (fun (_ : Unit) (t : State) => QW dC dI [(cS, .int), (cF, .int)] (WM om mt qu lv mi ml mss rn sw mf msp cS cF 1 de) (va_A (WM om mt qu lv mi ml mss rn sw mf msp cS cF th de) sz) t) (va_A (WM om mt qu lv mi ml mss rn sw mf msp cS cF th de) sz)) 0 0 (va_A (WM om mt qu lv mi ml mss rn sw mf msp cS cF th de) sz) := by
  refine Met.ofW (cc := cX18_publish) (maxL := 8) (ret := (some .int)) (by decide) rfl ?_
  intro p e s m args below meth c s₁ B hml hv
  obtain ⟨rfl, hsz, hP, hK, hD0, hG⟩ := hv
  have hx := B.exec
  have hb := B.bytes
  have hr := B.returns
  have hts := atoms_spec (ws := .code yX18_publish cX18_publish 8 (some .int) :: wsL_law) B.pre
  have ht : ∀ w ∈ wsL_law, w.before _ s = true := fun w h => hts w (List.mem_cons_of_mem _ h)
  have hown : s.vm.findClass RX18 = some m.cls := findClass_of_methodNamed B.named
  have hlocks := B.notSynchronized
  subst hsz
  have hD := hD0.self (sz := s.heap.size)
  generalize hAe : va_A (WM om mt qu lv mi ml mss rn sw mf msp cS cF th de) s.heap.size = A at hD hG ⊢
  have hA : ∀ q : Nat, s.heap.size ≤ q → A q := fun q h => by rw [← hAe]; exact Or.inr h
  have hS : va_S A s.heap s.heap [] := va_S.rf
  have hP : va_P (dC, dI) vwCl [(om, .inr (20, [.ref mt, .ref qu, .int 0, .int th, .ref lv, .int (-1), .int 0, .int 0, .ref mi, .int 0, .int 0, .int 0, .int 0, .ref ml, .ref mss, .ref rn, .ref sw, .ref mf, .null, .int 0, .ref msp, .int 0, .int 0, .int 0])), (lv, .inr (1, [.int 0, .ref de, .int 0])), (rn, .inr (1, [.int 0, .ref de, .int 0])), (sw, .inr (1, [.int 0, .ref de, .int 0])), (ml, .inl (cS, 6, .inl (slotF))), (mf, .inl (cF, 96, .inl (fun _ => 0)))] s.heap := hP
  have hD : va_D A [(om, .inr (20, [.ref mt, .ref qu, .int 0, .int th, .ref lv, .int (-1), .int 0, .int 0, .ref mi, .int 0, .int 0, .int 0, .int 0, .ref ml, .ref mss, .ref rn, .ref sw, .ref mf, .null, .int 0, .ref msp, .int 0, .int 0, .int 0])), (lv, .inr (1, [.int 0, .ref de, .int 0])), (rn, .inr (1, [.int 0, .ref de, .int 0])), (sw, .inr (1, [.int 0, .ref de, .int 0])), (ml, .inl (cS, 6, .inl (slotF))), (mf, .inl (cF, 96, .inl (fun _ => 0)))] := hD
  have hl := lv_entry ([.ref om, .int a1, .int a2, .int a3]) (n := 8) (Nat.le_of_ble_eq_true rfl)
  rw [lg_entry_eq]
  generalize (lg_sl ([.ref om, .int a1, .int a2, .int a3]) ++ List.replicate (8 - (lg_sl ([.ref om, .int a1, .int a2, .int a3])).length) Slot.unset).toArray = ls at hl ⊢
  have hl : lv_has ls 8 [(0, .ref om), (1, .int a1), (2, .int a2), (3, .int a3)] := hl
  refine lv_iload_n hx hb dX18_publish_0 rfl (lv_at hl 1 rfl) ?_
  refine lv_iconst (v := 0) hx hb dX18_publish_1 (by decide) ?_
  refine lv_aload_n hx hb dX18_publish_2 rfl (lv_at hl 0 rfl) ?_
  refine va_get (D := (dC, dI)) (ci := 20) (v := .ref lv) (C := RX18) (T := TX18) (N := 24) hx hb ht inlX18 hown hK hP 0 rfl rfl 4 (by decide) (ht _ (wr_8 _ (List.mem_of_getElem? (i := 7) rfl))) (fun _ h9 => h9) rfl dX18_publish_3 ?_
  have hPc := hP.sub (ws' := [(lv, .inr (1, [.int 0, .ref de, .int 0]))]) [1] rfl
  have hDc := hD.sub (ws' := [(lv, .inr (1, [.int 0, .ref de, .int 0]))]) [1] (by decide) rfl
  have hKc := hK.sub (tys' := []) [] rfl
  have hFc := va_free (wc := [(lv, .inr (1, [.int 0, .ref de, .int 0]))]) hD hS hA [1] rfl
  refine va_calli (va_runV (As := []) (rest := [.int 0, .int a1]) ⟨hx, hb, hml, hown, ht⟩ (c_Jx4a65c_size_8abf5 l dC dI de (lv) (0) (.ref de) (0) s.heap.size) (cwV 0 ht (gWV (wr_17 _ (List.mem_of_getElem? (i := 16) rfl)) (wr_14 _ (List.mem_of_getElem? (i := 6) rfl)) (wr_14 _ (List.mem_of_getElem? (i := 7) rfl)) (wr_1 _ (List.mem_of_getElem? (i := 16) rfl)) (wr_14 _ (List.mem_of_getElem? (i := 8) rfl))) rfl rfl rfl (by decide +kernel) ⟨Nat.le_of_ble_eq_true rfl, Nat.le_of_ble_eq_true rfl⟩) ⟨PW_blind, va_recv hKc hPc (ci := 1) (q0 := 0) rfl rfl, PW_call hPc hDc hKc hS hG hFc⟩ rfl rfl hl.1 rfl (lv_room (Nat.le_of_ble_eq_true rfl)) dX18_publish_6 ⟨Nat.le_of_ble_eq_true rfl, Nat.le_of_ble_eq_true rfl⟩) hS (fun q _ h => hFc q h) hFc (fun r_6 u t H1 locs ht9 hvm hw hB hz1 hk1 hS => ?_)
  obtain ⟨hP1, hK1, hD1⟩ := hB
  rw [ht9] at hP1
  have hK1 := va_K.moved hvm.symm hK1
  obtain ⟨hP, hD⟩ := va_join (wr := [(om, .inr (20, [.ref mt, .ref qu, .int 0, .int th, .ref lv, .int (-1), .int 0, .int 0, .ref mi, .int 0, .int 0, .int 0, .int 0, .ref ml, .ref mss, .ref rn, .ref sw, .ref mf, .null, .int 0, .ref msp, .int 0, .int 0, .int 0])), (rn, .inr (1, [.int 0, .ref de, .int 0])), (sw, .inr (1, [.int 0, .ref de, .int 0])), (ml, .inl (cS, 6, .inl (slotF))), (mf, .inl (cF, 96, .inl (fun _ => 0)))]) (w1 := [(lv, .inr (1, [.int 0, .ref de, .int 0]))]) hP hD [1] [0, 2, 3, 4, 5] rfl rfl (by decide) (by decide) hk1 hFc hP1 hD1
  have hK := (hK.sub (tys' := [(cS, .int), (cF, .int)]) [0, 1] rfl).app hK1
  generalize H1 = H at hP hS ⊢
  replace hP : va_P (dC, dI) vwCl [(om, .inr (20, [.ref mt, .ref qu, .int 0, .int th, .ref lv, .int (-1), .int 0, .int 0, .ref mi, .int 0, .int 0, .int 0, .int 0, .ref ml, .ref mss, .ref rn, .ref sw, .ref mf, .null, .int 0, .ref msp, .int 0, .int 0, .int 0])), (rn, .inr (1, [.int 0, .ref de, .int 0])), (sw, .inr (1, [.int 0, .ref de, .int 0])), (ml, .inl (cS, 6, .inl (slotF))), (mf, .inl (cF, 96, .inl (fun _ => 0))), (lv, .inr (1, [.int 0, .ref de, .int 0]))] H := hP
  replace hD : va_D A [(om, .inr (20, [.ref mt, .ref qu, .int 0, .int th, .ref lv, .int (-1), .int 0, .int 0, .ref mi, .int 0, .int 0, .int 0, .int 0, .ref ml, .ref mss, .ref rn, .ref sw, .ref mf, .null, .int 0, .ref msp, .int 0, .int 0, .int 0])), (rn, .inr (1, [.int 0, .ref de, .int 0])), (sw, .inr (1, [.int 0, .ref de, .int 0])), (ml, .inl (cS, 6, .inl (slotF))), (mf, .inl (cF, 96, .inl (fun _ => 0))), (lv, .inr (1, [.int 0, .ref de, .int 0]))] := hD
  have hK : va_K (dC, dI) vwCl [(cS, .int), (cF, .int)] s := hK
  have e_6 : r_6 = 0 := hw
  subst e_6
  refine lv_iconst (v := 1) hx hb dX18_publish_9 (by decide) ?_
  refine lv_isub hx hb dX18_publish_10 ?_
  have hPc := hP.sub (ws' := []) [] rfl
  have hDc := hD.sub (ws' := []) [] (by decide) rfl
  have hKc := hK.sub (tys' := []) [] rfl
  have hFc := va_free (wc := []) hD hS hA [] rfl
  refine va_calli (va_runS (As := [.int a1, .int 0, .int (0 - 1)]) (rest := []) ⟨hx, hb, hml, hown, ht⟩ (c_X18_in l dC dI de (a1) (0) ((0 - 1)) H.size) (cwS 3 ht (gWS (wr_17 _ (List.mem_of_getElem? (i := 9) rfl)) (wr_17 _ (List.mem_of_getElem? (i := 10) rfl)) (wr_1 _ (List.mem_of_getElem? (i := 5) rfl)) (wr_17 _ (List.mem_of_getElem? (i := 11) rfl))) rfl rfl rfl (by decide +kernel) ⟨Nat.le_of_ble_eq_true rfl, Nat.le_of_ble_eq_true rfl⟩) ⟨PW_blind, PW_call hPc hDc hKc hS hG hFc⟩ rfl rfl hl.1 rfl (lv_room (Nat.le_of_ble_eq_true rfl)) dX18_publish_11 ⟨Nat.le_of_ble_eq_true rfl, Nat.le_of_ble_eq_true rfl⟩) hS (fun q _ h => hFc q h) hFc (fun r_11 u t H1 locs ht9 hvm hw hB hz1 hk1 hS => ?_)
  obtain ⟨hP1, hK1, hD1⟩ := hB
  rw [ht9] at hP1
  have hK1 := va_K.moved hvm.symm hK1
  obtain ⟨hP, hD⟩ := va_join (wr := [(om, .inr (20, [.ref mt, .ref qu, .int 0, .int th, .ref lv, .int (-1), .int 0, .int 0, .ref mi, .int 0, .int 0, .int 0, .int 0, .ref ml, .ref mss, .ref rn, .ref sw, .ref mf, .null, .int 0, .ref msp, .int 0, .int 0, .int 0])), (rn, .inr (1, [.int 0, .ref de, .int 0])), (sw, .inr (1, [.int 0, .ref de, .int 0])), (ml, .inl (cS, 6, .inl (slotF))), (mf, .inl (cF, 96, .inl (fun _ => 0))), (lv, .inr (1, [.int 0, .ref de, .int 0]))]) (w1 := []) hP hD [] [0, 1, 2, 3, 4, 5] rfl rfl (by decide) (by decide) hk1 hFc hP1 hD1
  have hK := (hK.sub (tys' := [(cS, .int), (cF, .int)]) [0, 1] rfl).app hK1
  generalize H1 = H at hP hS ⊢
  replace hP : va_P (dC, dI) vwCl [(om, .inr (20, [.ref mt, .ref qu, .int 0, .int th, .ref lv, .int (-1), .int 0, .int 0, .ref mi, .int 0, .int 0, .int 0, .int 0, .ref ml, .ref mss, .ref rn, .ref sw, .ref mf, .null, .int 0, .ref msp, .int 0, .int 0, .int 0])), (rn, .inr (1, [.int 0, .ref de, .int 0])), (sw, .inr (1, [.int 0, .ref de, .int 0])), (ml, .inl (cS, 6, .inl (slotF))), (mf, .inl (cF, 96, .inl (fun _ => 0))), (lv, .inr (1, [.int 0, .ref de, .int 0]))] H := hP
  replace hD : va_D A [(om, .inr (20, [.ref mt, .ref qu, .int 0, .int th, .ref lv, .int (-1), .int 0, .int 0, .ref mi, .int 0, .int 0, .int 0, .int 0, .ref ml, .ref mss, .ref rn, .ref sw, .ref mf, .null, .int 0, .ref msp, .int 0, .int 0, .int 0])), (rn, .inr (1, [.int 0, .ref de, .int 0])), (sw, .inr (1, [.int 0, .ref de, .int 0])), (ml, .inl (cS, 6, .inl (slotF))), (mf, .inl (cF, 96, .inl (fun _ => 0))), (lv, .inr (1, [.int 0, .ref de, .int 0]))] := hD
  have hK : va_K (dC, dI) vwCl [(cS, .int), (cF, .int)] s := hK
  rcases hw with ⟨rfl, m_11⟩ | ⟨rfl, m_11⟩
  · exact absurd (show (0 : Int32) ≤ a1 ∧ a1 ≤ 0 - 1 from m_11) (no_in a1)
  · refine lv_if_eq (tgt := 34) hx hb dX18_publish_14 (by decide) (fun c_14 => ?_) (fun c_14 => absurd c_14 (by decide))
    refine lv_aload_n hx hb dX18_publish_34 rfl (lv_at hl 0 rfl) ?_
    refine lv_iconst (v := 1) hx hb dX18_publish_35 (by decide) ?_
    have hPc := hP.sub (ws' := [(om, .inr (20, [.ref mt, .ref qu, .int 0, .int th, .ref lv, .int (-1), .int 0, .int 0, .ref mi, .int 0, .int 0, .int 0, .int 0, .ref ml, .ref mss, .ref rn, .ref sw, .ref mf, .null, .int 0, .ref msp, .int 0, .int 0, .int 0])), (lv, .inr (1, [.int 0, .ref de, .int 0])), (rn, .inr (1, [.int 0, .ref de, .int 0])), (sw, .inr (1, [.int 0, .ref de, .int 0])), (ml, .inl (cS, 6, .inl (slotF))), (mf, .inl (cF, 96, .inl (fun _ => 0)))]) [0, 5, 1, 2, 3, 4] rfl
    have hDc := hD.sub (ws' := [(om, .inr (20, [.ref mt, .ref qu, .int 0, .int th, .ref lv, .int (-1), .int 0, .int 0, .ref mi, .int 0, .int 0, .int 0, .int 0, .ref ml, .ref mss, .ref rn, .ref sw, .ref mf, .null, .int 0, .ref msp, .int 0, .int 0, .int 0])), (lv, .inr (1, [.int 0, .ref de, .int 0])), (rn, .inr (1, [.int 0, .ref de, .int 0])), (sw, .inr (1, [.int 0, .ref de, .int 0])), (ml, .inl (cS, 6, .inl (slotF))), (mf, .inl (cF, 96, .inl (fun _ => 0)))]) [0, 5, 1, 2, 3, 4] (by decide) rfl
    have hKc := hK.sub (tys' := [(cS, .int), (cF, .int)]) [0, 1] rfl
    have hFc := va_free (wc := [(om, .inr (20, [.ref mt, .ref qu, .int 0, .int th, .ref lv, .int (-1), .int 0, .int 0, .ref mi, .int 0, .int 0, .int 0, .int 0, .ref ml, .ref mss, .ref rn, .ref sw, .ref mf, .null, .int 0, .ref msp, .int 0, .int 0, .int 0])), (lv, .inr (1, [.int 0, .ref de, .int 0])), (rn, .inr (1, [.int 0, .ref de, .int 0])), (sw, .inr (1, [.int 0, .ref de, .int 0])), (ml, .inl (cS, 6, .inl (slotF))), (mf, .inl (cF, 96, .inl (fun _ => 0)))]) hD hS hA [0, 5, 1, 2, 3, 4] rfl
    refine va_calli (va_runV (As := [.int 1]) (rest := []) ⟨hx, hb, hml, hown, ht⟩ (c_X18_raises l dC dI de (om) (mt) (qu) (lv) (mi) (ml) (mss) (rn) (sw) (mf) (msp) (cS) (cF) (th) (1) H.size) (cwV 1 ht (gWV (wr_21 _ (List.mem_of_getElem? (i := 4) rfl)) (wr_21 _ (List.mem_of_getElem? (i := 5) rfl)) (wr_21 _ (List.mem_of_getElem? (i := 6) rfl)) (wr_1 _ (List.mem_of_getElem? (i := 5) rfl)) (wr_21 _ (List.mem_of_getElem? (i := 7) rfl))) rfl rfl rfl (by decide +kernel) ⟨Nat.le_of_ble_eq_true rfl, Nat.le_of_ble_eq_true rfl⟩) ⟨PW_blind, va_recv hKc hPc (ci := 20) (q0 := 0) rfl rfl, PW_call hPc hDc hKc hS hG hFc⟩ rfl rfl hl.1 rfl (lv_room (Nat.le_of_ble_eq_true rfl)) dX18_publish_36 ⟨Nat.le_of_ble_eq_true rfl, Nat.le_of_ble_eq_true rfl⟩) hS (fun q _ h => hFc q h) hFc (fun r_36 u t H1 locs ht9 hvm hw hB hz1 hk1 hS => ?_)
    obtain ⟨hP1, hK1, hD1⟩ := hB
    rw [ht9] at hP1
    have hK1 := va_K.moved hvm.symm hK1
    obtain ⟨hP, hD⟩ := va_join (wr := []) (w1 := [(om, .inr (20, [.ref mt, .ref qu, .int 0, .int 1, .ref lv, .int (-1), .int 0, .int 0, .ref mi, .int 0, .int 0, .int 0, .int 0, .ref ml, .ref mss, .ref rn, .ref sw, .ref mf, .null, .int 0, .ref msp, .int 0, .int 0, .int 0])), (lv, .inr (1, [.int 0, .ref de, .int 0])), (rn, .inr (1, [.int 0, .ref de, .int 0])), (sw, .inr (1, [.int 0, .ref de, .int 0])), (ml, .inl (cS, 6, .inl (slotF))), (mf, .inl (cF, 96, .inl (fun _ => 0)))]) hP hD [0, 5, 1, 2, 3, 4] [] rfl rfl (by decide) (by decide) hk1 hFc hP1 hD1
    have hK := (hK.sub (tys' := []) [] rfl).app hK1
    generalize H1 = H at hP hS ⊢
    replace hP : va_P (dC, dI) vwCl [(om, .inr (20, [.ref mt, .ref qu, .int 0, .int 1, .ref lv, .int (-1), .int 0, .int 0, .ref mi, .int 0, .int 0, .int 0, .int 0, .ref ml, .ref mss, .ref rn, .ref sw, .ref mf, .null, .int 0, .ref msp, .int 0, .int 0, .int 0])), (lv, .inr (1, [.int 0, .ref de, .int 0])), (rn, .inr (1, [.int 0, .ref de, .int 0])), (sw, .inr (1, [.int 0, .ref de, .int 0])), (ml, .inl (cS, 6, .inl (slotF))), (mf, .inl (cF, 96, .inl (fun _ => 0)))] H := hP
    replace hD : va_D A [(om, .inr (20, [.ref mt, .ref qu, .int 0, .int 1, .ref lv, .int (-1), .int 0, .int 0, .ref mi, .int 0, .int 0, .int 0, .int 0, .ref ml, .ref mss, .ref rn, .ref sw, .ref mf, .null, .int 0, .ref msp, .int 0, .int 0, .int 0])), (lv, .inr (1, [.int 0, .ref de, .int 0])), (rn, .inr (1, [.int 0, .ref de, .int 0])), (sw, .inr (1, [.int 0, .ref de, .int 0])), (ml, .inl (cS, 6, .inl (slotF))), (mf, .inl (cF, 96, .inl (fun _ => 0)))] := hD
    have hK : va_K (dC, dI) vwCl [(cS, .int), (cF, .int)] s := hK
    have e_36 : r_36 = 0 := hw
    subst e_36
    have hP9 := hP.sub (ws' := [(om, .inr (20, [.ref mt, .ref qu, .int 0, .int 1, .ref lv, .int (-1), .int 0, .int 0, .ref mi, .int 0, .int 0, .int 0, .int 0, .ref ml, .ref mss, .ref rn, .ref sw, .ref mf, .null, .int 0, .ref msp, .int 0, .int 0, .int 0])), (lv, .inr (1, [.int 0, .ref de, .int 0])), (rn, .inr (1, [.int 0, .ref de, .int 0])), (sw, .inr (1, [.int 0, .ref de, .int 0])), (ml, .inl (cS, 6, .inl (slotF))), (mf, .inl (cF, 96, .inl (fun _ => 0)))]) [0, 1, 2, 3, 4, 5] rfl
    have hD9 := hD.sub (ws' := [(om, .inr (20, [.ref mt, .ref qu, .int 0, .int 1, .ref lv, .int (-1), .int 0, .int 0, .ref mi, .int 0, .int 0, .int 0, .int 0, .ref ml, .ref mss, .ref rn, .ref sw, .ref mf, .null, .int 0, .ref msp, .int 0, .int 0, .int 0])), (lv, .inr (1, [.int 0, .ref de, .int 0])), (rn, .inr (1, [.int 0, .ref de, .int 0])), (sw, .inr (1, [.int 0, .ref de, .int 0])), (ml, .inl (cS, 6, .inl (slotF))), (mf, .inl (cF, 96, .inl (fun _ => 0)))]) [0, 1, 2, 3, 4, 5] (by decide) rfl
    have hK9 := hK.sub (tys' := [(cS, .int), (cF, .int)]) [0, 1] rfl
    exact W.iret (v := 0) hx hb hr (fun t htt hW => have ht := htt; ⟨⟨0, (), rfl, trivial, QW_of ht hW hP9 hK9 hD9⟩, hS.F ht⟩) hS.2.2 dX18_publish_39
set_option maxHeartbeats 4000000 in
set_option maxRecDepth 100000 in
theorem c_X18_fell (l : Launch) (dC : Nat → ClassId) (dI : Nat → Nat → Nat) (de : Nat) (om : Nat) (mt : Nat) (qu : Nat) (lv : Nat) (mi : Nat) (ml : Nat) (mss : Nat) (rn : Nat) (sw : Nat) (mf : Nat) (msp : Nat) (cS : ClassId) (cF : ClassId) (th : Int32) (a1 : Int32) (a2 : Int32) (sz : Nat) : Met l yX18_fell (.code yX18_fell cX18_fell 3 (some .int) :: wsL_law) { frames := 1, cells := 0, slots := 0, locals := 22 } (va_Pc [.ref om, .int a1, .int a2] (PW dC dI de [(cS, .int), (cF, .int)] (WM om mt qu lv mi ml mss rn sw mf msp cS cF th de) sz)) (va_Qi (fun (r : Int32) (th2 : Int32) => (th2 = 1 ∧ ¬ ((0 ≤ a1 ∧ a1 ≤ 11) ∧ 0 ≤ a2 ∧ a2 ≤ 7)) ∨ (th2 = 0 ∧ ((0 ≤ a1 ∧ a1 ≤ 11) ∧ 0 ≤ a2 ∧ a2 ≤ 7) ∧ r = 0)) (fun (th2 : Int32) (t : State) => QW dC dI [(cS, .int), (cF, .int)] (WM om mt qu lv mi ml mss rn sw mf msp cS cF th2 de) (va_A (WM om mt qu lv mi ml mss rn sw mf msp cS cF th de) sz) t) (va_A (WM om mt qu lv mi ml mss rn sw mf msp cS cF th de) sz)) 0 0 (va_A (WM om mt qu lv mi ml mss rn sw mf msp cS cF th de) sz) := by
  refine Met.ofW (cc := cX18_fell) (maxL := 3) (ret := (some .int)) (by decide) rfl ?_
  intro p e s m args below meth c s₁ B hml hv
  obtain ⟨rfl, hsz, hP, hK, hD0, hG⟩ := hv
  have hx := B.exec
  have hb := B.bytes
  have hr := B.returns
  have hts := atoms_spec (ws := .code yX18_fell cX18_fell 3 (some .int) :: wsL_law) B.pre
  have ht : ∀ w ∈ wsL_law, w.before _ s = true := fun w h => hts w (List.mem_cons_of_mem _ h)
  have hown : s.vm.findClass RX18 = some m.cls := findClass_of_methodNamed B.named
  have hlocks := B.notSynchronized
  subst hsz
  have hD := hD0.self (sz := s.heap.size)
  generalize hAe : va_A (WM om mt qu lv mi ml mss rn sw mf msp cS cF th de) s.heap.size = A at hD hG ⊢
  have hA : ∀ q : Nat, s.heap.size ≤ q → A q := fun q h => by rw [← hAe]; exact Or.inr h
  have hS : va_S A s.heap s.heap [] := va_S.rf
  have hP : va_P (dC, dI) vwCl [(om, .inr (20, [.ref mt, .ref qu, .int 0, .int th, .ref lv, .int (-1), .int 0, .int 0, .ref mi, .int 0, .int 0, .int 0, .int 0, .ref ml, .ref mss, .ref rn, .ref sw, .ref mf, .null, .int 0, .ref msp, .int 0, .int 0, .int 0])), (lv, .inr (1, [.int 0, .ref de, .int 0])), (rn, .inr (1, [.int 0, .ref de, .int 0])), (sw, .inr (1, [.int 0, .ref de, .int 0])), (ml, .inl (cS, 6, .inl (slotF))), (mf, .inl (cF, 96, .inl (fun _ => 0)))] s.heap := hP
  have hD : va_D A [(om, .inr (20, [.ref mt, .ref qu, .int 0, .int th, .ref lv, .int (-1), .int 0, .int 0, .ref mi, .int 0, .int 0, .int 0, .int 0, .ref ml, .ref mss, .ref rn, .ref sw, .ref mf, .null, .int 0, .ref msp, .int 0, .int 0, .int 0])), (lv, .inr (1, [.int 0, .ref de, .int 0])), (rn, .inr (1, [.int 0, .ref de, .int 0])), (sw, .inr (1, [.int 0, .ref de, .int 0])), (ml, .inl (cS, 6, .inl (slotF))), (mf, .inl (cF, 96, .inl (fun _ => 0)))] := hD
  have hl := lv_entry ([.ref om, .int a1, .int a2]) (n := 3) (Nat.le_of_ble_eq_true rfl)
  rw [lg_entry_eq]
  generalize (lg_sl ([.ref om, .int a1, .int a2]) ++ List.replicate (3 - (lg_sl ([.ref om, .int a1, .int a2])).length) Slot.unset).toArray = ls at hl ⊢
  have hl : lv_has ls 3 [(0, .ref om), (1, .int a1), (2, .int a2)] := hl
  refine lv_aload_n hx hb dX18_fell_0 rfl (lv_at hl 0 rfl) ?_
  refine lv_iload_n hx hb dX18_fell_1 rfl (lv_at hl 1 rfl) ?_
  refine lv_iconst (v := 0) hx hb dX18_fell_2 (by decide) ?_
  refine lv_bipush (v := 11) hx hb dX18_fell_3 (by decide) ?_
  have hPc := hP.sub (ws' := []) [] rfl
  have hDc := hD.sub (ws' := []) [] (by decide) rfl
  have hKc := hK.sub (tys' := []) [] rfl
  have hFc := va_free (wc := []) hD hS hA [] rfl
  refine va_calli (va_runS (As := [.int a1, .int 0, .int 11]) (rest := [.ref om]) ⟨hx, hb, hml, hown, ht⟩ (c_X18_in l dC dI de (a1) (0) (11) s.heap.size) (cwS 3 ht (gWS (wr_17 _ (List.mem_of_getElem? (i := 9) rfl)) (wr_17 _ (List.mem_of_getElem? (i := 10) rfl)) (wr_1 _ (List.mem_of_getElem? (i := 5) rfl)) (wr_17 _ (List.mem_of_getElem? (i := 11) rfl))) rfl rfl rfl (by decide +kernel) ⟨Nat.le_of_ble_eq_true rfl, Nat.le_of_ble_eq_true rfl⟩) ⟨PW_blind, PW_call hPc hDc hKc hS hG hFc⟩ rfl rfl hl.1 rfl (lv_room (Nat.le_of_ble_eq_true rfl)) dX18_fell_5 ⟨Nat.le_of_ble_eq_true rfl, Nat.le_of_ble_eq_true rfl⟩) hS (fun q _ h => hFc q h) hFc (fun r_5 u t H1 locs ht9 hvm hw hB hz1 hk1 hS => ?_)
  obtain ⟨hP1, hK1, hD1⟩ := hB
  rw [ht9] at hP1
  have hK1 := va_K.moved hvm.symm hK1
  obtain ⟨hP, hD⟩ := va_join (wr := [(om, .inr (20, [.ref mt, .ref qu, .int 0, .int th, .ref lv, .int (-1), .int 0, .int 0, .ref mi, .int 0, .int 0, .int 0, .int 0, .ref ml, .ref mss, .ref rn, .ref sw, .ref mf, .null, .int 0, .ref msp, .int 0, .int 0, .int 0])), (lv, .inr (1, [.int 0, .ref de, .int 0])), (rn, .inr (1, [.int 0, .ref de, .int 0])), (sw, .inr (1, [.int 0, .ref de, .int 0])), (ml, .inl (cS, 6, .inl (slotF))), (mf, .inl (cF, 96, .inl (fun _ => 0)))]) (w1 := []) hP hD [] [0, 1, 2, 3, 4, 5] rfl rfl (by decide) (by decide) hk1 hFc hP1 hD1
  have hK := (hK.sub (tys' := [(cS, .int), (cF, .int)]) [0, 1] rfl).app hK1
  generalize H1 = H at hP hS ⊢
  replace hP : va_P (dC, dI) vwCl [(om, .inr (20, [.ref mt, .ref qu, .int 0, .int th, .ref lv, .int (-1), .int 0, .int 0, .ref mi, .int 0, .int 0, .int 0, .int 0, .ref ml, .ref mss, .ref rn, .ref sw, .ref mf, .null, .int 0, .ref msp, .int 0, .int 0, .int 0])), (lv, .inr (1, [.int 0, .ref de, .int 0])), (rn, .inr (1, [.int 0, .ref de, .int 0])), (sw, .inr (1, [.int 0, .ref de, .int 0])), (ml, .inl (cS, 6, .inl (slotF))), (mf, .inl (cF, 96, .inl (fun _ => 0)))] H := hP
  replace hD : va_D A [(om, .inr (20, [.ref mt, .ref qu, .int 0, .int th, .ref lv, .int (-1), .int 0, .int 0, .ref mi, .int 0, .int 0, .int 0, .int 0, .ref ml, .ref mss, .ref rn, .ref sw, .ref mf, .null, .int 0, .ref msp, .int 0, .int 0, .int 0])), (lv, .inr (1, [.int 0, .ref de, .int 0])), (rn, .inr (1, [.int 0, .ref de, .int 0])), (sw, .inr (1, [.int 0, .ref de, .int 0])), (ml, .inl (cS, 6, .inl (slotF))), (mf, .inl (cF, 96, .inl (fun _ => 0)))] := hD
  have hK : va_K (dC, dI) vwCl [(cS, .int), (cF, .int)] s := hK
  rcases hw with ⟨rfl, m_5⟩ | ⟨rfl, m_5⟩
  · refine lv_if_eq (tgt := 25) hx hb dX18_fell_8 (by decide) (fun c_8 => absurd c_8 (by decide)) (fun c_8 => ?_)
    refine lv_iload_n hx hb dX18_fell_11 rfl (lv_at hl 2 rfl) ?_
    refine lv_iconst (v := 0) hx hb dX18_fell_12 (by decide) ?_
    refine lv_bipush (v := 7) hx hb dX18_fell_13 (by decide) ?_
    have hPc := hP.sub (ws' := []) [] rfl
    have hDc := hD.sub (ws' := []) [] (by decide) rfl
    have hKc := hK.sub (tys' := []) [] rfl
    have hFc := va_free (wc := []) hD hS hA [] rfl
    refine va_calli (va_runS (As := [.int a2, .int 0, .int 7]) (rest := [.ref om]) ⟨hx, hb, hml, hown, ht⟩ (c_X18_in l dC dI de (a2) (0) (7) H.size) (cwS 3 ht (gWS (wr_17 _ (List.mem_of_getElem? (i := 9) rfl)) (wr_17 _ (List.mem_of_getElem? (i := 10) rfl)) (wr_1 _ (List.mem_of_getElem? (i := 5) rfl)) (wr_17 _ (List.mem_of_getElem? (i := 11) rfl))) rfl rfl rfl (by decide +kernel) ⟨Nat.le_of_ble_eq_true rfl, Nat.le_of_ble_eq_true rfl⟩) ⟨PW_blind, PW_call hPc hDc hKc hS hG hFc⟩ rfl rfl hl.1 rfl (lv_room (Nat.le_of_ble_eq_true rfl)) dX18_fell_15 ⟨Nat.le_of_ble_eq_true rfl, Nat.le_of_ble_eq_true rfl⟩) hS (fun q _ h => hFc q h) hFc (fun r_15 u t H1 locs ht9 hvm hw hB hz1 hk1 hS => ?_)
    obtain ⟨hP1, hK1, hD1⟩ := hB
    rw [ht9] at hP1
    have hK1 := va_K.moved hvm.symm hK1
    obtain ⟨hP, hD⟩ := va_join (wr := [(om, .inr (20, [.ref mt, .ref qu, .int 0, .int th, .ref lv, .int (-1), .int 0, .int 0, .ref mi, .int 0, .int 0, .int 0, .int 0, .ref ml, .ref mss, .ref rn, .ref sw, .ref mf, .null, .int 0, .ref msp, .int 0, .int 0, .int 0])), (lv, .inr (1, [.int 0, .ref de, .int 0])), (rn, .inr (1, [.int 0, .ref de, .int 0])), (sw, .inr (1, [.int 0, .ref de, .int 0])), (ml, .inl (cS, 6, .inl (slotF))), (mf, .inl (cF, 96, .inl (fun _ => 0)))]) (w1 := []) hP hD [] [0, 1, 2, 3, 4, 5] rfl rfl (by decide) (by decide) hk1 hFc hP1 hD1
    have hK := (hK.sub (tys' := [(cS, .int), (cF, .int)]) [0, 1] rfl).app hK1
    generalize H1 = H at hP hS ⊢
    replace hP : va_P (dC, dI) vwCl [(om, .inr (20, [.ref mt, .ref qu, .int 0, .int th, .ref lv, .int (-1), .int 0, .int 0, .ref mi, .int 0, .int 0, .int 0, .int 0, .ref ml, .ref mss, .ref rn, .ref sw, .ref mf, .null, .int 0, .ref msp, .int 0, .int 0, .int 0])), (lv, .inr (1, [.int 0, .ref de, .int 0])), (rn, .inr (1, [.int 0, .ref de, .int 0])), (sw, .inr (1, [.int 0, .ref de, .int 0])), (ml, .inl (cS, 6, .inl (slotF))), (mf, .inl (cF, 96, .inl (fun _ => 0)))] H := hP
    replace hD : va_D A [(om, .inr (20, [.ref mt, .ref qu, .int 0, .int th, .ref lv, .int (-1), .int 0, .int 0, .ref mi, .int 0, .int 0, .int 0, .int 0, .ref ml, .ref mss, .ref rn, .ref sw, .ref mf, .null, .int 0, .ref msp, .int 0, .int 0, .int 0])), (lv, .inr (1, [.int 0, .ref de, .int 0])), (rn, .inr (1, [.int 0, .ref de, .int 0])), (sw, .inr (1, [.int 0, .ref de, .int 0])), (ml, .inl (cS, 6, .inl (slotF))), (mf, .inl (cF, 96, .inl (fun _ => 0)))] := hD
    have hK : va_K (dC, dI) vwCl [(cS, .int), (cF, .int)] s := hK
    rcases hw with ⟨rfl, m_15⟩ | ⟨rfl, m_15⟩
    · refine lv_if_eq (tgt := 25) hx hb dX18_fell_18 (by decide) (fun c_18 => absurd c_18 (by decide)) (fun c_18 => ?_)
      refine lv_iconst (v := 0) hx hb dX18_fell_21 (by decide) ?_
      refine lv_goto (tgt := 26) hx hb dX18_fell_22 (by decide) ?_
      refine va_put (D := (dC, dI)) (ci := 20) (v := .int 0) (ty := .int) (C := RX18) (T := TX18) (N := 24) hx hb ht inlX18 tyX18 tyX18_ok nmX18 hown hK hP hD hS 0 rfl rfl 3 (by decide) (ht _ (wr_17 _ (List.mem_of_getElem? (i := 5) rfl))) (fun _ h9 => h9) rfl (by decide +kernel) rfl rfl (Nat.le_of_ble_eq_true rfl) dX18_fell_26 (fun H locs hP hD hS => ?_)
      replace hP : va_P (dC, dI) vwCl [(om, .inr (20, [.ref mt, .ref qu, .int 0, .int 0, .ref lv, .int (-1), .int 0, .int 0, .ref mi, .int 0, .int 0, .int 0, .int 0, .ref ml, .ref mss, .ref rn, .ref sw, .ref mf, .null, .int 0, .ref msp, .int 0, .int 0, .int 0])), (lv, .inr (1, [.int 0, .ref de, .int 0])), (rn, .inr (1, [.int 0, .ref de, .int 0])), (sw, .inr (1, [.int 0, .ref de, .int 0])), (ml, .inl (cS, 6, .inl (slotF))), (mf, .inl (cF, 96, .inl (fun _ => 0)))] H := hP
      replace hD : va_D A [(om, .inr (20, [.ref mt, .ref qu, .int 0, .int 0, .ref lv, .int (-1), .int 0, .int 0, .ref mi, .int 0, .int 0, .int 0, .int 0, .ref ml, .ref mss, .ref rn, .ref sw, .ref mf, .null, .int 0, .ref msp, .int 0, .int 0, .int 0])), (lv, .inr (1, [.int 0, .ref de, .int 0])), (rn, .inr (1, [.int 0, .ref de, .int 0])), (sw, .inr (1, [.int 0, .ref de, .int 0])), (ml, .inl (cS, 6, .inl (slotF))), (mf, .inl (cF, 96, .inl (fun _ => 0)))] := hD
      refine lv_aload_n hx hb dX18_fell_29 rfl (lv_at hl 0 rfl) ?_
      refine va_get (D := (dC, dI)) (ci := 20) (v := .int 0) (C := RX18) (T := TX18) (N := 24) hx hb ht inlX18 hown hK hP 0 rfl rfl 3 (by decide) (ht _ (wr_17 _ (List.mem_of_getElem? (i := 5) rfl))) (fun _ h9 => h9) rfl dX18_fell_30 ?_
      refine lv_if_le (tgt := 40) hx hb dX18_fell_33 (by decide) (fun c_33 => ?_) (fun c_33 => absurd c_33 (by decide))
      refine lv_aload_n hx hb dX18_fell_40 rfl (lv_at hl 0 rfl) ?_
      refine va_get (D := (dC, dI)) (ci := 20) (v := .ref mf) (C := RX18) (T := TX18) (N := 24) hx hb ht inlX18 hown hK hP 0 rfl rfl 17 (by decide) (ht _ (wr_8 _ (List.mem_of_getElem? (i := 14) rfl))) (fun _ h9 => h9) rfl dX18_fell_41 ?_
      refine lv_bipush (v := 12) hx hb dX18_fell_44 (by decide) ?_
      refine lv_iload_n hx hb dX18_fell_46 rfl (lv_at hl 2 rfl) ?_
      refine lv_imul hx hb dX18_fell_47 ?_
      refine lv_iload_n hx hb dX18_fell_48 rfl (lv_at hl 1 rfl) ?_
      refine lv_iadd hx hb dX18_fell_49 ?_
      refine va_iald hx hb hK hP 5 1 rfl rfl (in96b m_5 m_15) dX18_fell_50 ?_
      refine W.eq (g2 := F0 m 51 ls [.int 0]) rfl ?_
      have hP9 := hP.sub (ws' := [(om, .inr (20, [.ref mt, .ref qu, .int 0, .int 0, .ref lv, .int (-1), .int 0, .int 0, .ref mi, .int 0, .int 0, .int 0, .int 0, .ref ml, .ref mss, .ref rn, .ref sw, .ref mf, .null, .int 0, .ref msp, .int 0, .int 0, .int 0])), (lv, .inr (1, [.int 0, .ref de, .int 0])), (rn, .inr (1, [.int 0, .ref de, .int 0])), (sw, .inr (1, [.int 0, .ref de, .int 0])), (ml, .inl (cS, 6, .inl (slotF))), (mf, .inl (cF, 96, .inl (fun _ => 0)))]) [0, 1, 2, 3, 4, 5] rfl
      have hD9 := hD.sub (ws' := [(om, .inr (20, [.ref mt, .ref qu, .int 0, .int 0, .ref lv, .int (-1), .int 0, .int 0, .ref mi, .int 0, .int 0, .int 0, .int 0, .ref ml, .ref mss, .ref rn, .ref sw, .ref mf, .null, .int 0, .ref msp, .int 0, .int 0, .int 0])), (lv, .inr (1, [.int 0, .ref de, .int 0])), (rn, .inr (1, [.int 0, .ref de, .int 0])), (sw, .inr (1, [.int 0, .ref de, .int 0])), (ml, .inl (cS, 6, .inl (slotF))), (mf, .inl (cF, 96, .inl (fun _ => 0)))]) [0, 1, 2, 3, 4, 5] (by decide) rfl
      have hK9 := hK.sub (tys' := [(cS, .int), (cF, .int)]) [0, 1] rfl
      exact W.iret (v := 0) hx hb hr (fun t htt hW => have ht := htt; ⟨⟨0, 0, rfl, (Or.inr ⟨rfl, ⟨m_5, m_15⟩, rfl⟩), QW_of ht hW hP9 hK9 hD9⟩, hS.F ht⟩) hS.2.2 dX18_fell_51
    · refine lv_if_eq (tgt := 25) hx hb dX18_fell_18 (by decide) (fun c_18 => ?_) (fun c_18 => absurd c_18 (by decide))
      refine lv_iconst (v := 1) hx hb dX18_fell_25 (by decide) ?_
      refine va_put (D := (dC, dI)) (ci := 20) (v := .int 1) (ty := .int) (C := RX18) (T := TX18) (N := 24) hx hb ht inlX18 tyX18 tyX18_ok nmX18 hown hK hP hD hS 0 rfl rfl 3 (by decide) (ht _ (wr_17 _ (List.mem_of_getElem? (i := 5) rfl))) (fun _ h9 => h9) rfl (by decide +kernel) rfl rfl (Nat.le_of_ble_eq_true rfl) dX18_fell_26 (fun H locs hP hD hS => ?_)
      replace hP : va_P (dC, dI) vwCl [(om, .inr (20, [.ref mt, .ref qu, .int 0, .int 1, .ref lv, .int (-1), .int 0, .int 0, .ref mi, .int 0, .int 0, .int 0, .int 0, .ref ml, .ref mss, .ref rn, .ref sw, .ref mf, .null, .int 0, .ref msp, .int 0, .int 0, .int 0])), (lv, .inr (1, [.int 0, .ref de, .int 0])), (rn, .inr (1, [.int 0, .ref de, .int 0])), (sw, .inr (1, [.int 0, .ref de, .int 0])), (ml, .inl (cS, 6, .inl (slotF))), (mf, .inl (cF, 96, .inl (fun _ => 0)))] H := hP
      replace hD : va_D A [(om, .inr (20, [.ref mt, .ref qu, .int 0, .int 1, .ref lv, .int (-1), .int 0, .int 0, .ref mi, .int 0, .int 0, .int 0, .int 0, .ref ml, .ref mss, .ref rn, .ref sw, .ref mf, .null, .int 0, .ref msp, .int 0, .int 0, .int 0])), (lv, .inr (1, [.int 0, .ref de, .int 0])), (rn, .inr (1, [.int 0, .ref de, .int 0])), (sw, .inr (1, [.int 0, .ref de, .int 0])), (ml, .inl (cS, 6, .inl (slotF))), (mf, .inl (cF, 96, .inl (fun _ => 0)))] := hD
      refine lv_aload_n hx hb dX18_fell_29 rfl (lv_at hl 0 rfl) ?_
      refine va_get (D := (dC, dI)) (ci := 20) (v := .int 1) (C := RX18) (T := TX18) (N := 24) hx hb ht inlX18 hown hK hP 0 rfl rfl 3 (by decide) (ht _ (wr_17 _ (List.mem_of_getElem? (i := 5) rfl))) (fun _ h9 => h9) rfl dX18_fell_30 ?_
      refine lv_if_le (tgt := 40) hx hb dX18_fell_33 (by decide) (fun c_33 => absurd c_33 (by decide)) (fun c_33 => ?_)
      refine lv_iconst (v := 0) hx hb dX18_fell_36 (by decide) ?_
      refine lv_goto (tgt := 51) hx hb dX18_fell_37 (by decide) ?_
      have hP9 := hP.sub (ws' := [(om, .inr (20, [.ref mt, .ref qu, .int 0, .int 1, .ref lv, .int (-1), .int 0, .int 0, .ref mi, .int 0, .int 0, .int 0, .int 0, .ref ml, .ref mss, .ref rn, .ref sw, .ref mf, .null, .int 0, .ref msp, .int 0, .int 0, .int 0])), (lv, .inr (1, [.int 0, .ref de, .int 0])), (rn, .inr (1, [.int 0, .ref de, .int 0])), (sw, .inr (1, [.int 0, .ref de, .int 0])), (ml, .inl (cS, 6, .inl (slotF))), (mf, .inl (cF, 96, .inl (fun _ => 0)))]) [0, 1, 2, 3, 4, 5] rfl
      have hD9 := hD.sub (ws' := [(om, .inr (20, [.ref mt, .ref qu, .int 0, .int 1, .ref lv, .int (-1), .int 0, .int 0, .ref mi, .int 0, .int 0, .int 0, .int 0, .ref ml, .ref mss, .ref rn, .ref sw, .ref mf, .null, .int 0, .ref msp, .int 0, .int 0, .int 0])), (lv, .inr (1, [.int 0, .ref de, .int 0])), (rn, .inr (1, [.int 0, .ref de, .int 0])), (sw, .inr (1, [.int 0, .ref de, .int 0])), (ml, .inl (cS, 6, .inl (slotF))), (mf, .inl (cF, 96, .inl (fun _ => 0)))]) [0, 1, 2, 3, 4, 5] (by decide) rfl
      have hK9 := hK.sub (tys' := [(cS, .int), (cF, .int)]) [0, 1] rfl
      exact W.iret (v := 0) hx hb hr (fun t htt hW => have ht := htt; ⟨⟨0, 1, rfl, (Or.inl ⟨rfl, fun h => m_15 h.2⟩), QW_of ht hW hP9 hK9 hD9⟩, hS.F ht⟩) hS.2.2 dX18_fell_51
  · refine lv_if_eq (tgt := 25) hx hb dX18_fell_8 (by decide) (fun c_8 => ?_) (fun c_8 => absurd c_8 (by decide))
    refine lv_iconst (v := 1) hx hb dX18_fell_25 (by decide) ?_
    refine va_put (D := (dC, dI)) (ci := 20) (v := .int 1) (ty := .int) (C := RX18) (T := TX18) (N := 24) hx hb ht inlX18 tyX18 tyX18_ok nmX18 hown hK hP hD hS 0 rfl rfl 3 (by decide) (ht _ (wr_17 _ (List.mem_of_getElem? (i := 5) rfl))) (fun _ h9 => h9) rfl (by decide +kernel) rfl rfl (Nat.le_of_ble_eq_true rfl) dX18_fell_26 (fun H locs hP hD hS => ?_)
    replace hP : va_P (dC, dI) vwCl [(om, .inr (20, [.ref mt, .ref qu, .int 0, .int 1, .ref lv, .int (-1), .int 0, .int 0, .ref mi, .int 0, .int 0, .int 0, .int 0, .ref ml, .ref mss, .ref rn, .ref sw, .ref mf, .null, .int 0, .ref msp, .int 0, .int 0, .int 0])), (lv, .inr (1, [.int 0, .ref de, .int 0])), (rn, .inr (1, [.int 0, .ref de, .int 0])), (sw, .inr (1, [.int 0, .ref de, .int 0])), (ml, .inl (cS, 6, .inl (slotF))), (mf, .inl (cF, 96, .inl (fun _ => 0)))] H := hP
    replace hD : va_D A [(om, .inr (20, [.ref mt, .ref qu, .int 0, .int 1, .ref lv, .int (-1), .int 0, .int 0, .ref mi, .int 0, .int 0, .int 0, .int 0, .ref ml, .ref mss, .ref rn, .ref sw, .ref mf, .null, .int 0, .ref msp, .int 0, .int 0, .int 0])), (lv, .inr (1, [.int 0, .ref de, .int 0])), (rn, .inr (1, [.int 0, .ref de, .int 0])), (sw, .inr (1, [.int 0, .ref de, .int 0])), (ml, .inl (cS, 6, .inl (slotF))), (mf, .inl (cF, 96, .inl (fun _ => 0)))] := hD
    refine lv_aload_n hx hb dX18_fell_29 rfl (lv_at hl 0 rfl) ?_
    refine va_get (D := (dC, dI)) (ci := 20) (v := .int 1) (C := RX18) (T := TX18) (N := 24) hx hb ht inlX18 hown hK hP 0 rfl rfl 3 (by decide) (ht _ (wr_17 _ (List.mem_of_getElem? (i := 5) rfl))) (fun _ h9 => h9) rfl dX18_fell_30 ?_
    refine lv_if_le (tgt := 40) hx hb dX18_fell_33 (by decide) (fun c_33 => absurd c_33 (by decide)) (fun c_33 => ?_)
    refine lv_iconst (v := 0) hx hb dX18_fell_36 (by decide) ?_
    refine lv_goto (tgt := 51) hx hb dX18_fell_37 (by decide) ?_
    have hP9 := hP.sub (ws' := [(om, .inr (20, [.ref mt, .ref qu, .int 0, .int 1, .ref lv, .int (-1), .int 0, .int 0, .ref mi, .int 0, .int 0, .int 0, .int 0, .ref ml, .ref mss, .ref rn, .ref sw, .ref mf, .null, .int 0, .ref msp, .int 0, .int 0, .int 0])), (lv, .inr (1, [.int 0, .ref de, .int 0])), (rn, .inr (1, [.int 0, .ref de, .int 0])), (sw, .inr (1, [.int 0, .ref de, .int 0])), (ml, .inl (cS, 6, .inl (slotF))), (mf, .inl (cF, 96, .inl (fun _ => 0)))]) [0, 1, 2, 3, 4, 5] rfl
    have hD9 := hD.sub (ws' := [(om, .inr (20, [.ref mt, .ref qu, .int 0, .int 1, .ref lv, .int (-1), .int 0, .int 0, .ref mi, .int 0, .int 0, .int 0, .int 0, .ref ml, .ref mss, .ref rn, .ref sw, .ref mf, .null, .int 0, .ref msp, .int 0, .int 0, .int 0])), (lv, .inr (1, [.int 0, .ref de, .int 0])), (rn, .inr (1, [.int 0, .ref de, .int 0])), (sw, .inr (1, [.int 0, .ref de, .int 0])), (ml, .inl (cS, 6, .inl (slotF))), (mf, .inl (cF, 96, .inl (fun _ => 0)))]) [0, 1, 2, 3, 4, 5] (by decide) rfl
    have hK9 := hK.sub (tys' := [(cS, .int), (cF, .int)]) [0, 1] rfl
    exact W.iret (v := 0) hx hb hr (fun t htt hW => have ht := htt; ⟨⟨0, 1, rfl, (Or.inl ⟨rfl, fun h => m_5 h.1⟩), QW_of ht hW hP9 hK9 hD9⟩, hS.F ht⟩) hS.2.2 dX18_fell_51
set_option maxHeartbeats 4000000 in
set_option maxRecDepth 100000 in
theorem c_Jx35411_init_45d68 (l : Launch) (dC : Nat → ClassId) (dI : Nat → Nat → Nat) (de : Nat) (a : Nat) (b : Nat) (sz : Nat) : Met l yJx35411_init_45d68 (.code yJx35411_init_45d68 cJx35411_init_45d68 2 none :: wsL_law) { frames := 1, cells := 0, slots := 0, locals := 12 } (va_Pc [.ref a, .ref b] (PW dC dI de [] [(a, .inr (0, [.int 0, .int 0, .int 0, .null])), (b, .inr (1, [.int 0, .ref de, .int 0]))] sz)) (va_Qv (fun (u : Unit) => True) (fun (_ : Unit) (t : State) => QW dC dI [] [(a, .inr (0, [.int 0, .int (-1), .int 0, .ref b])), (b, .inr (1, [.int 0, .ref de, .int 0]))] (va_A [(a, .inr (0, [.int 0, .int 0, .int 0, .null])), (b, .inr (1, [.int 0, .ref de, .int 0]))] sz) t) (va_A [(a, .inr (0, [.int 0, .int 0, .int 0, .null])), (b, .inr (1, [.int 0, .ref de, .int 0]))] sz)) 0 0 (va_A [(a, .inr (0, [.int 0, .int 0, .int 0, .null])), (b, .inr (1, [.int 0, .ref de, .int 0]))] sz) := by
  refine Met.ofW (cc := cJx35411_init_45d68) (maxL := 2) (ret := none) (by decide) rfl ?_
  intro p e s m args below meth c s₁ B hml hv
  obtain ⟨rfl, hsz, hP, hK, hD0, hG⟩ := hv
  have hx := B.exec
  have hb := B.bytes
  have hr := B.returns
  have hts := atoms_spec (ws := .code yJx35411_init_45d68 cJx35411_init_45d68 2 none :: wsL_law) B.pre
  have ht : ∀ w ∈ wsL_law, w.before _ s = true := fun w h => hts w (List.mem_cons_of_mem _ h)
  have hown : s.vm.findClass RJx35411 = some m.cls := findClass_of_methodNamed B.named
  have hlocks := B.notSynchronized
  have hin : meth.name = "<init>" := (name_of_methodNamed B.named B.method).1
  subst hsz
  have hD := hD0.self (sz := s.heap.size)
  generalize hAe : va_A [(a, .inr (0, [.int 0, .int 0, .int 0, .null])), (b, .inr (1, [.int 0, .ref de, .int 0]))] s.heap.size = A at hD hG ⊢
  have hA : ∀ q : Nat, s.heap.size ≤ q → A q := fun q h => by rw [← hAe]; exact Or.inr h
  have hS : va_S A s.heap s.heap [] := va_S.rf
  have hP : va_P (dC, dI) vwCl [(a, .inr (0, [.int 0, .int 0, .int 0, .null])), (b, .inr (1, [.int 0, .ref de, .int 0]))] s.heap := hP
  have hD : va_D A [(a, .inr (0, [.int 0, .int 0, .int 0, .null])), (b, .inr (1, [.int 0, .ref de, .int 0]))] := hD
  have hl := lv_entry ([.ref a, .ref b]) (n := 2) (Nat.le_of_ble_eq_true rfl)
  rw [lg_entry_eq]
  generalize (lg_sl ([.ref a, .ref b]) ++ List.replicate (2 - (lg_sl ([.ref a, .ref b])).length) Slot.unset).toArray = ls at hl ⊢
  have hl : lv_has ls 2 [(0, .ref a), (1, .ref b)] := hl
  refine lv_aload_n hx hb dJx35411_init_45d68_0 rfl (lv_at hl 0 rfl) ?_
  refine lv_aload_n hx hb dJx35411_init_45d68_1 rfl (lv_at hl 1 rfl) ?_
  refine va_putF (D := (dC, dI)) (ci := 0) (v := .ref b) (ty := .object "java/util/ArrayList") (C := RJx35411) (T := TJx35411) (N := 4) hx hb ht inlJx35411 tyJx35411 tyJx35411_ok nmJx35411 hown hK hP hD hS 0 rfl rfl 3 (by decide) (ht _ (wr_36 _ (List.mem_of_getElem? (i := 14) rfl))) (fun _ h9 => h9) rfl hin rfl (by decide +kernel) rfl rfl (Nat.le_of_ble_eq_true rfl) dJx35411_init_45d68_2 (fun H locs hP hD hS => ?_)
  replace hP : va_P (dC, dI) vwCl [(a, .inr (0, [.int 0, .int 0, .int 0, .ref b])), (b, .inr (1, [.int 0, .ref de, .int 0]))] H := hP
  replace hD : va_D A [(a, .inr (0, [.int 0, .int 0, .int 0, .ref b])), (b, .inr (1, [.int 0, .ref de, .int 0]))] := hD
  refine lv_aload_n hx hb dJx35411_init_45d68_5 rfl (lv_at hl 0 rfl) ?_
  refine W.objInit hx hb hown (ht _ (wr_36 _ (List.mem_of_getElem? (i := 15) rfl))) (ht _ (wr_1 _ (List.mem_of_getElem? (i := 12) rfl))) (ht _ (wr_1 _ (List.mem_of_getElem? (i := 13) rfl))) rfl (by rw [hml]; exact hl.1) rfl dJx35411_init_45d68_6 (Nat.le_of_ble_eq_true rfl) (Nat.le_of_ble_eq_true rfl) ?_
  refine W.eq (g2 := F0 m 9 ls []) rfl ?_
  refine lv_aload_n hx hb dJx35411_init_45d68_9 rfl (lv_at hl 0 rfl) ?_
  refine lv_iconst (v := -1) hx hb dJx35411_init_45d68_10 (by decide) ?_
  refine va_put (D := (dC, dI)) (ci := 0) (v := .int (-1)) (ty := .int) (C := RJx35411) (T := TJx35411) (N := 4) hx hb ht inlJx35411 tyJx35411 tyJx35411_ok nmJx35411 hown hK hP hD hS 0 rfl rfl 1 (by decide) (ht _ (wr_36 _ (List.mem_of_getElem? (i := 16) rfl))) (fun _ h9 => h9) rfl (by decide +kernel) rfl rfl (Nat.le_of_ble_eq_true rfl) dJx35411_init_45d68_11 (fun H locs hP hD hS => ?_)
  replace hP : va_P (dC, dI) vwCl [(a, .inr (0, [.int 0, .int (-1), .int 0, .ref b])), (b, .inr (1, [.int 0, .ref de, .int 0]))] H := hP
  replace hD : va_D A [(a, .inr (0, [.int 0, .int (-1), .int 0, .ref b])), (b, .inr (1, [.int 0, .ref de, .int 0]))] := hD
  refine lv_aload_n hx hb dJx35411_init_45d68_14 rfl (lv_at hl 0 rfl) ?_
  refine lv_aload_n hx hb dJx35411_init_45d68_15 rfl (lv_at hl 0 rfl) ?_
  refine va_get (D := (dC, dI)) (ci := 0) (v := .ref b) (C := RJx35411) (T := TJx35411) (N := 4) hx hb ht inlJx35411 hown hK hP 0 rfl rfl 3 (by decide) (ht _ (wr_36 _ (List.mem_of_getElem? (i := 14) rfl))) (fun _ h9 => h9) rfl dJx35411_init_45d68_16 ?_
  refine va_get (D := (dC, dI)) (ci := 1) (v := .int 0) (C := RJx4a65c) (T := TJx4a65c) (N := 3) hx hb ht inlJx4a65c hown hK hP 1 rfl rfl 0 (by decide) (ht _ (wr_36 _ (List.mem_of_getElem? (i := 17) rfl))) (fun x9 h9 => u_same (ht _ (wr_15 _ (List.mem_of_getElem? (i := 7) rfl))) x9 h9) rfl dJx35411_init_45d68_19 ?_
  refine va_put (D := (dC, dI)) (ci := 0) (v := .int 0) (ty := .int) (C := RJx35411) (T := TJx35411) (N := 4) hx hb ht inlJx35411 tyJx35411 tyJx35411_ok nmJx35411 hown hK hP hD hS 0 rfl rfl 2 (by decide) (ht _ (wr_36 _ (List.mem_of_getElem? (i := 18) rfl))) (fun _ h9 => h9) rfl (by decide +kernel) rfl rfl (Nat.le_of_ble_eq_true rfl) dJx35411_init_45d68_22 (fun H locs hP hD hS => ?_)
  replace hP : va_P (dC, dI) vwCl [(a, .inr (0, [.int 0, .int (-1), .int 0, .ref b])), (b, .inr (1, [.int 0, .ref de, .int 0]))] H := hP
  replace hD : va_D A [(a, .inr (0, [.int 0, .int (-1), .int 0, .ref b])), (b, .inr (1, [.int 0, .ref de, .int 0]))] := hD
  exact W.vret hx hb hr (fun t htt hW => have ht := htt; ⟨⟨(), rfl, trivial, QW_of ht hW hP hK hD⟩, hS.F ht⟩) hS.2.2 dJx35411_init_45d68_25
set_option maxHeartbeats 4000000 in
set_option maxRecDepth 100000 in
theorem c_Jx4a65c_iterator_32c93 (l : Launch) (dC : Nat → ClassId) (dI : Nat → Nat → Nat) (de : Nat) (b : Nat) (sz : Nat) : Met l yJx4a65c_iterator_32c93 (.code yJx4a65c_iterator_32c93 cJx4a65c_iterator_32c93 1 (some (.object "java/util/Iterator")) :: wsL_law) { frames := 2, cells := 1, slots := 4, locals := 33 } (va_Pc [.ref b] (PW dC dI de [] [(b, .inr (1, [.int 0, .ref de, .int 0]))] sz)) (va_Qr (fun (_ : Unit) => True) (fun (_ : Unit) (ra : Nat) (t : State) => QW dC dI [] [(b, .inr (1, [.int 0, .ref de, .int 0])), (ra, .inr (0, [.int 0, .int (-1), .int 0, .ref b]))] (va_A [(b, .inr (1, [.int 0, .ref de, .int 0]))] sz) t) (va_A [(b, .inr (1, [.int 0, .ref de, .int 0]))] sz)) 1 4 (va_A [(b, .inr (1, [.int 0, .ref de, .int 0]))] sz) := by
  refine Met.ofW (cc := cJx4a65c_iterator_32c93) (maxL := 1) (ret := (some (.object "java/util/Iterator"))) (by decide) rfl ?_
  intro p e s m args below meth c s₁ B hml hv
  obtain ⟨rfl, hsz, hP, hK, hD0, hG⟩ := hv
  have hx := B.exec
  have hb := B.bytes
  have hr := B.returns
  have hts := atoms_spec (ws := .code yJx4a65c_iterator_32c93 cJx4a65c_iterator_32c93 1 (some (.object "java/util/Iterator")) :: wsL_law) B.pre
  have ht : ∀ w ∈ wsL_law, w.before _ s = true := fun w h => hts w (List.mem_cons_of_mem _ h)
  have hown : s.vm.findClass RJx4a65c = some m.cls := findClass_of_methodNamed B.named
  have hlocks := B.notSynchronized
  subst hsz
  have hD := hD0.self (sz := s.heap.size)
  generalize hAe : va_A [(b, .inr (1, [.int 0, .ref de, .int 0]))] s.heap.size = A at hD hG ⊢
  have hA : ∀ q : Nat, s.heap.size ≤ q → A q := fun q h => by rw [← hAe]; exact Or.inr h
  have hS : va_S A s.heap s.heap [] := va_S.rf
  have hP : va_P (dC, dI) vwCl [(b, .inr (1, [.int 0, .ref de, .int 0]))] s.heap := hP
  have hD : va_D A [(b, .inr (1, [.int 0, .ref de, .int 0]))] := hD
  have hl := lv_entry ([.ref b]) (n := 1) (Nat.le_of_ble_eq_true rfl)
  rw [lg_entry_eq]
  generalize (lg_sl ([.ref b]) ++ List.replicate (1 - (lg_sl ([.ref b])).length) Slot.unset).toArray = ls at hl ⊢
  have hl : lv_has ls 1 [(0, .ref b)] := hl
  refine va_new (ci := 0) (fs := [.int 0, .int 0, .int 0, .null]) (C := RJx35411) (T := TJx35411) (N := 4) hx hb ht inlJx35411 tyJx35411 tyJx35411_ok hown (ht _ (wr_36 _ (List.mem_of_getElem? (i := 8) rfl))) (ht _ (wr_36 _ (List.mem_of_getElem? (i := 9) rfl))) (ht _ (wr_36 _ (List.mem_of_getElem? (i := 10) rfl))) hK hP hD hS hA rfl (fun j hj => match j, hj with | 0, _ => rfl | 1, _ => rfl | 2, _ => rfl | 3, _ => rfl | j + 4, h => absurd h (by omega)) (Nat.le_of_ble_eq_true rfl) (Nat.le_of_ble_eq_true rfl) dJx4a65c_iterator_32c93_0 (fun q_1 H hP hD hS => ?_)
  replace hP : va_P (dC, dI) vwCl [(b, .inr (1, [.int 0, .ref de, .int 0])), (q_1, .inr (0, [.int 0, .int 0, .int 0, .null]))] H := hP
  replace hD : va_D A [(b, .inr (1, [.int 0, .ref de, .int 0])), (q_1, .inr (0, [.int 0, .int 0, .int 0, .null]))] := hD
  refine W.widen (k := 1) (n := 4) (Nat.le_of_ble_eq_true rfl) (Nat.le_of_ble_eq_true rfl) ?_
  refine lv_dup hx hb dJx4a65c_iterator_32c93_3 rfl ?_
  refine lv_aload_n hx hb dJx4a65c_iterator_32c93_4 rfl (lv_at hl 0 rfl) ?_
  have hPc := hP.sub (ws' := [(q_1, .inr (0, [.int 0, .int 0, .int 0, .null])), (b, .inr (1, [.int 0, .ref de, .int 0]))]) [1, 0] rfl
  have hDc := hD.sub (ws' := [(q_1, .inr (0, [.int 0, .int 0, .int 0, .null])), (b, .inr (1, [.int 0, .ref de, .int 0]))]) [1, 0] (by decide) rfl
  have hKc := hK.sub (tys' := []) [] rfl
  have hFc := va_free (wc := [(q_1, .inr (0, [.int 0, .int 0, .int 0, .null])), (b, .inr (1, [.int 0, .ref de, .int 0]))]) hD hS hA [1, 0] rfl
  refine va_callv (va_runI (As := [.ref b]) (rest := [.ref q_1]) ⟨hx, hb, hml, hown, ht⟩ (c_Jx35411_init_45d68 l dC dI de (q_1) (b) H.size) (cwI 1 ht (gWI (wr_36 _ (List.mem_of_getElem? (i := 13) rfl))) rfl rfl rfl (ht _ (wr_36 _ (List.mem_of_getElem? (i := 10) rfl))) (ht _ (wr_36 _ (List.mem_of_getElem? (i := 11) rfl))) (ht _ (wr_36 _ (List.mem_of_getElem? (i := 12) rfl))) rfl (by decide +kernel) ⟨Nat.le_of_ble_eq_true rfl, Nat.le_of_ble_eq_true rfl⟩) ⟨PW_blind, PW_call hPc hDc hKc hS hG hFc⟩ rfl rfl hl.1 rfl (lv_room (Nat.le_of_ble_eq_true rfl)) dJx4a65c_iterator_32c93_5 ⟨Nat.le_of_ble_eq_true rfl, Nat.le_of_ble_eq_true rfl⟩) hS (fun q _ h => hFc q h) hFc (fun u t H1 locs ht9 hvm hw hB hz1 hk1 hS => ?_)
  obtain ⟨hP1, hK1, hD1⟩ := hB
  rw [ht9] at hP1
  have hK1 := va_K.moved hvm.symm hK1
  obtain ⟨hP, hD⟩ := va_join (wr := []) (w1 := [(q_1, .inr (0, [.int 0, .int (-1), .int 0, .ref b])), (b, .inr (1, [.int 0, .ref de, .int 0]))]) hP hD [1, 0] [] rfl rfl (by decide) (by decide) hk1 hFc hP1 hD1
  have hK := (hK.sub (tys' := []) [] rfl).app hK1
  generalize H1 = H at hP hS ⊢
  replace hP : va_P (dC, dI) vwCl [(q_1, .inr (0, [.int 0, .int (-1), .int 0, .ref b])), (b, .inr (1, [.int 0, .ref de, .int 0]))] H := hP
  replace hD : va_D A [(q_1, .inr (0, [.int 0, .int (-1), .int 0, .ref b])), (b, .inr (1, [.int 0, .ref de, .int 0]))] := hD
  have hK : va_K (dC, dI) vwCl [] s := hK
  have hw_5 := hw
  have hP9 := hP.sub (ws' := [(b, .inr (1, [.int 0, .ref de, .int 0])), (q_1, .inr (0, [.int 0, .int (-1), .int 0, .ref b]))]) [1, 0] rfl
  have hD9 := hD.sub (ws' := [(b, .inr (1, [.int 0, .ref de, .int 0])), (q_1, .inr (0, [.int 0, .int (-1), .int 0, .ref b]))]) [1, 0] (by decide) rfl
  have hK9 := hK.sub (tys' := []) [] rfl
  exact W.aret (v := .ref q_1) hx hb hr (Or.inl ⟨_, rfl⟩) (Or.inr ⟨_, rfl⟩) (fun t htt hW => have ht := htt; ⟨⟨(), q_1, rfl, trivial, QW_of ht hW hP9 hK9 hD9⟩, hS.F ht⟩) hS.2.2 dJx4a65c_iterator_32c93_8
set_option maxHeartbeats 4000000 in
set_option maxRecDepth 100000 in
theorem c_Jx35411_hasNext_aae02 (l : Launch) (dC : Nat → ClassId) (dI : Nat → Nat → Nat) (de : Nat) (a : Nat) (b : Nat) (sz : Nat) : Met l yJx35411_hasNext_aae02 (.code yJx35411_hasNext_aae02 cJx35411_hasNext_aae02 1 (some .boolean) :: wsL_law) { frames := 0, cells := 0, slots := 0, locals := 0 } (va_Pc [.ref a] (PW dC dI de [] [(a, .inr (0, [.int 0, .int (-1), .int 0, .ref b])), (b, .inr (1, [.int 0, .ref de, .int 0]))] sz)) (va_Qi (fun (r : Int32) (u : Unit) => r = 0) (fun (_ : Unit) (t : State) => QW dC dI [] [(a, .inr (0, [.int 0, .int (-1), .int 0, .ref b])), (b, .inr (1, [.int 0, .ref de, .int 0]))] (va_A [(a, .inr (0, [.int 0, .int (-1), .int 0, .ref b])), (b, .inr (1, [.int 0, .ref de, .int 0]))] sz) t) (va_A [(a, .inr (0, [.int 0, .int (-1), .int 0, .ref b])), (b, .inr (1, [.int 0, .ref de, .int 0]))] sz)) 0 0 (va_A [(a, .inr (0, [.int 0, .int (-1), .int 0, .ref b])), (b, .inr (1, [.int 0, .ref de, .int 0]))] sz) := by
  refine Met.ofW (cc := cJx35411_hasNext_aae02) (maxL := 1) (ret := (some .boolean)) (by decide) rfl ?_
  intro p e s m args below meth c s₁ B hml hv
  obtain ⟨rfl, hsz, hP, hK, hD0, hG⟩ := hv
  have hx := B.exec
  have hb := B.bytes
  have hr := B.returns
  have hts := atoms_spec (ws := .code yJx35411_hasNext_aae02 cJx35411_hasNext_aae02 1 (some .boolean) :: wsL_law) B.pre
  have ht : ∀ w ∈ wsL_law, w.before _ s = true := fun w h => hts w (List.mem_cons_of_mem _ h)
  have hown : s.vm.findClass RJx35411 = some m.cls := findClass_of_methodNamed B.named
  have hlocks := B.notSynchronized
  subst hsz
  have hD := hD0.self (sz := s.heap.size)
  generalize hAe : va_A [(a, .inr (0, [.int 0, .int (-1), .int 0, .ref b])), (b, .inr (1, [.int 0, .ref de, .int 0]))] s.heap.size = A at hD hG ⊢
  have hA : ∀ q : Nat, s.heap.size ≤ q → A q := fun q h => by rw [← hAe]; exact Or.inr h
  have hS : va_S A s.heap s.heap [] := va_S.rf
  have hP : va_P (dC, dI) vwCl [(a, .inr (0, [.int 0, .int (-1), .int 0, .ref b])), (b, .inr (1, [.int 0, .ref de, .int 0]))] s.heap := hP
  have hD : va_D A [(a, .inr (0, [.int 0, .int (-1), .int 0, .ref b])), (b, .inr (1, [.int 0, .ref de, .int 0]))] := hD
  have hl := lv_entry ([.ref a]) (n := 1) (Nat.le_of_ble_eq_true rfl)
  rw [lg_entry_eq]
  generalize (lg_sl ([.ref a]) ++ List.replicate (1 - (lg_sl ([.ref a])).length) Slot.unset).toArray = ls at hl ⊢
  have hl : lv_has ls 1 [(0, .ref a)] := hl
  refine lv_aload_n hx hb dJx35411_hasNext_aae02_0 rfl (lv_at hl 0 rfl) ?_
  refine va_get (D := (dC, dI)) (ci := 0) (v := .int 0) (C := RJx35411) (T := TJx35411) (N := 4) hx hb ht inlJx35411 hown hK hP 0 rfl rfl 0 (by decide) (ht _ (wr_36 _ (List.mem_of_getElem? (i := 23) rfl))) (fun _ h9 => h9) rfl dJx35411_hasNext_aae02_1 ?_
  refine lv_aload_n hx hb dJx35411_hasNext_aae02_4 rfl (lv_at hl 0 rfl) ?_
  refine va_get (D := (dC, dI)) (ci := 0) (v := .ref b) (C := RJx35411) (T := TJx35411) (N := 4) hx hb ht inlJx35411 hown hK hP 0 rfl rfl 3 (by decide) (ht _ (wr_36 _ (List.mem_of_getElem? (i := 14) rfl))) (fun _ h9 => h9) rfl dJx35411_hasNext_aae02_5 ?_
  refine va_getN (D := (dC, dI)) (ci := 1) (v := .int 0) (C := RJx4a65c) (T := TJx4a65c) (N := 3) hx hb ht inlJx4a65c hown hK hP 1 rfl rfl 2 (by decide) (va_Nw.use rfl hG.2.2.2.2.2.2.2.2.1) (fun _ h9 => h9) rfl dJx35411_hasNext_aae02_8 ?_
  refine lv_icmp_eq (tgt := 18) hx hb dJx35411_hasNext_aae02_11 (by decide) (fun c_11 => ?_) (fun c_11 => absurd c_11 (by decide))
  refine lv_iconst (v := 0) hx hb dJx35411_hasNext_aae02_18 (by decide) ?_
  exact W.zret (v := 0) hx hb hr (by decide) (fun t htt hW => have ht := htt; ⟨⟨0, (), rfl, rfl, QW_of ht hW hP hK hD⟩, hS.F ht⟩) hS.2.2 dJx35411_hasNext_aae02_19
set_option maxHeartbeats 4000000 in
set_option maxRecDepth 100000 in
theorem c_X18_makerAt (l : Launch) (dC : Nat → ClassId) (dI : Nat → Nat → Nat) (de : Nat) (om : Nat) (mt : Nat) (qu : Nat) (lv : Nat) (mi : Nat) (ml : Nat) (mss : Nat) (rn : Nat) (sw : Nat) (mf : Nat) (msp : Nat) (cS : ClassId) (cF : ClassId) (th : Int32) (a1 : Int32) (sz : Nat) : Met l yX18_makerAt (.code yX18_makerAt cX18_makerAt 8 (some .int) :: wsL_law) { frames := 3, cells := 1, slots := 4, locals := 53 } (va_Pc [.ref om, .int a1] (PW dC dI de [(cS, .int), (cF, .int)] (WM om mt qu lv mi ml mss rn sw mf msp cS cF th de) sz)) (va_Qi (fun (r : Int32) (u : Unit) => True) (fun (_ : Unit) (t : State) => QW dC dI [(cS, .int), (cF, .int)] (WM om mt qu lv mi ml mss rn sw mf msp cS cF 1 de) (va_A (WM om mt qu lv mi ml mss rn sw mf msp cS cF th de) sz) t) (va_A (WM om mt qu lv mi ml mss rn sw mf msp cS cF th de) sz)) 1 4 (va_A (WM om mt qu lv mi ml mss rn sw mf msp cS cF th de) sz) := by
  refine Met.ofW (cc := cX18_makerAt) (maxL := 8) (ret := (some .int)) (by decide) rfl ?_
  intro p e s m args below meth c s₁ B hml hv
  obtain ⟨rfl, hsz, hP, hK, hD0, hG⟩ := hv
  have hx := B.exec
  have hb := B.bytes
  have hr := B.returns
  have hts := atoms_spec (ws := .code yX18_makerAt cX18_makerAt 8 (some .int) :: wsL_law) B.pre
  have ht : ∀ w ∈ wsL_law, w.before _ s = true := fun w h => hts w (List.mem_cons_of_mem _ h)
  have hown : s.vm.findClass RX18 = some m.cls := findClass_of_methodNamed B.named
  have hlocks := B.notSynchronized
  subst hsz
  have hD := hD0.self (sz := s.heap.size)
  generalize hAe : va_A (WM om mt qu lv mi ml mss rn sw mf msp cS cF th de) s.heap.size = A at hD hG ⊢
  have hA : ∀ q : Nat, s.heap.size ≤ q → A q := fun q h => by rw [← hAe]; exact Or.inr h
  have hS : va_S A s.heap s.heap [] := va_S.rf
  have hP : va_P (dC, dI) vwCl [(om, .inr (20, [.ref mt, .ref qu, .int 0, .int th, .ref lv, .int (-1), .int 0, .int 0, .ref mi, .int 0, .int 0, .int 0, .int 0, .ref ml, .ref mss, .ref rn, .ref sw, .ref mf, .null, .int 0, .ref msp, .int 0, .int 0, .int 0])), (lv, .inr (1, [.int 0, .ref de, .int 0])), (rn, .inr (1, [.int 0, .ref de, .int 0])), (sw, .inr (1, [.int 0, .ref de, .int 0])), (ml, .inl (cS, 6, .inl (slotF))), (mf, .inl (cF, 96, .inl (fun _ => 0)))] s.heap := hP
  have hD : va_D A [(om, .inr (20, [.ref mt, .ref qu, .int 0, .int th, .ref lv, .int (-1), .int 0, .int 0, .ref mi, .int 0, .int 0, .int 0, .int 0, .ref ml, .ref mss, .ref rn, .ref sw, .ref mf, .null, .int 0, .ref msp, .int 0, .int 0, .int 0])), (lv, .inr (1, [.int 0, .ref de, .int 0])), (rn, .inr (1, [.int 0, .ref de, .int 0])), (sw, .inr (1, [.int 0, .ref de, .int 0])), (ml, .inl (cS, 6, .inl (slotF))), (mf, .inl (cF, 96, .inl (fun _ => 0)))] := hD
  have hl := lv_entry ([.ref om, .int a1]) (n := 8) (Nat.le_of_ble_eq_true rfl)
  rw [lg_entry_eq]
  generalize (lg_sl ([.ref om, .int a1]) ++ List.replicate (8 - (lg_sl ([.ref om, .int a1])).length) Slot.unset).toArray = ls at hl ⊢
  have hl : lv_has ls 8 [(0, .ref om), (1, .int a1)] := hl
  refine lv_aload_n hx hb dX18_makerAt_0 rfl (lv_at hl 0 rfl) ?_
  refine lv_iload_n hx hb dX18_makerAt_1 rfl (lv_at hl 1 rfl) ?_
  refine lv_iconst (v := 0) hx hb dX18_makerAt_2 (by decide) ?_
  refine lv_aload_n hx hb dX18_makerAt_3 rfl (lv_at hl 0 rfl) ?_
  refine va_get (D := (dC, dI)) (ci := 20) (v := .ref sw) (C := RX18) (T := TX18) (N := 24) hx hb ht inlX18 hown hK hP 0 rfl rfl 16 (by decide) (ht _ (wr_8 _ (List.mem_of_getElem? (i := 13) rfl))) (fun _ h9 => h9) rfl dX18_makerAt_4 ?_
  have hPc := hP.sub (ws' := [(sw, .inr (1, [.int 0, .ref de, .int 0]))]) [3] rfl
  have hDc := hD.sub (ws' := [(sw, .inr (1, [.int 0, .ref de, .int 0]))]) [3] (by decide) rfl
  have hKc := hK.sub (tys' := []) [] rfl
  have hFc := va_free (wc := [(sw, .inr (1, [.int 0, .ref de, .int 0]))]) hD hS hA [3] rfl
  refine va_calli (va_runV (As := []) (rest := [.int 0, .int a1, .ref om]) ⟨hx, hb, hml, hown, ht⟩ (c_Jx4a65c_size_8abf5 l dC dI de (sw) (0) (.ref de) (0) s.heap.size) (cwV 0 ht (gWV (wr_17 _ (List.mem_of_getElem? (i := 16) rfl)) (wr_14 _ (List.mem_of_getElem? (i := 6) rfl)) (wr_14 _ (List.mem_of_getElem? (i := 7) rfl)) (wr_1 _ (List.mem_of_getElem? (i := 16) rfl)) (wr_14 _ (List.mem_of_getElem? (i := 8) rfl))) rfl rfl rfl (by decide +kernel) ⟨Nat.le_of_ble_eq_true rfl, Nat.le_of_ble_eq_true rfl⟩) ⟨PW_blind, va_recv hKc hPc (ci := 1) (q0 := 0) rfl rfl, PW_call hPc hDc hKc hS hG hFc⟩ rfl rfl hl.1 rfl (lv_room (Nat.le_of_ble_eq_true rfl)) dX18_makerAt_7 ⟨Nat.le_of_ble_eq_true rfl, Nat.le_of_ble_eq_true rfl⟩) hS (fun q _ h => hFc q h) hFc (fun r_7 u t H1 locs ht9 hvm hw hB hz1 hk1 hS => ?_)
  obtain ⟨hP1, hK1, hD1⟩ := hB
  rw [ht9] at hP1
  have hK1 := va_K.moved hvm.symm hK1
  obtain ⟨hP, hD⟩ := va_join (wr := [(om, .inr (20, [.ref mt, .ref qu, .int 0, .int th, .ref lv, .int (-1), .int 0, .int 0, .ref mi, .int 0, .int 0, .int 0, .int 0, .ref ml, .ref mss, .ref rn, .ref sw, .ref mf, .null, .int 0, .ref msp, .int 0, .int 0, .int 0])), (lv, .inr (1, [.int 0, .ref de, .int 0])), (rn, .inr (1, [.int 0, .ref de, .int 0])), (ml, .inl (cS, 6, .inl (slotF))), (mf, .inl (cF, 96, .inl (fun _ => 0)))]) (w1 := [(sw, .inr (1, [.int 0, .ref de, .int 0]))]) hP hD [3] [0, 1, 2, 4, 5] rfl rfl (by decide) (by decide) hk1 hFc hP1 hD1
  have hK := (hK.sub (tys' := [(cS, .int), (cF, .int)]) [0, 1] rfl).app hK1
  generalize H1 = H at hP hS ⊢
  replace hP : va_P (dC, dI) vwCl [(om, .inr (20, [.ref mt, .ref qu, .int 0, .int th, .ref lv, .int (-1), .int 0, .int 0, .ref mi, .int 0, .int 0, .int 0, .int 0, .ref ml, .ref mss, .ref rn, .ref sw, .ref mf, .null, .int 0, .ref msp, .int 0, .int 0, .int 0])), (lv, .inr (1, [.int 0, .ref de, .int 0])), (rn, .inr (1, [.int 0, .ref de, .int 0])), (ml, .inl (cS, 6, .inl (slotF))), (mf, .inl (cF, 96, .inl (fun _ => 0))), (sw, .inr (1, [.int 0, .ref de, .int 0]))] H := hP
  replace hD : va_D A [(om, .inr (20, [.ref mt, .ref qu, .int 0, .int th, .ref lv, .int (-1), .int 0, .int 0, .ref mi, .int 0, .int 0, .int 0, .int 0, .ref ml, .ref mss, .ref rn, .ref sw, .ref mf, .null, .int 0, .ref msp, .int 0, .int 0, .int 0])), (lv, .inr (1, [.int 0, .ref de, .int 0])), (rn, .inr (1, [.int 0, .ref de, .int 0])), (ml, .inl (cS, 6, .inl (slotF))), (mf, .inl (cF, 96, .inl (fun _ => 0))), (sw, .inr (1, [.int 0, .ref de, .int 0]))] := hD
  have hK : va_K (dC, dI) vwCl [(cS, .int), (cF, .int)] s := hK
  have e_7 : r_7 = 0 := hw
  subst e_7
  refine lv_iconst (v := 1) hx hb dX18_makerAt_10 (by decide) ?_
  refine lv_isub hx hb dX18_makerAt_11 ?_
  have hPc := hP.sub (ws' := []) [] rfl
  have hDc := hD.sub (ws' := []) [] (by decide) rfl
  have hKc := hK.sub (tys' := []) [] rfl
  have hFc := va_free (wc := []) hD hS hA [] rfl
  refine va_calli (va_runS (As := [.int a1, .int 0, .int (0 - 1)]) (rest := [.ref om]) ⟨hx, hb, hml, hown, ht⟩ (c_X18_in l dC dI de (a1) (0) ((0 - 1)) H.size) (cwS 3 ht (gWS (wr_17 _ (List.mem_of_getElem? (i := 9) rfl)) (wr_17 _ (List.mem_of_getElem? (i := 10) rfl)) (wr_1 _ (List.mem_of_getElem? (i := 5) rfl)) (wr_17 _ (List.mem_of_getElem? (i := 11) rfl))) rfl rfl rfl (by decide +kernel) ⟨Nat.le_of_ble_eq_true rfl, Nat.le_of_ble_eq_true rfl⟩) ⟨PW_blind, PW_call hPc hDc hKc hS hG hFc⟩ rfl rfl hl.1 rfl (lv_room (Nat.le_of_ble_eq_true rfl)) dX18_makerAt_12 ⟨Nat.le_of_ble_eq_true rfl, Nat.le_of_ble_eq_true rfl⟩) hS (fun q _ h => hFc q h) hFc (fun r_12 u t H1 locs ht9 hvm hw hB hz1 hk1 hS => ?_)
  obtain ⟨hP1, hK1, hD1⟩ := hB
  rw [ht9] at hP1
  have hK1 := va_K.moved hvm.symm hK1
  obtain ⟨hP, hD⟩ := va_join (wr := [(om, .inr (20, [.ref mt, .ref qu, .int 0, .int th, .ref lv, .int (-1), .int 0, .int 0, .ref mi, .int 0, .int 0, .int 0, .int 0, .ref ml, .ref mss, .ref rn, .ref sw, .ref mf, .null, .int 0, .ref msp, .int 0, .int 0, .int 0])), (lv, .inr (1, [.int 0, .ref de, .int 0])), (rn, .inr (1, [.int 0, .ref de, .int 0])), (ml, .inl (cS, 6, .inl (slotF))), (mf, .inl (cF, 96, .inl (fun _ => 0))), (sw, .inr (1, [.int 0, .ref de, .int 0]))]) (w1 := []) hP hD [] [0, 1, 2, 3, 4, 5] rfl rfl (by decide) (by decide) hk1 hFc hP1 hD1
  have hK := (hK.sub (tys' := [(cS, .int), (cF, .int)]) [0, 1] rfl).app hK1
  generalize H1 = H at hP hS ⊢
  replace hP : va_P (dC, dI) vwCl [(om, .inr (20, [.ref mt, .ref qu, .int 0, .int th, .ref lv, .int (-1), .int 0, .int 0, .ref mi, .int 0, .int 0, .int 0, .int 0, .ref ml, .ref mss, .ref rn, .ref sw, .ref mf, .null, .int 0, .ref msp, .int 0, .int 0, .int 0])), (lv, .inr (1, [.int 0, .ref de, .int 0])), (rn, .inr (1, [.int 0, .ref de, .int 0])), (ml, .inl (cS, 6, .inl (slotF))), (mf, .inl (cF, 96, .inl (fun _ => 0))), (sw, .inr (1, [.int 0, .ref de, .int 0]))] H := hP
  replace hD : va_D A [(om, .inr (20, [.ref mt, .ref qu, .int 0, .int th, .ref lv, .int (-1), .int 0, .int 0, .ref mi, .int 0, .int 0, .int 0, .int 0, .ref ml, .ref mss, .ref rn, .ref sw, .ref mf, .null, .int 0, .ref msp, .int 0, .int 0, .int 0])), (lv, .inr (1, [.int 0, .ref de, .int 0])), (rn, .inr (1, [.int 0, .ref de, .int 0])), (ml, .inl (cS, 6, .inl (slotF))), (mf, .inl (cF, 96, .inl (fun _ => 0))), (sw, .inr (1, [.int 0, .ref de, .int 0]))] := hD
  have hK : va_K (dC, dI) vwCl [(cS, .int), (cF, .int)] s := hK
  rcases hw with ⟨rfl, m_12⟩ | ⟨rfl, m_12⟩
  · exact absurd (show (0 : Int32) ≤ a1 ∧ a1 ≤ 0 - 1 from m_12) (no_in a1)
  · refine lv_if_eq (tgt := 22) hx hb dX18_makerAt_15 (by decide) (fun c_15 => ?_) (fun c_15 => absurd c_15 (by decide))
    refine lv_iconst (v := 1) hx hb dX18_makerAt_22 (by decide) ?_
    refine va_put (D := (dC, dI)) (ci := 20) (v := .int 1) (ty := .int) (C := RX18) (T := TX18) (N := 24) hx hb ht inlX18 tyX18 tyX18_ok nmX18 hown hK hP hD hS 0 rfl rfl 3 (by decide) (ht _ (wr_17 _ (List.mem_of_getElem? (i := 5) rfl))) (fun _ h9 => h9) rfl (by decide +kernel) rfl rfl (Nat.le_of_ble_eq_true rfl) dX18_makerAt_23 (fun H locs hP hD hS => ?_)
    replace hP : va_P (dC, dI) vwCl [(om, .inr (20, [.ref mt, .ref qu, .int 0, .int 1, .ref lv, .int (-1), .int 0, .int 0, .ref mi, .int 0, .int 0, .int 0, .int 0, .ref ml, .ref mss, .ref rn, .ref sw, .ref mf, .null, .int 0, .ref msp, .int 0, .int 0, .int 0])), (lv, .inr (1, [.int 0, .ref de, .int 0])), (rn, .inr (1, [.int 0, .ref de, .int 0])), (ml, .inl (cS, 6, .inl (slotF))), (mf, .inl (cF, 96, .inl (fun _ => 0))), (sw, .inr (1, [.int 0, .ref de, .int 0]))] H := hP
    replace hD : va_D A [(om, .inr (20, [.ref mt, .ref qu, .int 0, .int 1, .ref lv, .int (-1), .int 0, .int 0, .ref mi, .int 0, .int 0, .int 0, .int 0, .ref ml, .ref mss, .ref rn, .ref sw, .ref mf, .null, .int 0, .ref msp, .int 0, .int 0, .int 0])), (lv, .inr (1, [.int 0, .ref de, .int 0])), (rn, .inr (1, [.int 0, .ref de, .int 0])), (ml, .inl (cS, 6, .inl (slotF))), (mf, .inl (cF, 96, .inl (fun _ => 0))), (sw, .inr (1, [.int 0, .ref de, .int 0]))] := hD
    refine lv_aload_n hx hb dX18_makerAt_26 rfl (lv_at hl 0 rfl) ?_
    refine va_get (D := (dC, dI)) (ci := 20) (v := .ref sw) (C := RX18) (T := TX18) (N := 24) hx hb ht inlX18 hown hK hP 0 rfl rfl 16 (by decide) (ht _ (wr_8 _ (List.mem_of_getElem? (i := 13) rfl))) (fun _ h9 => h9) rfl dX18_makerAt_27 ?_
    have hPc := hP.sub (ws' := [(sw, .inr (1, [.int 0, .ref de, .int 0]))]) [5] rfl
    have hDc := hD.sub (ws' := [(sw, .inr (1, [.int 0, .ref de, .int 0]))]) [5] (by decide) rfl
    have hKc := hK.sub (tys' := []) [] rfl
    have hFc := va_free (wc := [(sw, .inr (1, [.int 0, .ref de, .int 0]))]) hD hS hA [5] rfl
    refine va_callr (va_runV (As := []) (rest := []) ⟨hx, hb, hml, hown, ht⟩ (c_Jx4a65c_iterator_32c93 l dC dI de (sw) H.size) (cwV 0 ht (gWV (wr_67 _ (List.mem_of_getElem? (i := 11) rfl)) (wr_36 _ (List.mem_of_getElem? (i := 5) rfl)) (wr_36 _ (List.mem_of_getElem? (i := 6) rfl)) (wr_1 _ (List.mem_of_getElem? (i := 16) rfl)) (wr_36 _ (List.mem_of_getElem? (i := 7) rfl))) rfl rfl rfl (by decide +kernel) ⟨Nat.le_of_ble_eq_true rfl, Nat.le_of_ble_eq_true rfl⟩) ⟨PW_blind, va_recv hKc hPc (ci := 1) (q0 := 0) rfl rfl, PW_call hPc hDc hKc hS hG hFc⟩ rfl rfl hl.1 rfl (lv_room (Nat.le_of_ble_eq_true rfl)) dX18_makerAt_30 ⟨Nat.le_of_ble_eq_true rfl, Nat.le_of_ble_eq_true rfl⟩) hS (fun q _ h => hFc q h) hFc (fun u ra_30 t H1 locs ht9 hvm hw hB hz1 hk1 hS => ?_)
    obtain ⟨hP1, hK1, hD1⟩ := hB
    rw [ht9] at hP1
    have hK1 := va_K.moved hvm.symm hK1
    obtain ⟨hP, hD⟩ := va_join (wr := [(om, .inr (20, [.ref mt, .ref qu, .int 0, .int 1, .ref lv, .int (-1), .int 0, .int 0, .ref mi, .int 0, .int 0, .int 0, .int 0, .ref ml, .ref mss, .ref rn, .ref sw, .ref mf, .null, .int 0, .ref msp, .int 0, .int 0, .int 0])), (lv, .inr (1, [.int 0, .ref de, .int 0])), (rn, .inr (1, [.int 0, .ref de, .int 0])), (ml, .inl (cS, 6, .inl (slotF))), (mf, .inl (cF, 96, .inl (fun _ => 0)))]) (w1 := [(sw, .inr (1, [.int 0, .ref de, .int 0])), (ra_30, .inr (0, [.int 0, .int (-1), .int 0, .ref sw]))]) hP hD [5] [0, 1, 2, 3, 4] rfl rfl (by decide) (by decide) hk1 hFc hP1 hD1
    have hK := (hK.sub (tys' := [(cS, .int), (cF, .int)]) [0, 1] rfl).app hK1
    generalize H1 = H at hP hS ⊢
    replace hP : va_P (dC, dI) vwCl [(om, .inr (20, [.ref mt, .ref qu, .int 0, .int 1, .ref lv, .int (-1), .int 0, .int 0, .ref mi, .int 0, .int 0, .int 0, .int 0, .ref ml, .ref mss, .ref rn, .ref sw, .ref mf, .null, .int 0, .ref msp, .int 0, .int 0, .int 0])), (lv, .inr (1, [.int 0, .ref de, .int 0])), (rn, .inr (1, [.int 0, .ref de, .int 0])), (ml, .inl (cS, 6, .inl (slotF))), (mf, .inl (cF, 96, .inl (fun _ => 0))), (sw, .inr (1, [.int 0, .ref de, .int 0])), (ra_30, .inr (0, [.int 0, .int (-1), .int 0, .ref sw]))] H := hP
    replace hD : va_D A [(om, .inr (20, [.ref mt, .ref qu, .int 0, .int 1, .ref lv, .int (-1), .int 0, .int 0, .ref mi, .int 0, .int 0, .int 0, .int 0, .ref ml, .ref mss, .ref rn, .ref sw, .ref mf, .null, .int 0, .ref msp, .int 0, .int 0, .int 0])), (lv, .inr (1, [.int 0, .ref de, .int 0])), (rn, .inr (1, [.int 0, .ref de, .int 0])), (ml, .inl (cS, 6, .inl (slotF))), (mf, .inl (cF, 96, .inl (fun _ => 0))), (sw, .inr (1, [.int 0, .ref de, .int 0])), (ra_30, .inr (0, [.int 0, .int (-1), .int 0, .ref sw]))] := hD
    have hK : va_K (dC, dI) vwCl [(cS, .int), (cF, .int)] s := hK
    refine W.widen (k := 1) (n := 4) (Nat.le_of_ble_eq_true rfl) (Nat.le_of_ble_eq_true rfl) ?_
    refine lv_astore_n (lv' := [(2, .ref ra_30), (0, .ref om), (1, .int a1)]) hx hb dX18_makerAt_33 rfl hl (by decide) rfl (fun ls hl => ?_)
    refine lv_aload_n hx hb dX18_makerAt_34 rfl (lv_at hl 0 rfl) ?_
    have hPc := hP.sub (ws' := [(ra_30, .inr (0, [.int 0, .int (-1), .int 0, .ref sw])), (sw, .inr (1, [.int 0, .ref de, .int 0]))]) [6, 5] rfl
    have hDc := hD.sub (ws' := [(ra_30, .inr (0, [.int 0, .int (-1), .int 0, .ref sw])), (sw, .inr (1, [.int 0, .ref de, .int 0]))]) [6, 5] (by decide) rfl
    have hKc := hK.sub (tys' := []) [] rfl
    have hFc := va_free (wc := [(ra_30, .inr (0, [.int 0, .int (-1), .int 0, .ref sw])), (sw, .inr (1, [.int 0, .ref de, .int 0]))]) hD hS hA [6, 5] rfl
    refine va_callFi (va_runF (As := []) (rest := []) (hK.1 0 _ rfl).2 ⟨hx, hb, hml, hown, ht⟩ (c_Jx35411_hasNext_aae02 l dC dI de (ra_30) (sw) H.size) (va_cwF 0 ht (gWF (wr_67 _ (List.mem_of_getElem? (i := 12) rfl)) (wr_36 _ (List.mem_of_getElem? (i := 20) rfl)) (wr_36 _ (List.mem_of_getElem? (i := 21) rfl)) (wr_36 _ (List.mem_of_getElem? (i := 10) rfl)) (wr_36 _ (List.mem_of_getElem? (i := 22) rfl))) rfl rfl rfl hG.2.2.2.2.2.2.2.2.2 (by decide +kernel) ⟨Nat.le_of_ble_eq_true rfl, Nat.le_of_ble_eq_true rfl⟩) ⟨PW_blind, va_recv hKc hPc (ci := 0) (q0 := 0) rfl rfl, PW_call hPc hDc hKc hS hG hFc⟩ rfl rfl hl.1 rfl (lv_room (Nat.le_of_ble_eq_true rfl)) dX18_makerAt_35 ⟨Nat.le_of_ble_eq_true rfl, Nat.le_of_ble_eq_true rfl⟩) hS (fun q _ h => hFc q h) hFc (fun r_35 u t H1 locs ht9 hvm hw hB hz1 hk1 hS => ?_)
    obtain ⟨hP1, hK1, hD1⟩ := hB
    rw [ht9] at hP1
    have hK1 := va_K.moved hvm.symm hK1
    obtain ⟨hP, hD⟩ := va_join (wr := [(om, .inr (20, [.ref mt, .ref qu, .int 0, .int 1, .ref lv, .int (-1), .int 0, .int 0, .ref mi, .int 0, .int 0, .int 0, .int 0, .ref ml, .ref mss, .ref rn, .ref sw, .ref mf, .null, .int 0, .ref msp, .int 0, .int 0, .int 0])), (lv, .inr (1, [.int 0, .ref de, .int 0])), (rn, .inr (1, [.int 0, .ref de, .int 0])), (ml, .inl (cS, 6, .inl (slotF))), (mf, .inl (cF, 96, .inl (fun _ => 0)))]) (w1 := [(ra_30, .inr (0, [.int 0, .int (-1), .int 0, .ref sw])), (sw, .inr (1, [.int 0, .ref de, .int 0]))]) hP hD [6, 5] [0, 1, 2, 3, 4] rfl rfl (by decide) (by decide) hk1 hFc hP1 hD1
    have hK := (hK.sub (tys' := [(cS, .int), (cF, .int)]) [0, 1] rfl).app hK1
    generalize H1 = H at hP hS ⊢
    replace hP : va_P (dC, dI) vwCl [(om, .inr (20, [.ref mt, .ref qu, .int 0, .int 1, .ref lv, .int (-1), .int 0, .int 0, .ref mi, .int 0, .int 0, .int 0, .int 0, .ref ml, .ref mss, .ref rn, .ref sw, .ref mf, .null, .int 0, .ref msp, .int 0, .int 0, .int 0])), (lv, .inr (1, [.int 0, .ref de, .int 0])), (rn, .inr (1, [.int 0, .ref de, .int 0])), (ml, .inl (cS, 6, .inl (slotF))), (mf, .inl (cF, 96, .inl (fun _ => 0))), (ra_30, .inr (0, [.int 0, .int (-1), .int 0, .ref sw])), (sw, .inr (1, [.int 0, .ref de, .int 0]))] H := hP
    replace hD : va_D A [(om, .inr (20, [.ref mt, .ref qu, .int 0, .int 1, .ref lv, .int (-1), .int 0, .int 0, .ref mi, .int 0, .int 0, .int 0, .int 0, .ref ml, .ref mss, .ref rn, .ref sw, .ref mf, .null, .int 0, .ref msp, .int 0, .int 0, .int 0])), (lv, .inr (1, [.int 0, .ref de, .int 0])), (rn, .inr (1, [.int 0, .ref de, .int 0])), (ml, .inl (cS, 6, .inl (slotF))), (mf, .inl (cF, 96, .inl (fun _ => 0))), (ra_30, .inr (0, [.int 0, .int (-1), .int 0, .ref sw])), (sw, .inr (1, [.int 0, .ref de, .int 0]))] := hD
    have hK : va_K (dC, dI) vwCl [(cS, .int), (cF, .int)] s := hK
    have e_35 : r_35 = 0 := hw
    subst e_35
    refine lv_if_eq (tgt := 173) hx hb dX18_makerAt_40 (by decide) (fun c_40 => ?_) (fun c_40 => absurd c_40 (by decide))
    refine lv_iconst (v := 0) hx hb dX18_makerAt_173 (by decide) ?_
    have hP9 := hP.sub (ws' := [(om, .inr (20, [.ref mt, .ref qu, .int 0, .int 1, .ref lv, .int (-1), .int 0, .int 0, .ref mi, .int 0, .int 0, .int 0, .int 0, .ref ml, .ref mss, .ref rn, .ref sw, .ref mf, .null, .int 0, .ref msp, .int 0, .int 0, .int 0])), (lv, .inr (1, [.int 0, .ref de, .int 0])), (rn, .inr (1, [.int 0, .ref de, .int 0])), (sw, .inr (1, [.int 0, .ref de, .int 0])), (ml, .inl (cS, 6, .inl (slotF))), (mf, .inl (cF, 96, .inl (fun _ => 0)))]) [0, 1, 2, 6, 3, 4] rfl
    have hD9 := hD.sub (ws' := [(om, .inr (20, [.ref mt, .ref qu, .int 0, .int 1, .ref lv, .int (-1), .int 0, .int 0, .ref mi, .int 0, .int 0, .int 0, .int 0, .ref ml, .ref mss, .ref rn, .ref sw, .ref mf, .null, .int 0, .ref msp, .int 0, .int 0, .int 0])), (lv, .inr (1, [.int 0, .ref de, .int 0])), (rn, .inr (1, [.int 0, .ref de, .int 0])), (sw, .inr (1, [.int 0, .ref de, .int 0])), (ml, .inl (cS, 6, .inl (slotF))), (mf, .inl (cF, 96, .inl (fun _ => 0)))]) [0, 1, 2, 6, 3, 4] (by decide) rfl
    have hK9 := hK.sub (tys' := [(cS, .int), (cF, .int)]) [0, 1] rfl
    exact W.iret (v := 0) hx hb hr (fun t htt hW => have ht := htt; ⟨⟨0, (), rfl, trivial, QW_of ht hW hP9 hK9 hD9⟩, hS.F ht⟩) hS.2.2 dX18_makerAt_174
