theorem dL_law_928 : decode cL_law 928 = .ok (.aload_n 1, 1) := by decide +kernel
theorem dL_law_929 : decode cL_law 929 = .ok (.aload_n 0, 1) := by decide +kernel
theorem dL_law_930 : decode cL_law 930 = .ok (.iload 5, 2) := by decide +kernel
theorem dL_law_932 : decode cL_law 932 = .ok (.iconst 1, 1) := by decide +kernel
theorem dL_law_933 : decode cL_law 933 = .ok (.iadd, 1) := by decide +kernel
theorem dL_law_934 : decode cL_law 934 = .ok (.iaload, 1) := by decide +kernel
theorem dL_law_935 : decode cL_law 935 = .ok (.aload_n 0, 1) := by decide +kernel
theorem dL_law_936 : decode cL_law 936 = .ok (.iload 5, 2) := by decide +kernel
theorem dL_law_938 : decode cL_law 938 = .ok (.iconst 2, 1) := by decide +kernel
theorem dL_law_939 : decode cL_law 939 = .ok (.iadd, 1) := by decide +kernel
theorem dL_law_940 : decode cL_law 940 = .ok (.iaload, 1) := by decide +kernel
theorem dL_law_941 : decode cL_law 941 = .ok (.aload_n 3, 1) := by decide +kernel
theorem dL_law_942 : decode cL_law 942 = .ok (.invokestatic 206, 3) := by decide +kernel
theorem dL_law_945 : decode cL_law 945 = .ok (.istore 6, 2) := by decide +kernel
theorem dL_law_947 : decode cL_law 947 = .ok (.aload_n 2, 1) := by decide +kernel
theorem dL_law_948 : decode cL_law 948 = .ok (.aload_n 0, 1) := by decide +kernel
theorem dL_law_949 : decode cL_law 949 = .ok (.iload 5, 2) := by decide +kernel
theorem dL_law_951 : decode cL_law 951 = .ok (.iconst 1, 1) := by decide +kernel
theorem dL_law_952 : decode cL_law 952 = .ok (.iadd, 1) := by decide +kernel
theorem dL_law_953 : decode cL_law 953 = .ok (.iaload, 1) := by decide +kernel
theorem dL_law_954 : decode cL_law 954 = .ok (.aload_n 0, 1) := by decide +kernel
theorem dL_law_955 : decode cL_law 955 = .ok (.iload 5, 2) := by decide +kernel
theorem dL_law_957 : decode cL_law 957 = .ok (.iconst 2, 1) := by decide +kernel
theorem dL_law_958 : decode cL_law 958 = .ok (.iadd, 1) := by decide +kernel
theorem dL_law_959 : decode cL_law 959 = .ok (.iaload, 1) := by decide +kernel
theorem dL_law_960 : decode cL_law 960 = .ok (.invokevirtual 209, 3) := by decide +kernel
theorem dL_law_963 : decode cL_law 963 = .ok (.istore 7, 2) := by decide +kernel
theorem dL_law_965 : decode cL_law 965 = .ok (.aload_n 2, 1) := by decide +kernel
theorem dL_law_966 : decode cL_law 966 = .ok (.invokevirtual 177, 3) := by decide +kernel
theorem dL_law_969 : decode cL_law 969 = .ok (.iload 6, 2) := by decide +kernel
theorem dL_law_971 : decode cL_law 971 = .ok (.if_icmp .eq 5, 3) := by decide +kernel
theorem dL_law_976 : decode cL_law 976 = .ok (.iload 6, 2) := by decide +kernel
theorem dL_law_978 : decode cL_law 978 = .ok (.ifCond .ne 15, 3) := by decide +kernel
theorem dL_law_993 : decode cL_law 993 = .ok (.goto 2243, 3) := by decide +kernel
theorem dL_law_996 : decode cL_law 996 = .ok (.aload_n 1, 1) := by decide +kernel
theorem dL_law_997 : decode cL_law 997 = .ok (.aload_n 0, 1) := by decide +kernel
theorem dL_law_998 : decode cL_law 998 = .ok (.iload 5, 2) := by decide +kernel
theorem dL_law_1000 : decode cL_law 1000 = .ok (.iconst 1, 1) := by decide +kernel
theorem dL_law_1001 : decode cL_law 1001 = .ok (.iadd, 1) := by decide +kernel
theorem dL_law_1002 : decode cL_law 1002 = .ok (.iaload, 1) := by decide +kernel
theorem dL_law_1003 : decode cL_law 1003 = .ok (.aload_n 3, 1) := by decide +kernel
theorem dL_law_1004 : decode cL_law 1004 = .ok (.invokestatic 210, 3) := by decide +kernel
theorem dL_law_1007 : decode cL_law 1007 = .ok (.istore 6, 2) := by decide +kernel
theorem dL_law_1009 : decode cL_law 1009 = .ok (.aload_n 2, 1) := by decide +kernel
theorem dL_law_1010 : decode cL_law 1010 = .ok (.aload_n 0, 1) := by decide +kernel
theorem dL_law_1011 : decode cL_law 1011 = .ok (.iload 5, 2) := by decide +kernel
theorem dL_law_1013 : decode cL_law 1013 = .ok (.iconst 1, 1) := by decide +kernel
theorem dL_law_1014 : decode cL_law 1014 = .ok (.iadd, 1) := by decide +kernel
theorem dL_law_1015 : decode cL_law 1015 = .ok (.iaload, 1) := by decide +kernel
theorem dL_law_1016 : decode cL_law 1016 = .ok (.invokevirtual 212, 3) := by decide +kernel
theorem dL_law_1019 : decode cL_law 1019 = .ok (.istore 7, 2) := by decide +kernel
theorem dL_law_1021 : decode cL_law 1021 = .ok (.aload_n 2, 1) := by decide +kernel
theorem dL_law_1022 : decode cL_law 1022 = .ok (.invokevirtual 177, 3) := by decide +kernel
theorem dL_law_1025 : decode cL_law 1025 = .ok (.iload 6, 2) := by decide +kernel
theorem dL_law_1027 : decode cL_law 1027 = .ok (.if_icmp .eq 5, 3) := by decide +kernel
theorem dL_law_1032 : decode cL_law 1032 = .ok (.iload 6, 2) := by decide +kernel
theorem dL_law_1034 : decode cL_law 1034 = .ok (.ifCond .ne 22, 3) := by decide +kernel
theorem dL_law_1056 : decode cL_law 1056 = .ok (.goto 2180, 3) := by decide +kernel
theorem dL_law_1059 : decode cL_law 1059 = .ok (.aload_n 1, 1) := by decide +kernel
theorem dL_law_1060 : decode cL_law 1060 = .ok (.aload_n 0, 1) := by decide +kernel
theorem dL_law_1061 : decode cL_law 1061 = .ok (.iload 5, 2) := by decide +kernel
theorem dL_law_1063 : decode cL_law 1063 = .ok (.iconst 1, 1) := by decide +kernel
theorem dL_law_1064 : decode cL_law 1064 = .ok (.iadd, 1) := by decide +kernel
theorem dL_law_1065 : decode cL_law 1065 = .ok (.iaload, 1) := by decide +kernel
theorem dL_law_1066 : decode cL_law 1066 = .ok (.aload_n 3, 1) := by decide +kernel
theorem dL_law_1067 : decode cL_law 1067 = .ok (.invokestatic 213, 3) := by decide +kernel
theorem dL_law_1070 : decode cL_law 1070 = .ok (.istore 6, 2) := by decide +kernel
theorem dL_law_1072 : decode cL_law 1072 = .ok (.aload_n 2, 1) := by decide +kernel
theorem dL_law_1073 : decode cL_law 1073 = .ok (.aload_n 0, 1) := by decide +kernel
theorem dL_law_1074 : decode cL_law 1074 = .ok (.iload 5, 2) := by decide +kernel
theorem dL_law_1076 : decode cL_law 1076 = .ok (.iconst 1, 1) := by decide +kernel
theorem dL_law_1077 : decode cL_law 1077 = .ok (.iadd, 1) := by decide +kernel
theorem dL_law_1078 : decode cL_law 1078 = .ok (.iaload, 1) := by decide +kernel
theorem dL_law_1079 : decode cL_law 1079 = .ok (.invokevirtual 215, 3) := by decide +kernel
theorem dL_law_1082 : decode cL_law 1082 = .ok (.istore 7, 2) := by decide +kernel
theorem dL_law_1084 : decode cL_law 1084 = .ok (.aload_n 2, 1) := by decide +kernel
theorem dL_law_1085 : decode cL_law 1085 = .ok (.invokevirtual 177, 3) := by decide +kernel
theorem dL_law_1088 : decode cL_law 1088 = .ok (.iload 6, 2) := by decide +kernel
theorem dL_law_1090 : decode cL_law 1090 = .ok (.if_icmp .eq 5, 3) := by decide +kernel
theorem dL_law_1095 : decode cL_law 1095 = .ok (.iload 6, 2) := by decide +kernel
theorem dL_law_1097 : decode cL_law 1097 = .ok (.ifCond .ne 15, 3) := by decide +kernel
theorem dL_law_1112 : decode cL_law 1112 = .ok (.goto 2124, 3) := by decide +kernel
theorem dL_law_1115 : decode cL_law 1115 = .ok (.aload_n 1, 1) := by decide +kernel
theorem dL_law_1116 : decode cL_law 1116 = .ok (.aload_n 0, 1) := by decide +kernel
theorem dL_law_1117 : decode cL_law 1117 = .ok (.iload 5, 2) := by decide +kernel
theorem dL_law_1119 : decode cL_law 1119 = .ok (.iconst 1, 1) := by decide +kernel
theorem dL_law_1120 : decode cL_law 1120 = .ok (.iadd, 1) := by decide +kernel
theorem dL_law_1121 : decode cL_law 1121 = .ok (.iaload, 1) := by decide +kernel
theorem dL_law_1122 : decode cL_law 1122 = .ok (.aload_n 0, 1) := by decide +kernel
theorem dL_law_1123 : decode cL_law 1123 = .ok (.iload 5, 2) := by decide +kernel
theorem dL_law_1125 : decode cL_law 1125 = .ok (.iconst 2, 1) := by decide +kernel
theorem dL_law_1126 : decode cL_law 1126 = .ok (.iadd, 1) := by decide +kernel
theorem dL_law_1127 : decode cL_law 1127 = .ok (.iaload, 1) := by decide +kernel
theorem dL_law_1128 : decode cL_law 1128 = .ok (.aload_n 3, 1) := by decide +kernel
theorem dL_law_1129 : decode cL_law 1129 = .ok (.invokestatic 216, 3) := by decide +kernel
theorem dL_law_1132 : decode cL_law 1132 = .ok (.istore 6, 2) := by decide +kernel
theorem dL_law_1134 : decode cL_law 1134 = .ok (.aload_n 2, 1) := by decide +kernel
theorem dL_law_1135 : decode cL_law 1135 = .ok (.aload_n 0, 1) := by decide +kernel
theorem dL_law_1136 : decode cL_law 1136 = .ok (.iload 5, 2) := by decide +kernel
theorem dL_law_1138 : decode cL_law 1138 = .ok (.iconst 1, 1) := by decide +kernel
theorem dL_law_1139 : decode cL_law 1139 = .ok (.iadd, 1) := by decide +kernel
theorem dL_law_1140 : decode cL_law 1140 = .ok (.iaload, 1) := by decide +kernel
theorem dL_law_1141 : decode cL_law 1141 = .ok (.aload_n 0, 1) := by decide +kernel
theorem dL_law_1142 : decode cL_law 1142 = .ok (.iload 5, 2) := by decide +kernel
theorem dL_law_1144 : decode cL_law 1144 = .ok (.iconst 2, 1) := by decide +kernel
theorem dL_law_1145 : decode cL_law 1145 = .ok (.iadd, 1) := by decide +kernel
theorem dL_law_1146 : decode cL_law 1146 = .ok (.iaload, 1) := by decide +kernel
theorem dL_law_1147 : decode cL_law 1147 = .ok (.invokevirtual 218, 3) := by decide +kernel
theorem dL_law_1150 : decode cL_law 1150 = .ok (.istore 7, 2) := by decide +kernel
theorem dL_law_1152 : decode cL_law 1152 = .ok (.aload_n 2, 1) := by decide +kernel
theorem dL_law_1153 : decode cL_law 1153 = .ok (.invokevirtual 177, 3) := by decide +kernel
theorem dL_law_1156 : decode cL_law 1156 = .ok (.iload 6, 2) := by decide +kernel
theorem dL_law_1158 : decode cL_law 1158 = .ok (.if_icmp .eq 5, 3) := by decide +kernel
theorem dL_law_1163 : decode cL_law 1163 = .ok (.iload 6, 2) := by decide +kernel
theorem dL_law_1165 : decode cL_law 1165 = .ok (.ifCond .ne 15, 3) := by decide +kernel
theorem dL_law_1180 : decode cL_law 1180 = .ok (.goto 2056, 3) := by decide +kernel
set_option maxHeartbeats 4000000 in
set_option maxRecDepth 100000 in
theorem lc_8 {p : Program} {l : Launch} {e : Env} {s : State} {m : MethodId} {below : List Frame} {meth : Method} {c : Code} {b : Nat} {xs : Nat → Int32} {de : Nat} {A : Nat → Prop} (C0 : LX p l s m meth c b xs de A) {dC : Nat → ClassId} {dI : Nat → Nat → Nat} {ox pl ru sh sp sl gr re pr ga rp bo fa gpl gin bbe bdi om mt qu lv mi ml mss rn sw mf msp oq od : Nat} {cP cI cS cF cL cE : ClassId} {H : Heap} {locs : List Loc} {ls : Array Slot} (hl : lv_has ls 9 [(5, .int 0), (4, .ref od), (3, .ref oq), (2, .ref om), (1, .ref ox), (0, .ref b)]) (hK : va_K (dC, dI) vwCl [(cP, .object "Levelsmith$Player"), (cI, .int), (cS, .int), (cF, .int), (cL, .long), (cE, .double)] s) (hP : va_P (dC, dI) vwCl (WLL ox pl ru sh sp sl gr re pr ga rp bo fa gpl gin bbe bdi om mt qu lv mi ml mss rn sw mf msp oq od cP cI cS cF cL cE de) H) (hD : va_D A (WLL ox pl ru sh sp sl gr re pr ga rp bo fa gpl gin bbe bdi om mt qu lv mi ml mss rn sw mf msp oq od cP cI cS cF cL cE de)) (hS : va_S A s.heap H locs) : W p l e room_1 s m #[Value.ref b] below meth c H locs 64 1163523 (lw_Z below #[Value.ref b] s) (F0 m 928 ls []) := by
  have C1 := C0
  obtain ⟨hlt, hx, hb, hr, hml, hown, ht, hX, hbl, hlocks, hG, hA, hAs, hbA⟩ := C0
  replace hP : va_P (dC, dI) vwCl [(ox, .inr (13, [.ref pl, .ref ru, .ref sh, .ref sp, .ref sl, .ref gr, .ref re, .ref pr, .ref ga, .ref rp, .ref bo, .int 0])), (pl, .inr (1, [.int 0, .ref de, .int 0])), (ru, .inr (1, [.int 0, .ref de, .int 0])), (sh, .inr (1, [.int 0, .ref de, .int 0])), (sp, .inl (cP, 6, .inr (.inr (.inr (.inr (fun _ => none)))))), (ga, .inr (5, [.ref gpl, .ref gin, .int (-1), .int 0, .int 112, .int 0])), (bo, .inr (2, [.ref fa, .ref bbe, .ref bdi, .int 0, .int 0])), (fa, .inl (cI, 96, .inl (fun _ => 0))), (om, .inr (20, [.ref mt, .ref qu, .int 0, .int 0, .ref lv, .int (-1), .int 0, .int 0, .ref mi, .int 0, .int 0, .int 0, .int 0, .ref ml, .ref mss, .ref rn, .ref sw, .ref mf, .null, .int 0, .ref msp, .int 0, .int 0, .int 0])), (lv, .inr (1, [.int 0, .ref de, .int 0])), (rn, .inr (1, [.int 0, .ref de, .int 0])), (sw, .inr (1, [.int 0, .ref de, .int 0])), (ml, .inl (cS, 6, .inl (slotF))), (mf, .inl (cF, 96, .inl (fun _ => 0))), (oq, .inl (cL, 1, .inr (.inl (fun _ => 0)))), (od, .inl (cE, 1, .inr (.inr (.inr (.inl (fun _ => 0))))))] H := hP
  replace hD : va_D A [(ox, .inr (13, [.ref pl, .ref ru, .ref sh, .ref sp, .ref sl, .ref gr, .ref re, .ref pr, .ref ga, .ref rp, .ref bo, .int 0])), (pl, .inr (1, [.int 0, .ref de, .int 0])), (ru, .inr (1, [.int 0, .ref de, .int 0])), (sh, .inr (1, [.int 0, .ref de, .int 0])), (sp, .inl (cP, 6, .inr (.inr (.inr (.inr (fun _ => none)))))), (ga, .inr (5, [.ref gpl, .ref gin, .int (-1), .int 0, .int 112, .int 0])), (bo, .inr (2, [.ref fa, .ref bbe, .ref bdi, .int 0, .int 0])), (fa, .inl (cI, 96, .inl (fun _ => 0))), (om, .inr (20, [.ref mt, .ref qu, .int 0, .int 0, .ref lv, .int (-1), .int 0, .int 0, .ref mi, .int 0, .int 0, .int 0, .int 0, .ref ml, .ref mss, .ref rn, .ref sw, .ref mf, .null, .int 0, .ref msp, .int 0, .int 0, .int 0])), (lv, .inr (1, [.int 0, .ref de, .int 0])), (rn, .inr (1, [.int 0, .ref de, .int 0])), (sw, .inr (1, [.int 0, .ref de, .int 0])), (ml, .inl (cS, 6, .inl (slotF))), (mf, .inl (cF, 96, .inl (fun _ => 0))), (oq, .inl (cL, 1, .inr (.inl (fun _ => 0)))), (od, .inl (cE, 1, .inr (.inr (.inr (.inl (fun _ => 0))))))] := hD
  refine lv_aload_n hx hb dL_law_928 rfl (lv_at hl 4 rfl) ?_
  refine lv_aload_n hx hb dL_law_929 rfl (lv_at hl 5 rfl) ?_
  refine lv_iload hx hb dL_law_930 (lv_at hl 0 rfl) ?_
  refine lv_iconst (v := 1) hx hb dL_law_932 (by decide) ?_
  refine lv_iadd hx hb dL_law_933 ?_
  refine va_sld hx hb hX hbl hbA hS (by unfold vp_in; decide) dL_law_934 ?_
  refine lv_topi (fun y ey => ?_)
  replace ey : y = (xs 1) := ey.trans (congrArg xs (by decide))
  subst ey
  refine lv_aload_n hx hb dL_law_935 rfl (lv_at hl 5 rfl) ?_
  refine lv_iload hx hb dL_law_936 (lv_at hl 0 rfl) ?_
  refine lv_iconst (v := 2) hx hb dL_law_938 (by decide) ?_
  refine lv_iadd hx hb dL_law_939 ?_
  refine va_sld hx hb hX hbl hbA hS (by unfold vp_in; decide) dL_law_940 ?_
  refine lv_topi (fun y ey => ?_)
  replace ey : y = (xs 2) := ey.trans (congrArg xs (by decide))
  subst ey
  refine lv_aload_n hx hb dL_law_941 rfl (lv_at hl 2 rfl) ?_
  have hPc := hP.sub (ws' := [(ox, .inr (13, [.ref pl, .ref ru, .ref sh, .ref sp, .ref sl, .ref gr, .ref re, .ref pr, .ref ga, .ref rp, .ref bo, .int 0])), (pl, .inr (1, [.int 0, .ref de, .int 0])), (ru, .inr (1, [.int 0, .ref de, .int 0])), (sh, .inr (1, [.int 0, .ref de, .int 0])), (sp, .inl (cP, 6, .inr (.inr (.inr (.inr (fun _ => none)))))), (ga, .inr (5, [.ref gpl, .ref gin, .int (-1), .int 0, .int 112, .int 0])), (bo, .inr (2, [.ref fa, .ref bbe, .ref bdi, .int 0, .int 0])), (fa, .inl (cI, 96, .inl (fun _ => 0))), (oq, .inl (cL, 1, .inr (.inl (fun _ => 0))))]) [0, 1, 2, 3, 4, 5, 6, 7, 14] rfl
  have hDc := hD.sub (ws' := [(ox, .inr (13, [.ref pl, .ref ru, .ref sh, .ref sp, .ref sl, .ref gr, .ref re, .ref pr, .ref ga, .ref rp, .ref bo, .int 0])), (pl, .inr (1, [.int 0, .ref de, .int 0])), (ru, .inr (1, [.int 0, .ref de, .int 0])), (sh, .inr (1, [.int 0, .ref de, .int 0])), (sp, .inl (cP, 6, .inr (.inr (.inr (.inr (fun _ => none)))))), (ga, .inr (5, [.ref gpl, .ref gin, .int (-1), .int 0, .int 112, .int 0])), (bo, .inr (2, [.ref fa, .ref bbe, .ref bdi, .int 0, .int 0])), (fa, .inl (cI, 96, .inl (fun _ => 0))), (oq, .inl (cL, 1, .inr (.inl (fun _ => 0))))]) [0, 1, 2, 3, 4, 5, 6, 7, 14] (by decide) rfl
  have hKc := hK.sub (tys' := [(cP, .object "Levelsmith$Player"), (cI, .int), (cL, .long)]) [0, 1, 4] rfl
  have hFc := va_free (wc := [(ox, .inr (13, [.ref pl, .ref ru, .ref sh, .ref sp, .ref sl, .ref gr, .ref re, .ref pr, .ref ga, .ref rp, .ref bo, .int 0])), (pl, .inr (1, [.int 0, .ref de, .int 0])), (ru, .inr (1, [.int 0, .ref de, .int 0])), (sh, .inr (1, [.int 0, .ref de, .int 0])), (sp, .inl (cP, 6, .inr (.inr (.inr (.inr (fun _ => none)))))), (ga, .inr (5, [.ref gpl, .ref gin, .int (-1), .int 0, .int 112, .int 0])), (bo, .inr (2, [.ref fa, .ref bbe, .ref bdi, .int 0, .int 0])), (fa, .inl (cI, 96, .inl (fun _ => 0))), (oq, .inl (cL, 1, .inr (.inl (fun _ => 0))))]) hD hS hA [0, 1, 2, 3, 4, 5, 6, 7, 14] rfl
  refine vx_calli (vx_runSX (As := [.ref ox, .int (xs 1), .int (xs 2), .ref oq]) (rest := []) ⟨hx, hb, hml, hown, ht⟩ (c_L_grow l hlt dC dI de (ox) (pl) (ru) (sh) (sp) (sl) (gr) (re) (pr) (ga) (rp) (bo) (fa) (gpl) (gin) (bbe) (bdi) (cP) (cI) (oq) (cL) ((xs 1)) ((xs 2)) H.size) (vx_cwSW 4 ht (gWX (wr_26 _ (List.mem_of_getElem? (i := 1) rfl)) (wr_26 _ (List.mem_of_getElem? (i := 2) rfl)) (wr_9 _ (List.mem_of_getElem? (i := 13) rfl)) (wr_26 _ (List.mem_of_getElem? (i := 3) rfl))) rfl rfl rfl (by decide +kernel) ⟨Nat.le_of_ble_eq_true rfl, Nat.le_of_ble_eq_true rfl⟩) ⟨PW_blind, PW_call hPc hDc hKc hS hG hFc⟩ rfl rfl hl.1 rfl (lv_room (Nat.le_of_ble_eq_true rfl)) dL_law_942 ⟨Nat.le_of_ble_eq_true rfl, Nat.le_of_ble_eq_true rfl⟩) hS (fun q _ h => hFc q h) hFc (fun q _ h => hFc q h) (fun E ce q9 u t H1 locs1 ht9 hvm9 _ hR9 hz9 hk9 hS9 hc9 hv9 hcl9 => ?_) (fun r_942 u t H1 locs ht9 hvm hw hB hz1 hk1 hS => ?_)
  · exact False.elim hR9
  · obtain ⟨hP1, hK1, hD1⟩ := hB
    rw [ht9] at hP1
    have hK1 := va_K.moved hvm.symm hK1
    obtain ⟨hP, hD⟩ := va_join (wr := [(om, .inr (20, [.ref mt, .ref qu, .int 0, .int 0, .ref lv, .int (-1), .int 0, .int 0, .ref mi, .int 0, .int 0, .int 0, .int 0, .ref ml, .ref mss, .ref rn, .ref sw, .ref mf, .null, .int 0, .ref msp, .int 0, .int 0, .int 0])), (lv, .inr (1, [.int 0, .ref de, .int 0])), (rn, .inr (1, [.int 0, .ref de, .int 0])), (sw, .inr (1, [.int 0, .ref de, .int 0])), (ml, .inl (cS, 6, .inl (slotF))), (mf, .inl (cF, 96, .inl (fun _ => 0))), (od, .inl (cE, 1, .inr (.inr (.inr (.inl (fun _ => 0))))))]) (w1 := []) hP hD [0, 1, 2, 3, 4, 5, 6, 7, 14] [8, 9, 10, 11, 12, 13, 15] rfl rfl (by decide) (by decide) hk1 hFc hP1 hD1
    have hK := (hK.sub (tys' := [(cS, .int), (cF, .int), (cE, .double)]) [2, 3, 5] rfl).app hK1
    generalize H1 = H at hP hS ⊢
    replace hP : va_P (dC, dI) vwCl [(om, .inr (20, [.ref mt, .ref qu, .int 0, .int 0, .ref lv, .int (-1), .int 0, .int 0, .ref mi, .int 0, .int 0, .int 0, .int 0, .ref ml, .ref mss, .ref rn, .ref sw, .ref mf, .null, .int 0, .ref msp, .int 0, .int 0, .int 0])), (lv, .inr (1, [.int 0, .ref de, .int 0])), (rn, .inr (1, [.int 0, .ref de, .int 0])), (sw, .inr (1, [.int 0, .ref de, .int 0])), (ml, .inl (cS, 6, .inl (slotF))), (mf, .inl (cF, 96, .inl (fun _ => 0))), (od, .inl (cE, 1, .inr (.inr (.inr (.inl (fun _ => 0))))))] H := hP
    replace hD : va_D A [(om, .inr (20, [.ref mt, .ref qu, .int 0, .int 0, .ref lv, .int (-1), .int 0, .int 0, .ref mi, .int 0, .int 0, .int 0, .int 0, .ref ml, .ref mss, .ref rn, .ref sw, .ref mf, .null, .int 0, .ref msp, .int 0, .int 0, .int 0])), (lv, .inr (1, [.int 0, .ref de, .int 0])), (rn, .inr (1, [.int 0, .ref de, .int 0])), (sw, .inr (1, [.int 0, .ref de, .int 0])), (ml, .inl (cS, 6, .inl (slotF))), (mf, .inl (cF, 96, .inl (fun _ => 0))), (od, .inl (cE, 1, .inr (.inr (.inr (.inl (fun _ => 0))))))] := hD
    have hK : va_K (dC, dI) vwCl [(cS, .int), (cF, .int), (cE, .double)] s := hK
    refine W.widen (k := 65) (n := 1163529) (Nat.le_of_ble_eq_true rfl) (Nat.le_of_ble_eq_true rfl) ?_
    have e_942 : r_942 = 1 := hw
    subst e_942
    refine lv_istore (lv' := [(6, .int 1), (5, .int 0), (4, .ref od), (3, .ref oq), (2, .ref om), (1, .ref ox), (0, .ref b)]) hx hb dL_law_945 hl (by decide) rfl (fun ls hl => ?_)
    refine lv_aload_n hx hb dL_law_947 rfl (lv_at hl 4 rfl) ?_
    refine lv_aload_n hx hb dL_law_948 rfl (lv_at hl 6 rfl) ?_
    refine lv_iload hx hb dL_law_949 (lv_at hl 1 rfl) ?_
    refine lv_iconst (v := 1) hx hb dL_law_951 (by decide) ?_
    refine lv_iadd hx hb dL_law_952 ?_
    refine va_sld hx hb hX hbl hbA hS (by unfold vp_in; decide) dL_law_953 ?_
    refine lv_topi (fun y ey => ?_)
    replace ey : y = (xs 1) := ey.trans (congrArg xs (by decide))
    subst ey
    refine lv_aload_n hx hb dL_law_954 rfl (lv_at hl 6 rfl) ?_
    refine lv_iload hx hb dL_law_955 (lv_at hl 1 rfl) ?_
    refine lv_iconst (v := 2) hx hb dL_law_957 (by decide) ?_
    refine lv_iadd hx hb dL_law_958 ?_
    refine va_sld hx hb hX hbl hbA hS (by unfold vp_in; decide) dL_law_959 ?_
    refine lv_topi (fun y ey => ?_)
    replace ey : y = (xs 2) := ey.trans (congrArg xs (by decide))
    subst ey
    have hPc := hP.sub (ws' := [(om, .inr (20, [.ref mt, .ref qu, .int 0, .int 0, .ref lv, .int (-1), .int 0, .int 0, .ref mi, .int 0, .int 0, .int 0, .int 0, .ref ml, .ref mss, .ref rn, .ref sw, .ref mf, .null, .int 0, .ref msp, .int 0, .int 0, .int 0])), (lv, .inr (1, [.int 0, .ref de, .int 0])), (rn, .inr (1, [.int 0, .ref de, .int 0])), (sw, .inr (1, [.int 0, .ref de, .int 0])), (ml, .inl (cS, 6, .inl (slotF))), (mf, .inl (cF, 96, .inl (fun _ => 0)))]) [0, 1, 2, 3, 4, 5] rfl
    have hDc := hD.sub (ws' := [(om, .inr (20, [.ref mt, .ref qu, .int 0, .int 0, .ref lv, .int (-1), .int 0, .int 0, .ref mi, .int 0, .int 0, .int 0, .int 0, .ref ml, .ref mss, .ref rn, .ref sw, .ref mf, .null, .int 0, .ref msp, .int 0, .int 0, .int 0])), (lv, .inr (1, [.int 0, .ref de, .int 0])), (rn, .inr (1, [.int 0, .ref de, .int 0])), (sw, .inr (1, [.int 0, .ref de, .int 0])), (ml, .inl (cS, 6, .inl (slotF))), (mf, .inl (cF, 96, .inl (fun _ => 0)))]) [0, 1, 2, 3, 4, 5] (by decide) rfl
    have hKc := hK.sub (tys' := [(cS, .int), (cF, .int)]) [0, 1] rfl
    have hFc := va_free (wc := [(om, .inr (20, [.ref mt, .ref qu, .int 0, .int 0, .ref lv, .int (-1), .int 0, .int 0, .ref mi, .int 0, .int 0, .int 0, .int 0, .ref ml, .ref mss, .ref rn, .ref sw, .ref mf, .null, .int 0, .ref msp, .int 0, .int 0, .int 0])), (lv, .inr (1, [.int 0, .ref de, .int 0])), (rn, .inr (1, [.int 0, .ref de, .int 0])), (sw, .inr (1, [.int 0, .ref de, .int 0])), (ml, .inl (cS, 6, .inl (slotF))), (mf, .inl (cF, 96, .inl (fun _ => 0)))]) hD hS hA [0, 1, 2, 3, 4, 5] rfl
    refine va_calli (va_runV (As := [.int (xs 1), .int (xs 2)]) (rest := []) ⟨hx, hb, hml, hown, ht⟩ (c_X18_grow l dC dI de (om) (mt) (qu) (lv) (mi) (ml) (mss) (rn) (sw) (mf) (msp) (cS) (cF) (0) ((xs 1)) ((xs 2)) H.size) (cwV 2 ht (gWV (wr_27 _ (List.mem_of_getElem? (i := 15) rfl)) (wr_27 _ (List.mem_of_getElem? (i := 16) rfl)) (wr_27 _ (List.mem_of_getElem? (i := 17) rfl)) (wr_1 _ (List.mem_of_getElem? (i := 5) rfl)) (wr_27 _ (List.mem_of_getElem? (i := 18) rfl))) rfl rfl rfl (by decide +kernel) ⟨Nat.le_of_ble_eq_true rfl, Nat.le_of_ble_eq_true rfl⟩) ⟨PW_blind, va_recv hKc hPc (ci := 20) (q0 := 0) rfl rfl, PW_call hPc hDc hKc hS hG hFc⟩ rfl rfl hl.1 rfl (lv_room (Nat.le_of_ble_eq_true rfl)) dL_law_960 ⟨Nat.le_of_ble_eq_true rfl, Nat.le_of_ble_eq_true rfl⟩) hS (fun q _ h => hFc q h) hFc (fun r_960 u t H1 locs ht9 hvm hw hB hz1 hk1 hS => ?_)
    obtain ⟨hP1, hK1, hD1⟩ := hB
    rw [ht9] at hP1
    have hK1 := va_K.moved hvm.symm hK1
    obtain ⟨hP, hD⟩ := va_join (wr := [(od, .inl (cE, 1, .inr (.inr (.inr (.inl (fun _ => 0))))))]) (w1 := [(om, .inr (20, [.ref mt, .ref qu, .int 0, .int 1, .ref lv, .int (-1), .int 0, .int 0, .ref mi, .int 0, .int 0, .int 0, .int 0, .ref ml, .ref mss, .ref rn, .ref sw, .ref mf, .null, .int 0, .ref msp, .int 0, .int 0, .int 0])), (lv, .inr (1, [.int 0, .ref de, .int 0])), (rn, .inr (1, [.int 0, .ref de, .int 0])), (sw, .inr (1, [.int 0, .ref de, .int 0])), (ml, .inl (cS, 6, .inl (slotF))), (mf, .inl (cF, 96, .inl (fun _ => 0)))]) hP hD [0, 1, 2, 3, 4, 5] [6] rfl rfl (by decide) (by decide) hk1 hFc hP1 hD1
    have hK := (hK.sub (tys' := [(cE, .double)]) [2] rfl).app hK1
    generalize H1 = H at hP hS ⊢
    replace hP : va_P (dC, dI) vwCl [(od, .inl (cE, 1, .inr (.inr (.inr (.inl (fun _ => 0)))))), (om, .inr (20, [.ref mt, .ref qu, .int 0, .int 1, .ref lv, .int (-1), .int 0, .int 0, .ref mi, .int 0, .int 0, .int 0, .int 0, .ref ml, .ref mss, .ref rn, .ref sw, .ref mf, .null, .int 0, .ref msp, .int 0, .int 0, .int 0])), (lv, .inr (1, [.int 0, .ref de, .int 0])), (rn, .inr (1, [.int 0, .ref de, .int 0])), (sw, .inr (1, [.int 0, .ref de, .int 0])), (ml, .inl (cS, 6, .inl (slotF))), (mf, .inl (cF, 96, .inl (fun _ => 0)))] H := hP
    replace hD : va_D A [(od, .inl (cE, 1, .inr (.inr (.inr (.inl (fun _ => 0)))))), (om, .inr (20, [.ref mt, .ref qu, .int 0, .int 1, .ref lv, .int (-1), .int 0, .int 0, .ref mi, .int 0, .int 0, .int 0, .int 0, .ref ml, .ref mss, .ref rn, .ref sw, .ref mf, .null, .int 0, .ref msp, .int 0, .int 0, .int 0])), (lv, .inr (1, [.int 0, .ref de, .int 0])), (rn, .inr (1, [.int 0, .ref de, .int 0])), (sw, .inr (1, [.int 0, .ref de, .int 0])), (ml, .inl (cS, 6, .inl (slotF))), (mf, .inl (cF, 96, .inl (fun _ => 0)))] := hD
    have hK : va_K (dC, dI) vwCl [(cE, .double), (cS, .int), (cF, .int)] s := hK
    have hw_960 := hw
    refine lv_istore (lv' := [(7, .int r_960), (6, .int 1), (5, .int 0), (4, .ref od), (3, .ref oq), (2, .ref om), (1, .ref ox), (0, .ref b)]) hx hb dL_law_963 hl (by decide) rfl (fun ls hl => ?_)
    refine lv_aload_n hx hb dL_law_965 rfl (lv_at hl 5 rfl) ?_
    have hPc := hP.sub (ws' := [(om, .inr (20, [.ref mt, .ref qu, .int 0, .int 1, .ref lv, .int (-1), .int 0, .int 0, .ref mi, .int 0, .int 0, .int 0, .int 0, .ref ml, .ref mss, .ref rn, .ref sw, .ref mf, .null, .int 0, .ref msp, .int 0, .int 0, .int 0]))]) [1] rfl
    have hDc := hD.sub (ws' := [(om, .inr (20, [.ref mt, .ref qu, .int 0, .int 1, .ref lv, .int (-1), .int 0, .int 0, .ref mi, .int 0, .int 0, .int 0, .int 0, .ref ml, .ref mss, .ref rn, .ref sw, .ref mf, .null, .int 0, .ref msp, .int 0, .int 0, .int 0]))]) [1] (by decide) rfl
    have hKc := hK.sub (tys' := []) [] rfl
    have hFc := va_free (wc := [(om, .inr (20, [.ref mt, .ref qu, .int 0, .int 1, .ref lv, .int (-1), .int 0, .int 0, .ref mi, .int 0, .int 0, .int 0, .int 0, .ref ml, .ref mss, .ref rn, .ref sw, .ref mf, .null, .int 0, .ref msp, .int 0, .int 0, .int 0]))]) hD hS hA [1] rfl
    refine va_calli (va_runV (As := []) (rest := []) ⟨hx, hb, hml, hown, ht⟩ (c_thrown1 l dC dI de (om) (mt) (qu) (lv) (mi) (ml) (mss) (rn) (sw) (mf) (msp) (1) H.size) (cwV 0 ht (gWV (wr_18 _ (List.mem_of_getElem? (i := 5) rfl)) (wr_18 _ (List.mem_of_getElem? (i := 6) rfl)) (wr_18 _ (List.mem_of_getElem? (i := 7) rfl)) (wr_1 _ (List.mem_of_getElem? (i := 5) rfl)) (wr_18 _ (List.mem_of_getElem? (i := 8) rfl))) rfl rfl rfl (by decide +kernel) ⟨Nat.le_of_ble_eq_true rfl, Nat.le_of_ble_eq_true rfl⟩) ⟨PW_blind, va_recv hKc hPc (ci := 20) (q0 := 0) rfl rfl, PW_call hPc hDc hKc hS hG hFc⟩ rfl rfl hl.1 rfl (lv_room (Nat.le_of_ble_eq_true rfl)) dL_law_966 ⟨Nat.le_of_ble_eq_true rfl, Nat.le_of_ble_eq_true rfl⟩) hS (fun q _ h => hFc q h) hFc (fun r_966 u t H1 locs ht9 hvm hw hB hz1 hk1 hS => ?_)
    obtain ⟨hP1, hK1, hD1⟩ := hB
    rw [ht9] at hP1
    have hK1 := va_K.moved hvm.symm hK1
    obtain ⟨hP, hD⟩ := va_join (wr := [(od, .inl (cE, 1, .inr (.inr (.inr (.inl (fun _ => 0)))))), (lv, .inr (1, [.int 0, .ref de, .int 0])), (rn, .inr (1, [.int 0, .ref de, .int 0])), (sw, .inr (1, [.int 0, .ref de, .int 0])), (ml, .inl (cS, 6, .inl (slotF))), (mf, .inl (cF, 96, .inl (fun _ => 0)))]) (w1 := [(om, .inr (20, [.ref mt, .ref qu, .int 0, .int 1, .ref lv, .int (-1), .int 0, .int 0, .ref mi, .int 0, .int 0, .int 0, .int 0, .ref ml, .ref mss, .ref rn, .ref sw, .ref mf, .null, .int 0, .ref msp, .int 0, .int 0, .int 0]))]) hP hD [1] [0, 2, 3, 4, 5, 6] rfl rfl (by decide) (by decide) hk1 hFc hP1 hD1
    have hK := (hK.sub (tys' := [(cE, .double), (cS, .int), (cF, .int)]) [0, 1, 2] rfl).app hK1
    generalize H1 = H at hP hS ⊢
    replace hP : va_P (dC, dI) vwCl [(od, .inl (cE, 1, .inr (.inr (.inr (.inl (fun _ => 0)))))), (lv, .inr (1, [.int 0, .ref de, .int 0])), (rn, .inr (1, [.int 0, .ref de, .int 0])), (sw, .inr (1, [.int 0, .ref de, .int 0])), (ml, .inl (cS, 6, .inl (slotF))), (mf, .inl (cF, 96, .inl (fun _ => 0))), (om, .inr (20, [.ref mt, .ref qu, .int 0, .int 1, .ref lv, .int (-1), .int 0, .int 0, .ref mi, .int 0, .int 0, .int 0, .int 0, .ref ml, .ref mss, .ref rn, .ref sw, .ref mf, .null, .int 0, .ref msp, .int 0, .int 0, .int 0]))] H := hP
    replace hD : va_D A [(od, .inl (cE, 1, .inr (.inr (.inr (.inl (fun _ => 0)))))), (lv, .inr (1, [.int 0, .ref de, .int 0])), (rn, .inr (1, [.int 0, .ref de, .int 0])), (sw, .inr (1, [.int 0, .ref de, .int 0])), (ml, .inl (cS, 6, .inl (slotF))), (mf, .inl (cF, 96, .inl (fun _ => 0))), (om, .inr (20, [.ref mt, .ref qu, .int 0, .int 1, .ref lv, .int (-1), .int 0, .int 0, .ref mi, .int 0, .int 0, .int 0, .int 0, .ref ml, .ref mss, .ref rn, .ref sw, .ref mf, .null, .int 0, .ref msp, .int 0, .int 0, .int 0]))] := hD
    have hK : va_K (dC, dI) vwCl [(cE, .double), (cS, .int), (cF, .int)] s := hK
    have e_966 : r_966 = 1 := hw
    subst e_966
    refine lv_iload hx hb dL_law_969 (lv_at hl 1 rfl) ?_
    refine lv_icmp_eq (tgt := 976) hx hb dL_law_971 (by decide) (fun c_971 => ?_) (fun c_971 => absurd c_971 (by decide))
    refine lv_iload hx hb dL_law_976 (lv_at hl 1 rfl) ?_
    refine lv_if_ne (tgt := 993) hx hb dL_law_978 (by decide) (fun c_978 => ?_) (fun c_978 => absurd c_978 (by decide))
    refine lv_goto (tgt := 3236) hx hb dL_law_993 (by decide) ?_
    exact law_end C1 (lv_sub hl [2, 7] rfl) hS (Nat.le_of_ble_eq_true rfl) (Nat.le_of_ble_eq_true rfl)
set_option maxHeartbeats 4000000 in
set_option maxRecDepth 100000 in
theorem lc_9 {p : Program} {l : Launch} {e : Env} {s : State} {m : MethodId} {below : List Frame} {meth : Method} {c : Code} {b : Nat} {xs : Nat → Int32} {de : Nat} {A : Nat → Prop} (C0 : LX p l s m meth c b xs de A) {dC : Nat → ClassId} {dI : Nat → Nat → Nat} {ox pl ru sh sp sl gr re pr ga rp bo fa gpl gin bbe bdi om mt qu lv mi ml mss rn sw mf msp oq od : Nat} {cP cI cS cF cL cE : ClassId} {H : Heap} {locs : List Loc} {ls : Array Slot} (hl : lv_has ls 9 [(5, .int 0), (4, .ref od), (3, .ref oq), (2, .ref om), (1, .ref ox), (0, .ref b)]) (hK : va_K (dC, dI) vwCl [(cP, .object "Levelsmith$Player"), (cI, .int), (cS, .int), (cF, .int), (cL, .long), (cE, .double)] s) (hP : va_P (dC, dI) vwCl (WLL ox pl ru sh sp sl gr re pr ga rp bo fa gpl gin bbe bdi om mt qu lv mi ml mss rn sw mf msp oq od cP cI cS cF cL cE de) H) (hD : va_D A (WLL ox pl ru sh sp sl gr re pr ga rp bo fa gpl gin bbe bdi om mt qu lv mi ml mss rn sw mf msp oq od cP cI cS cF cL cE de)) (hS : va_S A s.heap H locs) : W p l e room_1 s m #[Value.ref b] below meth c H locs 64 1163523 (lw_Z below #[Value.ref b] s) (F0 m 996 ls []) := by
  have C1 := C0
  obtain ⟨hlt, hx, hb, hr, hml, hown, ht, hX, hbl, hlocks, hG, hA, hAs, hbA⟩ := C0
  replace hP : va_P (dC, dI) vwCl [(ox, .inr (13, [.ref pl, .ref ru, .ref sh, .ref sp, .ref sl, .ref gr, .ref re, .ref pr, .ref ga, .ref rp, .ref bo, .int 0])), (pl, .inr (1, [.int 0, .ref de, .int 0])), (ru, .inr (1, [.int 0, .ref de, .int 0])), (sh, .inr (1, [.int 0, .ref de, .int 0])), (sp, .inl (cP, 6, .inr (.inr (.inr (.inr (fun _ => none)))))), (ga, .inr (5, [.ref gpl, .ref gin, .int (-1), .int 0, .int 112, .int 0])), (bo, .inr (2, [.ref fa, .ref bbe, .ref bdi, .int 0, .int 0])), (fa, .inl (cI, 96, .inl (fun _ => 0))), (om, .inr (20, [.ref mt, .ref qu, .int 0, .int 0, .ref lv, .int (-1), .int 0, .int 0, .ref mi, .int 0, .int 0, .int 0, .int 0, .ref ml, .ref mss, .ref rn, .ref sw, .ref mf, .null, .int 0, .ref msp, .int 0, .int 0, .int 0])), (lv, .inr (1, [.int 0, .ref de, .int 0])), (rn, .inr (1, [.int 0, .ref de, .int 0])), (sw, .inr (1, [.int 0, .ref de, .int 0])), (ml, .inl (cS, 6, .inl (slotF))), (mf, .inl (cF, 96, .inl (fun _ => 0))), (oq, .inl (cL, 1, .inr (.inl (fun _ => 0)))), (od, .inl (cE, 1, .inr (.inr (.inr (.inl (fun _ => 0))))))] H := hP
  replace hD : va_D A [(ox, .inr (13, [.ref pl, .ref ru, .ref sh, .ref sp, .ref sl, .ref gr, .ref re, .ref pr, .ref ga, .ref rp, .ref bo, .int 0])), (pl, .inr (1, [.int 0, .ref de, .int 0])), (ru, .inr (1, [.int 0, .ref de, .int 0])), (sh, .inr (1, [.int 0, .ref de, .int 0])), (sp, .inl (cP, 6, .inr (.inr (.inr (.inr (fun _ => none)))))), (ga, .inr (5, [.ref gpl, .ref gin, .int (-1), .int 0, .int 112, .int 0])), (bo, .inr (2, [.ref fa, .ref bbe, .ref bdi, .int 0, .int 0])), (fa, .inl (cI, 96, .inl (fun _ => 0))), (om, .inr (20, [.ref mt, .ref qu, .int 0, .int 0, .ref lv, .int (-1), .int 0, .int 0, .ref mi, .int 0, .int 0, .int 0, .int 0, .ref ml, .ref mss, .ref rn, .ref sw, .ref mf, .null, .int 0, .ref msp, .int 0, .int 0, .int 0])), (lv, .inr (1, [.int 0, .ref de, .int 0])), (rn, .inr (1, [.int 0, .ref de, .int 0])), (sw, .inr (1, [.int 0, .ref de, .int 0])), (ml, .inl (cS, 6, .inl (slotF))), (mf, .inl (cF, 96, .inl (fun _ => 0))), (oq, .inl (cL, 1, .inr (.inl (fun _ => 0)))), (od, .inl (cE, 1, .inr (.inr (.inr (.inl (fun _ => 0))))))] := hD
  refine lv_aload_n hx hb dL_law_996 rfl (lv_at hl 4 rfl) ?_
  refine lv_aload_n hx hb dL_law_997 rfl (lv_at hl 5 rfl) ?_
  refine lv_iload hx hb dL_law_998 (lv_at hl 0 rfl) ?_
  refine lv_iconst (v := 1) hx hb dL_law_1000 (by decide) ?_
  refine lv_iadd hx hb dL_law_1001 ?_
  refine va_sld hx hb hX hbl hbA hS (by unfold vp_in; decide) dL_law_1002 ?_
  refine lv_topi (fun y ey => ?_)
  replace ey : y = (xs 1) := ey.trans (congrArg xs (by decide))
  subst ey
  refine lv_aload_n hx hb dL_law_1003 rfl (lv_at hl 2 rfl) ?_
  have hPc := hP.sub (ws' := [(ox, .inr (13, [.ref pl, .ref ru, .ref sh, .ref sp, .ref sl, .ref gr, .ref re, .ref pr, .ref ga, .ref rp, .ref bo, .int 0])), (pl, .inr (1, [.int 0, .ref de, .int 0])), (ru, .inr (1, [.int 0, .ref de, .int 0])), (sh, .inr (1, [.int 0, .ref de, .int 0])), (sp, .inl (cP, 6, .inr (.inr (.inr (.inr (fun _ => none)))))), (ga, .inr (5, [.ref gpl, .ref gin, .int (-1), .int 0, .int 112, .int 0])), (bo, .inr (2, [.ref fa, .ref bbe, .ref bdi, .int 0, .int 0])), (fa, .inl (cI, 96, .inl (fun _ => 0))), (oq, .inl (cL, 1, .inr (.inl (fun _ => 0))))]) [0, 1, 2, 3, 4, 5, 6, 7, 14] rfl
  have hDc := hD.sub (ws' := [(ox, .inr (13, [.ref pl, .ref ru, .ref sh, .ref sp, .ref sl, .ref gr, .ref re, .ref pr, .ref ga, .ref rp, .ref bo, .int 0])), (pl, .inr (1, [.int 0, .ref de, .int 0])), (ru, .inr (1, [.int 0, .ref de, .int 0])), (sh, .inr (1, [.int 0, .ref de, .int 0])), (sp, .inl (cP, 6, .inr (.inr (.inr (.inr (fun _ => none)))))), (ga, .inr (5, [.ref gpl, .ref gin, .int (-1), .int 0, .int 112, .int 0])), (bo, .inr (2, [.ref fa, .ref bbe, .ref bdi, .int 0, .int 0])), (fa, .inl (cI, 96, .inl (fun _ => 0))), (oq, .inl (cL, 1, .inr (.inl (fun _ => 0))))]) [0, 1, 2, 3, 4, 5, 6, 7, 14] (by decide) rfl
  have hKc := hK.sub (tys' := [(cP, .object "Levelsmith$Player"), (cI, .int), (cL, .long)]) [0, 1, 4] rfl
  have hFc := va_free (wc := [(ox, .inr (13, [.ref pl, .ref ru, .ref sh, .ref sp, .ref sl, .ref gr, .ref re, .ref pr, .ref ga, .ref rp, .ref bo, .int 0])), (pl, .inr (1, [.int 0, .ref de, .int 0])), (ru, .inr (1, [.int 0, .ref de, .int 0])), (sh, .inr (1, [.int 0, .ref de, .int 0])), (sp, .inl (cP, 6, .inr (.inr (.inr (.inr (fun _ => none)))))), (ga, .inr (5, [.ref gpl, .ref gin, .int (-1), .int 0, .int 112, .int 0])), (bo, .inr (2, [.ref fa, .ref bbe, .ref bdi, .int 0, .int 0])), (fa, .inl (cI, 96, .inl (fun _ => 0))), (oq, .inl (cL, 1, .inr (.inl (fun _ => 0))))]) hD hS hA [0, 1, 2, 3, 4, 5, 6, 7, 14] rfl
  refine vx_calli (vx_runSX (As := [.ref ox, .int (xs 1), .ref oq]) (rest := []) ⟨hx, hb, hml, hown, ht⟩ (c_L_isWinnable l hlt dC dI de (ox) (pl) (ru) (sh) (sp) (sl) (gr) (re) (pr) (ga) (rp) (bo) (fa) (gpl) (gin) (bbe) (bdi) (cP) (cI) (oq) (cL) ((xs 1)) H.size) (vx_cwSW 3 ht (gWX (wr_28 _ (List.mem_of_getElem? (i := 14) rfl)) (wr_28 _ (List.mem_of_getElem? (i := 15) rfl)) (wr_9 _ (List.mem_of_getElem? (i := 13) rfl)) (wr_28 _ (List.mem_of_getElem? (i := 16) rfl))) rfl rfl rfl (by decide +kernel) ⟨Nat.le_of_ble_eq_true rfl, Nat.le_of_ble_eq_true rfl⟩) ⟨PW_blind, PW_call hPc hDc hKc hS hG hFc⟩ rfl rfl hl.1 rfl (lv_room (Nat.le_of_ble_eq_true rfl)) dL_law_1004 ⟨Nat.le_of_ble_eq_true rfl, Nat.le_of_ble_eq_true rfl⟩) hS (fun q _ h => hFc q h) hFc (fun q _ h => hFc q h) (fun E ce q9 u t H1 locs1 ht9 hvm9 _ hR9 hz9 hk9 hS9 hc9 hv9 hcl9 => ?_) (fun r_1004 u t H1 locs ht9 hvm hw hB hz1 hk1 hS => ?_)
  · exact False.elim hR9
  · obtain ⟨hP1, hK1, hD1⟩ := hB
    rw [ht9] at hP1
    have hK1 := va_K.moved hvm.symm hK1
    obtain ⟨hP, hD⟩ := va_join (wr := [(om, .inr (20, [.ref mt, .ref qu, .int 0, .int 0, .ref lv, .int (-1), .int 0, .int 0, .ref mi, .int 0, .int 0, .int 0, .int 0, .ref ml, .ref mss, .ref rn, .ref sw, .ref mf, .null, .int 0, .ref msp, .int 0, .int 0, .int 0])), (lv, .inr (1, [.int 0, .ref de, .int 0])), (rn, .inr (1, [.int 0, .ref de, .int 0])), (sw, .inr (1, [.int 0, .ref de, .int 0])), (ml, .inl (cS, 6, .inl (slotF))), (mf, .inl (cF, 96, .inl (fun _ => 0))), (od, .inl (cE, 1, .inr (.inr (.inr (.inl (fun _ => 0))))))]) (w1 := []) hP hD [0, 1, 2, 3, 4, 5, 6, 7, 14] [8, 9, 10, 11, 12, 13, 15] rfl rfl (by decide) (by decide) hk1 hFc hP1 hD1
    have hK := (hK.sub (tys' := [(cS, .int), (cF, .int), (cE, .double)]) [2, 3, 5] rfl).app hK1
    generalize H1 = H at hP hS ⊢
    replace hP : va_P (dC, dI) vwCl [(om, .inr (20, [.ref mt, .ref qu, .int 0, .int 0, .ref lv, .int (-1), .int 0, .int 0, .ref mi, .int 0, .int 0, .int 0, .int 0, .ref ml, .ref mss, .ref rn, .ref sw, .ref mf, .null, .int 0, .ref msp, .int 0, .int 0, .int 0])), (lv, .inr (1, [.int 0, .ref de, .int 0])), (rn, .inr (1, [.int 0, .ref de, .int 0])), (sw, .inr (1, [.int 0, .ref de, .int 0])), (ml, .inl (cS, 6, .inl (slotF))), (mf, .inl (cF, 96, .inl (fun _ => 0))), (od, .inl (cE, 1, .inr (.inr (.inr (.inl (fun _ => 0))))))] H := hP
    replace hD : va_D A [(om, .inr (20, [.ref mt, .ref qu, .int 0, .int 0, .ref lv, .int (-1), .int 0, .int 0, .ref mi, .int 0, .int 0, .int 0, .int 0, .ref ml, .ref mss, .ref rn, .ref sw, .ref mf, .null, .int 0, .ref msp, .int 0, .int 0, .int 0])), (lv, .inr (1, [.int 0, .ref de, .int 0])), (rn, .inr (1, [.int 0, .ref de, .int 0])), (sw, .inr (1, [.int 0, .ref de, .int 0])), (ml, .inl (cS, 6, .inl (slotF))), (mf, .inl (cF, 96, .inl (fun _ => 0))), (od, .inl (cE, 1, .inr (.inr (.inr (.inl (fun _ => 0))))))] := hD
    have hK : va_K (dC, dI) vwCl [(cS, .int), (cF, .int), (cE, .double)] s := hK
    refine W.widen (k := 65) (n := 1163529) (Nat.le_of_ble_eq_true rfl) (Nat.le_of_ble_eq_true rfl) ?_
    have e_1004 : r_1004 = 1 := hw
    subst e_1004
    refine lv_istore (lv' := [(6, .int 1), (5, .int 0), (4, .ref od), (3, .ref oq), (2, .ref om), (1, .ref ox), (0, .ref b)]) hx hb dL_law_1007 hl (by decide) rfl (fun ls hl => ?_)
    refine lv_aload_n hx hb dL_law_1009 rfl (lv_at hl 4 rfl) ?_
    refine lv_aload_n hx hb dL_law_1010 rfl (lv_at hl 6 rfl) ?_
    refine lv_iload hx hb dL_law_1011 (lv_at hl 1 rfl) ?_
    refine lv_iconst (v := 1) hx hb dL_law_1013 (by decide) ?_
    refine lv_iadd hx hb dL_law_1014 ?_
    refine va_sld hx hb hX hbl hbA hS (by unfold vp_in; decide) dL_law_1015 ?_
    refine lv_topi (fun y ey => ?_)
    replace ey : y = (xs 1) := ey.trans (congrArg xs (by decide))
    subst ey
    have hPc := hP.sub (ws' := [(om, .inr (20, [.ref mt, .ref qu, .int 0, .int 0, .ref lv, .int (-1), .int 0, .int 0, .ref mi, .int 0, .int 0, .int 0, .int 0, .ref ml, .ref mss, .ref rn, .ref sw, .ref mf, .null, .int 0, .ref msp, .int 0, .int 0, .int 0])), (lv, .inr (1, [.int 0, .ref de, .int 0])), (rn, .inr (1, [.int 0, .ref de, .int 0])), (sw, .inr (1, [.int 0, .ref de, .int 0])), (ml, .inl (cS, 6, .inl (slotF))), (mf, .inl (cF, 96, .inl (fun _ => 0)))]) [0, 1, 2, 3, 4, 5] rfl
    have hDc := hD.sub (ws' := [(om, .inr (20, [.ref mt, .ref qu, .int 0, .int 0, .ref lv, .int (-1), .int 0, .int 0, .ref mi, .int 0, .int 0, .int 0, .int 0, .ref ml, .ref mss, .ref rn, .ref sw, .ref mf, .null, .int 0, .ref msp, .int 0, .int 0, .int 0])), (lv, .inr (1, [.int 0, .ref de, .int 0])), (rn, .inr (1, [.int 0, .ref de, .int 0])), (sw, .inr (1, [.int 0, .ref de, .int 0])), (ml, .inl (cS, 6, .inl (slotF))), (mf, .inl (cF, 96, .inl (fun _ => 0)))]) [0, 1, 2, 3, 4, 5] (by decide) rfl
    have hKc := hK.sub (tys' := [(cS, .int), (cF, .int)]) [0, 1] rfl
    have hFc := va_free (wc := [(om, .inr (20, [.ref mt, .ref qu, .int 0, .int 0, .ref lv, .int (-1), .int 0, .int 0, .ref mi, .int 0, .int 0, .int 0, .int 0, .ref ml, .ref mss, .ref rn, .ref sw, .ref mf, .null, .int 0, .ref msp, .int 0, .int 0, .int 0])), (lv, .inr (1, [.int 0, .ref de, .int 0])), (rn, .inr (1, [.int 0, .ref de, .int 0])), (sw, .inr (1, [.int 0, .ref de, .int 0])), (ml, .inl (cS, 6, .inl (slotF))), (mf, .inl (cF, 96, .inl (fun _ => 0)))]) hD hS hA [0, 1, 2, 3, 4, 5] rfl
    refine va_calli (va_runV (As := [.int (xs 1)]) (rest := []) ⟨hx, hb, hml, hown, ht⟩ (c_X18_isWinnable l dC dI de (om) (mt) (qu) (lv) (mi) (ml) (mss) (rn) (sw) (mf) (msp) (cS) (cF) (0) ((xs 1)) H.size) (cwV 1 ht (gWV (wr_33 _ (List.mem_of_getElem? (i := 7) rfl)) (wr_33 _ (List.mem_of_getElem? (i := 8) rfl)) (wr_33 _ (List.mem_of_getElem? (i := 9) rfl)) (wr_1 _ (List.mem_of_getElem? (i := 5) rfl)) (wr_33 _ (List.mem_of_getElem? (i := 10) rfl))) rfl rfl rfl (by decide +kernel) ⟨Nat.le_of_ble_eq_true rfl, Nat.le_of_ble_eq_true rfl⟩) ⟨PW_blind, va_recv hKc hPc (ci := 20) (q0 := 0) rfl rfl, PW_call hPc hDc hKc hS hG hFc⟩ rfl rfl hl.1 rfl (lv_room (Nat.le_of_ble_eq_true rfl)) dL_law_1016 ⟨Nat.le_of_ble_eq_true rfl, Nat.le_of_ble_eq_true rfl⟩) hS (fun q _ h => hFc q h) hFc (fun r_1016 u t H1 locs ht9 hvm hw hB hz1 hk1 hS => ?_)
    obtain ⟨hP1, hK1, hD1⟩ := hB
    rw [ht9] at hP1
    have hK1 := va_K.moved hvm.symm hK1
    obtain ⟨hP, hD⟩ := va_join (wr := [(od, .inl (cE, 1, .inr (.inr (.inr (.inl (fun _ => 0))))))]) (w1 := [(om, .inr (20, [.ref mt, .ref qu, .int 0, .int 1, .ref lv, .int (-1), .int 0, .int 0, .ref mi, .int 0, .int 0, .int 0, .int 0, .ref ml, .ref mss, .ref rn, .ref sw, .ref mf, .null, .int 0, .ref msp, .int 0, .int 0, .int 0])), (lv, .inr (1, [.int 0, .ref de, .int 0])), (rn, .inr (1, [.int 0, .ref de, .int 0])), (sw, .inr (1, [.int 0, .ref de, .int 0])), (ml, .inl (cS, 6, .inl (slotF))), (mf, .inl (cF, 96, .inl (fun _ => 0)))]) hP hD [0, 1, 2, 3, 4, 5] [6] rfl rfl (by decide) (by decide) hk1 hFc hP1 hD1
    have hK := (hK.sub (tys' := [(cE, .double)]) [2] rfl).app hK1
    generalize H1 = H at hP hS ⊢
    replace hP : va_P (dC, dI) vwCl [(od, .inl (cE, 1, .inr (.inr (.inr (.inl (fun _ => 0)))))), (om, .inr (20, [.ref mt, .ref qu, .int 0, .int 1, .ref lv, .int (-1), .int 0, .int 0, .ref mi, .int 0, .int 0, .int 0, .int 0, .ref ml, .ref mss, .ref rn, .ref sw, .ref mf, .null, .int 0, .ref msp, .int 0, .int 0, .int 0])), (lv, .inr (1, [.int 0, .ref de, .int 0])), (rn, .inr (1, [.int 0, .ref de, .int 0])), (sw, .inr (1, [.int 0, .ref de, .int 0])), (ml, .inl (cS, 6, .inl (slotF))), (mf, .inl (cF, 96, .inl (fun _ => 0)))] H := hP
    replace hD : va_D A [(od, .inl (cE, 1, .inr (.inr (.inr (.inl (fun _ => 0)))))), (om, .inr (20, [.ref mt, .ref qu, .int 0, .int 1, .ref lv, .int (-1), .int 0, .int 0, .ref mi, .int 0, .int 0, .int 0, .int 0, .ref ml, .ref mss, .ref rn, .ref sw, .ref mf, .null, .int 0, .ref msp, .int 0, .int 0, .int 0])), (lv, .inr (1, [.int 0, .ref de, .int 0])), (rn, .inr (1, [.int 0, .ref de, .int 0])), (sw, .inr (1, [.int 0, .ref de, .int 0])), (ml, .inl (cS, 6, .inl (slotF))), (mf, .inl (cF, 96, .inl (fun _ => 0)))] := hD
    have hK : va_K (dC, dI) vwCl [(cE, .double), (cS, .int), (cF, .int)] s := hK
    have hw_1016 := hw
    refine lv_istore (lv' := [(7, .int r_1016), (6, .int 1), (5, .int 0), (4, .ref od), (3, .ref oq), (2, .ref om), (1, .ref ox), (0, .ref b)]) hx hb dL_law_1019 hl (by decide) rfl (fun ls hl => ?_)
    refine lv_aload_n hx hb dL_law_1021 rfl (lv_at hl 5 rfl) ?_
    have hPc := hP.sub (ws' := [(om, .inr (20, [.ref mt, .ref qu, .int 0, .int 1, .ref lv, .int (-1), .int 0, .int 0, .ref mi, .int 0, .int 0, .int 0, .int 0, .ref ml, .ref mss, .ref rn, .ref sw, .ref mf, .null, .int 0, .ref msp, .int 0, .int 0, .int 0]))]) [1] rfl
    have hDc := hD.sub (ws' := [(om, .inr (20, [.ref mt, .ref qu, .int 0, .int 1, .ref lv, .int (-1), .int 0, .int 0, .ref mi, .int 0, .int 0, .int 0, .int 0, .ref ml, .ref mss, .ref rn, .ref sw, .ref mf, .null, .int 0, .ref msp, .int 0, .int 0, .int 0]))]) [1] (by decide) rfl
    have hKc := hK.sub (tys' := []) [] rfl
    have hFc := va_free (wc := [(om, .inr (20, [.ref mt, .ref qu, .int 0, .int 1, .ref lv, .int (-1), .int 0, .int 0, .ref mi, .int 0, .int 0, .int 0, .int 0, .ref ml, .ref mss, .ref rn, .ref sw, .ref mf, .null, .int 0, .ref msp, .int 0, .int 0, .int 0]))]) hD hS hA [1] rfl
    refine va_calli (va_runV (As := []) (rest := []) ⟨hx, hb, hml, hown, ht⟩ (c_thrown1 l dC dI de (om) (mt) (qu) (lv) (mi) (ml) (mss) (rn) (sw) (mf) (msp) (1) H.size) (cwV 0 ht (gWV (wr_18 _ (List.mem_of_getElem? (i := 5) rfl)) (wr_18 _ (List.mem_of_getElem? (i := 6) rfl)) (wr_18 _ (List.mem_of_getElem? (i := 7) rfl)) (wr_1 _ (List.mem_of_getElem? (i := 5) rfl)) (wr_18 _ (List.mem_of_getElem? (i := 8) rfl))) rfl rfl rfl (by decide +kernel) ⟨Nat.le_of_ble_eq_true rfl, Nat.le_of_ble_eq_true rfl⟩) ⟨PW_blind, va_recv hKc hPc (ci := 20) (q0 := 0) rfl rfl, PW_call hPc hDc hKc hS hG hFc⟩ rfl rfl hl.1 rfl (lv_room (Nat.le_of_ble_eq_true rfl)) dL_law_1022 ⟨Nat.le_of_ble_eq_true rfl, Nat.le_of_ble_eq_true rfl⟩) hS (fun q _ h => hFc q h) hFc (fun r_1022 u t H1 locs ht9 hvm hw hB hz1 hk1 hS => ?_)
    obtain ⟨hP1, hK1, hD1⟩ := hB
    rw [ht9] at hP1
    have hK1 := va_K.moved hvm.symm hK1
    obtain ⟨hP, hD⟩ := va_join (wr := [(od, .inl (cE, 1, .inr (.inr (.inr (.inl (fun _ => 0)))))), (lv, .inr (1, [.int 0, .ref de, .int 0])), (rn, .inr (1, [.int 0, .ref de, .int 0])), (sw, .inr (1, [.int 0, .ref de, .int 0])), (ml, .inl (cS, 6, .inl (slotF))), (mf, .inl (cF, 96, .inl (fun _ => 0)))]) (w1 := [(om, .inr (20, [.ref mt, .ref qu, .int 0, .int 1, .ref lv, .int (-1), .int 0, .int 0, .ref mi, .int 0, .int 0, .int 0, .int 0, .ref ml, .ref mss, .ref rn, .ref sw, .ref mf, .null, .int 0, .ref msp, .int 0, .int 0, .int 0]))]) hP hD [1] [0, 2, 3, 4, 5, 6] rfl rfl (by decide) (by decide) hk1 hFc hP1 hD1
    have hK := (hK.sub (tys' := [(cE, .double), (cS, .int), (cF, .int)]) [0, 1, 2] rfl).app hK1
    generalize H1 = H at hP hS ⊢
    replace hP : va_P (dC, dI) vwCl [(od, .inl (cE, 1, .inr (.inr (.inr (.inl (fun _ => 0)))))), (lv, .inr (1, [.int 0, .ref de, .int 0])), (rn, .inr (1, [.int 0, .ref de, .int 0])), (sw, .inr (1, [.int 0, .ref de, .int 0])), (ml, .inl (cS, 6, .inl (slotF))), (mf, .inl (cF, 96, .inl (fun _ => 0))), (om, .inr (20, [.ref mt, .ref qu, .int 0, .int 1, .ref lv, .int (-1), .int 0, .int 0, .ref mi, .int 0, .int 0, .int 0, .int 0, .ref ml, .ref mss, .ref rn, .ref sw, .ref mf, .null, .int 0, .ref msp, .int 0, .int 0, .int 0]))] H := hP
    replace hD : va_D A [(od, .inl (cE, 1, .inr (.inr (.inr (.inl (fun _ => 0)))))), (lv, .inr (1, [.int 0, .ref de, .int 0])), (rn, .inr (1, [.int 0, .ref de, .int 0])), (sw, .inr (1, [.int 0, .ref de, .int 0])), (ml, .inl (cS, 6, .inl (slotF))), (mf, .inl (cF, 96, .inl (fun _ => 0))), (om, .inr (20, [.ref mt, .ref qu, .int 0, .int 1, .ref lv, .int (-1), .int 0, .int 0, .ref mi, .int 0, .int 0, .int 0, .int 0, .ref ml, .ref mss, .ref rn, .ref sw, .ref mf, .null, .int 0, .ref msp, .int 0, .int 0, .int 0]))] := hD
    have hK : va_K (dC, dI) vwCl [(cE, .double), (cS, .int), (cF, .int)] s := hK
    have e_1022 : r_1022 = 1 := hw
    subst e_1022
    refine lv_iload hx hb dL_law_1025 (lv_at hl 1 rfl) ?_
    refine lv_icmp_eq (tgt := 1032) hx hb dL_law_1027 (by decide) (fun c_1027 => ?_) (fun c_1027 => absurd c_1027 (by decide))
    refine lv_iload hx hb dL_law_1032 (lv_at hl 1 rfl) ?_
    refine lv_if_ne (tgt := 1056) hx hb dL_law_1034 (by decide) (fun c_1034 => ?_) (fun c_1034 => absurd c_1034 (by decide))
    refine lv_goto (tgt := 3236) hx hb dL_law_1056 (by decide) ?_
    exact law_end C1 (lv_sub hl [2, 7] rfl) hS (Nat.le_of_ble_eq_true rfl) (Nat.le_of_ble_eq_true rfl)
set_option maxHeartbeats 4000000 in
set_option maxRecDepth 100000 in
theorem lc_10 {p : Program} {l : Launch} {e : Env} {s : State} {m : MethodId} {below : List Frame} {meth : Method} {c : Code} {b : Nat} {xs : Nat → Int32} {de : Nat} {A : Nat → Prop} (C0 : LX p l s m meth c b xs de A) {dC : Nat → ClassId} {dI : Nat → Nat → Nat} {ox pl ru sh sp sl gr re pr ga rp bo fa gpl gin bbe bdi om mt qu lv mi ml mss rn sw mf msp oq od : Nat} {cP cI cS cF cL cE : ClassId} {H : Heap} {locs : List Loc} {ls : Array Slot} (hl : lv_has ls 9 [(5, .int 0), (4, .ref od), (3, .ref oq), (2, .ref om), (1, .ref ox), (0, .ref b)]) (hK : va_K (dC, dI) vwCl [(cP, .object "Levelsmith$Player"), (cI, .int), (cS, .int), (cF, .int), (cL, .long), (cE, .double)] s) (hP : va_P (dC, dI) vwCl (WLL ox pl ru sh sp sl gr re pr ga rp bo fa gpl gin bbe bdi om mt qu lv mi ml mss rn sw mf msp oq od cP cI cS cF cL cE de) H) (hD : va_D A (WLL ox pl ru sh sp sl gr re pr ga rp bo fa gpl gin bbe bdi om mt qu lv mi ml mss rn sw mf msp oq od cP cI cS cF cL cE de)) (hS : va_S A s.heap H locs) : W p l e room_1 s m #[Value.ref b] below meth c H locs 64 1163523 (lw_Z below #[Value.ref b] s) (F0 m 1059 ls []) := by
  have C1 := C0
  obtain ⟨hlt, hx, hb, hr, hml, hown, ht, hX, hbl, hlocks, hG, hA, hAs, hbA⟩ := C0
  replace hP : va_P (dC, dI) vwCl [(ox, .inr (13, [.ref pl, .ref ru, .ref sh, .ref sp, .ref sl, .ref gr, .ref re, .ref pr, .ref ga, .ref rp, .ref bo, .int 0])), (pl, .inr (1, [.int 0, .ref de, .int 0])), (ru, .inr (1, [.int 0, .ref de, .int 0])), (sh, .inr (1, [.int 0, .ref de, .int 0])), (sp, .inl (cP, 6, .inr (.inr (.inr (.inr (fun _ => none)))))), (ga, .inr (5, [.ref gpl, .ref gin, .int (-1), .int 0, .int 112, .int 0])), (bo, .inr (2, [.ref fa, .ref bbe, .ref bdi, .int 0, .int 0])), (fa, .inl (cI, 96, .inl (fun _ => 0))), (om, .inr (20, [.ref mt, .ref qu, .int 0, .int 0, .ref lv, .int (-1), .int 0, .int 0, .ref mi, .int 0, .int 0, .int 0, .int 0, .ref ml, .ref mss, .ref rn, .ref sw, .ref mf, .null, .int 0, .ref msp, .int 0, .int 0, .int 0])), (lv, .inr (1, [.int 0, .ref de, .int 0])), (rn, .inr (1, [.int 0, .ref de, .int 0])), (sw, .inr (1, [.int 0, .ref de, .int 0])), (ml, .inl (cS, 6, .inl (slotF))), (mf, .inl (cF, 96, .inl (fun _ => 0))), (oq, .inl (cL, 1, .inr (.inl (fun _ => 0)))), (od, .inl (cE, 1, .inr (.inr (.inr (.inl (fun _ => 0))))))] H := hP
  replace hD : va_D A [(ox, .inr (13, [.ref pl, .ref ru, .ref sh, .ref sp, .ref sl, .ref gr, .ref re, .ref pr, .ref ga, .ref rp, .ref bo, .int 0])), (pl, .inr (1, [.int 0, .ref de, .int 0])), (ru, .inr (1, [.int 0, .ref de, .int 0])), (sh, .inr (1, [.int 0, .ref de, .int 0])), (sp, .inl (cP, 6, .inr (.inr (.inr (.inr (fun _ => none)))))), (ga, .inr (5, [.ref gpl, .ref gin, .int (-1), .int 0, .int 112, .int 0])), (bo, .inr (2, [.ref fa, .ref bbe, .ref bdi, .int 0, .int 0])), (fa, .inl (cI, 96, .inl (fun _ => 0))), (om, .inr (20, [.ref mt, .ref qu, .int 0, .int 0, .ref lv, .int (-1), .int 0, .int 0, .ref mi, .int 0, .int 0, .int 0, .int 0, .ref ml, .ref mss, .ref rn, .ref sw, .ref mf, .null, .int 0, .ref msp, .int 0, .int 0, .int 0])), (lv, .inr (1, [.int 0, .ref de, .int 0])), (rn, .inr (1, [.int 0, .ref de, .int 0])), (sw, .inr (1, [.int 0, .ref de, .int 0])), (ml, .inl (cS, 6, .inl (slotF))), (mf, .inl (cF, 96, .inl (fun _ => 0))), (oq, .inl (cL, 1, .inr (.inl (fun _ => 0)))), (od, .inl (cE, 1, .inr (.inr (.inr (.inl (fun _ => 0))))))] := hD
  refine lv_aload_n hx hb dL_law_1059 rfl (lv_at hl 4 rfl) ?_
  refine lv_aload_n hx hb dL_law_1060 rfl (lv_at hl 5 rfl) ?_
  refine lv_iload hx hb dL_law_1061 (lv_at hl 0 rfl) ?_
  refine lv_iconst (v := 1) hx hb dL_law_1063 (by decide) ?_
  refine lv_iadd hx hb dL_law_1064 ?_
  refine va_sld hx hb hX hbl hbA hS (by unfold vp_in; decide) dL_law_1065 ?_
  refine lv_topi (fun y ey => ?_)
  replace ey : y = (xs 1) := ey.trans (congrArg xs (by decide))
  subst ey
  refine lv_aload_n hx hb dL_law_1066 rfl (lv_at hl 2 rfl) ?_
  have hPc := hP.sub (ws' := [(ox, .inr (13, [.ref pl, .ref ru, .ref sh, .ref sp, .ref sl, .ref gr, .ref re, .ref pr, .ref ga, .ref rp, .ref bo, .int 0])), (pl, .inr (1, [.int 0, .ref de, .int 0])), (ru, .inr (1, [.int 0, .ref de, .int 0])), (sh, .inr (1, [.int 0, .ref de, .int 0])), (sp, .inl (cP, 6, .inr (.inr (.inr (.inr (fun _ => none)))))), (ga, .inr (5, [.ref gpl, .ref gin, .int (-1), .int 0, .int 112, .int 0])), (bo, .inr (2, [.ref fa, .ref bbe, .ref bdi, .int 0, .int 0])), (fa, .inl (cI, 96, .inl (fun _ => 0))), (oq, .inl (cL, 1, .inr (.inl (fun _ => 0))))]) [0, 1, 2, 3, 4, 5, 6, 7, 14] rfl
  have hDc := hD.sub (ws' := [(ox, .inr (13, [.ref pl, .ref ru, .ref sh, .ref sp, .ref sl, .ref gr, .ref re, .ref pr, .ref ga, .ref rp, .ref bo, .int 0])), (pl, .inr (1, [.int 0, .ref de, .int 0])), (ru, .inr (1, [.int 0, .ref de, .int 0])), (sh, .inr (1, [.int 0, .ref de, .int 0])), (sp, .inl (cP, 6, .inr (.inr (.inr (.inr (fun _ => none)))))), (ga, .inr (5, [.ref gpl, .ref gin, .int (-1), .int 0, .int 112, .int 0])), (bo, .inr (2, [.ref fa, .ref bbe, .ref bdi, .int 0, .int 0])), (fa, .inl (cI, 96, .inl (fun _ => 0))), (oq, .inl (cL, 1, .inr (.inl (fun _ => 0))))]) [0, 1, 2, 3, 4, 5, 6, 7, 14] (by decide) rfl
  have hKc := hK.sub (tys' := [(cP, .object "Levelsmith$Player"), (cI, .int), (cL, .long)]) [0, 1, 4] rfl
  have hFc := va_free (wc := [(ox, .inr (13, [.ref pl, .ref ru, .ref sh, .ref sp, .ref sl, .ref gr, .ref re, .ref pr, .ref ga, .ref rp, .ref bo, .int 0])), (pl, .inr (1, [.int 0, .ref de, .int 0])), (ru, .inr (1, [.int 0, .ref de, .int 0])), (sh, .inr (1, [.int 0, .ref de, .int 0])), (sp, .inl (cP, 6, .inr (.inr (.inr (.inr (fun _ => none)))))), (ga, .inr (5, [.ref gpl, .ref gin, .int (-1), .int 0, .int 112, .int 0])), (bo, .inr (2, [.ref fa, .ref bbe, .ref bdi, .int 0, .int 0])), (fa, .inl (cI, 96, .inl (fun _ => 0))), (oq, .inl (cL, 1, .inr (.inl (fun _ => 0))))]) hD hS hA [0, 1, 2, 3, 4, 5, 6, 7, 14] rfl
  refine vx_calli (vx_runSX (As := [.ref ox, .int (xs 1), .ref oq]) (rest := []) ⟨hx, hb, hml, hown, ht⟩ (c_L_frames l hlt dC dI de (ox) (pl) (ru) (sh) (sp) (sl) (gr) (re) (pr) (ga) (rp) (bo) (fa) (gpl) (gin) (bbe) (bdi) (cP) (cI) (oq) (cL) ((xs 1)) H.size) (vx_cwSW 3 ht (gWX (wr_37 _ (List.mem_of_getElem? (i := 14) rfl)) (wr_37 _ (List.mem_of_getElem? (i := 15) rfl)) (wr_9 _ (List.mem_of_getElem? (i := 13) rfl)) (wr_37 _ (List.mem_of_getElem? (i := 16) rfl))) rfl rfl rfl (by decide +kernel) ⟨Nat.le_of_ble_eq_true rfl, Nat.le_of_ble_eq_true rfl⟩) ⟨PW_blind, PW_call hPc hDc hKc hS hG hFc⟩ rfl rfl hl.1 rfl (lv_room (Nat.le_of_ble_eq_true rfl)) dL_law_1067 ⟨Nat.le_of_ble_eq_true rfl, Nat.le_of_ble_eq_true rfl⟩) hS (fun q _ h => hFc q h) hFc (fun q _ h => hFc q h) (fun E ce q9 u t H1 locs1 ht9 hvm9 _ hR9 hz9 hk9 hS9 hc9 hv9 hcl9 => ?_) (fun r_1067 u t H1 locs ht9 hvm hw hB hz1 hk1 hS => ?_)
  · exact False.elim hR9
  · obtain ⟨hP1, hK1, hD1⟩ := hB
    rw [ht9] at hP1
    have hK1 := va_K.moved hvm.symm hK1
    obtain ⟨hP, hD⟩ := va_join (wr := [(om, .inr (20, [.ref mt, .ref qu, .int 0, .int 0, .ref lv, .int (-1), .int 0, .int 0, .ref mi, .int 0, .int 0, .int 0, .int 0, .ref ml, .ref mss, .ref rn, .ref sw, .ref mf, .null, .int 0, .ref msp, .int 0, .int 0, .int 0])), (lv, .inr (1, [.int 0, .ref de, .int 0])), (rn, .inr (1, [.int 0, .ref de, .int 0])), (sw, .inr (1, [.int 0, .ref de, .int 0])), (ml, .inl (cS, 6, .inl (slotF))), (mf, .inl (cF, 96, .inl (fun _ => 0))), (od, .inl (cE, 1, .inr (.inr (.inr (.inl (fun _ => 0))))))]) (w1 := []) hP hD [0, 1, 2, 3, 4, 5, 6, 7, 14] [8, 9, 10, 11, 12, 13, 15] rfl rfl (by decide) (by decide) hk1 hFc hP1 hD1
    have hK := (hK.sub (tys' := [(cS, .int), (cF, .int), (cE, .double)]) [2, 3, 5] rfl).app hK1
    generalize H1 = H at hP hS ⊢
    replace hP : va_P (dC, dI) vwCl [(om, .inr (20, [.ref mt, .ref qu, .int 0, .int 0, .ref lv, .int (-1), .int 0, .int 0, .ref mi, .int 0, .int 0, .int 0, .int 0, .ref ml, .ref mss, .ref rn, .ref sw, .ref mf, .null, .int 0, .ref msp, .int 0, .int 0, .int 0])), (lv, .inr (1, [.int 0, .ref de, .int 0])), (rn, .inr (1, [.int 0, .ref de, .int 0])), (sw, .inr (1, [.int 0, .ref de, .int 0])), (ml, .inl (cS, 6, .inl (slotF))), (mf, .inl (cF, 96, .inl (fun _ => 0))), (od, .inl (cE, 1, .inr (.inr (.inr (.inl (fun _ => 0))))))] H := hP
    replace hD : va_D A [(om, .inr (20, [.ref mt, .ref qu, .int 0, .int 0, .ref lv, .int (-1), .int 0, .int 0, .ref mi, .int 0, .int 0, .int 0, .int 0, .ref ml, .ref mss, .ref rn, .ref sw, .ref mf, .null, .int 0, .ref msp, .int 0, .int 0, .int 0])), (lv, .inr (1, [.int 0, .ref de, .int 0])), (rn, .inr (1, [.int 0, .ref de, .int 0])), (sw, .inr (1, [.int 0, .ref de, .int 0])), (ml, .inl (cS, 6, .inl (slotF))), (mf, .inl (cF, 96, .inl (fun _ => 0))), (od, .inl (cE, 1, .inr (.inr (.inr (.inl (fun _ => 0))))))] := hD
    have hK : va_K (dC, dI) vwCl [(cS, .int), (cF, .int), (cE, .double)] s := hK
    refine W.widen (k := 65) (n := 1163529) (Nat.le_of_ble_eq_true rfl) (Nat.le_of_ble_eq_true rfl) ?_
    have e_1067 : r_1067 = 1 := hw
    subst e_1067
    refine lv_istore (lv' := [(6, .int 1), (5, .int 0), (4, .ref od), (3, .ref oq), (2, .ref om), (1, .ref ox), (0, .ref b)]) hx hb dL_law_1070 hl (by decide) rfl (fun ls hl => ?_)
    refine lv_aload_n hx hb dL_law_1072 rfl (lv_at hl 4 rfl) ?_
    refine lv_aload_n hx hb dL_law_1073 rfl (lv_at hl 6 rfl) ?_
    refine lv_iload hx hb dL_law_1074 (lv_at hl 1 rfl) ?_
    refine lv_iconst (v := 1) hx hb dL_law_1076 (by decide) ?_
    refine lv_iadd hx hb dL_law_1077 ?_
    refine va_sld hx hb hX hbl hbA hS (by unfold vp_in; decide) dL_law_1078 ?_
    refine lv_topi (fun y ey => ?_)
    replace ey : y = (xs 1) := ey.trans (congrArg xs (by decide))
    subst ey
    have hPc := hP.sub (ws' := [(om, .inr (20, [.ref mt, .ref qu, .int 0, .int 0, .ref lv, .int (-1), .int 0, .int 0, .ref mi, .int 0, .int 0, .int 0, .int 0, .ref ml, .ref mss, .ref rn, .ref sw, .ref mf, .null, .int 0, .ref msp, .int 0, .int 0, .int 0])), (lv, .inr (1, [.int 0, .ref de, .int 0])), (rn, .inr (1, [.int 0, .ref de, .int 0])), (sw, .inr (1, [.int 0, .ref de, .int 0])), (ml, .inl (cS, 6, .inl (slotF))), (mf, .inl (cF, 96, .inl (fun _ => 0)))]) [0, 1, 2, 3, 4, 5] rfl
    have hDc := hD.sub (ws' := [(om, .inr (20, [.ref mt, .ref qu, .int 0, .int 0, .ref lv, .int (-1), .int 0, .int 0, .ref mi, .int 0, .int 0, .int 0, .int 0, .ref ml, .ref mss, .ref rn, .ref sw, .ref mf, .null, .int 0, .ref msp, .int 0, .int 0, .int 0])), (lv, .inr (1, [.int 0, .ref de, .int 0])), (rn, .inr (1, [.int 0, .ref de, .int 0])), (sw, .inr (1, [.int 0, .ref de, .int 0])), (ml, .inl (cS, 6, .inl (slotF))), (mf, .inl (cF, 96, .inl (fun _ => 0)))]) [0, 1, 2, 3, 4, 5] (by decide) rfl
    have hKc := hK.sub (tys' := [(cS, .int), (cF, .int)]) [0, 1] rfl
    have hFc := va_free (wc := [(om, .inr (20, [.ref mt, .ref qu, .int 0, .int 0, .ref lv, .int (-1), .int 0, .int 0, .ref mi, .int 0, .int 0, .int 0, .int 0, .ref ml, .ref mss, .ref rn, .ref sw, .ref mf, .null, .int 0, .ref msp, .int 0, .int 0, .int 0])), (lv, .inr (1, [.int 0, .ref de, .int 0])), (rn, .inr (1, [.int 0, .ref de, .int 0])), (sw, .inr (1, [.int 0, .ref de, .int 0])), (ml, .inl (cS, 6, .inl (slotF))), (mf, .inl (cF, 96, .inl (fun _ => 0)))]) hD hS hA [0, 1, 2, 3, 4, 5] rfl
    refine va_calli (va_runV (As := [.int (xs 1)]) (rest := []) ⟨hx, hb, hml, hown, ht⟩ (c_X18_frames l dC dI de (om) (mt) (qu) (lv) (mi) (ml) (mss) (rn) (sw) (mf) (msp) (cS) (cF) (0) ((xs 1)) H.size) (cwV 1 ht (gWV (wr_38 _ (List.mem_of_getElem? (i := 5) rfl)) (wr_38 _ (List.mem_of_getElem? (i := 6) rfl)) (wr_38 _ (List.mem_of_getElem? (i := 7) rfl)) (wr_1 _ (List.mem_of_getElem? (i := 5) rfl)) (wr_38 _ (List.mem_of_getElem? (i := 8) rfl))) rfl rfl rfl (by decide +kernel) ⟨Nat.le_of_ble_eq_true rfl, Nat.le_of_ble_eq_true rfl⟩) ⟨PW_blind, va_recv hKc hPc (ci := 20) (q0 := 0) rfl rfl, PW_call hPc hDc hKc hS hG hFc⟩ rfl rfl hl.1 rfl (lv_room (Nat.le_of_ble_eq_true rfl)) dL_law_1079 ⟨Nat.le_of_ble_eq_true rfl, Nat.le_of_ble_eq_true rfl⟩) hS (fun q _ h => hFc q h) hFc (fun r_1079 u t H1 locs ht9 hvm hw hB hz1 hk1 hS => ?_)
    obtain ⟨hP1, hK1, hD1⟩ := hB
    rw [ht9] at hP1
    have hK1 := va_K.moved hvm.symm hK1
    obtain ⟨hP, hD⟩ := va_join (wr := [(od, .inl (cE, 1, .inr (.inr (.inr (.inl (fun _ => 0))))))]) (w1 := [(om, .inr (20, [.ref mt, .ref qu, .int 0, .int 1, .ref lv, .int (-1), .int 0, .int 0, .ref mi, .int 0, .int 0, .int 0, .int 0, .ref ml, .ref mss, .ref rn, .ref sw, .ref mf, .null, .int 0, .ref msp, .int 0, .int 0, .int 0])), (lv, .inr (1, [.int 0, .ref de, .int 0])), (rn, .inr (1, [.int 0, .ref de, .int 0])), (sw, .inr (1, [.int 0, .ref de, .int 0])), (ml, .inl (cS, 6, .inl (slotF))), (mf, .inl (cF, 96, .inl (fun _ => 0)))]) hP hD [0, 1, 2, 3, 4, 5] [6] rfl rfl (by decide) (by decide) hk1 hFc hP1 hD1
    have hK := (hK.sub (tys' := [(cE, .double)]) [2] rfl).app hK1
    generalize H1 = H at hP hS ⊢
    replace hP : va_P (dC, dI) vwCl [(od, .inl (cE, 1, .inr (.inr (.inr (.inl (fun _ => 0)))))), (om, .inr (20, [.ref mt, .ref qu, .int 0, .int 1, .ref lv, .int (-1), .int 0, .int 0, .ref mi, .int 0, .int 0, .int 0, .int 0, .ref ml, .ref mss, .ref rn, .ref sw, .ref mf, .null, .int 0, .ref msp, .int 0, .int 0, .int 0])), (lv, .inr (1, [.int 0, .ref de, .int 0])), (rn, .inr (1, [.int 0, .ref de, .int 0])), (sw, .inr (1, [.int 0, .ref de, .int 0])), (ml, .inl (cS, 6, .inl (slotF))), (mf, .inl (cF, 96, .inl (fun _ => 0)))] H := hP
    replace hD : va_D A [(od, .inl (cE, 1, .inr (.inr (.inr (.inl (fun _ => 0)))))), (om, .inr (20, [.ref mt, .ref qu, .int 0, .int 1, .ref lv, .int (-1), .int 0, .int 0, .ref mi, .int 0, .int 0, .int 0, .int 0, .ref ml, .ref mss, .ref rn, .ref sw, .ref mf, .null, .int 0, .ref msp, .int 0, .int 0, .int 0])), (lv, .inr (1, [.int 0, .ref de, .int 0])), (rn, .inr (1, [.int 0, .ref de, .int 0])), (sw, .inr (1, [.int 0, .ref de, .int 0])), (ml, .inl (cS, 6, .inl (slotF))), (mf, .inl (cF, 96, .inl (fun _ => 0)))] := hD
    have hK : va_K (dC, dI) vwCl [(cE, .double), (cS, .int), (cF, .int)] s := hK
    have hw_1079 := hw
    refine lv_istore (lv' := [(7, .int r_1079), (6, .int 1), (5, .int 0), (4, .ref od), (3, .ref oq), (2, .ref om), (1, .ref ox), (0, .ref b)]) hx hb dL_law_1082 hl (by decide) rfl (fun ls hl => ?_)
    refine lv_aload_n hx hb dL_law_1084 rfl (lv_at hl 5 rfl) ?_
    have hPc := hP.sub (ws' := [(om, .inr (20, [.ref mt, .ref qu, .int 0, .int 1, .ref lv, .int (-1), .int 0, .int 0, .ref mi, .int 0, .int 0, .int 0, .int 0, .ref ml, .ref mss, .ref rn, .ref sw, .ref mf, .null, .int 0, .ref msp, .int 0, .int 0, .int 0]))]) [1] rfl
    have hDc := hD.sub (ws' := [(om, .inr (20, [.ref mt, .ref qu, .int 0, .int 1, .ref lv, .int (-1), .int 0, .int 0, .ref mi, .int 0, .int 0, .int 0, .int 0, .ref ml, .ref mss, .ref rn, .ref sw, .ref mf, .null, .int 0, .ref msp, .int 0, .int 0, .int 0]))]) [1] (by decide) rfl
    have hKc := hK.sub (tys' := []) [] rfl
    have hFc := va_free (wc := [(om, .inr (20, [.ref mt, .ref qu, .int 0, .int 1, .ref lv, .int (-1), .int 0, .int 0, .ref mi, .int 0, .int 0, .int 0, .int 0, .ref ml, .ref mss, .ref rn, .ref sw, .ref mf, .null, .int 0, .ref msp, .int 0, .int 0, .int 0]))]) hD hS hA [1] rfl
    refine va_calli (va_runV (As := []) (rest := []) ⟨hx, hb, hml, hown, ht⟩ (c_thrown1 l dC dI de (om) (mt) (qu) (lv) (mi) (ml) (mss) (rn) (sw) (mf) (msp) (1) H.size) (cwV 0 ht (gWV (wr_18 _ (List.mem_of_getElem? (i := 5) rfl)) (wr_18 _ (List.mem_of_getElem? (i := 6) rfl)) (wr_18 _ (List.mem_of_getElem? (i := 7) rfl)) (wr_1 _ (List.mem_of_getElem? (i := 5) rfl)) (wr_18 _ (List.mem_of_getElem? (i := 8) rfl))) rfl rfl rfl (by decide +kernel) ⟨Nat.le_of_ble_eq_true rfl, Nat.le_of_ble_eq_true rfl⟩) ⟨PW_blind, va_recv hKc hPc (ci := 20) (q0 := 0) rfl rfl, PW_call hPc hDc hKc hS hG hFc⟩ rfl rfl hl.1 rfl (lv_room (Nat.le_of_ble_eq_true rfl)) dL_law_1085 ⟨Nat.le_of_ble_eq_true rfl, Nat.le_of_ble_eq_true rfl⟩) hS (fun q _ h => hFc q h) hFc (fun r_1085 u t H1 locs ht9 hvm hw hB hz1 hk1 hS => ?_)
    obtain ⟨hP1, hK1, hD1⟩ := hB
    rw [ht9] at hP1
    have hK1 := va_K.moved hvm.symm hK1
    obtain ⟨hP, hD⟩ := va_join (wr := [(od, .inl (cE, 1, .inr (.inr (.inr (.inl (fun _ => 0)))))), (lv, .inr (1, [.int 0, .ref de, .int 0])), (rn, .inr (1, [.int 0, .ref de, .int 0])), (sw, .inr (1, [.int 0, .ref de, .int 0])), (ml, .inl (cS, 6, .inl (slotF))), (mf, .inl (cF, 96, .inl (fun _ => 0)))]) (w1 := [(om, .inr (20, [.ref mt, .ref qu, .int 0, .int 1, .ref lv, .int (-1), .int 0, .int 0, .ref mi, .int 0, .int 0, .int 0, .int 0, .ref ml, .ref mss, .ref rn, .ref sw, .ref mf, .null, .int 0, .ref msp, .int 0, .int 0, .int 0]))]) hP hD [1] [0, 2, 3, 4, 5, 6] rfl rfl (by decide) (by decide) hk1 hFc hP1 hD1
    have hK := (hK.sub (tys' := [(cE, .double), (cS, .int), (cF, .int)]) [0, 1, 2] rfl).app hK1
    generalize H1 = H at hP hS ⊢
    replace hP : va_P (dC, dI) vwCl [(od, .inl (cE, 1, .inr (.inr (.inr (.inl (fun _ => 0)))))), (lv, .inr (1, [.int 0, .ref de, .int 0])), (rn, .inr (1, [.int 0, .ref de, .int 0])), (sw, .inr (1, [.int 0, .ref de, .int 0])), (ml, .inl (cS, 6, .inl (slotF))), (mf, .inl (cF, 96, .inl (fun _ => 0))), (om, .inr (20, [.ref mt, .ref qu, .int 0, .int 1, .ref lv, .int (-1), .int 0, .int 0, .ref mi, .int 0, .int 0, .int 0, .int 0, .ref ml, .ref mss, .ref rn, .ref sw, .ref mf, .null, .int 0, .ref msp, .int 0, .int 0, .int 0]))] H := hP
    replace hD : va_D A [(od, .inl (cE, 1, .inr (.inr (.inr (.inl (fun _ => 0)))))), (lv, .inr (1, [.int 0, .ref de, .int 0])), (rn, .inr (1, [.int 0, .ref de, .int 0])), (sw, .inr (1, [.int 0, .ref de, .int 0])), (ml, .inl (cS, 6, .inl (slotF))), (mf, .inl (cF, 96, .inl (fun _ => 0))), (om, .inr (20, [.ref mt, .ref qu, .int 0, .int 1, .ref lv, .int (-1), .int 0, .int 0, .ref mi, .int 0, .int 0, .int 0, .int 0, .ref ml, .ref mss, .ref rn, .ref sw, .ref mf, .null, .int 0, .ref msp, .int 0, .int 0, .int 0]))] := hD
    have hK : va_K (dC, dI) vwCl [(cE, .double), (cS, .int), (cF, .int)] s := hK
    have e_1085 : r_1085 = 1 := hw
    subst e_1085
    refine lv_iload hx hb dL_law_1088 (lv_at hl 1 rfl) ?_
    refine lv_icmp_eq (tgt := 1095) hx hb dL_law_1090 (by decide) (fun c_1090 => ?_) (fun c_1090 => absurd c_1090 (by decide))
    refine lv_iload hx hb dL_law_1095 (lv_at hl 1 rfl) ?_
    refine lv_if_ne (tgt := 1112) hx hb dL_law_1097 (by decide) (fun c_1097 => ?_) (fun c_1097 => absurd c_1097 (by decide))
    refine lv_goto (tgt := 3236) hx hb dL_law_1112 (by decide) ?_
    exact law_end C1 (lv_sub hl [2, 7] rfl) hS (Nat.le_of_ble_eq_true rfl) (Nat.le_of_ble_eq_true rfl)
set_option maxHeartbeats 4000000 in
set_option maxRecDepth 100000 in
theorem lc_11 {p : Program} {l : Launch} {e : Env} {s : State} {m : MethodId} {below : List Frame} {meth : Method} {c : Code} {b : Nat} {xs : Nat → Int32} {de : Nat} {A : Nat → Prop} (C0 : LX p l s m meth c b xs de A) {dC : Nat → ClassId} {dI : Nat → Nat → Nat} {ox pl ru sh sp sl gr re pr ga rp bo fa gpl gin bbe bdi om mt qu lv mi ml mss rn sw mf msp oq od : Nat} {cP cI cS cF cL cE : ClassId} {H : Heap} {locs : List Loc} {ls : Array Slot} (hl : lv_has ls 9 [(5, .int 0), (4, .ref od), (3, .ref oq), (2, .ref om), (1, .ref ox), (0, .ref b)]) (hK : va_K (dC, dI) vwCl [(cP, .object "Levelsmith$Player"), (cI, .int), (cS, .int), (cF, .int), (cL, .long), (cE, .double)] s) (hP : va_P (dC, dI) vwCl (WLL ox pl ru sh sp sl gr re pr ga rp bo fa gpl gin bbe bdi om mt qu lv mi ml mss rn sw mf msp oq od cP cI cS cF cL cE de) H) (hD : va_D A (WLL ox pl ru sh sp sl gr re pr ga rp bo fa gpl gin bbe bdi om mt qu lv mi ml mss rn sw mf msp oq od cP cI cS cF cL cE de)) (hS : va_S A s.heap H locs) : W p l e room_1 s m #[Value.ref b] below meth c H locs 64 1163523 (lw_Z below #[Value.ref b] s) (F0 m 1115 ls []) := by
  have C1 := C0
  obtain ⟨hlt, hx, hb, hr, hml, hown, ht, hX, hbl, hlocks, hG, hA, hAs, hbA⟩ := C0
  replace hP : va_P (dC, dI) vwCl [(ox, .inr (13, [.ref pl, .ref ru, .ref sh, .ref sp, .ref sl, .ref gr, .ref re, .ref pr, .ref ga, .ref rp, .ref bo, .int 0])), (pl, .inr (1, [.int 0, .ref de, .int 0])), (ru, .inr (1, [.int 0, .ref de, .int 0])), (sh, .inr (1, [.int 0, .ref de, .int 0])), (sp, .inl (cP, 6, .inr (.inr (.inr (.inr (fun _ => none)))))), (ga, .inr (5, [.ref gpl, .ref gin, .int (-1), .int 0, .int 112, .int 0])), (bo, .inr (2, [.ref fa, .ref bbe, .ref bdi, .int 0, .int 0])), (fa, .inl (cI, 96, .inl (fun _ => 0))), (om, .inr (20, [.ref mt, .ref qu, .int 0, .int 0, .ref lv, .int (-1), .int 0, .int 0, .ref mi, .int 0, .int 0, .int 0, .int 0, .ref ml, .ref mss, .ref rn, .ref sw, .ref mf, .null, .int 0, .ref msp, .int 0, .int 0, .int 0])), (lv, .inr (1, [.int 0, .ref de, .int 0])), (rn, .inr (1, [.int 0, .ref de, .int 0])), (sw, .inr (1, [.int 0, .ref de, .int 0])), (ml, .inl (cS, 6, .inl (slotF))), (mf, .inl (cF, 96, .inl (fun _ => 0))), (oq, .inl (cL, 1, .inr (.inl (fun _ => 0)))), (od, .inl (cE, 1, .inr (.inr (.inr (.inl (fun _ => 0))))))] H := hP
  replace hD : va_D A [(ox, .inr (13, [.ref pl, .ref ru, .ref sh, .ref sp, .ref sl, .ref gr, .ref re, .ref pr, .ref ga, .ref rp, .ref bo, .int 0])), (pl, .inr (1, [.int 0, .ref de, .int 0])), (ru, .inr (1, [.int 0, .ref de, .int 0])), (sh, .inr (1, [.int 0, .ref de, .int 0])), (sp, .inl (cP, 6, .inr (.inr (.inr (.inr (fun _ => none)))))), (ga, .inr (5, [.ref gpl, .ref gin, .int (-1), .int 0, .int 112, .int 0])), (bo, .inr (2, [.ref fa, .ref bbe, .ref bdi, .int 0, .int 0])), (fa, .inl (cI, 96, .inl (fun _ => 0))), (om, .inr (20, [.ref mt, .ref qu, .int 0, .int 0, .ref lv, .int (-1), .int 0, .int 0, .ref mi, .int 0, .int 0, .int 0, .int 0, .ref ml, .ref mss, .ref rn, .ref sw, .ref mf, .null, .int 0, .ref msp, .int 0, .int 0, .int 0])), (lv, .inr (1, [.int 0, .ref de, .int 0])), (rn, .inr (1, [.int 0, .ref de, .int 0])), (sw, .inr (1, [.int 0, .ref de, .int 0])), (ml, .inl (cS, 6, .inl (slotF))), (mf, .inl (cF, 96, .inl (fun _ => 0))), (oq, .inl (cL, 1, .inr (.inl (fun _ => 0)))), (od, .inl (cE, 1, .inr (.inr (.inr (.inl (fun _ => 0))))))] := hD
  refine lv_aload_n hx hb dL_law_1115 rfl (lv_at hl 4 rfl) ?_
  refine lv_aload_n hx hb dL_law_1116 rfl (lv_at hl 5 rfl) ?_
  refine lv_iload hx hb dL_law_1117 (lv_at hl 0 rfl) ?_
  refine lv_iconst (v := 1) hx hb dL_law_1119 (by decide) ?_
  refine lv_iadd hx hb dL_law_1120 ?_
  refine va_sld hx hb hX hbl hbA hS (by unfold vp_in; decide) dL_law_1121 ?_
  refine lv_topi (fun y ey => ?_)
  replace ey : y = (xs 1) := ey.trans (congrArg xs (by decide))
  subst ey
  refine lv_aload_n hx hb dL_law_1122 rfl (lv_at hl 5 rfl) ?_
  refine lv_iload hx hb dL_law_1123 (lv_at hl 0 rfl) ?_
  refine lv_iconst (v := 2) hx hb dL_law_1125 (by decide) ?_
  refine lv_iadd hx hb dL_law_1126 ?_
  refine va_sld hx hb hX hbl hbA hS (by unfold vp_in; decide) dL_law_1127 ?_
  refine lv_topi (fun y ey => ?_)
  replace ey : y = (xs 2) := ey.trans (congrArg xs (by decide))
  subst ey
  refine lv_aload_n hx hb dL_law_1128 rfl (lv_at hl 2 rfl) ?_
  have hPc := hP.sub (ws' := [(ox, .inr (13, [.ref pl, .ref ru, .ref sh, .ref sp, .ref sl, .ref gr, .ref re, .ref pr, .ref ga, .ref rp, .ref bo, .int 0])), (pl, .inr (1, [.int 0, .ref de, .int 0])), (ru, .inr (1, [.int 0, .ref de, .int 0])), (sh, .inr (1, [.int 0, .ref de, .int 0])), (sp, .inl (cP, 6, .inr (.inr (.inr (.inr (fun _ => none)))))), (ga, .inr (5, [.ref gpl, .ref gin, .int (-1), .int 0, .int 112, .int 0])), (bo, .inr (2, [.ref fa, .ref bbe, .ref bdi, .int 0, .int 0])), (fa, .inl (cI, 96, .inl (fun _ => 0))), (oq, .inl (cL, 1, .inr (.inl (fun _ => 0))))]) [0, 1, 2, 3, 4, 5, 6, 7, 14] rfl
  have hDc := hD.sub (ws' := [(ox, .inr (13, [.ref pl, .ref ru, .ref sh, .ref sp, .ref sl, .ref gr, .ref re, .ref pr, .ref ga, .ref rp, .ref bo, .int 0])), (pl, .inr (1, [.int 0, .ref de, .int 0])), (ru, .inr (1, [.int 0, .ref de, .int 0])), (sh, .inr (1, [.int 0, .ref de, .int 0])), (sp, .inl (cP, 6, .inr (.inr (.inr (.inr (fun _ => none)))))), (ga, .inr (5, [.ref gpl, .ref gin, .int (-1), .int 0, .int 112, .int 0])), (bo, .inr (2, [.ref fa, .ref bbe, .ref bdi, .int 0, .int 0])), (fa, .inl (cI, 96, .inl (fun _ => 0))), (oq, .inl (cL, 1, .inr (.inl (fun _ => 0))))]) [0, 1, 2, 3, 4, 5, 6, 7, 14] (by decide) rfl
  have hKc := hK.sub (tys' := [(cP, .object "Levelsmith$Player"), (cI, .int), (cL, .long)]) [0, 1, 4] rfl
  have hFc := va_free (wc := [(ox, .inr (13, [.ref pl, .ref ru, .ref sh, .ref sp, .ref sl, .ref gr, .ref re, .ref pr, .ref ga, .ref rp, .ref bo, .int 0])), (pl, .inr (1, [.int 0, .ref de, .int 0])), (ru, .inr (1, [.int 0, .ref de, .int 0])), (sh, .inr (1, [.int 0, .ref de, .int 0])), (sp, .inl (cP, 6, .inr (.inr (.inr (.inr (fun _ => none)))))), (ga, .inr (5, [.ref gpl, .ref gin, .int (-1), .int 0, .int 112, .int 0])), (bo, .inr (2, [.ref fa, .ref bbe, .ref bdi, .int 0, .int 0])), (fa, .inl (cI, 96, .inl (fun _ => 0))), (oq, .inl (cL, 1, .inr (.inl (fun _ => 0))))]) hD hS hA [0, 1, 2, 3, 4, 5, 6, 7, 14] rfl
  refine vx_calli (vx_runSX (As := [.ref ox, .int (xs 1), .int (xs 2), .ref oq]) (rest := []) ⟨hx, hb, hml, hown, ht⟩ (c_L_routeAt l hlt dC dI de (ox) (pl) (ru) (sh) (sp) (sl) (gr) (re) (pr) (ga) (rp) (bo) (fa) (gpl) (gin) (bbe) (bdi) (cP) (cI) (oq) (cL) ((xs 1)) ((xs 2)) H.size) (vx_cwSW 4 ht (gWX (wr_38 _ (List.mem_of_getElem? (i := 17) rfl)) (wr_38 _ (List.mem_of_getElem? (i := 18) rfl)) (wr_9 _ (List.mem_of_getElem? (i := 13) rfl)) (wr_38 _ (List.mem_of_getElem? (i := 19) rfl))) rfl rfl rfl (by decide +kernel) ⟨Nat.le_of_ble_eq_true rfl, Nat.le_of_ble_eq_true rfl⟩) ⟨PW_blind, PW_call hPc hDc hKc hS hG hFc⟩ rfl rfl hl.1 rfl (lv_room (Nat.le_of_ble_eq_true rfl)) dL_law_1129 ⟨Nat.le_of_ble_eq_true rfl, Nat.le_of_ble_eq_true rfl⟩) hS (fun q _ h => hFc q h) hFc (fun q _ h => hFc q h) (fun E ce q9 u t H1 locs1 ht9 hvm9 _ hR9 hz9 hk9 hS9 hc9 hv9 hcl9 => ?_) (fun r_1129 u t H1 locs ht9 hvm hw hB hz1 hk1 hS => ?_)
  · exact False.elim hR9
  · obtain ⟨hP1, hK1, hD1⟩ := hB
    rw [ht9] at hP1
    have hK1 := va_K.moved hvm.symm hK1
    obtain ⟨hP, hD⟩ := va_join (wr := [(om, .inr (20, [.ref mt, .ref qu, .int 0, .int 0, .ref lv, .int (-1), .int 0, .int 0, .ref mi, .int 0, .int 0, .int 0, .int 0, .ref ml, .ref mss, .ref rn, .ref sw, .ref mf, .null, .int 0, .ref msp, .int 0, .int 0, .int 0])), (lv, .inr (1, [.int 0, .ref de, .int 0])), (rn, .inr (1, [.int 0, .ref de, .int 0])), (sw, .inr (1, [.int 0, .ref de, .int 0])), (ml, .inl (cS, 6, .inl (slotF))), (mf, .inl (cF, 96, .inl (fun _ => 0))), (od, .inl (cE, 1, .inr (.inr (.inr (.inl (fun _ => 0))))))]) (w1 := []) hP hD [0, 1, 2, 3, 4, 5, 6, 7, 14] [8, 9, 10, 11, 12, 13, 15] rfl rfl (by decide) (by decide) hk1 hFc hP1 hD1
    have hK := (hK.sub (tys' := [(cS, .int), (cF, .int), (cE, .double)]) [2, 3, 5] rfl).app hK1
    generalize H1 = H at hP hS ⊢
    replace hP : va_P (dC, dI) vwCl [(om, .inr (20, [.ref mt, .ref qu, .int 0, .int 0, .ref lv, .int (-1), .int 0, .int 0, .ref mi, .int 0, .int 0, .int 0, .int 0, .ref ml, .ref mss, .ref rn, .ref sw, .ref mf, .null, .int 0, .ref msp, .int 0, .int 0, .int 0])), (lv, .inr (1, [.int 0, .ref de, .int 0])), (rn, .inr (1, [.int 0, .ref de, .int 0])), (sw, .inr (1, [.int 0, .ref de, .int 0])), (ml, .inl (cS, 6, .inl (slotF))), (mf, .inl (cF, 96, .inl (fun _ => 0))), (od, .inl (cE, 1, .inr (.inr (.inr (.inl (fun _ => 0))))))] H := hP
    replace hD : va_D A [(om, .inr (20, [.ref mt, .ref qu, .int 0, .int 0, .ref lv, .int (-1), .int 0, .int 0, .ref mi, .int 0, .int 0, .int 0, .int 0, .ref ml, .ref mss, .ref rn, .ref sw, .ref mf, .null, .int 0, .ref msp, .int 0, .int 0, .int 0])), (lv, .inr (1, [.int 0, .ref de, .int 0])), (rn, .inr (1, [.int 0, .ref de, .int 0])), (sw, .inr (1, [.int 0, .ref de, .int 0])), (ml, .inl (cS, 6, .inl (slotF))), (mf, .inl (cF, 96, .inl (fun _ => 0))), (od, .inl (cE, 1, .inr (.inr (.inr (.inl (fun _ => 0))))))] := hD
    have hK : va_K (dC, dI) vwCl [(cS, .int), (cF, .int), (cE, .double)] s := hK
    refine W.widen (k := 65) (n := 1163529) (Nat.le_of_ble_eq_true rfl) (Nat.le_of_ble_eq_true rfl) ?_
    have e_1129 : r_1129 = 1 := hw
    subst e_1129
    refine lv_istore (lv' := [(6, .int 1), (5, .int 0), (4, .ref od), (3, .ref oq), (2, .ref om), (1, .ref ox), (0, .ref b)]) hx hb dL_law_1132 hl (by decide) rfl (fun ls hl => ?_)
    refine lv_aload_n hx hb dL_law_1134 rfl (lv_at hl 4 rfl) ?_
    refine lv_aload_n hx hb dL_law_1135 rfl (lv_at hl 6 rfl) ?_
    refine lv_iload hx hb dL_law_1136 (lv_at hl 1 rfl) ?_
    refine lv_iconst (v := 1) hx hb dL_law_1138 (by decide) ?_
    refine lv_iadd hx hb dL_law_1139 ?_
    refine va_sld hx hb hX hbl hbA hS (by unfold vp_in; decide) dL_law_1140 ?_
    refine lv_topi (fun y ey => ?_)
    replace ey : y = (xs 1) := ey.trans (congrArg xs (by decide))
    subst ey
    refine lv_aload_n hx hb dL_law_1141 rfl (lv_at hl 6 rfl) ?_
    refine lv_iload hx hb dL_law_1142 (lv_at hl 1 rfl) ?_
    refine lv_iconst (v := 2) hx hb dL_law_1144 (by decide) ?_
    refine lv_iadd hx hb dL_law_1145 ?_
    refine va_sld hx hb hX hbl hbA hS (by unfold vp_in; decide) dL_law_1146 ?_
    refine lv_topi (fun y ey => ?_)
    replace ey : y = (xs 2) := ey.trans (congrArg xs (by decide))
    subst ey
    have hPc := hP.sub (ws' := [(om, .inr (20, [.ref mt, .ref qu, .int 0, .int 0, .ref lv, .int (-1), .int 0, .int 0, .ref mi, .int 0, .int 0, .int 0, .int 0, .ref ml, .ref mss, .ref rn, .ref sw, .ref mf, .null, .int 0, .ref msp, .int 0, .int 0, .int 0])), (lv, .inr (1, [.int 0, .ref de, .int 0])), (rn, .inr (1, [.int 0, .ref de, .int 0])), (sw, .inr (1, [.int 0, .ref de, .int 0])), (ml, .inl (cS, 6, .inl (slotF))), (mf, .inl (cF, 96, .inl (fun _ => 0)))]) [0, 1, 2, 3, 4, 5] rfl
    have hDc := hD.sub (ws' := [(om, .inr (20, [.ref mt, .ref qu, .int 0, .int 0, .ref lv, .int (-1), .int 0, .int 0, .ref mi, .int 0, .int 0, .int 0, .int 0, .ref ml, .ref mss, .ref rn, .ref sw, .ref mf, .null, .int 0, .ref msp, .int 0, .int 0, .int 0])), (lv, .inr (1, [.int 0, .ref de, .int 0])), (rn, .inr (1, [.int 0, .ref de, .int 0])), (sw, .inr (1, [.int 0, .ref de, .int 0])), (ml, .inl (cS, 6, .inl (slotF))), (mf, .inl (cF, 96, .inl (fun _ => 0)))]) [0, 1, 2, 3, 4, 5] (by decide) rfl
    have hKc := hK.sub (tys' := [(cS, .int), (cF, .int)]) [0, 1] rfl
    have hFc := va_free (wc := [(om, .inr (20, [.ref mt, .ref qu, .int 0, .int 0, .ref lv, .int (-1), .int 0, .int 0, .ref mi, .int 0, .int 0, .int 0, .int 0, .ref ml, .ref mss, .ref rn, .ref sw, .ref mf, .null, .int 0, .ref msp, .int 0, .int 0, .int 0])), (lv, .inr (1, [.int 0, .ref de, .int 0])), (rn, .inr (1, [.int 0, .ref de, .int 0])), (sw, .inr (1, [.int 0, .ref de, .int 0])), (ml, .inl (cS, 6, .inl (slotF))), (mf, .inl (cF, 96, .inl (fun _ => 0)))]) hD hS hA [0, 1, 2, 3, 4, 5] rfl
    refine va_calli (va_runV (As := [.int (xs 1), .int (xs 2)]) (rest := []) ⟨hx, hb, hml, hown, ht⟩ (c_X18_routeAt l dC dI de (om) (mt) (qu) (lv) (mi) (ml) (mss) (rn) (sw) (mf) (msp) (cS) (cF) (0) ((xs 1)) ((xs 2)) H.size) (cwV 2 ht (gWV (wr_39 _ (List.mem_of_getElem? (i := 8) rfl)) (wr_39 _ (List.mem_of_getElem? (i := 9) rfl)) (wr_39 _ (List.mem_of_getElem? (i := 10) rfl)) (wr_1 _ (List.mem_of_getElem? (i := 5) rfl)) (wr_39 _ (List.mem_of_getElem? (i := 11) rfl))) rfl rfl rfl (by decide +kernel) ⟨Nat.le_of_ble_eq_true rfl, Nat.le_of_ble_eq_true rfl⟩) ⟨PW_blind, va_recv hKc hPc (ci := 20) (q0 := 0) rfl rfl, PW_call hPc hDc hKc hS hG hFc⟩ rfl rfl hl.1 rfl (lv_room (Nat.le_of_ble_eq_true rfl)) dL_law_1147 ⟨Nat.le_of_ble_eq_true rfl, Nat.le_of_ble_eq_true rfl⟩) hS (fun q _ h => hFc q h) hFc (fun r_1147 u t H1 locs ht9 hvm hw hB hz1 hk1 hS => ?_)
    obtain ⟨hP1, hK1, hD1⟩ := hB
    rw [ht9] at hP1
    have hK1 := va_K.moved hvm.symm hK1
    obtain ⟨hP, hD⟩ := va_join (wr := [(od, .inl (cE, 1, .inr (.inr (.inr (.inl (fun _ => 0))))))]) (w1 := [(om, .inr (20, [.ref mt, .ref qu, .int 0, .int 1, .ref lv, .int (-1), .int 0, .int 0, .ref mi, .int 0, .int 0, .int 0, .int 0, .ref ml, .ref mss, .ref rn, .ref sw, .ref mf, .null, .int 0, .ref msp, .int 0, .int 0, .int 0])), (lv, .inr (1, [.int 0, .ref de, .int 0])), (rn, .inr (1, [.int 0, .ref de, .int 0])), (sw, .inr (1, [.int 0, .ref de, .int 0])), (ml, .inl (cS, 6, .inl (slotF))), (mf, .inl (cF, 96, .inl (fun _ => 0)))]) hP hD [0, 1, 2, 3, 4, 5] [6] rfl rfl (by decide) (by decide) hk1 hFc hP1 hD1
    have hK := (hK.sub (tys' := [(cE, .double)]) [2] rfl).app hK1
    generalize H1 = H at hP hS ⊢
    replace hP : va_P (dC, dI) vwCl [(od, .inl (cE, 1, .inr (.inr (.inr (.inl (fun _ => 0)))))), (om, .inr (20, [.ref mt, .ref qu, .int 0, .int 1, .ref lv, .int (-1), .int 0, .int 0, .ref mi, .int 0, .int 0, .int 0, .int 0, .ref ml, .ref mss, .ref rn, .ref sw, .ref mf, .null, .int 0, .ref msp, .int 0, .int 0, .int 0])), (lv, .inr (1, [.int 0, .ref de, .int 0])), (rn, .inr (1, [.int 0, .ref de, .int 0])), (sw, .inr (1, [.int 0, .ref de, .int 0])), (ml, .inl (cS, 6, .inl (slotF))), (mf, .inl (cF, 96, .inl (fun _ => 0)))] H := hP
    replace hD : va_D A [(od, .inl (cE, 1, .inr (.inr (.inr (.inl (fun _ => 0)))))), (om, .inr (20, [.ref mt, .ref qu, .int 0, .int 1, .ref lv, .int (-1), .int 0, .int 0, .ref mi, .int 0, .int 0, .int 0, .int 0, .ref ml, .ref mss, .ref rn, .ref sw, .ref mf, .null, .int 0, .ref msp, .int 0, .int 0, .int 0])), (lv, .inr (1, [.int 0, .ref de, .int 0])), (rn, .inr (1, [.int 0, .ref de, .int 0])), (sw, .inr (1, [.int 0, .ref de, .int 0])), (ml, .inl (cS, 6, .inl (slotF))), (mf, .inl (cF, 96, .inl (fun _ => 0)))] := hD
    have hK : va_K (dC, dI) vwCl [(cE, .double), (cS, .int), (cF, .int)] s := hK
    have hw_1147 := hw
    refine lv_istore (lv' := [(7, .int r_1147), (6, .int 1), (5, .int 0), (4, .ref od), (3, .ref oq), (2, .ref om), (1, .ref ox), (0, .ref b)]) hx hb dL_law_1150 hl (by decide) rfl (fun ls hl => ?_)
    refine lv_aload_n hx hb dL_law_1152 rfl (lv_at hl 5 rfl) ?_
    have hPc := hP.sub (ws' := [(om, .inr (20, [.ref mt, .ref qu, .int 0, .int 1, .ref lv, .int (-1), .int 0, .int 0, .ref mi, .int 0, .int 0, .int 0, .int 0, .ref ml, .ref mss, .ref rn, .ref sw, .ref mf, .null, .int 0, .ref msp, .int 0, .int 0, .int 0]))]) [1] rfl
    have hDc := hD.sub (ws' := [(om, .inr (20, [.ref mt, .ref qu, .int 0, .int 1, .ref lv, .int (-1), .int 0, .int 0, .ref mi, .int 0, .int 0, .int 0, .int 0, .ref ml, .ref mss, .ref rn, .ref sw, .ref mf, .null, .int 0, .ref msp, .int 0, .int 0, .int 0]))]) [1] (by decide) rfl
    have hKc := hK.sub (tys' := []) [] rfl
    have hFc := va_free (wc := [(om, .inr (20, [.ref mt, .ref qu, .int 0, .int 1, .ref lv, .int (-1), .int 0, .int 0, .ref mi, .int 0, .int 0, .int 0, .int 0, .ref ml, .ref mss, .ref rn, .ref sw, .ref mf, .null, .int 0, .ref msp, .int 0, .int 0, .int 0]))]) hD hS hA [1] rfl
    refine va_calli (va_runV (As := []) (rest := []) ⟨hx, hb, hml, hown, ht⟩ (c_thrown1 l dC dI de (om) (mt) (qu) (lv) (mi) (ml) (mss) (rn) (sw) (mf) (msp) (1) H.size) (cwV 0 ht (gWV (wr_18 _ (List.mem_of_getElem? (i := 5) rfl)) (wr_18 _ (List.mem_of_getElem? (i := 6) rfl)) (wr_18 _ (List.mem_of_getElem? (i := 7) rfl)) (wr_1 _ (List.mem_of_getElem? (i := 5) rfl)) (wr_18 _ (List.mem_of_getElem? (i := 8) rfl))) rfl rfl rfl (by decide +kernel) ⟨Nat.le_of_ble_eq_true rfl, Nat.le_of_ble_eq_true rfl⟩) ⟨PW_blind, va_recv hKc hPc (ci := 20) (q0 := 0) rfl rfl, PW_call hPc hDc hKc hS hG hFc⟩ rfl rfl hl.1 rfl (lv_room (Nat.le_of_ble_eq_true rfl)) dL_law_1153 ⟨Nat.le_of_ble_eq_true rfl, Nat.le_of_ble_eq_true rfl⟩) hS (fun q _ h => hFc q h) hFc (fun r_1153 u t H1 locs ht9 hvm hw hB hz1 hk1 hS => ?_)
    obtain ⟨hP1, hK1, hD1⟩ := hB
    rw [ht9] at hP1
    have hK1 := va_K.moved hvm.symm hK1
    obtain ⟨hP, hD⟩ := va_join (wr := [(od, .inl (cE, 1, .inr (.inr (.inr (.inl (fun _ => 0)))))), (lv, .inr (1, [.int 0, .ref de, .int 0])), (rn, .inr (1, [.int 0, .ref de, .int 0])), (sw, .inr (1, [.int 0, .ref de, .int 0])), (ml, .inl (cS, 6, .inl (slotF))), (mf, .inl (cF, 96, .inl (fun _ => 0)))]) (w1 := [(om, .inr (20, [.ref mt, .ref qu, .int 0, .int 1, .ref lv, .int (-1), .int 0, .int 0, .ref mi, .int 0, .int 0, .int 0, .int 0, .ref ml, .ref mss, .ref rn, .ref sw, .ref mf, .null, .int 0, .ref msp, .int 0, .int 0, .int 0]))]) hP hD [1] [0, 2, 3, 4, 5, 6] rfl rfl (by decide) (by decide) hk1 hFc hP1 hD1
    have hK := (hK.sub (tys' := [(cE, .double), (cS, .int), (cF, .int)]) [0, 1, 2] rfl).app hK1
    generalize H1 = H at hP hS ⊢
    replace hP : va_P (dC, dI) vwCl [(od, .inl (cE, 1, .inr (.inr (.inr (.inl (fun _ => 0)))))), (lv, .inr (1, [.int 0, .ref de, .int 0])), (rn, .inr (1, [.int 0, .ref de, .int 0])), (sw, .inr (1, [.int 0, .ref de, .int 0])), (ml, .inl (cS, 6, .inl (slotF))), (mf, .inl (cF, 96, .inl (fun _ => 0))), (om, .inr (20, [.ref mt, .ref qu, .int 0, .int 1, .ref lv, .int (-1), .int 0, .int 0, .ref mi, .int 0, .int 0, .int 0, .int 0, .ref ml, .ref mss, .ref rn, .ref sw, .ref mf, .null, .int 0, .ref msp, .int 0, .int 0, .int 0]))] H := hP
    replace hD : va_D A [(od, .inl (cE, 1, .inr (.inr (.inr (.inl (fun _ => 0)))))), (lv, .inr (1, [.int 0, .ref de, .int 0])), (rn, .inr (1, [.int 0, .ref de, .int 0])), (sw, .inr (1, [.int 0, .ref de, .int 0])), (ml, .inl (cS, 6, .inl (slotF))), (mf, .inl (cF, 96, .inl (fun _ => 0))), (om, .inr (20, [.ref mt, .ref qu, .int 0, .int 1, .ref lv, .int (-1), .int 0, .int 0, .ref mi, .int 0, .int 0, .int 0, .int 0, .ref ml, .ref mss, .ref rn, .ref sw, .ref mf, .null, .int 0, .ref msp, .int 0, .int 0, .int 0]))] := hD
    have hK : va_K (dC, dI) vwCl [(cE, .double), (cS, .int), (cF, .int)] s := hK
    have e_1153 : r_1153 = 1 := hw
    subst e_1153
    refine lv_iload hx hb dL_law_1156 (lv_at hl 1 rfl) ?_
    refine lv_icmp_eq (tgt := 1163) hx hb dL_law_1158 (by decide) (fun c_1158 => ?_) (fun c_1158 => absurd c_1158 (by decide))
    refine lv_iload hx hb dL_law_1163 (lv_at hl 1 rfl) ?_
    refine lv_if_ne (tgt := 1180) hx hb dL_law_1165 (by decide) (fun c_1165 => ?_) (fun c_1165 => absurd c_1165 (by decide))
    refine lv_goto (tgt := 3236) hx hb dL_law_1180 (by decide) ?_
    exact law_end C1 (lv_sub hl [2, 7] rfl) hS (Nat.le_of_ble_eq_true rfl) (Nat.le_of_ble_eq_true rfl)
