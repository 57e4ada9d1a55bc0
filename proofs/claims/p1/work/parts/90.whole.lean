theorem dL_law_0 : decode cL_law 0 = .ok (.new 8, 3) := by decide +kernel
theorem dL_law_3 : decode cL_law 3 = .ok (.dup, 1) := by decide +kernel
theorem dL_law_4 : decode cL_law 4 = .ok (.invokespecial 167, 3) := by decide +kernel
theorem dL_law_7 : decode cL_law 7 = .ok (.astore_n 1, 1) := by decide +kernel
theorem dL_law_8 : decode cL_law 8 = .ok (.new 168, 3) := by decide +kernel
theorem dL_law_11 : decode cL_law 11 = .ok (.dup, 1) := by decide +kernel
theorem dL_law_12 : decode cL_law 12 = .ok (.invokespecial 170, 3) := by decide +kernel
theorem dL_law_15 : decode cL_law 15 = .ok (.astore_n 2, 1) := by decide +kernel
theorem dL_law_16 : decode cL_law 16 = .ok (.iconst 1, 1) := by decide +kernel
theorem dL_law_17 : decode cL_law 17 = .ok (.newarray .long, 2) := by decide +kernel
theorem dL_law_19 : decode cL_law 19 = .ok (.astore_n 3, 1) := by decide +kernel
theorem dL_law_20 : decode cL_law 20 = .ok (.iconst 1, 1) := by decide +kernel
theorem dL_law_21 : decode cL_law 21 = .ok (.newarray .double, 2) := by decide +kernel
theorem dL_law_23 : decode cL_law 23 = .ok (.astore 4, 2) := by decide +kernel
theorem dL_law_25 : decode cL_law 25 = .ok (.iconst 0, 1) := by decide +kernel
theorem dL_law_26 : decode cL_law 26 = .ok (.istore 5, 2) := by decide +kernel
theorem dL_law_38 : decode cL_law 38 = .ok (.aload_n 0, 1) := by decide +kernel
theorem dL_law_39 : decode cL_law 39 = .ok (.iload 5, 2) := by decide +kernel
theorem dL_law_41 : decode cL_law 41 = .ok (.iaload, 1) := by decide +kernel
theorem dL_law_42 : decode cL_law 42 = .ok (.bipush 63, 2) := by decide +kernel
theorem dL_law_44 : decode cL_law 44 = .ok (.iand, 1) := by decide +kernel
theorem dL_law_45 : decode cL_law 45 = .ok (.tableswitch 3191 0 45 #[199, 281, 375, 495, 575, 655, 747, 827, 883, 951, 1014, 1070, 1138, 1194, 1274, 1330, 1400, 1456, 1533, 1610, 1666, 1736, 1792, 1848, 1904, 1960, 2018, 2031, 2094, 2150, 2194, 2250, 2306, 2369, 2432, 2514, 2618, 2686, 2744, 2824, 2880, 2955, 2968, 3023, 3101, 3178], 199) := by decide +kernel
set_option maxHeartbeats 8000000 in
set_option maxRecDepth 100000 in
/-- seven ints: which call the first one names -/
theorem law_switch {p : Program} {l : Launch} {e : Env} {s : State} {m : MethodId} {below : List Frame} {meth : Method} {c : Code} {b : Nat} {xs : Nat → Int32} {de : Nat} {A : Nat → Prop} (C0 : LX p l s m meth c b xs de A) {dC : Nat → ClassId} {dI : Nat → Nat → Nat} {ox pl ru sh sp sl gr re pr ga rp bo fa gpl gin bbe bdi om mt qu lv mi ml mss rn sw mf msp oq od : Nat} {cP cI cS cF cL cE : ClassId} {H : Heap} {locs : List Loc} {ls : Array Slot} (hl : lv_has ls 9 [(5, .int 0), (4, .ref od), (3, .ref oq), (2, .ref om), (1, .ref ox), (0, .ref b)]) (hK : va_K (dC, dI) vwCl [(cP, .object "Levelsmith$Player"), (cI, .int), (cS, .int), (cF, .int), (cL, .long), (cE, .double)] s) (hP : va_P (dC, dI) vwCl (WLL ox pl ru sh sp sl gr re pr ga rp bo fa gpl gin bbe bdi om mt qu lv mi ml mss rn sw mf msp oq od cP cI cS cF cL cE de) H) (hD : va_D A (WLL ox pl ru sh sp sl gr re pr ga rp bo fa gpl gin bbe bdi om mt qu lv mi ml mss rn sw mf msp oq od cP cI cS cF cL cE de)) (hS : va_S A s.heap H locs) : W p l e room_1 s m #[Value.ref b] below meth c H locs 64 1163523 (lw_Z below #[Value.ref b] s) (F0 m 38 ls []) := by
  have C1 := C0
  obtain ⟨hlt, hx, hb, hr, hml, hown, ht, hX, hbl, hlocks, hG, hA, hAs, hbA⟩ := C0
  refine lv_aload_n hx hb dL_law_38 rfl (lv_at hl 5 rfl) ?_
  refine lv_iload hx hb dL_law_39 (lv_at hl 0 rfl) ?_
  refine va_sld hx hb hX hbl hbA hS (by unfold vp_in; decide) dL_law_41 ?_
  refine lv_bipush (v := 63) hx hb dL_law_42 (by decide) ?_
  refine lv_iand hx hb dL_law_44 ?_
  refine lv_topi (fun y ey => ?_)
  obtain ⟨k, hk, ek⟩ := pk_andE (xs (0 : Int32).toNatClampNeg) (m := 63) 6 (by decide)
  replace ey : y = nI k := ey.trans ek
  subst ey
  clear ek
  rcases (show k = 0 ∨ k = 1 ∨ k = 2 ∨ k = 3 ∨ k = 4 ∨ k = 5 ∨ k = 6 ∨ k = 7 ∨ k = 8 ∨ k = 9 ∨ k = 10 ∨ k = 11 ∨ k = 12 ∨ k = 13 ∨ k = 14 ∨ k = 15 ∨ k = 16 ∨ k = 17 ∨ k = 18 ∨ k = 19 ∨ k = 20 ∨ k = 21 ∨ k = 22 ∨ k = 23 ∨ k = 24 ∨ k = 25 ∨ k = 26 ∨ k = 27 ∨ k = 28 ∨ k = 29 ∨ k = 30 ∨ k = 31 ∨ k = 32 ∨ k = 33 ∨ k = 34 ∨ k = 35 ∨ k = 36 ∨ k = 37 ∨ k = 38 ∨ k = 39 ∨ k = 40 ∨ k = 41 ∨ k = 42 ∨ k = 43 ∨ k = 44 ∨ k = 45 ∨ 45 < k by omega) with rfl | rfl | rfl | rfl | rfl | rfl | rfl | rfl | rfl | rfl | rfl | rfl | rfl | rfl | rfl | rfl | rfl | rfl | rfl | rfl | rfl | rfl | rfl | rfl | rfl | rfl | rfl | rfl | rfl | rfl | rfl | rfl | rfl | rfl | rfl | rfl | rfl | rfl | rfl | rfl | rfl | rfl | rfl | rfl | rfl | rfl | hk2
  · exact lv_tableIn (off := 199) (tgt := 244) hx hb dL_law_45 (by decide +kernel) (by decide +kernel) (by decide +kernel) (by decide) (lc_0 C1 hl hK hP hD hS)
  · exact lv_tableIn (off := 281) (tgt := 326) hx hb dL_law_45 (by decide +kernel) (by decide +kernel) (by decide +kernel) (by decide) (lc_1 C1 hl hK hP hD hS)
  · exact lv_tableIn (off := 375) (tgt := 420) hx hb dL_law_45 (by decide +kernel) (by decide +kernel) (by decide +kernel) (by decide) (lc_2 C1 hl hK hP hD hS)
  · exact lv_tableIn (off := 495) (tgt := 540) hx hb dL_law_45 (by decide +kernel) (by decide +kernel) (by decide +kernel) (by decide) (lc_3 C1 hl hK hP hD hS)
  · exact lv_tableIn (off := 575) (tgt := 620) hx hb dL_law_45 (by decide +kernel) (by decide +kernel) (by decide +kernel) (by decide) (lc_4 C1 hl hK hP hD hS)
  · exact lv_tableIn (off := 655) (tgt := 700) hx hb dL_law_45 (by decide +kernel) (by decide +kernel) (by decide +kernel) (by decide) (lc_5 C1 hl hK hP hD hS)
  · exact lv_tableIn (off := 747) (tgt := 792) hx hb dL_law_45 (by decide +kernel) (by decide +kernel) (by decide +kernel) (by decide) (lc_6 C1 hl hK hP hD hS)
  · exact lv_tableIn (off := 827) (tgt := 872) hx hb dL_law_45 (by decide +kernel) (by decide +kernel) (by decide +kernel) (by decide) (lc_7 C1 hl hK hP hD hS)
  · exact lv_tableIn (off := 883) (tgt := 928) hx hb dL_law_45 (by decide +kernel) (by decide +kernel) (by decide +kernel) (by decide) (lc_8 C1 hl hK hP hD hS)
  · exact lv_tableIn (off := 951) (tgt := 996) hx hb dL_law_45 (by decide +kernel) (by decide +kernel) (by decide +kernel) (by decide) (lc_9 C1 hl hK hP hD hS)
  · exact lv_tableIn (off := 1014) (tgt := 1059) hx hb dL_law_45 (by decide +kernel) (by decide +kernel) (by decide +kernel) (by decide) (lc_10 C1 hl hK hP hD hS)
  · exact lv_tableIn (off := 1070) (tgt := 1115) hx hb dL_law_45 (by decide +kernel) (by decide +kernel) (by decide +kernel) (by decide) (lc_11 C1 hl hK hP hD hS)
  · exact lv_tableIn (off := 1138) (tgt := 1183) hx hb dL_law_45 (by decide +kernel) (by decide +kernel) (by decide +kernel) (by decide) (lc_12 C1 hl hK hP hD hS)
  · exact lv_tableIn (off := 1194) (tgt := 1239) hx hb dL_law_45 (by decide +kernel) (by decide +kernel) (by decide +kernel) (by decide) (lc_13 C1 hl hK hP hD hS)
  · exact lv_tableIn (off := 1274) (tgt := 1319) hx hb dL_law_45 (by decide +kernel) (by decide +kernel) (by decide +kernel) (by decide) (lc_14 C1 hl hK hP hD hS)
  · exact lv_tableIn (off := 1330) (tgt := 1375) hx hb dL_law_45 (by decide +kernel) (by decide +kernel) (by decide +kernel) (by decide) (lc_15 C1 hl hK hP hD hS)
  · exact lv_tableIn (off := 1400) (tgt := 1445) hx hb dL_law_45 (by decide +kernel) (by decide +kernel) (by decide +kernel) (by decide) (lc_16 C1 hl hK hP hD hS)
  · exact lv_tableIn (off := 1456) (tgt := 1501) hx hb dL_law_45 (by decide +kernel) (by decide +kernel) (by decide +kernel) (by decide) (lc_17 C1 hl hK hP hD hS)
  · exact lv_tableIn (off := 1533) (tgt := 1578) hx hb dL_law_45 (by decide +kernel) (by decide +kernel) (by decide +kernel) (by decide) (lc_18 C1 hl hK hP hD hS)
  · exact lv_tableIn (off := 1610) (tgt := 1655) hx hb dL_law_45 (by decide +kernel) (by decide +kernel) (by decide +kernel) (by decide) (lc_19 C1 hl hK hP hD hS)
  · exact lv_tableIn (off := 1666) (tgt := 1711) hx hb dL_law_45 (by decide +kernel) (by decide +kernel) (by decide +kernel) (by decide) (lc_20 C1 hl hK hP hD hS)
  · exact lv_tableIn (off := 1736) (tgt := 1781) hx hb dL_law_45 (by decide +kernel) (by decide +kernel) (by decide +kernel) (by decide) (lc_21 C1 hl hK hP hD hS)
  · exact lv_tableIn (off := 1792) (tgt := 1837) hx hb dL_law_45 (by decide +kernel) (by decide +kernel) (by decide +kernel) (by decide) (lc_22 C1 hl hK hP hD hS)
  · exact lv_tableIn (off := 1848) (tgt := 1893) hx hb dL_law_45 (by decide +kernel) (by decide +kernel) (by decide +kernel) (by decide) (lc_23 C1 hl hK hP hD hS)
  · exact lv_tableIn (off := 1904) (tgt := 1949) hx hb dL_law_45 (by decide +kernel) (by decide +kernel) (by decide +kernel) (by decide) (lc_24 C1 hl hK hP hD hS)
  · exact lv_tableIn (off := 1960) (tgt := 2005) hx hb dL_law_45 (by decide +kernel) (by decide +kernel) (by decide +kernel) (by decide) (lc_25 C1 hl hK hP hD hS)
  · exact lv_tableIn (off := 2018) (tgt := 2063) hx hb dL_law_45 (by decide +kernel) (by decide +kernel) (by decide +kernel) (by decide) (lc_26 C1 hl hK hP hD hS)
  · exact lv_tableIn (off := 2031) (tgt := 2076) hx hb dL_law_45 (by decide +kernel) (by decide +kernel) (by decide +kernel) (by decide) (lc_27 C1 hl hK hP hD hS)
  · exact lv_tableIn (off := 2094) (tgt := 2139) hx hb dL_law_45 (by decide +kernel) (by decide +kernel) (by decide +kernel) (by decide) (lc_28 C1 hl hK hP hD hS)
  · exact lv_tableIn (off := 2150) (tgt := 2195) hx hb dL_law_45 (by decide +kernel) (by decide +kernel) (by decide +kernel) (by decide) (lc_29 C1 hl hK hP hD hS)
  · exact lv_tableIn (off := 2194) (tgt := 2239) hx hb dL_law_45 (by decide +kernel) (by decide +kernel) (by decide +kernel) (by decide) (lc_30 C1 hl hK hP hD hS)
  · exact lv_tableIn (off := 2250) (tgt := 2295) hx hb dL_law_45 (by decide +kernel) (by decide +kernel) (by decide +kernel) (by decide) (lc_31 C1 hl hK hP hD hS)
  · exact lv_tableIn (off := 2306) (tgt := 2351) hx hb dL_law_45 (by decide +kernel) (by decide +kernel) (by decide +kernel) (by decide) (lc_32 C1 hl hK hP hD hS)
  · exact lv_tableIn (off := 2369) (tgt := 2414) hx hb dL_law_45 (by decide +kernel) (by decide +kernel) (by decide +kernel) (by decide) (lc_33 C1 hl hK hP hD hS)
  · exact lv_tableIn (off := 2432) (tgt := 2477) hx hb dL_law_45 (by decide +kernel) (by decide +kernel) (by decide +kernel) (by decide) (lc_34 C1 hl hK hP hD hS)
  · exact lv_tableIn (off := 2514) (tgt := 2559) hx hb dL_law_45 (by decide +kernel) (by decide +kernel) (by decide +kernel) (by decide) (lc_35 C1 hl hK hP hD hS)
  · exact lv_tableIn (off := 2618) (tgt := 2663) hx hb dL_law_45 (by decide +kernel) (by decide +kernel) (by decide +kernel) (by decide) (lc_36 C1 hl hK hP hD hS)
  · exact lv_tableIn (off := 2686) (tgt := 2731) hx hb dL_law_45 (by decide +kernel) (by decide +kernel) (by decide +kernel) (by decide) (lc_37 C1 hl hK hP hD hS)
  · exact lv_tableIn (off := 2744) (tgt := 2789) hx hb dL_law_45 (by decide +kernel) (by decide +kernel) (by decide +kernel) (by decide) (lc_38 C1 hl hK hP hD hS)
  · exact lv_tableIn (off := 2824) (tgt := 2869) hx hb dL_law_45 (by decide +kernel) (by decide +kernel) (by decide +kernel) (by decide) (lc_39 C1 hl hK hP hD hS)
  · exact lv_tableIn (off := 2880) (tgt := 2925) hx hb dL_law_45 (by decide +kernel) (by decide +kernel) (by decide +kernel) (by decide) (lc_40 C1 hl hK hP hD hS)
  · exact lv_tableIn (off := 2955) (tgt := 3000) hx hb dL_law_45 (by decide +kernel) (by decide +kernel) (by decide +kernel) (by decide) (lc_41 C1 hl hK hP hD hS)
  · exact lv_tableIn (off := 2968) (tgt := 3013) hx hb dL_law_45 (by decide +kernel) (by decide +kernel) (by decide +kernel) (by decide) (lc_42 C1 hl hK hP hD hS)
  · exact lv_tableIn (off := 3023) (tgt := 3068) hx hb dL_law_45 (by decide +kernel) (by decide +kernel) (by decide +kernel) (by decide) (lc_43 C1 hl hK hP hD hS)
  · exact lv_tableIn (off := 3101) (tgt := 3146) hx hb dL_law_45 (by decide +kernel) (by decide +kernel) (by decide +kernel) (by decide) (lc_44 C1 hl hK hP hD hS)
  · exact lv_tableIn (off := 3178) (tgt := 3223) hx hb dL_law_45 (by decide +kernel) (by decide +kernel) (by decide +kernel) (by decide) (lc_45 C1 hl hK hP hD hS)
  · refine lv_tableOut (tgt := 3236) hx hb dL_law_45 (Or.inr (by rw [nI_toInt (by omega)]; omega)) (by decide) ?_
    exact law_end C1 (lv_sub hl [0, 5] rfl) hS (Nat.le_of_ble_eq_true rfl) (Nat.le_of_ble_eq_true rfl)
set_option maxHeartbeats 8000000 in
set_option maxRecDepth 100000 in
/-- the loop's head: fewer ints than seven: no call -/
theorem law_head {L : Nat} {p : Program} {l : Launch} {e : Env} {s : State} {m : MethodId} {below : List Frame} {meth : Method} {c : Code} {b : Nat} {xs : Nat → Int32} {de : Nat} {A : Nat → Prop} (hL : L ≤ 7) (hflags : l.flags = flags0) (hgv : (Jvm.Cond.and given_1 narrow_1).before #[Value.ref b] s = true) (C9 : p.tables.exec = Jvm.exec ∧ c.code = cL_law ∧ meth.sig.returnType = ret ∧ c.maxLocals = 9 ∧ s.vm.findClass RL = some m.cls ∧ (∀ w ∈ wsL_law, w.before #[Value.ref b] s = true) ∧ va_X b L xs s s.heap ∧ b < s.heap.size ∧ meth.locks = false ∧ GX de A s s.heap ∧ (∀ q : Nat, s.heap.size ≤ q → A q) ∧ (∀ q : Nat, A q → s.heap.size ≤ q) ∧ ¬ A b) {dC : Nat → ClassId} {dI : Nat → Nat → Nat} {ox pl ru sh sp sl gr re pr ga rp bo fa gpl gin bbe bdi om mt qu lv mi ml mss rn sw mf msp oq od : Nat} {cP cI cS cF cL cE : ClassId} {H : Heap} {locs : List Loc} {ls : Array Slot} (hl : lv_has ls 9 [(5, .int 0), (4, .ref od), (3, .ref oq), (2, .ref om), (1, .ref ox), (0, .ref b)]) (hK : va_K (dC, dI) vwCl [(cP, .object "Levelsmith$Player"), (cI, .int), (cS, .int), (cF, .int), (cL, .long), (cE, .double)] s) (hP : va_P (dC, dI) vwCl (WLL ox pl ru sh sp sl gr re pr ga rp bo fa gpl gin bbe bdi om mt qu lv mi ml mss rn sw mf msp oq od cP cI cS cF cL cE de) H) (hD : va_D A (WLL ox pl ru sh sp sl gr re pr ga rp bo fa gpl gin bbe bdi om mt qu lv mi ml mss rn sw mf msp oq od cP cI cS cF cL cE de)) (hS : va_S A s.heap H locs) : W p l e room_1 s m #[Value.ref b] below meth c H locs 64 1163523 (lw_Z below #[Value.ref b] s) (F0 m 28 ls []) := by
  obtain ⟨hx, hb, hr, hml, hown, ht, hX, hbl, hlocks, hG, hA, hAs, hbA⟩ := id C9
  have hlt : l.stackTraces = false := by rw [Launch.stackTraces, hflags]; decide +kernel
  refine lv_iload hx hb dL_law_28 (lv_at hl 0 rfl) ?_
  refine lv_aload_n hx hb dL_law_30 rfl (lv_at hl 5 rfl) ?_
  refine va_slen hx hb hX hbl hbA hS dL_law_31 ?_
  refine lv_bipush (v := 7) hx hb dL_law_32 (by decide) ?_
  refine lv_isub hx hb dL_law_34 ?_
  rcases (show L = 7 ∨ L = 0 ∨ L = 1 ∨ L = 2 ∨ L = 3 ∨ L = 4 ∨ L = 5 ∨ L = 6 by omega) with rfl | rfl | rfl | rfl | rfl | rfl | rfl | rfl
  · refine lv_icmp_gt (tgt := 3242) hx hb dL_law_35 (by decide) (fun c_35 => absurd c_35 (by decide)) (fun c_35 => ?_)
    exact law_switch ⟨hlt, C9⟩ hl hK hP hD hS
  · refine lv_icmp_gt (tgt := 3242) hx hb dL_law_35 (by decide) (fun c_35 => ?_) (fun c_35 => absurd (by decide) c_35)
    exact law_out hx hb hr hlocks hAs hS (Nat.le_of_ble_eq_true rfl) (Nat.le_of_ble_eq_true rfl)
  · refine lv_icmp_gt (tgt := 3242) hx hb dL_law_35 (by decide) (fun c_35 => ?_) (fun c_35 => absurd (by decide) c_35)
    exact law_out hx hb hr hlocks hAs hS (Nat.le_of_ble_eq_true rfl) (Nat.le_of_ble_eq_true rfl)
  · refine lv_icmp_gt (tgt := 3242) hx hb dL_law_35 (by decide) (fun c_35 => ?_) (fun c_35 => absurd (by decide) c_35)
    exact law_out hx hb hr hlocks hAs hS (Nat.le_of_ble_eq_true rfl) (Nat.le_of_ble_eq_true rfl)
  · refine lv_icmp_gt (tgt := 3242) hx hb dL_law_35 (by decide) (fun c_35 => ?_) (fun c_35 => absurd (by decide) c_35)
    exact law_out hx hb hr hlocks hAs hS (Nat.le_of_ble_eq_true rfl) (Nat.le_of_ble_eq_true rfl)
  · refine lv_icmp_gt (tgt := 3242) hx hb dL_law_35 (by decide) (fun c_35 => ?_) (fun c_35 => absurd (by decide) c_35)
    exact law_out hx hb hr hlocks hAs hS (Nat.le_of_ble_eq_true rfl) (Nat.le_of_ble_eq_true rfl)
  · refine lv_icmp_gt (tgt := 3242) hx hb dL_law_35 (by decide) (fun c_35 => ?_) (fun c_35 => absurd (by decide) c_35)
    exact law_out hx hb hr hlocks hAs hS (Nat.le_of_ble_eq_true rfl) (Nat.le_of_ble_eq_true rfl)
  · refine lv_icmp_gt (tgt := 3242) hx hb dL_law_35 (by decide) (fun c_35 => ?_) (fun c_35 => absurd (by decide) c_35)
    exact law_out hx hb hr hlocks hAs hS (Nat.le_of_ble_eq_true rfl) (Nat.le_of_ble_eq_true rfl)
set_option maxHeartbeats 8000000 in
set_option maxRecDepth 100000 in
/-- YOUR PART: from the entry, for every script of at most 7 ints, the law comes to its end with true -/
theorem whole_start {p : Program} {e : Env} {s : State} {m : MethodId} {below : List Frame} {meth : Method} {c : Code} (l : Launch) (hflags : l.flags = flags0) {b L : Nat} {xs : Nat → Int32} (hL : L ≤ 7) (C0 : lw_At p s m meth c b L xs) : W p l e room_1 s m #[Value.ref b] below meth c s.heap [] 0 0 (lw_Z below #[Value.ref b] s) (entryFrame m ([Value.ref b] : List Value).toArray 9) := by
  obtain ⟨hx, hb, hr, hml, hown0, hts0, hX, hbl, hlocks, hgv⟩ := id C0
  have hown : s.vm.findClass RL = some m.cls := hown0
  have hb : c.code = cL_law := hb
  have ht : ∀ w ∈ wsL_law, w.before #[Value.ref b] s = true := fun w h => hts0 w (wsL_law_in w h)
  obtain ⟨de, hG⟩ := gx_of hgv (fun w h => hts0 w (List.mem_append_right _ h))
  obtain ⟨A, hAe⟩ : ∃ A : Nat → Prop, A = fun q : Nat => s.heap.size ≤ q := ⟨_, rfl⟩
  replace hG : GX de A s s.heap := by rw [hAe]; exact hG
  have hA : ∀ q : Nat, s.heap.size ≤ q → A q := fun q h => by rw [hAe]; exact h
  have hAs : ∀ q : Nat, A q → s.heap.size ≤ q := fun q h => by rw [hAe] at h; exact h
  have hbA : ¬ A b := fun h => absurd (hAs b h) (Nat.not_le.mpr hbl)
  clear hAe
  have C9 : p.tables.exec = Jvm.exec ∧ c.code = cL_law ∧ meth.sig.returnType = ret ∧ c.maxLocals = 9 ∧ s.vm.findClass RL = some m.cls ∧ (∀ w ∈ wsL_law, w.before #[Value.ref b] s = true) ∧ va_X b L xs s s.heap ∧ b < s.heap.size ∧ meth.locks = false ∧ GX de A s s.heap ∧ (∀ q : Nat, s.heap.size ≤ q → A q) ∧ (∀ q : Nat, A q → s.heap.size ≤ q) ∧ ¬ A b := ⟨hx, hb, hr, hml, hown, ht, hX, hbl, hlocks, hG, hA, hAs, hbA⟩
  obtain ⟨c0, i0, k0⟩ := u_known (C := RJx35411) (T := TJx35411) (N := 4) (n := 4) ht inlJx35411 (ht _ (wr_36 _ (List.mem_of_getElem? (i := 9) rfl)))
  obtain ⟨c1, i1, k1⟩ := u_known (C := RJx4a65c) (T := TJx4a65c) (N := 3) (n := 3) ht inlJx4a65c (ht _ (wr_1 _ (List.mem_of_getElem? (i := 15) rfl)))
  obtain ⟨c2, i2, k2⟩ := u_known (C := RX0) (T := TX0) (N := 5) (n := 5) ht inlX0 (ht _ (wr_2 _ (List.mem_of_getElem? (i := 18) rfl)))
  obtain ⟨c3, i3, k3⟩ := u_known (C := RX1) (T := TX1) (N := 3) (n := 3) ht inlX1 (ht _ (wr_5 _ (List.mem_of_getElem? (i := 3) rfl)))
  obtain ⟨c4, i4, k4⟩ := u_known (C := RX2) (T := TX2) (N := 1) (n := 1) ht inlX2 (ht _ (wr_3 _ (List.mem_of_getElem? (i := 17) rfl)))
  obtain ⟨c5, i5, k5⟩ := u_known (C := RX3) (T := TX3) (N := 6) (n := 6) ht inlX3 (ht _ (wr_2 _ (List.mem_of_getElem? (i := 13) rfl)))
  obtain ⟨c6, i6, k6⟩ := u_known (C := RX4) (T := TX4) (N := 4) (n := 4) ht inlX4 (ht _ (wr_2 _ (List.mem_of_getElem? (i := 1) rfl)))
  obtain ⟨c7, i7, k7⟩ := u_known (C := RX5) (T := TX5) (N := 10) (n := 10) ht inlX5 (ht _ (wr_3 _ (List.mem_of_getElem? (i := 21) rfl)))
  obtain ⟨c8, i8, k8⟩ := u_known (C := RX6) (T := TX6) (N := 6) (n := 6) ht inlX6 (ht _ (wr_5 _ (List.mem_of_getElem? (i := 12) rfl)))
  obtain ⟨c9, i9, k9⟩ := u_known (C := RX7) (T := TX7) (N := 10) (n := 10) ht inlX7 (ht _ (wr_2 _ (List.mem_of_getElem? (i := 9) rfl)))
  obtain ⟨c10, i10, k10⟩ := u_known (C := RX8) (T := TX8) (N := 13) (n := 13) ht inlX8 (ht _ (wr_2 _ (List.mem_of_getElem? (i := 5) rfl)))
  obtain ⟨c11, i11, k11⟩ := u_known (C := RX9) (T := TX9) (N := 4) (n := 4) ht inlX9 (ht _ (wr_57 _ (List.mem_of_getElem? (i := 8) rfl)))
  obtain ⟨c12, i12, k12⟩ := u_known (C := RX10) (T := TX10) (N := 3) (n := 3) ht inlX10 (ht _ (wr_66 _ (List.mem_of_getElem? (i := 4) rfl)))
  obtain ⟨c13, i13, k13⟩ := u_known (C := RX11) (T := TX11) (N := 12) (n := 12) ht inlX11 (ht _ (wr_1 _ (List.mem_of_getElem? (i := 1) rfl)))
  obtain ⟨c14, i14, k14⟩ := u_known (C := RX12) (T := TX12) (N := 1) (n := 1) ht inlX12 (ht _ (wr_27 _ (List.mem_of_getElem? (i := 20) rfl)))
  obtain ⟨c15, i15, k15⟩ := u_known (C := RX13) (T := TX13) (N := 3) (n := 3) ht inlX13 (ht _ (wr_23 _ (List.mem_of_getElem? (i := 7) rfl)))
  obtain ⟨c16, i16, k16⟩ := u_known (C := RX14) (T := TX14) (N := 8) (n := 8) ht inlX14 (ht _ (wr_17 _ (List.mem_of_getElem? (i := 7) rfl)))
  obtain ⟨c17, i17, k17⟩ := u_known (C := RX15) (T := TX15) (N := 4) (n := 4) ht inlX15 (ht _ (wr_58 _ (List.mem_of_getElem? (i := 20) rfl)))
  obtain ⟨c18, i18, k18⟩ := u_known (C := RX16) (T := TX16) (N := 3) (n := 3) ht inlX16 (ht _ (wr_67 _ (List.mem_of_getElem? (i := 4) rfl)))
  obtain ⟨c19, i19, k19⟩ := u_known (C := RX17) (T := TX17) (N := 14) (n := 14) ht inlX17 (ht _ (wr_8 _ (List.mem_of_getElem? (i := 16) rfl)))
  obtain ⟨c20, i20, k20⟩ := u_known (C := RX18) (T := TX18) (N := 24) (n := 24) ht inlX18 (ht _ (wr_1 _ (List.mem_of_getElem? (i := 4) rfl)))
  obtain ⟨dC, dI, hKc⟩ : ∃ (dC : Nat → ClassId) (dI : Nat → Nat → Nat), ∀ (k : Nat) (q : vw_C), vwCl[k]? = some q → u_Kn s q.1 q.2.1 q.2.2 (dC k) (dI k) := by
    refine ⟨fun k => if k = 0 then c0 else if k = 1 then c1 else if k = 2 then c2 else if k = 3 then c3 else if k = 4 then c4 else if k = 5 then c5 else if k = 6 then c6 else if k = 7 then c7 else if k = 8 then c8 else if k = 9 then c9 else if k = 10 then c10 else if k = 11 then c11 else if k = 12 then c12 else if k = 13 then c13 else if k = 14 then c14 else if k = 15 then c15 else if k = 16 then c16 else if k = 17 then c17 else if k = 18 then c18 else if k = 19 then c19 else c20, fun k => if k = 0 then i0 else if k = 1 then i1 else if k = 2 then i2 else if k = 3 then i3 else if k = 4 then i4 else if k = 5 then i5 else if k = 6 then i6 else if k = 7 then i7 else if k = 8 then i8 else if k = 9 then i9 else if k = 10 then i10 else if k = 11 then i11 else if k = 12 then i12 else if k = 13 then i13 else if k = 14 then i14 else if k = 15 then i15 else if k = 16 then i16 else if k = 17 then i17 else if k = 18 then i18 else if k = 19 then i19 else i20, ?_⟩
    intro k q hq
    match k, hq with
    | 0, hq => cases hq; exact k0
    | 1, hq => cases hq; exact k1
    | 2, hq => cases hq; exact k2
    | 3, hq => cases hq; exact k3
    | 4, hq => cases hq; exact k4
    | 5, hq => cases hq; exact k5
    | 6, hq => cases hq; exact k6
    | 7, hq => cases hq; exact k7
    | 8, hq => cases hq; exact k8
    | 9, hq => cases hq; exact k9
    | 10, hq => cases hq; exact k10
    | 11, hq => cases hq; exact k11
    | 12, hq => cases hq; exact k12
    | 13, hq => cases hq; exact k13
    | 14, hq => cases hq; exact k14
    | 15, hq => cases hq; exact k15
    | 16, hq => cases hq; exact k16
    | 17, hq => cases hq; exact k17
    | 18, hq => cases hq; exact k18
    | 19, hq => cases hq; exact k19
    | 20, hq => cases hq; exact k20
    | k + 21, hq => simp [vwCl] at hq
  have hS : va_S A s.heap s.heap [] := va_S.rf
  have hK : va_K (dC, dI) vwCl [] s := ⟨hKc, fun k q h => by simp at h⟩
  have hP : va_P (dC, dI) vwCl [] s.heap := va_P_nil _ _ _
  have hD : va_D A [] := va_D_nil _
  have hl := lv_entry ([.ref b]) (n := 9) (Nat.le_of_ble_eq_true rfl)
  rw [lg_entry_eq]
  generalize (lg_sl ([.ref b]) ++ List.replicate (9 - (lg_sl ([.ref b])).length) Slot.unset).toArray = ls at hl ⊢
  have hl : lv_has ls 9 [(0, .ref b)] := hl
  refine va_new (ci := 13) (fs := [.null, .null, .null, .null, .null, .null, .null, .null, .null, .null, .null, .int 0]) (C := RX11) (T := TX11) (N := 12) hx hb ht inlX11 tyX11 tyX11_ok hown (ht _ (wr_1 _ (List.mem_of_getElem? (i := 0) rfl))) (ht _ (wr_1 _ (List.mem_of_getElem? (i := 1) rfl))) (ht _ (wr_1 _ (List.mem_of_getElem? (i := 2) rfl))) hK hP hD hS hA rfl (fun j hj => match j, hj with | 0, _ => rfl | 1, _ => rfl | 2, _ => rfl | 3, _ => rfl | 4, _ => rfl | 5, _ => rfl | 6, _ => rfl | 7, _ => rfl | 8, _ => rfl | 9, _ => rfl | 10, _ => rfl | 11, _ => rfl | j + 12, h => absurd h (by omega)) (Nat.le_of_ble_eq_true rfl) (Nat.le_of_ble_eq_true rfl) dL_law_0 (fun q_1 H hP hD hS => ?_)
  replace hP : va_P (dC, dI) vwCl [(q_1, .inr (13, [.null, .null, .null, .null, .null, .null, .null, .null, .null, .null, .null, .int 0]))] H := hP
  replace hD : va_D A [(q_1, .inr (13, [.null, .null, .null, .null, .null, .null, .null, .null, .null, .null, .null, .int 0]))] := hD
  refine W.widen (k := 1) (n := 12) (Nat.le_of_ble_eq_true rfl) (Nat.le_of_ble_eq_true rfl) ?_
  refine lv_dup hx hb dL_law_3 rfl ?_
  have hPc := hP.sub (ws' := [(q_1, .inr (13, [.null, .null, .null, .null, .null, .null, .null, .null, .null, .null, .null, .int 0]))]) [0] rfl
  have hDc := hD.sub (ws' := [(q_1, .inr (13, [.null, .null, .null, .null, .null, .null, .null, .null, .null, .null, .null, .int 0]))]) [0] (by decide) rfl
  have hKc := hK.sub (tys' := []) [] rfl
  have hFc := va_free (wc := [(q_1, .inr (13, [.null, .null, .null, .null, .null, .null, .null, .null, .null, .null, .null, .int 0]))]) hD hS hA [0] rfl
  refine va_callv (va_runI (As := []) (rest := [.ref q_1]) ⟨hx, hb, hml, hown, ht⟩ (c_X11_init l dC dI de (q_1) H.size) (cwI 0 ht (gWI (wr_1 _ (List.mem_of_getElem? (i := 10) rfl))) rfl rfl rfl (ht _ (wr_1 _ (List.mem_of_getElem? (i := 2) rfl))) (ht _ (wr_1 _ (List.mem_of_getElem? (i := 8) rfl))) (ht _ (wr_1 _ (List.mem_of_getElem? (i := 9) rfl))) rfl (by decide +kernel) ⟨Nat.le_of_ble_eq_true rfl, Nat.le_of_ble_eq_true rfl⟩) ⟨PW_blind, PW_call hPc hDc hKc hS hG hFc⟩ rfl rfl hl.1 rfl (lv_room (Nat.le_of_ble_eq_true rfl)) dL_law_4 ⟨Nat.le_of_ble_eq_true rfl, Nat.le_of_ble_eq_true rfl⟩) hS (fun q _ h => hFc q h) hFc (fun u t H1 locs ht9 hvm hw hB hz1 hk1 hS => ?_)
  obtain ⟨pl_2, ru_3, sh_4, sp_5, sl_6, gr_7, re_8, pr_9, ga_10, rp_11, bo_12, fa_13, gpl_14, gin_15, bbe_16, bdi_17, cP_18, cI_19, hP1, hK1, hD1⟩ := hB
  rw [ht9] at hP1
  have hK1 := va_K.moved hvm.symm hK1
  obtain ⟨hP, hD⟩ := va_join (wr := []) (w1 := [(q_1, .inr (13, [.ref pl_2, .ref ru_3, .ref sh_4, .ref sp_5, .ref sl_6, .ref gr_7, .ref re_8, .ref pr_9, .ref ga_10, .ref rp_11, .ref bo_12, .int 0])), (pl_2, .inr (1, [.int 0, .ref de, .int 0])), (ru_3, .inr (1, [.int 0, .ref de, .int 0])), (sh_4, .inr (1, [.int 0, .ref de, .int 0])), (sp_5, .inl (cP_18, 6, .inr (.inr (.inr (.inr (fun _ => none)))))), (ga_10, .inr (5, [.ref gpl_14, .ref gin_15, .int (-1), .int 0, .int 112, .int 0])), (bo_12, .inr (2, [.ref fa_13, .ref bbe_16, .ref bdi_17, .int 0, .int 0])), (fa_13, .inl (cI_19, 96, .inl (fun _ => 0)))]) hP hD [0] [] rfl rfl (by decide) (by decide) hk1 hFc hP1 hD1
  have hK := (hK.sub (tys' := []) [] rfl).app hK1
  generalize H1 = H at hP hS ⊢
  replace hP : va_P (dC, dI) vwCl [(q_1, .inr (13, [.ref pl_2, .ref ru_3, .ref sh_4, .ref sp_5, .ref sl_6, .ref gr_7, .ref re_8, .ref pr_9, .ref ga_10, .ref rp_11, .ref bo_12, .int 0])), (pl_2, .inr (1, [.int 0, .ref de, .int 0])), (ru_3, .inr (1, [.int 0, .ref de, .int 0])), (sh_4, .inr (1, [.int 0, .ref de, .int 0])), (sp_5, .inl (cP_18, 6, .inr (.inr (.inr (.inr (fun _ => none)))))), (ga_10, .inr (5, [.ref gpl_14, .ref gin_15, .int (-1), .int 0, .int 112, .int 0])), (bo_12, .inr (2, [.ref fa_13, .ref bbe_16, .ref bdi_17, .int 0, .int 0])), (fa_13, .inl (cI_19, 96, .inl (fun _ => 0)))] H := hP
  replace hD : va_D A [(q_1, .inr (13, [.ref pl_2, .ref ru_3, .ref sh_4, .ref sp_5, .ref sl_6, .ref gr_7, .ref re_8, .ref pr_9, .ref ga_10, .ref rp_11, .ref bo_12, .int 0])), (pl_2, .inr (1, [.int 0, .ref de, .int 0])), (ru_3, .inr (1, [.int 0, .ref de, .int 0])), (sh_4, .inr (1, [.int 0, .ref de, .int 0])), (sp_5, .inl (cP_18, 6, .inr (.inr (.inr (.inr (fun _ => none)))))), (ga_10, .inr (5, [.ref gpl_14, .ref gin_15, .int (-1), .int 0, .int 112, .int 0])), (bo_12, .inr (2, [.ref fa_13, .ref bbe_16, .ref bdi_17, .int 0, .int 0])), (fa_13, .inl (cI_19, 96, .inl (fun _ => 0)))] := hD
  have hK : va_K (dC, dI) vwCl [(cP_18, .object "Levelsmith$Player"), (cI_19, .int)] s := hK
  refine W.widen (k := 43) (n := 388976) (Nat.le_of_ble_eq_true rfl) (Nat.le_of_ble_eq_true rfl) ?_
  have hw_4 := hw
  refine lv_astore_n (lv' := [(1, .ref q_1), (0, .ref b)]) hx hb dL_law_7 rfl hl (by decide) rfl (fun ls hl => ?_)
  refine va_new (ci := 20) (fs := [.null, .null, .int 0, .int 0, .null, .int 0, .int 0, .int 0, .null, .int 0, .int 0, .int 0, .int 0, .null, .null, .null, .null, .null, .null, .int 0, .null, .int 0, .int 0, .int 0]) (C := RX18) (T := TX18) (N := 24) hx hb ht inlX18 tyX18 tyX18_ok hown (ht _ (wr_1 _ (List.mem_of_getElem? (i := 3) rfl))) (ht _ (wr_1 _ (List.mem_of_getElem? (i := 4) rfl))) (ht _ (wr_1 _ (List.mem_of_getElem? (i := 5) rfl))) hK hP hD hS hA rfl (fun j hj => match j, hj with | 0, _ => rfl | 1, _ => rfl | 2, _ => rfl | 3, _ => rfl | 4, _ => rfl | 5, _ => rfl | 6, _ => rfl | 7, _ => rfl | 8, _ => rfl | 9, _ => rfl | 10, _ => rfl | 11, _ => rfl | 12, _ => rfl | 13, _ => rfl | 14, _ => rfl | 15, _ => rfl | 16, _ => rfl | 17, _ => rfl | 18, _ => rfl | 19, _ => rfl | 20, _ => rfl | 21, _ => rfl | 22, _ => rfl | 23, _ => rfl | j + 24, h => absurd h (by omega)) (Nat.le_of_ble_eq_true rfl) (Nat.le_of_ble_eq_true rfl) dL_law_8 (fun q_20 H hP hD hS => ?_)
  replace hP : va_P (dC, dI) vwCl [(q_1, .inr (13, [.ref pl_2, .ref ru_3, .ref sh_4, .ref sp_5, .ref sl_6, .ref gr_7, .ref re_8, .ref pr_9, .ref ga_10, .ref rp_11, .ref bo_12, .int 0])), (pl_2, .inr (1, [.int 0, .ref de, .int 0])), (ru_3, .inr (1, [.int 0, .ref de, .int 0])), (sh_4, .inr (1, [.int 0, .ref de, .int 0])), (sp_5, .inl (cP_18, 6, .inr (.inr (.inr (.inr (fun _ => none)))))), (ga_10, .inr (5, [.ref gpl_14, .ref gin_15, .int (-1), .int 0, .int 112, .int 0])), (bo_12, .inr (2, [.ref fa_13, .ref bbe_16, .ref bdi_17, .int 0, .int 0])), (fa_13, .inl (cI_19, 96, .inl (fun _ => 0))), (q_20, .inr (20, [.null, .null, .int 0, .int 0, .null, .int 0, .int 0, .int 0, .null, .int 0, .int 0, .int 0, .int 0, .null, .null, .null, .null, .null, .null, .int 0, .null, .int 0, .int 0, .int 0]))] H := hP
  replace hD : va_D A [(q_1, .inr (13, [.ref pl_2, .ref ru_3, .ref sh_4, .ref sp_5, .ref sl_6, .ref gr_7, .ref re_8, .ref pr_9, .ref ga_10, .ref rp_11, .ref bo_12, .int 0])), (pl_2, .inr (1, [.int 0, .ref de, .int 0])), (ru_3, .inr (1, [.int 0, .ref de, .int 0])), (sh_4, .inr (1, [.int 0, .ref de, .int 0])), (sp_5, .inl (cP_18, 6, .inr (.inr (.inr (.inr (fun _ => none)))))), (ga_10, .inr (5, [.ref gpl_14, .ref gin_15, .int (-1), .int 0, .int 112, .int 0])), (bo_12, .inr (2, [.ref fa_13, .ref bbe_16, .ref bdi_17, .int 0, .int 0])), (fa_13, .inl (cI_19, 96, .inl (fun _ => 0))), (q_20, .inr (20, [.null, .null, .int 0, .int 0, .null, .int 0, .int 0, .int 0, .null, .int 0, .int 0, .int 0, .int 0, .null, .null, .null, .null, .null, .null, .int 0, .null, .int 0, .int 0, .int 0]))] := hD
  refine W.widen (k := 44) (n := 389000) (Nat.le_of_ble_eq_true rfl) (Nat.le_of_ble_eq_true rfl) ?_
  refine lv_dup hx hb dL_law_11 rfl ?_
  have hPc := hP.sub (ws' := [(q_20, .inr (20, [.null, .null, .int 0, .int 0, .null, .int 0, .int 0, .int 0, .null, .int 0, .int 0, .int 0, .int 0, .null, .null, .null, .null, .null, .null, .int 0, .null, .int 0, .int 0, .int 0]))]) [8] rfl
  have hDc := hD.sub (ws' := [(q_20, .inr (20, [.null, .null, .int 0, .int 0, .null, .int 0, .int 0, .int 0, .null, .int 0, .int 0, .int 0, .int 0, .null, .null, .null, .null, .null, .null, .int 0, .null, .int 0, .int 0, .int 0]))]) [8] (by decide) rfl
  have hKc := hK.sub (tys' := []) [] rfl
  have hFc := va_free (wc := [(q_20, .inr (20, [.null, .null, .int 0, .int 0, .null, .int 0, .int 0, .int 0, .null, .int 0, .int 0, .int 0, .int 0, .null, .null, .null, .null, .null, .null, .int 0, .null, .int 0, .int 0, .int 0]))]) hD hS hA [8] rfl
  refine va_callv (va_runI (As := []) (rest := [.ref q_20]) ⟨hx, hb, hml, hown, ht⟩ (c_X18_init l dC dI de (q_20) H.size) (cwI 0 ht (gWI (wr_8 _ (List.mem_of_getElem? (i := 1) rfl))) rfl rfl rfl (ht _ (wr_1 _ (List.mem_of_getElem? (i := 5) rfl))) (ht _ (wr_7 _ (List.mem_of_getElem? (i := 23) rfl))) (ht _ (wr_8 _ (List.mem_of_getElem? (i := 0) rfl))) rfl (by decide +kernel) ⟨Nat.le_of_ble_eq_true rfl, Nat.le_of_ble_eq_true rfl⟩) ⟨PW_blind, PW_call hPc hDc hKc hS hG hFc⟩ rfl rfl hl.1 rfl (lv_room (Nat.le_of_ble_eq_true rfl)) dL_law_12 ⟨Nat.le_of_ble_eq_true rfl, Nat.le_of_ble_eq_true rfl⟩) hS (fun q _ h => hFc q h) hFc (fun u t H1 locs ht9 hvm hw hB hz1 hk1 hS => ?_)
  obtain ⟨mt_21, qu_22, lv_23, mi_24, ml_25, mss_26, rn_27, sw_28, mf_29, msp_30, cS_31, cF_32, hP1, hK1, hD1⟩ := hB
  rw [ht9] at hP1
  have hK1 := va_K.moved hvm.symm hK1
  obtain ⟨hP, hD⟩ := va_join (wr := [(q_1, .inr (13, [.ref pl_2, .ref ru_3, .ref sh_4, .ref sp_5, .ref sl_6, .ref gr_7, .ref re_8, .ref pr_9, .ref ga_10, .ref rp_11, .ref bo_12, .int 0])), (pl_2, .inr (1, [.int 0, .ref de, .int 0])), (ru_3, .inr (1, [.int 0, .ref de, .int 0])), (sh_4, .inr (1, [.int 0, .ref de, .int 0])), (sp_5, .inl (cP_18, 6, .inr (.inr (.inr (.inr (fun _ => none)))))), (ga_10, .inr (5, [.ref gpl_14, .ref gin_15, .int (-1), .int 0, .int 112, .int 0])), (bo_12, .inr (2, [.ref fa_13, .ref bbe_16, .ref bdi_17, .int 0, .int 0])), (fa_13, .inl (cI_19, 96, .inl (fun _ => 0)))]) (w1 := [(q_20, .inr (20, [.ref mt_21, .ref qu_22, .int 0, .int 0, .ref lv_23, .int (-1), .int 0, .int 0, .ref mi_24, .int 0, .int 0, .int 0, .int 0, .ref ml_25, .ref mss_26, .ref rn_27, .ref sw_28, .ref mf_29, .null, .int 0, .ref msp_30, .int 0, .int 0, .int 0])), (lv_23, .inr (1, [.int 0, .ref de, .int 0])), (rn_27, .inr (1, [.int 0, .ref de, .int 0])), (sw_28, .inr (1, [.int 0, .ref de, .int 0])), (ml_25, .inl (cS_31, 6, .inl (slotF))), (mf_29, .inl (cF_32, 96, .inl (fun _ => 0)))]) hP hD [8] [0, 1, 2, 3, 4, 5, 6, 7] rfl rfl (by decide) (by decide) hk1 hFc hP1 hD1
  have hK := (hK.sub (tys' := [(cP_18, .object "Levelsmith$Player"), (cI_19, .int)]) [0, 1] rfl).app hK1
  generalize H1 = H at hP hS ⊢
  replace hP : va_P (dC, dI) vwCl [(q_1, .inr (13, [.ref pl_2, .ref ru_3, .ref sh_4, .ref sp_5, .ref sl_6, .ref gr_7, .ref re_8, .ref pr_9, .ref ga_10, .ref rp_11, .ref bo_12, .int 0])), (pl_2, .inr (1, [.int 0, .ref de, .int 0])), (ru_3, .inr (1, [.int 0, .ref de, .int 0])), (sh_4, .inr (1, [.int 0, .ref de, .int 0])), (sp_5, .inl (cP_18, 6, .inr (.inr (.inr (.inr (fun _ => none)))))), (ga_10, .inr (5, [.ref gpl_14, .ref gin_15, .int (-1), .int 0, .int 112, .int 0])), (bo_12, .inr (2, [.ref fa_13, .ref bbe_16, .ref bdi_17, .int 0, .int 0])), (fa_13, .inl (cI_19, 96, .inl (fun _ => 0))), (q_20, .inr (20, [.ref mt_21, .ref qu_22, .int 0, .int 0, .ref lv_23, .int (-1), .int 0, .int 0, .ref mi_24, .int 0, .int 0, .int 0, .int 0, .ref ml_25, .ref mss_26, .ref rn_27, .ref sw_28, .ref mf_29, .null, .int 0, .ref msp_30, .int 0, .int 0, .int 0])), (lv_23, .inr (1, [.int 0, .ref de, .int 0])), (rn_27, .inr (1, [.int 0, .ref de, .int 0])), (sw_28, .inr (1, [.int 0, .ref de, .int 0])), (ml_25, .inl (cS_31, 6, .inl (slotF))), (mf_29, .inl (cF_32, 96, .inl (fun _ => 0)))] H := hP
  replace hD : va_D A [(q_1, .inr (13, [.ref pl_2, .ref ru_3, .ref sh_4, .ref sp_5, .ref sl_6, .ref gr_7, .ref re_8, .ref pr_9, .ref ga_10, .ref rp_11, .ref bo_12, .int 0])), (pl_2, .inr (1, [.int 0, .ref de, .int 0])), (ru_3, .inr (1, [.int 0, .ref de, .int 0])), (sh_4, .inr (1, [.int 0, .ref de, .int 0])), (sp_5, .inl (cP_18, 6, .inr (.inr (.inr (.inr (fun _ => none)))))), (ga_10, .inr (5, [.ref gpl_14, .ref gin_15, .int (-1), .int 0, .int 112, .int 0])), (bo_12, .inr (2, [.ref fa_13, .ref bbe_16, .ref bdi_17, .int 0, .int 0])), (fa_13, .inl (cI_19, 96, .inl (fun _ => 0))), (q_20, .inr (20, [.ref mt_21, .ref qu_22, .int 0, .int 0, .ref lv_23, .int (-1), .int 0, .int 0, .ref mi_24, .int 0, .int 0, .int 0, .int 0, .ref ml_25, .ref mss_26, .ref rn_27, .ref sw_28, .ref mf_29, .null, .int 0, .ref msp_30, .int 0, .int 0, .int 0])), (lv_23, .inr (1, [.int 0, .ref de, .int 0])), (rn_27, .inr (1, [.int 0, .ref de, .int 0])), (sw_28, .inr (1, [.int 0, .ref de, .int 0])), (ml_25, .inl (cS_31, 6, .inl (slotF))), (mf_29, .inl (cF_32, 96, .inl (fun _ => 0)))] := hD
  have hK : va_K (dC, dI) vwCl [(cP_18, .object "Levelsmith$Player"), (cI_19, .int), (cS_31, .int), (cF_32, .int)] s := hK
  refine W.widen (k := 62) (n := 1163521) (Nat.le_of_ble_eq_true rfl) (Nat.le_of_ble_eq_true rfl) ?_
  have hw_12 := hw
  refine lv_astore_n (lv' := [(2, .ref q_20), (1, .ref q_1), (0, .ref b)]) hx hb dL_law_15 rfl hl (by decide) rfl (fun ls hl => ?_)
  refine lv_iconst (v := 1) hx hb dL_law_16 (by decide) ?_
  refine va_newa (atype := .long) (ty := .long) (N' := 1) (a0 := (1, .inr (.inl (fun _ => 0)))) hx hb (ht _ (wr_1 _ (List.mem_of_getElem? (i := 6) rfl))) rfl hK hP hD hS hA (fun _ => rfl) (by decide +kernel) (by decide +kernel) (Nat.le_of_ble_eq_true rfl) (Nat.le_of_ble_eq_true rfl) (Nat.le_of_ble_eq_true rfl) dL_law_17 (fun q_33 cA_34 H hK hP hD hS => ?_)
  replace hP : va_P (dC, dI) vwCl [(q_1, .inr (13, [.ref pl_2, .ref ru_3, .ref sh_4, .ref sp_5, .ref sl_6, .ref gr_7, .ref re_8, .ref pr_9, .ref ga_10, .ref rp_11, .ref bo_12, .int 0])), (pl_2, .inr (1, [.int 0, .ref de, .int 0])), (ru_3, .inr (1, [.int 0, .ref de, .int 0])), (sh_4, .inr (1, [.int 0, .ref de, .int 0])), (sp_5, .inl (cP_18, 6, .inr (.inr (.inr (.inr (fun _ => none)))))), (ga_10, .inr (5, [.ref gpl_14, .ref gin_15, .int (-1), .int 0, .int 112, .int 0])), (bo_12, .inr (2, [.ref fa_13, .ref bbe_16, .ref bdi_17, .int 0, .int 0])), (fa_13, .inl (cI_19, 96, .inl (fun _ => 0))), (q_20, .inr (20, [.ref mt_21, .ref qu_22, .int 0, .int 0, .ref lv_23, .int (-1), .int 0, .int 0, .ref mi_24, .int 0, .int 0, .int 0, .int 0, .ref ml_25, .ref mss_26, .ref rn_27, .ref sw_28, .ref mf_29, .null, .int 0, .ref msp_30, .int 0, .int 0, .int 0])), (lv_23, .inr (1, [.int 0, .ref de, .int 0])), (rn_27, .inr (1, [.int 0, .ref de, .int 0])), (sw_28, .inr (1, [.int 0, .ref de, .int 0])), (ml_25, .inl (cS_31, 6, .inl (slotF))), (mf_29, .inl (cF_32, 96, .inl (fun _ => 0))), (q_33, .inl (cA_34, 1, .inr (.inl (fun _ => 0))))] H := hP
  replace hD : va_D A [(q_1, .inr (13, [.ref pl_2, .ref ru_3, .ref sh_4, .ref sp_5, .ref sl_6, .ref gr_7, .ref re_8, .ref pr_9, .ref ga_10, .ref rp_11, .ref bo_12, .int 0])), (pl_2, .inr (1, [.int 0, .ref de, .int 0])), (ru_3, .inr (1, [.int 0, .ref de, .int 0])), (sh_4, .inr (1, [.int 0, .ref de, .int 0])), (sp_5, .inl (cP_18, 6, .inr (.inr (.inr (.inr (fun _ => none)))))), (ga_10, .inr (5, [.ref gpl_14, .ref gin_15, .int (-1), .int 0, .int 112, .int 0])), (bo_12, .inr (2, [.ref fa_13, .ref bbe_16, .ref bdi_17, .int 0, .int 0])), (fa_13, .inl (cI_19, 96, .inl (fun _ => 0))), (q_20, .inr (20, [.ref mt_21, .ref qu_22, .int 0, .int 0, .ref lv_23, .int (-1), .int 0, .int 0, .ref mi_24, .int 0, .int 0, .int 0, .int 0, .ref ml_25, .ref mss_26, .ref rn_27, .ref sw_28, .ref mf_29, .null, .int 0, .ref msp_30, .int 0, .int 0, .int 0])), (lv_23, .inr (1, [.int 0, .ref de, .int 0])), (rn_27, .inr (1, [.int 0, .ref de, .int 0])), (sw_28, .inr (1, [.int 0, .ref de, .int 0])), (ml_25, .inl (cS_31, 6, .inl (slotF))), (mf_29, .inl (cF_32, 96, .inl (fun _ => 0))), (q_33, .inl (cA_34, 1, .inr (.inl (fun _ => 0))))] := hD
  have hK : va_K (dC, dI) vwCl [(cP_18, .object "Levelsmith$Player"), (cI_19, .int), (cS_31, .int), (cF_32, .int), (cA_34, .long)] s := hK
  refine W.widen (k := 63) (n := 1163522) (Nat.le_of_ble_eq_true rfl) (Nat.le_of_ble_eq_true rfl) ?_
  refine lv_astore_n (lv' := [(3, .ref q_33), (2, .ref q_20), (1, .ref q_1), (0, .ref b)]) hx hb dL_law_19 rfl hl (by decide) rfl (fun ls hl => ?_)
  refine lv_iconst (v := 1) hx hb dL_law_20 (by decide) ?_
  refine va_newa (atype := .double) (ty := .double) (N' := 1) (a0 := (1, .inr (.inr (.inr (.inl (fun _ => 0)))))) hx hb (ht _ (wr_1 _ (List.mem_of_getElem? (i := 7) rfl))) rfl hK hP hD hS hA (fun _ => rfl) (by decide +kernel) (by decide +kernel) (Nat.le_of_ble_eq_true rfl) (Nat.le_of_ble_eq_true rfl) (Nat.le_of_ble_eq_true rfl) dL_law_21 (fun q_35 cA_36 H hK hP hD hS => ?_)
  replace hP : va_P (dC, dI) vwCl [(q_1, .inr (13, [.ref pl_2, .ref ru_3, .ref sh_4, .ref sp_5, .ref sl_6, .ref gr_7, .ref re_8, .ref pr_9, .ref ga_10, .ref rp_11, .ref bo_12, .int 0])), (pl_2, .inr (1, [.int 0, .ref de, .int 0])), (ru_3, .inr (1, [.int 0, .ref de, .int 0])), (sh_4, .inr (1, [.int 0, .ref de, .int 0])), (sp_5, .inl (cP_18, 6, .inr (.inr (.inr (.inr (fun _ => none)))))), (ga_10, .inr (5, [.ref gpl_14, .ref gin_15, .int (-1), .int 0, .int 112, .int 0])), (bo_12, .inr (2, [.ref fa_13, .ref bbe_16, .ref bdi_17, .int 0, .int 0])), (fa_13, .inl (cI_19, 96, .inl (fun _ => 0))), (q_20, .inr (20, [.ref mt_21, .ref qu_22, .int 0, .int 0, .ref lv_23, .int (-1), .int 0, .int 0, .ref mi_24, .int 0, .int 0, .int 0, .int 0, .ref ml_25, .ref mss_26, .ref rn_27, .ref sw_28, .ref mf_29, .null, .int 0, .ref msp_30, .int 0, .int 0, .int 0])), (lv_23, .inr (1, [.int 0, .ref de, .int 0])), (rn_27, .inr (1, [.int 0, .ref de, .int 0])), (sw_28, .inr (1, [.int 0, .ref de, .int 0])), (ml_25, .inl (cS_31, 6, .inl (slotF))), (mf_29, .inl (cF_32, 96, .inl (fun _ => 0))), (q_33, .inl (cA_34, 1, .inr (.inl (fun _ => 0)))), (q_35, .inl (cA_36, 1, .inr (.inr (.inr (.inl (fun _ => 0))))))] H := hP
  replace hD : va_D A [(q_1, .inr (13, [.ref pl_2, .ref ru_3, .ref sh_4, .ref sp_5, .ref sl_6, .ref gr_7, .ref re_8, .ref pr_9, .ref ga_10, .ref rp_11, .ref bo_12, .int 0])), (pl_2, .inr (1, [.int 0, .ref de, .int 0])), (ru_3, .inr (1, [.int 0, .ref de, .int 0])), (sh_4, .inr (1, [.int 0, .ref de, .int 0])), (sp_5, .inl (cP_18, 6, .inr (.inr (.inr (.inr (fun _ => none)))))), (ga_10, .inr (5, [.ref gpl_14, .ref gin_15, .int (-1), .int 0, .int 112, .int 0])), (bo_12, .inr (2, [.ref fa_13, .ref bbe_16, .ref bdi_17, .int 0, .int 0])), (fa_13, .inl (cI_19, 96, .inl (fun _ => 0))), (q_20, .inr (20, [.ref mt_21, .ref qu_22, .int 0, .int 0, .ref lv_23, .int (-1), .int 0, .int 0, .ref mi_24, .int 0, .int 0, .int 0, .int 0, .ref ml_25, .ref mss_26, .ref rn_27, .ref sw_28, .ref mf_29, .null, .int 0, .ref msp_30, .int 0, .int 0, .int 0])), (lv_23, .inr (1, [.int 0, .ref de, .int 0])), (rn_27, .inr (1, [.int 0, .ref de, .int 0])), (sw_28, .inr (1, [.int 0, .ref de, .int 0])), (ml_25, .inl (cS_31, 6, .inl (slotF))), (mf_29, .inl (cF_32, 96, .inl (fun _ => 0))), (q_33, .inl (cA_34, 1, .inr (.inl (fun _ => 0)))), (q_35, .inl (cA_36, 1, .inr (.inr (.inr (.inl (fun _ => 0))))))] := hD
  have hK : va_K (dC, dI) vwCl [(cP_18, .object "Levelsmith$Player"), (cI_19, .int), (cS_31, .int), (cF_32, .int), (cA_34, .long), (cA_36, .double)] s := hK
  refine W.widen (k := 64) (n := 1163523) (Nat.le_of_ble_eq_true rfl) (Nat.le_of_ble_eq_true rfl) ?_
  refine lv_astore (lv' := [(4, .ref q_35), (3, .ref q_33), (2, .ref q_20), (1, .ref q_1), (0, .ref b)]) hx hb dL_law_23 hl (by decide) rfl (fun ls hl => ?_)
  refine lv_iconst (v := 0) hx hb dL_law_25 (by decide) ?_
  refine lv_istore (lv' := [(5, .int 0), (4, .ref q_35), (3, .ref q_33), (2, .ref q_20), (1, .ref q_1), (0, .ref b)]) hx hb dL_law_26 hl (by decide) rfl (fun ls hl => ?_)
  replace hl : lv_has ls 9 [(5, .int 0), (4, .ref q_35), (3, .ref q_33), (2, .ref q_20), (1, .ref q_1), (0, .ref b)] := lv_sub hl [0, 1, 2, 3, 4, 5] rfl
  have hPf := hP.sub (ws' := WLL q_1 pl_2 ru_3 sh_4 sp_5 sl_6 gr_7 re_8 pr_9 ga_10 rp_11 bo_12 fa_13 gpl_14 gin_15 bbe_16 bdi_17 q_20 mt_21 qu_22 lv_23 mi_24 ml_25 mss_26 rn_27 sw_28 mf_29 msp_30 q_33 q_35 cP_18 cI_19 cS_31 cF_32 cA_34 cA_36 de) [0, 1, 2, 3, 4, 5, 6, 7, 8, 9, 10, 11, 12, 13, 14, 15] rfl
  have hDf := hD.sub (ws' := WLL q_1 pl_2 ru_3 sh_4 sp_5 sl_6 gr_7 re_8 pr_9 ga_10 rp_11 bo_12 fa_13 gpl_14 gin_15 bbe_16 bdi_17 q_20 mt_21 qu_22 lv_23 mi_24 ml_25 mss_26 rn_27 sw_28 mf_29 msp_30 q_33 q_35 cP_18 cI_19 cS_31 cF_32 cA_34 cA_36 de) [0, 1, 2, 3, 4, 5, 6, 7, 8, 9, 10, 11, 12, 13, 14, 15] (by decide) rfl
  have hKf := hK.sub (tys' := [(cP_18, .object "Levelsmith$Player"), (cI_19, .int), (cS_31, .int), (cF_32, .int), (cA_34, .long), (cA_36, .double)]) [0, 1, 2, 3, 4, 5] rfl
  exact law_head hL hflags hgv C9 hl hKf hPf hDf hS
