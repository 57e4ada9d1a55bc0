theorem mem_map {α : Type} {L : List α} {f : α → Cond} {big : List Cond} (ps : List Nat) (h : L.map f = ps.filterMap (fun i => big[i]?)) : ∀ q ∈ L, f q ∈ big := fun q hq => by
  have h1 : f q ∈ L.map f := List.mem_map.mpr ⟨q, hq, rfl⟩
  rw [h] at h1
  obtain ⟨i, -, hi⟩ := List.mem_filterMap.mp h1
  exact List.mem_of_getElem? hi
abbrev nfl : List Cond := flatC (Jvm.Cond.and given_1 narrow_1)
theorem sq_of {args : Array Value} {s : State} {own : String} {k len : Nat} {byt : List Int32} {A : Nat → Prop} (hN : len < 2 ^ 31) (hex : (Cond.exactly (.string own k) "java/lang/String").before args s = true) (hco : (Cond.eq (.field (.string own k) "java/lang/String" "coder" "B") (.int 0)).before args s = true) (har : (Cond.arrayOf (.field (.string own k) "java/lang/String" "value" "[B") .byte).before args s = true) (hle : (Cond.eq (.length (.field (.string own k) "java/lang/String" "value" "[B")) (.int (Int32.ofNat len))).before args s = true)
    (hel : ∀ j : Nat, j < len → (Cond.eq (.elem (.field (.string own k) "java/lang/String" "value" "[B") (.int (Int32.ofNat j))) (.int (byt.getD j 0))).before args s = true) (hA : ∀ a : Nat, a < s.heap.size → ¬ A a) : ∃ q, (Term.string own k).eval args s none [] s = some (.ref q) ∧ SQ len byt q A s s.heap := by
  obtain ⟨a, c, cA, kA, q1, q2, q3, q4, q5, q6, -⟩ := Cond.exactly_spec (args := args) (first := s) (o := none) (s := s) (idx := []) (t := .string own k) (cls := "java/lang/String") hex
  obtain ⟨t, ht, hT⟩ := va_Tof (f := fun j => .int (byt.getD j 0)) (A := A) hN har (va_eqt hle) (fun j hj => va_eqt (hel j hj)) hA
  exact ⟨a, q1, t, ⟨cA, q3, q5, by rw [q6]; exact q2, hA a (Array.getElem?_eq_some_iff.mp q3).1⟩, vk_OFof q1 (va_eqt hco) hA, vk_OFof q1 ht hA, hT⟩
theorem ex_of {args : Array Value} {s : State} {own : String} {k : Nat} (hex : (Cond.exactly (.string own k) "java/lang/String").before args s = true) : ∃ q, (Term.string own k).eval args s none [] s = some (.ref q) := by
  obtain ⟨a, c, cA, kA, q1, -⟩ := Cond.exactly_spec (args := args) (first := s) (o := none) (s := s) (idx := []) (t := .string own k) (cls := "java/lang/String") hex
  exact ⟨a, q1⟩
set_option maxRecDepth 100000 in
set_option maxHeartbeats 4000000 in
theorem g_str : ∀ q ∈ gx_strs, (fun q : Nat × String => Cond.stringRef "Levelsmith" q.1 q.2) q ∈ tables_1 := mem_map [478, 690, 700, 785, 799, 902, 912, 941, 942, 954, 955, 1029, 1065, 1088, 1093, 1125, 1169, 1204, 1218, 1261, 1266, 1267, 1286, 1296, 1301, 1319, 1320, 1367, 1405, 1454, 1465, 1466, 1467, 1482, 1483, 1511] (by decide +kernel)
set_option maxRecDepth 100000 in
set_option maxHeartbeats 4000000 in
theorem g_ex : ∀ q ∈ gx_strs, (fun q : Nat × String => Cond.exactly (.string "Levelsmith" q.1) "java/lang/String") q ∈ nfl := mem_map [168, 185, 213, 231, 247, 269, 285, 318, 341, 363, 380, 397, 424, 452, 470, 491, 514, 530, 555, 579, 596, 615, 640, 656, 683, 709, 765, 786, 801, 822, 839, 856, 888, 916, 948, 990] (by decide +kernel)
set_option maxRecDepth 100000 in
set_option maxHeartbeats 4000000 in
theorem g_nest : ∀ q ∈ gx_nest, (fun q : String × Nat × MethodName × String => Cond.methodLinkNest q.1 q.2.1 q.2.2.1 q.2.2.2) q ∈ tables_1 := mem_map [84, 90, 103, 169, 175, 195, 270, 275, 278, 314, 319, 347, 352, 806, 1287, 1323, 1485, 1490, 1765, 1891, 1898, 1901, 1916, 1917, 1918, 1921, 1924, 1937] (by decide +kernel)
set_option maxRecDepth 100000 in
set_option maxHeartbeats 4000000 in
theorem g_cast : ∀ q ∈ gx_cast, (fun q : String × String => Cond.castable q.1 q.2) q ∈ tables_1 := mem_map [437, 683, 792, 1022, 1197, 2302, 2292] (by decide +kernel)
set_option maxRecDepth 100000 in
set_option maxHeartbeats 4000000 in
theorem g_nc : ∀ q ∈ gx_nc, (fun q : String × String => Cond.not (.castable q.1 q.2)) q ∈ nfl := mem_map [28, 79, 84, 34] (by decide +kernel)
set_option maxRecDepth 100000 in
set_option maxHeartbeats 4000000 in
theorem g_decl : ∀ q ∈ gx_decl, (fun q : MethodName => Cond.declares q) q ∈ tables_1 := mem_map [439, 441, 443] (by decide +kernel)
set_option maxRecDepth 100000 in
set_option maxHeartbeats 4000000 in
theorem e452 : ∀ q ∈ (List.range 14), (fun q : Nat => Cond.eq (.elem (.field (.string "Levelsmith" 452) "java/lang/String" "value" "[B") (.int (Int32.ofNat q))) (.int (gx_signs.getD q 0))) q ∈ nfl := mem_map [217, 218, 219, 220, 221, 222, 223, 224, 225, 226, 227, 228, 229, 230] (by decide +kernel)
set_option maxRecDepth 100000 in
set_option maxHeartbeats 4000000 in
theorem e85 : ∀ q ∈ (List.range 14), (fun q : Nat => Cond.eq (.elem (.field (.string "LevelsmithModel" 85) "java/lang/String" "value" "[B") (.int (Int32.ofNat q))) (.int (gx_signs.getD q 0))) q ∈ nfl := mem_map [1010, 1011, 1012, 1013, 1014, 1015, 1016, 1017, 1018, 1019, 1020, 1021, 1022, 1023] (by decide +kernel)
set_option maxRecDepth 100000 in
set_option maxHeartbeats 4000000 in
theorem e283 : ∀ q ∈ (List.range 6), (fun q : Nat => Cond.eq (.elem (.field (.string "LevelsmithModel" 283) "java/lang/String" "value" "[B") (.int (Int32.ofNat q))) (.int (gx_told.getD q 0))) q ∈ nfl := mem_map [1038, 1039, 1040, 1041, 1042, 1043] (by decide +kernel)
set_option maxRecDepth 100000 in
set_option maxHeartbeats 8000000 in
/-- what stands beside the cells, at the law's entry -/
theorem gx_of {args : Array Value} {s : State} (hgv : (Jvm.Cond.and given_1 narrow_1).before args s = true) (hq : ∀ w ∈ tables_1, w.before args s = true) : ∃ de : Nat, GX de (fun q => s.heap.size ≤ q) s s.heap := by
  have hs : ∀ w ∈ nfl, w.before args s = true := flat_of_before _ hgv
  have hA : ∀ a : Nat, a < s.heap.size → ¬ (fun q : Nat => s.heap.size ≤ q) a := fun a h => Nat.not_le.mpr h
  obtain ⟨de, hde, hT⟩ := va_Tof (tm := .static "java/util/ArrayList" "DEFAULTCAPACITY_EMPTY_ELEMENTDATA" "[Ljava/lang/Object;") (ty := .object "java/lang/Object") (N := 0) (f := fun _ => .null) (A := fun q : Nat => s.heap.size ≤ q) (by decide) (hs _ (List.mem_of_getElem? (i := 5) (by decide +kernel))) (va_eqt (hs _ (List.mem_of_getElem? (i := 7) (by decide +kernel)))) (fun j hj => absurd hj (Nat.not_lt_zero j)) hA
  obtain ⟨q452, hv452, hQ452⟩ := sq_of (own := "Levelsmith") (k := 452) (len := 14) (byt := gx_signs) (A := fun q : Nat => s.heap.size ≤ q) (by decide) (hs _ (List.mem_of_getElem? (i := 213) (by decide +kernel))) (hs _ (List.mem_of_getElem? (i := 214) (by decide +kernel))) (hs _ (List.mem_of_getElem? (i := 215) (by decide +kernel))) (hs _ (List.mem_of_getElem? (i := 216) (by decide +kernel))) (fun j hj => hs _ (e452 j (List.mem_range.mpr hj))) hA
  obtain ⟨q85, hv85, hQ85⟩ := sq_of (own := "LevelsmithModel") (k := 85) (len := 14) (byt := gx_signs) (A := fun q : Nat => s.heap.size ≤ q) (by decide) (hs _ (List.mem_of_getElem? (i := 1006) (by decide +kernel))) (hs _ (List.mem_of_getElem? (i := 1007) (by decide +kernel))) (hs _ (List.mem_of_getElem? (i := 1008) (by decide +kernel))) (hs _ (List.mem_of_getElem? (i := 1009) (by decide +kernel))) (fun j hj => hs _ (e85 j (List.mem_range.mpr hj))) hA
  obtain ⟨q283, hv283, hQ283⟩ := sq_of (own := "LevelsmithModel") (k := 283) (len := 6) (byt := gx_told) (A := fun q : Nat => s.heap.size ≤ q) (by decide) (hs _ (List.mem_of_getElem? (i := 1034) (by decide +kernel))) (hs _ (List.mem_of_getElem? (i := 1035) (by decide +kernel))) (hs _ (List.mem_of_getElem? (i := 1036) (by decide +kernel))) (hs _ (List.mem_of_getElem? (i := 1037) (by decide +kernel))) (fun j hj => hs _ (e283 j (List.mem_range.mpr hj))) hA
  refine ⟨de, ⟨vx_Zqof (hq _ (List.mem_of_getElem? (i := 462) (by decide +kernel))) (hq _ (List.mem_of_getElem? (i := 16) (by decide +kernel))) (hs _ (List.mem_of_getElem? (i := 8) (by decide +kernel))) hA, vx_Zqof (hq _ (List.mem_of_getElem? (i := 464) (by decide +kernel))) (hq _ (List.mem_of_getElem? (i := 16) (by decide +kernel))) (hs _ (List.mem_of_getElem? (i := 9) (by decide +kernel))) hA, va_Zof (hq _ (List.mem_of_getElem? (i := 64) (by decide +kernel))) (hq _ (List.mem_of_getElem? (i := 4) (by decide +kernel))) hde hA, hT, va_Zof (hq _ (List.mem_of_getElem? (i := 714) (by decide +kernel))) (hq _ (List.mem_of_getElem? (i := 20) (by decide +kernel))) (va_eqi (hs _ (List.mem_of_getElem? (i := 10) (by decide +kernel)))) hA, ⟨q452, vk_R.of (hq _ (List.mem_of_getElem? (i := 700) (by decide +kernel))) hv452, hQ452⟩, ⟨q85, vk_R.of (hq _ (List.mem_of_getElem? (i := 1708) (by decide +kernel))) hv85, hQ85⟩, ⟨q283, vk_R.of (hq _ (List.mem_of_getElem? (i := 2124) (by decide +kernel))) hv283, hQ283⟩⟩, ?_, ?_, ?_, ?_, ?_, ?_, ?_, ?_, ?_⟩
  · intro q hm
    obtain ⟨sa, h⟩ := ex_of (hs _ (g_ex q hm))
    exact ⟨sa, vk_R.of (hq _ (g_str q hm)) h⟩
  · exact fun q hm => va_Nw.of rfl (hq _ (g_nest q hm))
  · exact fun q hm => va_Nw.of rfl (hq _ (g_cast q hm))
  · exact fun q hm => va_Nc.of (hs _ (g_nc q hm))
  · exact va_AO.of (hq _ (List.mem_of_getElem? (i := 81) (by decide +kernel)))
  · exact va_AO.of (hq _ (List.mem_of_getElem? (i := 881) (by decide +kernel)))
  · exact fun q hm => va_Nw.of rfl (hq _ (g_decl q hm))
  · exact va_Nw.of rfl (hq _ (List.mem_of_getElem? (i := 67) (by decide +kernel)))
  · exact va_Fw.of (hq _ (List.mem_of_getElem? (i := 1970) (by decide +kernel))) (hq _ (List.mem_of_getElem? (i := 1969) (by decide +kernel))) (hq _ (List.mem_of_getElem? (i := 1975) (by decide +kernel))) (hq _ (List.mem_of_getElem? (i := 1973) (by decide +kernel))) (hq _ (List.mem_of_getElem? (i := 1971) (by decide +kernel)))
