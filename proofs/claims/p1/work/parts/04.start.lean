/-! what every method of this claim finds at its start: the world (cells), and what the tables and the JDK's statics say beside -/
def gx_strs : List (Nat × String) := [(438, "no such level"), (76, "a number is out of range"), (452, ".#=~^DcGgSkhsE"), (459, "no such tile"), (448, "there are 5 levels"), (386, "no such cell"), (127, "the cells go beyond the level"), (139, "it cannot go so far"), (146, "there are 3 guards"), (159, "no such guard"), (162, "no such frame"), (471, "the level cannot be won"), (200, "no state is in this cell"), (292, "no such letter"), (218, "no state is stuck"), (230, "none of these tiles"), (244, "no such help"), (255, "no one change will do"), (262, "the level can be won"), (275, "no such input"), (450, "no game goes on"), (283, "150 inputs were given"), (444, "no such slot"), (319, "no game is in this slot"), (324, "its state cannot go on"), (336, "no game has ended that was played from the beginning"), (338, "there are 10 runs"), (446, "no such run"), (378, "it has ended then"), (394, "it never died"), (461, "no such maker"), (399, "the run is not on this level"), (401, "the run does not win now"), (490, "another maker shows the same"), (492, "more are shown than 512 calls can show"), (407, "no such rank")]
def gx_nest : List (String × Nat × MethodName × String) := [("Levelsmith", 34, yX4_init, "Levelsmith"), ("Levelsmith$Grower", 11, yX2_init, "Levelsmith"), ("Levelsmith$Grower", 20, yX5_init, "Levelsmith"), ("Levelsmith", 41, yX8_init, "Levelsmith"), ("Levelsmith$Reach", 23, yX1_init, "Levelsmith"), ("Levelsmith$Reach", 43, yX6_init, "Levelsmith"), ("Levelsmith", 48, yX7_init, "Levelsmith"), ("Levelsmith$Probe", 27, yX5_init, "Levelsmith"), ("Levelsmith$Probe", 46, yX6_init, "Levelsmith"), ("Levelsmith", 55, yX3_init, "Levelsmith"), ("Levelsmith$Game", 11, yX6_init, "Levelsmith"), ("Levelsmith", 65, yX0_init, "Levelsmith"), ("Levelsmith$Bot", 20, yX2_init, "Levelsmith"), ("Levelsmith", 90, yX5_init, "Levelsmith"), ("Levelsmith", 315, yX6_init, "Levelsmith"), ("Levelsmith", 342, yX9_init, "Levelsmith"), ("Levelsmith", 494, yX10_init, "Levelsmith"), ("Levelsmith$Shown", 9, yX5_init, "Levelsmith"), ("LevelsmithModel$Level", 52, yX18_in, "LevelsmithModel"), ("LevelsmithModel$Level", 105, yX18_pack, "LevelsmithModel"), ("LevelsmithModel$Space", 70, yX18_xOf, "LevelsmithModel"), ("LevelsmithModel$Space", 73, yX18_yOf, "LevelsmithModel"), ("LevelsmithModel$Level", 109, yX18_xOf, "LevelsmithModel"), ("LevelsmithModel$Level", 112, yX18_yOf, "LevelsmithModel"), ("LevelsmithModel$Level", 115, yX18_foundOf, "LevelsmithModel"), ("LevelsmithModel$Level", 118, yX18_onOf, "LevelsmithModel"), ("LevelsmithModel$Level", 121, yX18_riseOf, "LevelsmithModel"), ("LevelsmithModel$Level", 127, yX18_phaseOf, "LevelsmithModel")]
def gx_cast : List (String × String) := [("java/lang/IndexOutOfBoundsException", "java/lang/IndexOutOfBoundsException"), ("java/lang/IllegalArgumentException", "java/lang/IllegalArgumentException"), ("java/lang/IllegalStateException", "java/lang/IllegalStateException"), ("java/util/NoSuchElementException", "java/util/NoSuchElementException"), ("java/lang/UnsupportedOperationException", "java/lang/UnsupportedOperationException"), ("LevelsmithModel$Level", "java/lang/Object"), ("Levelsmith$Plan", "java/lang/Object")]
def gx_nc : List (String × String) := [("java/lang/IllegalStateException", "java/lang/IllegalArgumentException"), ("java/lang/IllegalStateException", "java/lang/IndexOutOfBoundsException"), ("java/util/NoSuchElementException", "java/lang/IndexOutOfBoundsException"), ("java/util/NoSuchElementException", "java/lang/IllegalArgumentException")]
def gx_decl : List MethodName := [⟨"java/lang/RuntimeException", "<init>", "(Ljava/lang/String;)V"⟩, ⟨"java/lang/Exception", "<init>", "(Ljava/lang/String;)V"⟩, ⟨"java/lang/Throwable", "<init>", "(Ljava/lang/String;)V"⟩]
/-- a constant text of n bytes: its object, its bytes -/
def SQ (n : Nat) (byt : List Int32) (q : Nat) (A : Nat → Prop) (U : State) (H : Heap) : Prop := ∃ v : Nat, va_O "java/lang/String" q A U H ∧ va_OF "java/lang/String" "coder" "B" (.int 0) q A U H ∧ va_OF "java/lang/String" "value" "[B" (.ref v) q A U H ∧ va_T .byte v n (fun j => .int (byt.getD j 0)) A U H
theorem SQ.moved {n : Nat} {byt : List Int32} {q : Nat} {A : Nat → Prop} {u U : State} {H : Heap} (hvm : u.vm.Alike U.vm) (h : SQ n byt q A u H) : SQ n byt q A U H := by
  obtain ⟨v, h1, h2, h3, h4⟩ := h
  exact ⟨v, va_O.moved hvm h1, va_OF.moved hvm h2, va_OF.moved hvm h3, va_T.moved hvm h4⟩
theorem SQ.kept {n : Nat} {byt : List Int32} {q : Nat} {A : Nat → Prop} {U : State} {H H1 : Heap} (h : SQ n byt q A U H) (hq : ∀ a : Nat, a < H.size → ¬ A a → H1[a]? = H[a]?) : SQ n byt q A U H1 := by
  obtain ⟨v, h1, h2, h3, h4⟩ := h
  exact ⟨v, va_O.kept h1 hq, va_OF.kept h2 hq, va_OF.kept h3 hq, va_T.kept h4 hq⟩
theorem SQ.narrow {n : Nat} {byt : List Int32} {q : Nat} {A B : Nat → Prop} {U : State} {H : Heap} (h : SQ n byt q A U H) (hAB : ∀ a, B a → A a) : SQ n byt q B U H := by
  obtain ⟨v, h1, h2, h3, h4⟩ := h
  exact ⟨v, va_O.narrow h1 hAB, va_OF.narrow h2 hAB, va_OF.narrow h3 hAB, va_T.narrow h4 hAB⟩
def gx_signs : List Int32 := [46, 35, 61, 126, 94, 68, 99, 71, 103, 83, 107, 104, 115, 69]
def gx_told : List Int32 := [120, 121, 97, 115, 106, 102]
/-- what the statics of the JDK hold, and the three texts that are searched -/
def GJ (de : Nat) (A : Nat → Prop) (U : State) (H : Heap) : Prop :=
  va_Z "java/util/ArrayList" "DEFAULTCAPACITY_EMPTY_ELEMENTDATA" "[Ljava/lang/Object;" (.ref de) A U H ∧ va_T (.object "java/lang/Object") de 0 (fun _ => .null) A U H ∧ va_Z "java/lang/String" "COMPACT_STRINGS" "Z" (.int 1) A U H ∧
  (∃ q, vk_R "Levelsmith" 452 ".#=~^DcGgSkhsE" q U ∧ SQ 14 gx_signs q A U H) ∧ (∃ q, vk_R "LevelsmithModel" 85 ".#=~^DcGgSkhsE" q U ∧ SQ 14 gx_signs q A U H) ∧ (∃ q, vk_R "LevelsmithModel" 283 "xyasjf" q U ∧ SQ 6 gx_told q A U H)
theorem GJ.same {de : Nat} {A : Nat → Prop} {U V : State} {H : Heap} (hv : V.vm = U.vm) (h : GJ de A U H) : GJ de A V H := by
  obtain ⟨h1, h2, h3, ⟨a, h4, h5⟩, ⟨b, h6, h7⟩, ⟨c, h8, h9⟩⟩ := h
  have ha : U.vm.Alike V.vm := by rw [hv]; exact Vm.Alike.refl U.vm
  exact ⟨va_Z.moved ha h1, va_T.moved ha h2, va_Z.moved ha h3, ⟨a, vk_R.same hv h4, h5.moved ha⟩, ⟨b, vk_R.same hv h6, h7.moved ha⟩, ⟨c, vk_R.same hv h8, h9.moved ha⟩⟩
theorem GJ.go {de : Nat} {A A' : Nat → Prop} {s U : State} {H : Heap} {locs : List Loc} (h : GJ de A s s.heap) (hS : va_S A s.heap H locs) (hW : s.WarmedH U.vm) (hn : ∀ q, A' q → A q) : GJ de A' U H := by
  obtain ⟨h1, h2, h3, ⟨a, h4, h5⟩, ⟨b, h6, h7⟩, ⟨c, h8, h9⟩⟩ := h
  have ha := hW.alike
  have hk := hS.2.1
  exact ⟨(va_Z.moved ha (h1.kept hk)).narrow hn, (va_T.moved ha (h2.kept hk)).narrow hn, (va_Z.moved ha (h3.kept hk)).narrow hn, ⟨a, vk_R.warm hW h4, ((h5.kept hk).moved ha).narrow hn⟩, ⟨b, vk_R.warm hW h6, ((h7.kept hk).moved ha).narrow hn⟩, ⟨c, vk_R.warm hW h8, ((h9.kept hk).moved ha).narrow hn⟩⟩
def GX (de : Nat) (A : Nat → Prop) (U : State) (H : Heap) : Prop :=
  (vx_Zq Bundle.tN "UNASSIGNED_STACK" Bundle.steD A U H ∧ vx_Zq Bundle.tN "SUPPRESSED_SENTINEL" Bundle.listD A U H ∧ GJ de A U H) ∧
  (∀ q ∈ gx_strs, ∃ sa, vk_R "Levelsmith" q.1 q.2 sa U) ∧ (∀ q ∈ gx_nest, va_Nw (.methodLinkNest q.1 q.2.1 q.2.2.1 q.2.2.2) U) ∧ (∀ q ∈ gx_cast, va_Nw (.castable q.1 q.2) U) ∧ (∀ q ∈ gx_nc, va_Nc q.1 q.2 U) ∧ va_AO "Levelsmith$Player" U ∧ va_AO "java/lang/Object" U ∧ (∀ x ∈ gx_decl, va_Nw (.declares x) U) ∧ va_Nw (.fieldLinkNest "java/util/ArrayList$Itr" 28 "java/util/ArrayList" "size" "I" "java/util/ArrayList") U ∧ va_Fw "java/util/ArrayList$Itr" ⟨"java/util/Iterator", "hasNext", "()Z"⟩ ⟨"java/util/ArrayList$Itr", "hasNext", "()Z"⟩ U
theorem GX.same {de : Nat} {A : Nat → Prop} {U V : State} {H : Heap} (hv : V.vm = U.vm) (h : GX de A U H) : GX de A V H := by
  obtain ⟨⟨h1, h2, h2b⟩, h3, h4, h5, h6, h7, h8, h9, h10, h11⟩ := h
  have ha : U.vm.Alike V.vm := by rw [hv]; exact Vm.Alike.refl U.vm
  refine ⟨⟨vx_Zq.moved ha h1, vx_Zq.moved ha h2, h2b.same hv⟩, ?_, ?_, ?_, ?_, ?_, ?_, ?_, ?_, ?_⟩
  · intro q hq
    obtain ⟨sa, h⟩ := h3 q hq
    exact ⟨sa, vk_R.same hv h⟩
  · exact fun q hq => va_Nw.same rfl hv.symm (h4 q hq)
  · exact fun q hq => va_Nw.same rfl hv.symm (h5 q hq)
  · exact fun q hq => va_Nc.moved ha (h6 q hq)
  · exact va_AO.moved ha h7
  · exact va_AO.moved ha h8
  · exact fun x hx => va_Nw.same rfl hv.symm (h9 x hx)
  · exact va_Nw.same rfl hv.symm h10
  · exact va_Fw.moved (by decide) ha h11
theorem GX.go {de : Nat} {A A' : Nat → Prop} {s U : State} {H : Heap} {locs : List Loc} (h : GX de A s s.heap) (hS : va_S A s.heap H locs) (hW : s.WarmedH U.vm) (hn : ∀ q, A' q → A q) : GX de A' U H := by
  obtain ⟨⟨h1, h2, h2b⟩, h3, h4, h5, h6, h7, h8, h9, h10, h11⟩ := h
  refine ⟨⟨(vx_Zq.moved hW.alike (h1.kept hS.2.1)).narrow hn, (vx_Zq.moved hW.alike (h2.kept hS.2.1)).narrow hn, h2b.go hS hW hn⟩, ?_, ?_, ?_, ?_, ?_, ?_, ?_, ?_, ?_⟩
  · intro q hq
    obtain ⟨sa, h⟩ := h3 q hq
    exact ⟨sa, vk_R.warm hW h⟩
  · exact fun q hq => va_Nw.warmM hW (h4 q hq)
  · exact fun q hq => va_Nw.warmC hW (h5 q hq)
  · exact fun q hq => va_Nc.moved hW.alike (h6 q hq)
  · exact va_AO.moved hW.alike h7
  · exact va_AO.moved hW.alike h8
  · exact fun x hx => va_Nw.warmD hW (h9 x hx)
  · exact va_Nw.warmF hW h10
  · exact va_Fw.moved (by decide) hW.alike h11
/-- the words of a throw that no list of a method's words holds -/
theorem gx_bad {de : Nat} {A : Nat → Prop} {s : State} {H : Heap} {args : Array Value} (hG : GX de A s H) {X : String} (hX : (X, X) ∈ gx_cast) : ∀ w ∈ ([.castable X X, .declares ⟨"java/lang/RuntimeException", "<init>", "(Ljava/lang/String;)V"⟩, .declares ⟨"java/lang/Exception", "<init>", "(Ljava/lang/String;)V"⟩, .declares ⟨"java/lang/Throwable", "<init>", "(Ljava/lang/String;)V"⟩] : List Cond), w.before args s = true :=
  vx_c (va_Nw.use rfl (hG.2.2.2.1 _ hX)) (vx_c (va_Nw.use rfl (hG.2.2.2.2.2.2.2.1 _ (List.mem_of_getElem? (i := 0) rfl))) (vx_c (va_Nw.use rfl (hG.2.2.2.2.2.2.2.1 _ (List.mem_of_getElem? (i := 1) rfl))) (vx_c (va_Nw.use rfl (hG.2.2.2.2.2.2.2.1 _ (List.mem_of_getElem? (i := 2) rfl))) vx_n)))
/-- a method's start: its world, apart, the heap's size sz, and what stands beside -/
def PW (dC : Nat → ClassId) (dI : Nat → Nat → Nat) (de : Nat) (tys : List (ClassId × FieldType)) (ws : va_W) (sz : Nat) (U : State) : Prop :=
  U.heap.size = sz ∧ va_P (dC, dI) vwCl ws U.heap ∧ va_K (dC, dI) vwCl tys U ∧ va_D (fun _ => True) ws ∧ GX de (va_A ws sz) U U.heap
theorem PW_blind {dC : Nat → ClassId} {dI : Nat → Nat → Nat} {de : Nat} {tys : List (ClassId × FieldType)} {ws : va_W} {sz : Nat} {av : List Value} : FrameBlind (va_Pc av (PW dC dI de tys ws sz)) := fun a U g mk q => by
  obtain ⟨q0, q1, qP, qK, qD, qG⟩ := q
  exact ⟨q0, q1, qP, va_K.moved (u := U) (U := U.calling g mk a) (Vm.Alike.refl U.vm) qK, qD, GX.same (U := U) (V := U.calling g mk a) rfl qG⟩
theorem PW_call {dC : Nat → ClassId} {dI : Nat → Nat → Nat} {de : Nat} {tys : List (ClassId × FieldType)} {ws : va_W} {A : Nat → Prop} {s : State} {H : Heap} {locs : List Loc} {av : List Value} (hP : va_P (dC, dI) vwCl ws H) (hD : va_D A ws) (hK : va_K (dC, dI) vwCl tys s) (hS : va_S A s.heap H locs) (hG : GX de A s s.heap) (hF : ∀ q, va_A ws H.size q → A q) :
    ∀ U : State, U.heap = H → s.WarmedH U.vm → va_Pc av (PW dC dI de tys ws H.size) av.toArray U := fun U hU hW =>
  ⟨rfl, by rw [hU], by rw [hU]; exact hP, va_K.moved hW.alike hK, hD.weaken (fun _ _ _ _ => trivial), by rw [hU]; exact hG.go hS hW hF⟩
/-- a world behind a method -/
def QW (dC : Nat → ClassId) (dI : Nat → Nat → Nat) (tys : List (ClassId × FieldType)) (ws : va_W) (A : Nat → Prop) (t : State) : Prop := va_P (dC, dI) vwCl ws t.heap ∧ va_K (dC, dI) vwCl tys t ∧ va_D A ws
theorem QW_of {dC : Nat → ClassId} {dI : Nat → Nat → Nat} {tys : List (ClassId × FieldType)} {ws : va_W} {A : Nat → Prop} {s t : State} {H : Heap} (ht : t.heap = H) (hW : s.WarmedH t.vm) (hP : va_P (dC, dI) vwCl ws H) (hK : va_K (dC, dI) vwCl tys s) (hD : va_D A ws) : QW dC dI tys ws A t := ⟨by rw [ht]; exact hP, va_K.moved hW.alike hK, hD⟩
/-- which exception leaves a method: nothing else is said of it but the frame -/
def XX (R : String → Prop) (A : Nat → Prop) : String → State → State → Prop := vx_X (S := Unit) (fun _ => True) (fun E _ _ => R E) A
theorem XX_of {R : String → Prop} {A : Nat → Prop} {s t : State} {H : Heap} {locs : List Loc} {E : String} (hR : R E) (hS : va_S A s.heap H locs) (hA : ∀ q, s.heap.size ≤ q → A q) (h1 : H.size ≤ t.heap.size) (h2 : ∀ q : Nat, q < H.size → t.heap[q]? = H[q]?) : XX R A E s t :=
  ⟨(), trivial, hR, Nat.le_trans hS.1 h1, fun q hq hn => by rw [h2 q (Nat.lt_of_lt_of_le hq hS.1)]; exact hS.2.1 q hq hn⟩
theorem XX_out {R : String → Prop} {A : Nat → Prop} {s t : State} {H : Heap} {locs : List Loc} {E : String} (hR : R E) (hS : va_S A s.heap H locs) (ht : t.heap = H) : XX R A E s t := ⟨(), trivial, hR, hS.F ht⟩
