/-- words of a static method of another class, and of one with a table of its own -/
theorem gWS2 {own C : String} {idx ml : Nat} {y : MethodName} {bs : ByteArray} {ret : Option FieldType} (h1 : Cond.methodLink own idx y ∈ wsL_law) (h2 : Cond.static y ∈ wsL_law) (h4 : Cond.initialized C ∈ wsL_law) (h5 : Cond.code y bs ml ret ∈ wsL_law) (hC : y.cls = C := by rfl) : GoodIn wsL_law (va_wsS own idx y (.code y bs ml ret :: wsL_law)) := by
  subst hC
  intro w hw
  have hm : w ∈ wsL_law := by
    simp only [va_wsS, List.cons_append, List.nil_append, List.mem_cons] at hw
    rcases hw with rfl | rfl | rfl | rfl | hw <;> assumption
  exact ⟨hm, wsL_good hm⟩
theorem gWX {own C : String} {idx ml : Nat} {y : MethodName} {bs : ByteArray} {ret : Option FieldType} {hh : List (Nat × Nat × Nat × Nat)} (h1 : Cond.methodLink own idx y ∈ wsL_law) (h2 : Cond.static y ∈ wsL_law) (h4 : Cond.initialized C ∈ wsL_law) (h5 : Cond.codeWith y bs ml ret hh ∈ wsL_law) (hC : y.cls = C := by rfl) : GoodIn wsL_law (va_wsS own idx y (.codeWith y bs ml ret hh :: wsL_law)) := by
  subst hC
  intro w hw
  have hm : w ∈ wsL_law := by
    simp only [va_wsS, List.cons_append, List.nil_append, List.mem_cons] at hw
    rcases hw with rfl | rfl | rfl | rfl | hw <;> assumption
  exact ⟨hm, wsL_good hm⟩
/-- a start with one thing more -/
def PX (X : (Nat → Prop) → State → Heap → Prop) (dC : Nat → ClassId) (dI : Nat → Nat → Nat) (de : Nat) (tys : List (ClassId × FieldType)) (ws : va_W) (sz : Nat) (U : State) : Prop := PW dC dI de tys ws sz U ∧ X (va_A ws sz) U U.heap
theorem PX_blind {X : (Nat → Prop) → State → Heap → Prop} {dC : Nat → ClassId} {dI : Nat → Nat → Nat} {de : Nat} {tys : List (ClassId × FieldType)} {ws : va_W} {sz : Nat} {av : List Value} (hX : ∀ (A : Nat → Prop) (U V : State) (H : Heap), V.vm = U.vm → X A U H → X A V H) : FrameBlind (va_Pc av (PX X dC dI de tys ws sz)) := fun a U g mk q => by
  obtain ⟨q0, ⟨q1, qP, qK, qD, qG⟩, qX⟩ := q
  exact ⟨q0, ⟨q1, qP, va_K.moved (u := U) (U := U.calling g mk a) (Vm.Alike.refl U.vm) qK, qD, GX.same (U := U) (V := U.calling g mk a) rfl qG⟩, hX _ U (U.calling g mk a) _ rfl qX⟩
theorem PX_call {X : (Nat → Prop) → State → Heap → Prop} {dC : Nat → ClassId} {dI : Nat → Nat → Nat} {de : Nat} {tys : List (ClassId × FieldType)} {ws : va_W} {A : Nat → Prop} {s : State} {H : Heap} {locs : List Loc} {av : List Value} (hX : ∀ (A A' : Nat → Prop) (s U : State) (H : Heap) (locs : List Loc), X A s s.heap → va_S A s.heap H locs → s.WarmedH U.vm → (∀ q, A' q → A q) → X A' U H) (hx : X A s s.heap)
    (hP : va_P (dC, dI) vwCl ws H) (hD : va_D A ws) (hK : va_K (dC, dI) vwCl tys s) (hS : va_S A s.heap H locs) (hG : GX de A s s.heap) (hF : ∀ q, va_A ws H.size q → A q) :
    ∀ U : State, U.heap = H → s.WarmedH U.vm → va_Pc av (PX X dC dI de tys ws H.size) av.toArray U := fun U hU hW =>
  ⟨rfl, ⟨by rw [hU], by rw [hU]; exact hP, va_K.moved hW.alike hK, hD.weaken (fun _ _ _ _ => trivial), by rw [hU]; exact hG.go hS hW hF⟩, by rw [hU]; exact hX _ _ _ _ _ _ hx hS hW hF⟩
abbrev XQ (n : Nat) (byt : List Int32) (q : Nat) : (Nat → Prop) → State → Heap → Prop := fun A U H => SQ n byt q A U H
abbrev XV (n : Nat) (byt : List Int32) (v : Nat) : (Nat → Prop) → State → Heap → Prop := fun A U H => va_T .byte v n (fun j => .int (byt.getD j 0)) A U H
theorem XQ_same {n : Nat} {byt : List Int32} {q : Nat} (A : Nat → Prop) (U V : State) (H : Heap) (hv : V.vm = U.vm) (h : XQ n byt q A U H) : XQ n byt q A V H := SQ.moved (by rw [hv]; exact Vm.Alike.refl U.vm) h
theorem XV_same {n : Nat} {byt : List Int32} {q : Nat} (A : Nat → Prop) (U V : State) (H : Heap) (hv : V.vm = U.vm) (h : XV n byt q A U H) : XV n byt q A V H := va_T.moved (by rw [hv]; exact Vm.Alike.refl U.vm) h
theorem XQ_go {n : Nat} {byt : List Int32} {q : Nat} (A A' : Nat → Prop) (s U : State) (H : Heap) (locs : List Loc) (h : XQ n byt q A s s.heap) (hS : va_S A s.heap H locs) (hW : s.WarmedH U.vm) (hn : ∀ q, A' q → A q) : XQ n byt q A' U H := ((SQ.kept h hS.2.1).moved hW.alike).narrow hn
theorem XV_go {n : Nat} {byt : List Int32} {q : Nat} (A A' : Nat → Prop) (s U : State) (H : Heap) (locs : List Loc) (h : XV n byt q A s s.heap) (hS : va_S A s.heap H locs) (hW : s.WarmedH U.vm) (hn : ∀ q, A' q → A q) : XV n byt q A' U H := (va_T.moved hW.alike (va_T.kept h hS.2.1)).narrow hn
/-- the text holds the sign -/
def Has (n : Nat) (byt : List Int32) (ch : Int32) : Prop := ∃ j : Nat, j < n ∧ byt.getD j 0 = ch
def SGr (n : Nat) (byt : List Int32) (ch r : Int32) : Prop := (r < 0 ∧ ¬ Has n byt ch) ∨ (¬ r < 0 ∧ Has n byt ch)
theorem sg_k : ∀ k, k < 256 → (nI k).toInt8.toInt32 = if k < 128 then nI k else nI k - 256 := by decide +kernel
theorem sg_b {ch b : Int32} (hc : ¬ ch < 0 ∧ ¬ 255 < ch) (hb : ∃ m : Nat, m < 128 ∧ b = nI m) : b = ch.toInt8.toInt32 ↔ b = ch := by
  obtain ⟨m, hm, rfl⟩ := hb
  obtain ⟨k, hk, rfl⟩ := nI_of hc.1
  have h2 := hc.2
  rw [Int32.lt_iff_toInt_lt, nI_toInt hk, show (255 : Int32).toInt = 255 by decide] at h2
  have hk2 : k < 256 := by omega
  rw [sg_k k hk2]
  split
  · exact Iff.rfl
  · rename_i h
    constructor
    · intro e
      have e2 := congrArg Int32.toInt e
      rw [nI_toInt (by omega), show (256 : Int32) = nI 256 by decide, pk_sub_toInt (by omega) (by omega)] at e2
      omega
    · intro e
      have e2 := congrArg Int32.toInt e
      rw [nI_toInt (by omega), nI_toInt (by omega)] at e2
      omega
theorem sg_out {n : Nat} {byt : List Int32} {ch : Int32} (hb : ∀ j, j < n → ∃ m : Nat, m < 128 ∧ byt.getD j 0 = nI m) (hc : ch < 0 ∨ 255 < ch) : ¬ Has n byt ch := by
  intro h
  obtain ⟨j, hj, e⟩ := h
  obtain ⟨m, hm, e2⟩ := hb j hj
  rw [e] at e2
  subst e2
  rcases hc with h | h
  · exact nI_pos (by omega) h
  · rw [Int32.lt_iff_toInt_lt, nI_toInt (by omega), show (255 : Int32).toInt = 255 by decide] at h
    omega
theorem signs_small : ∀ j, j < 14 → ∃ m : Nat, m < 128 ∧ gx_signs.getD j 0 = nI m := by
  intro j hj
  have : ∀ j, j < 14 → (gx_signs.getD j 0 = nI (gx_signs.getD j 0).toNatClampNeg ∧ (gx_signs.getD j 0).toNatClampNeg < 128) := by decide
  exact ⟨_, (this j hj).2, (this j hj).1⟩
theorem told_small : ∀ j, j < 6 → ∃ m : Nat, m < 128 ∧ gx_told.getD j 0 = nI m := by
  intro j hj
  have : ∀ j, j < 6 → (gx_told.getD j 0 = nI (gx_told.getD j 0).toNatClampNeg ∧ (gx_told.getD j 0).toNatClampNeg < 128) := by decide
  exact ⟨_, (this j hj).2, (this j hj).1⟩
theorem told_has {ch : Int32} : Has 6 gx_told ch ↔ (ch = 120 ∨ ch = 121 ∨ ch = 97 ∨ ch = 115 ∨ ch = 106 ∨ ch = 102) := by
  constructor
  · intro h
    obtain ⟨j, hj, e⟩ := h
    rcases (show j = 0 ∨ j = 1 ∨ j = 2 ∨ j = 3 ∨ j = 4 ∨ j = 5 by omega) with rfl | rfl | rfl | rfl | rfl | rfl
    · exact Or.inl e.symm
    · exact Or.inr (Or.inl e.symm)
    · exact Or.inr (Or.inr (Or.inl e.symm))
    · exact Or.inr (Or.inr (Or.inr (Or.inl e.symm)))
    · exact Or.inr (Or.inr (Or.inr (Or.inr (Or.inl e.symm))))
    · exact Or.inr (Or.inr (Or.inr (Or.inr (Or.inr e.symm))))
  · intro h
    rcases h with rfl | rfl | rfl | rfl | rfl | rfl
    · exact ⟨0, by decide, rfl⟩
    · exact ⟨1, by decide, rfl⟩
    · exact ⟨2, by decide, rfl⟩
    · exact ⟨3, by decide, rfl⟩
    · exact ⟨4, by decide, rfl⟩
    · exact ⟨5, by decide, rfl⟩
theorem dJ0_coder_7d493_0 : decode cJ0_coder_7d493 0 = .ok (.getstatic 38, 3) := by decide +kernel
theorem dJ0_coder_7d493_3 : decode cJ0_coder_7d493 3 = .ok (.ifCond .eq 10, 3) := by decide +kernel
theorem dJ0_coder_7d493_6 : decode cJ0_coder_7d493 6 = .ok (.aload_n 0, 1) := by decide +kernel
theorem dJ0_coder_7d493_7 : decode cJ0_coder_7d493 7 = .ok (.getfield 15, 3) := by decide +kernel
theorem dJ0_coder_7d493_10 : decode cJ0_coder_7d493 10 = .ok (.goto 4, 3) := by decide +kernel
theorem dJ0_coder_7d493_14 : decode cJ0_coder_7d493 14 = .ok (.ireturn, 1) := by decide +kernel
theorem dJ0_isLatin1_aae02_0 : decode cJ0_isLatin1_aae02 0 = .ok (.getstatic 38, 3) := by decide +kernel
theorem dJ0_isLatin1_aae02_3 : decode cJ0_isLatin1_aae02 3 = .ok (.ifCond .eq 14, 3) := by decide +kernel
theorem dJ0_isLatin1_aae02_6 : decode cJ0_isLatin1_aae02 6 = .ok (.aload_n 0, 1) := by decide +kernel
theorem dJ0_isLatin1_aae02_7 : decode cJ0_isLatin1_aae02 7 = .ok (.getfield 15, 3) := by decide +kernel
theorem dJ0_isLatin1_aae02_10 : decode cJ0_isLatin1_aae02 10 = .ok (.ifCond .ne 7, 3) := by decide +kernel
theorem dJ0_isLatin1_aae02_13 : decode cJ0_isLatin1_aae02 13 = .ok (.iconst 1, 1) := by decide +kernel
theorem dJ0_isLatin1_aae02_14 : decode cJ0_isLatin1_aae02 14 = .ok (.goto 4, 3) := by decide +kernel
theorem dJ0_isLatin1_aae02_18 : decode cJ0_isLatin1_aae02 18 = .ok (.ireturn, 1) := by decide +kernel
theorem dJ0_length_8abf5_0 : decode cJ0_length_8abf5 0 = .ok (.aload_n 0, 1) := by decide +kernel
theorem dJ0_length_8abf5_1 : decode cJ0_length_8abf5 1 = .ok (.getfield 9, 3) := by decide +kernel
theorem dJ0_length_8abf5_4 : decode cJ0_length_8abf5 4 = .ok (.arraylength, 1) := by decide +kernel
theorem dJ0_length_8abf5_5 : decode cJ0_length_8abf5 5 = .ok (.aload_n 0, 1) := by decide +kernel
theorem dJ0_length_8abf5_6 : decode cJ0_length_8abf5 6 = .ok (.invokevirtual 335, 3) := by decide +kernel
theorem dJ0_length_8abf5_9 : decode cJ0_length_8abf5 9 = .ok (.ishr, 1) := by decide +kernel
theorem dJ0_length_8abf5_10 : decode cJ0_length_8abf5 10 = .ok (.ireturn, 1) := by decide +kernel
theorem dJ1_canEncode_9a6ad_0 : decode cJ1_canEncode_9a6ad 0 = .ok (.iload_n 0, 1) := by decide +kernel
theorem dJ1_canEncode_9a6ad_1 : decode cJ1_canEncode_9a6ad 1 = .ok (.ifCond .lt 14, 3) := by decide +kernel
theorem dJ1_canEncode_9a6ad_4 : decode cJ1_canEncode_9a6ad 4 = .ok (.iload_n 0, 1) := by decide +kernel
theorem dJ1_canEncode_9a6ad_5 : decode cJ1_canEncode_9a6ad 5 = .ok (.sipush 255, 3) := by decide +kernel
theorem dJ1_canEncode_9a6ad_8 : decode cJ1_canEncode_9a6ad 8 = .ok (.if_icmp .gt 7, 3) := by decide +kernel
theorem dJ1_canEncode_9a6ad_11 : decode cJ1_canEncode_9a6ad 11 = .ok (.iconst 1, 1) := by decide +kernel
theorem dJ1_canEncode_9a6ad_12 : decode cJ1_canEncode_9a6ad 12 = .ok (.goto 4, 3) := by decide +kernel
theorem dJ1_canEncode_9a6ad_15 : decode cJ1_canEncode_9a6ad 15 = .ok (.iconst 0, 1) := by decide +kernel
theorem dJ1_canEncode_9a6ad_16 : decode cJ1_canEncode_9a6ad 16 = .ok (.ireturn, 1) := by decide +kernel
theorem dJ1_indexOfChar_4cfef_0 : decode cJ1_indexOfChar_4cfef 0 = .ok (.iload_n 1, 1) := by decide +kernel
theorem dJ1_indexOfChar_4cfef_1 : decode cJ1_indexOfChar_4cfef 1 = .ok (.i2b, 1) := by decide +kernel
theorem dJ1_indexOfChar_4cfef_2 : decode cJ1_indexOfChar_4cfef 2 = .ok (.istore 4, 2) := by decide +kernel
theorem dJ1_indexOfChar_4cfef_4 : decode cJ1_indexOfChar_4cfef 4 = .ok (.iload_n 2, 1) := by decide +kernel
theorem dJ1_indexOfChar_4cfef_5 : decode cJ1_indexOfChar_4cfef 5 = .ok (.istore 5, 2) := by decide +kernel
theorem dJ1_indexOfChar_4cfef_7 : decode cJ1_indexOfChar_4cfef 7 = .ok (.iload 5, 2) := by decide +kernel
theorem dJ1_indexOfChar_4cfef_9 : decode cJ1_indexOfChar_4cfef 9 = .ok (.iload_n 3, 1) := by decide +kernel
theorem dJ1_indexOfChar_4cfef_10 : decode cJ1_indexOfChar_4cfef 10 = .ok (.if_icmp .ge 21, 3) := by decide +kernel
theorem dJ1_indexOfChar_4cfef_13 : decode cJ1_indexOfChar_4cfef 13 = .ok (.aload_n 0, 1) := by decide +kernel
theorem dJ1_indexOfChar_4cfef_14 : decode cJ1_indexOfChar_4cfef 14 = .ok (.iload 5, 2) := by decide +kernel
theorem dJ1_indexOfChar_4cfef_16 : decode cJ1_indexOfChar_4cfef 16 = .ok (.baload, 1) := by decide +kernel
theorem dJ1_indexOfChar_4cfef_17 : decode cJ1_indexOfChar_4cfef 17 = .ok (.iload 4, 2) := by decide +kernel
theorem dJ1_indexOfChar_4cfef_19 : decode cJ1_indexOfChar_4cfef 19 = .ok (.if_icmp .ne 6, 3) := by decide +kernel
theorem dJ1_indexOfChar_4cfef_22 : decode cJ1_indexOfChar_4cfef 22 = .ok (.iload 5, 2) := by decide +kernel
theorem dJ1_indexOfChar_4cfef_24 : decode cJ1_indexOfChar_4cfef 24 = .ok (.ireturn, 1) := by decide +kernel
theorem dJ1_indexOfChar_4cfef_25 : decode cJ1_indexOfChar_4cfef 25 = .ok (.iinc 5 1, 3) := by decide +kernel
theorem dJ1_indexOfChar_4cfef_28 : decode cJ1_indexOfChar_4cfef 28 = .ok (.goto (-21), 3) := by decide +kernel
theorem dJ1_indexOfChar_4cfef_31 : decode cJ1_indexOfChar_4cfef 31 = .ok (.iconst (-1), 1) := by decide +kernel
theorem dJ1_indexOfChar_4cfef_32 : decode cJ1_indexOfChar_4cfef 32 = .ok (.ireturn, 1) := by decide +kernel
theorem dJ1_indexOf_4cfef_0 : decode cJ1_indexOf_4cfef 0 = .ok (.iload_n 1, 1) := by decide +kernel
theorem dJ1_indexOf_4cfef_1 : decode cJ1_indexOf_4cfef 1 = .ok (.invokestatic 88, 3) := by decide +kernel
theorem dJ1_indexOf_4cfef_4 : decode cJ1_indexOf_4cfef 4 = .ok (.ifCond .ne 5, 3) := by decide +kernel
theorem dJ1_indexOf_4cfef_7 : decode cJ1_indexOf_4cfef 7 = .ok (.iconst (-1), 1) := by decide +kernel
theorem dJ1_indexOf_4cfef_8 : decode cJ1_indexOf_4cfef 8 = .ok (.ireturn, 1) := by decide +kernel
theorem dJ1_indexOf_4cfef_9 : decode cJ1_indexOf_4cfef 9 = .ok (.iload_n 2, 1) := by decide +kernel
theorem dJ1_indexOf_4cfef_10 : decode cJ1_indexOf_4cfef 10 = .ok (.iconst 0, 1) := by decide +kernel
theorem dJ1_indexOf_4cfef_11 : decode cJ1_indexOf_4cfef 11 = .ok (.invokestatic 92, 3) := by decide +kernel
theorem dJ1_indexOf_4cfef_14 : decode cJ1_indexOf_4cfef 14 = .ok (.istore_n 2, 1) := by decide +kernel
theorem dJ1_indexOf_4cfef_15 : decode cJ1_indexOf_4cfef 15 = .ok (.iload_n 3, 1) := by decide +kernel
theorem dJ1_indexOf_4cfef_16 : decode cJ1_indexOf_4cfef 16 = .ok (.aload_n 0, 1) := by decide +kernel
theorem dJ1_indexOf_4cfef_17 : decode cJ1_indexOf_4cfef 17 = .ok (.arraylength, 1) := by decide +kernel
theorem dJ1_indexOf_4cfef_18 : decode cJ1_indexOf_4cfef 18 = .ok (.invokestatic 38, 3) := by decide +kernel
theorem dJ1_indexOf_4cfef_21 : decode cJ1_indexOf_4cfef 21 = .ok (.istore_n 3, 1) := by decide +kernel
theorem dJ1_indexOf_4cfef_22 : decode cJ1_indexOf_4cfef 22 = .ok (.iload_n 2, 1) := by decide +kernel
theorem dJ1_indexOf_4cfef_23 : decode cJ1_indexOf_4cfef 23 = .ok (.iload_n 3, 1) := by decide +kernel
theorem dJ1_indexOf_4cfef_24 : decode cJ1_indexOf_4cfef 24 = .ok (.if_icmp .lt 5, 3) := by decide +kernel
theorem dJ1_indexOf_4cfef_29 : decode cJ1_indexOf_4cfef 29 = .ok (.aload_n 0, 1) := by decide +kernel
theorem dJ1_indexOf_4cfef_30 : decode cJ1_indexOf_4cfef 30 = .ok (.iload_n 1, 1) := by decide +kernel
theorem dJ1_indexOf_4cfef_31 : decode cJ1_indexOf_4cfef 31 = .ok (.iload_n 2, 1) := by decide +kernel
theorem dJ1_indexOf_4cfef_32 : decode cJ1_indexOf_4cfef 32 = .ok (.iload_n 3, 1) := by decide +kernel
theorem dJ1_indexOf_4cfef_33 : decode cJ1_indexOf_4cfef 33 = .ok (.invokestatic 95, 3) := by decide +kernel
theorem dJ1_indexOf_4cfef_36 : decode cJ1_indexOf_4cfef 36 = .ok (.ireturn, 1) := by decide +kernel
theorem dJ0_indexOf_7cf53_0 : decode cJ0_indexOf_7cf53 0 = .ok (.aload_n 0, 1) := by decide +kernel
theorem dJ0_indexOf_7cf53_1 : decode cJ0_indexOf_7cf53 1 = .ok (.invokevirtual 492, 3) := by decide +kernel
theorem dJ0_indexOf_7cf53_4 : decode cJ0_indexOf_7cf53 4 = .ok (.ifCond .eq 19, 3) := by decide +kernel
theorem dJ0_indexOf_7cf53_7 : decode cJ0_indexOf_7cf53 7 = .ok (.aload_n 0, 1) := by decide +kernel
theorem dJ0_indexOf_7cf53_8 : decode cJ0_indexOf_7cf53 8 = .ok (.getfield 9, 3) := by decide +kernel
theorem dJ0_indexOf_7cf53_11 : decode cJ0_indexOf_7cf53 11 = .ok (.iload_n 1, 1) := by decide +kernel
theorem dJ0_indexOf_7cf53_12 : decode cJ0_indexOf_7cf53 12 = .ok (.iload_n 2, 1) := by decide +kernel
theorem dJ0_indexOf_7cf53_13 : decode cJ0_indexOf_7cf53 13 = .ok (.aload_n 0, 1) := by decide +kernel
theorem dJ0_indexOf_7cf53_14 : decode cJ0_indexOf_7cf53 14 = .ok (.invokevirtual 505, 3) := by decide +kernel
theorem dJ0_indexOf_7cf53_17 : decode cJ0_indexOf_7cf53 17 = .ok (.invokestatic 637, 3) := by decide +kernel
theorem dJ0_indexOf_7cf53_20 : decode cJ0_indexOf_7cf53 20 = .ok (.goto 16, 3) := by decide +kernel
theorem dJ0_indexOf_7cf53_36 : decode cJ0_indexOf_7cf53 36 = .ok (.ireturn, 1) := by decide +kernel
theorem dJ0_indexOf_0f7a4_0 : decode cJ0_indexOf_0f7a4 0 = .ok (.aload_n 0, 1) := by decide +kernel
theorem dJ0_indexOf_0f7a4_1 : decode cJ0_indexOf_0f7a4 1 = .ok (.iload_n 1, 1) := by decide +kernel
theorem dJ0_indexOf_0f7a4_2 : decode cJ0_indexOf_0f7a4 2 = .ok (.iconst 0, 1) := by decide +kernel
theorem dJ0_indexOf_0f7a4_3 : decode cJ0_indexOf_0f7a4 3 = .ok (.invokevirtual 633, 3) := by decide +kernel
theorem dJ0_indexOf_0f7a4_6 : decode cJ0_indexOf_0f7a4 6 = .ok (.ireturn, 1) := by decide +kernel
set_option maxHeartbeats 4000000 in
set_option maxRecDepth 100000 in
theorem c_J0_coder_7d493 (l : Launch) (dC : Nat → ClassId) (dI : Nat → Nat → Nat) (de : Nat) (qs : Nat) (nn : Nat) (byt : List Int32) (sz : Nat) : Met l yJ0_coder_7d493 (.code yJ0_coder_7d493 cJ0_coder_7d493 1 (some .byte) :: wsL_law) { frames := 0, cells := 0, slots := 0, locals := 0 } (va_Pc [.ref qs] (PX (XQ nn byt qs) dC dI de [] [] sz)) (va_Qi (fun (r : Int32) (u : Unit) => r = 0) (fun (_ : Unit) (t : State) => QW dC dI [] [] (va_A [] sz) t) (va_A [] sz)) 0 0 (va_A [] sz) := by
  refine Met.ofW (cc := cJ0_coder_7d493) (maxL := 1) (ret := (some .byte)) (by decide) rfl ?_
  intro p e s m args below meth c s₁ B hml hv
  obtain ⟨rfl, ⟨hsz, hP, hK, hD0, hG⟩, hX0⟩ := hv
  have hx := B.exec
  have hb := B.bytes
  have hr := B.returns
  have hts := atoms_spec (ws := .code yJ0_coder_7d493 cJ0_coder_7d493 1 (some .byte) :: wsL_law) B.pre
  have ht : ∀ w ∈ wsL_law, w.before _ s = true := fun w h => hts w (List.mem_cons_of_mem _ h)
  have hown : s.vm.findClass RJ0 = some m.cls := findClass_of_methodNamed B.named
  have hlocks := B.notSynchronized
  subst hsz
  have hD := hD0.self (sz := s.heap.size)
  generalize hAe : va_A [] s.heap.size = A at hD hG hX0 ⊢
  have hA : ∀ q : Nat, s.heap.size ≤ q → A q := fun q h => by rw [← hAe]; exact Or.inr h
  have hS : va_S A s.heap s.heap [] := va_S.rf
  have hP : va_P (dC, dI) vwCl [] s.heap := hP
  have hD : va_D A [] := hD
  have hl := lv_entry ([.ref qs]) (n := 1) (Nat.le_of_ble_eq_true rfl)
  rw [lg_entry_eq]
  generalize (lg_sl ([.ref qs]) ++ List.replicate (1 - (lg_sl ([.ref qs])).length) Slot.unset).toArray = ls at hl ⊢
  have hl : lv_has ls 1 [(0, .ref qs)] := hl
  obtain ⟨sv, hO, hCo, hVa, hTv⟩ := id hX0
  refine va_gets hx hb hG.1.2.2.2.2.1 hS hown (ht _ (wr_10 _ (List.mem_of_getElem? (i := 20) rfl))) (fun _ h9 => h9) dJ0_coder_7d493_0 ?_
  refine lv_if_eq (tgt := 13) hx hb dJ0_coder_7d493_3 (by decide) (fun c_3 => absurd c_3 (by decide)) (fun c_3 => ?_)
  refine lv_aload_n hx hb dJ0_coder_7d493_6 rfl (lv_at hl 0 rfl) ?_
  refine vk_getf hx hb hCo hS hown (ht _ (wr_10 _ (List.mem_of_getElem? (i := 21) rfl))) (fun _ h9 => h9) dJ0_coder_7d493_7 ?_
  refine lv_goto (tgt := 14) hx hb dJ0_coder_7d493_10 (by decide) ?_
  exact W.zret (v := 0) hx hb hr (by decide) (fun t htt hW => have ht := htt; ⟨⟨0, (), rfl, rfl, QW_of ht hW hP hK hD⟩, hS.F ht⟩) hS.2.2 dJ0_coder_7d493_14
set_option maxHeartbeats 4000000 in
set_option maxRecDepth 100000 in
theorem c_J0_isLatin1_aae02 (l : Launch) (dC : Nat → ClassId) (dI : Nat → Nat → Nat) (de : Nat) (qs : Nat) (nn : Nat) (byt : List Int32) (sz : Nat) : Met l yJ0_isLatin1_aae02 (.code yJ0_isLatin1_aae02 cJ0_isLatin1_aae02 1 (some .boolean) :: wsL_law) { frames := 0, cells := 0, slots := 0, locals := 0 } (va_Pc [.ref qs] (PX (XQ nn byt qs) dC dI de [] [] sz)) (va_Qi (fun (r : Int32) (u : Unit) => r = 1) (fun (_ : Unit) (t : State) => QW dC dI [] [] (va_A [] sz) t) (va_A [] sz)) 0 0 (va_A [] sz) := by
  refine Met.ofW (cc := cJ0_isLatin1_aae02) (maxL := 1) (ret := (some .boolean)) (by decide) rfl ?_
  intro p e s m args below meth c s₁ B hml hv
  obtain ⟨rfl, ⟨hsz, hP, hK, hD0, hG⟩, hX0⟩ := hv
  have hx := B.exec
  have hb := B.bytes
  have hr := B.returns
  have hts := atoms_spec (ws := .code yJ0_isLatin1_aae02 cJ0_isLatin1_aae02 1 (some .boolean) :: wsL_law) B.pre
  have ht : ∀ w ∈ wsL_law, w.before _ s = true := fun w h => hts w (List.mem_cons_of_mem _ h)
  have hown : s.vm.findClass RJ0 = some m.cls := findClass_of_methodNamed B.named
  have hlocks := B.notSynchronized
  subst hsz
  have hD := hD0.self (sz := s.heap.size)
  generalize hAe : va_A [] s.heap.size = A at hD hG hX0 ⊢
  have hA : ∀ q : Nat, s.heap.size ≤ q → A q := fun q h => by rw [← hAe]; exact Or.inr h
  have hS : va_S A s.heap s.heap [] := va_S.rf
  have hP : va_P (dC, dI) vwCl [] s.heap := hP
  have hD : va_D A [] := hD
  have hl := lv_entry ([.ref qs]) (n := 1) (Nat.le_of_ble_eq_true rfl)
  rw [lg_entry_eq]
  generalize (lg_sl ([.ref qs]) ++ List.replicate (1 - (lg_sl ([.ref qs])).length) Slot.unset).toArray = ls at hl ⊢
  have hl : lv_has ls 1 [(0, .ref qs)] := hl
  obtain ⟨sv, hO, hCo, hVa, hTv⟩ := id hX0
  refine va_gets hx hb hG.1.2.2.2.2.1 hS hown (ht _ (wr_10 _ (List.mem_of_getElem? (i := 20) rfl))) (fun _ h9 => h9) dJ0_isLatin1_aae02_0 ?_
  refine lv_if_eq (tgt := 17) hx hb dJ0_isLatin1_aae02_3 (by decide) (fun c_3 => absurd c_3 (by decide)) (fun c_3 => ?_)
  refine lv_aload_n hx hb dJ0_isLatin1_aae02_6 rfl (lv_at hl 0 rfl) ?_
  refine vk_getf hx hb hCo hS hown (ht _ (wr_10 _ (List.mem_of_getElem? (i := 21) rfl))) (fun _ h9 => h9) dJ0_isLatin1_aae02_7 ?_
  refine lv_if_ne (tgt := 17) hx hb dJ0_isLatin1_aae02_10 (by decide) (fun c_10 => absurd c_10 (by decide)) (fun c_10 => ?_)
  refine lv_iconst (v := 1) hx hb dJ0_isLatin1_aae02_13 (by decide) ?_
  refine lv_goto (tgt := 18) hx hb dJ0_isLatin1_aae02_14 (by decide) ?_
  exact W.zret (v := 1) hx hb hr (by decide) (fun t htt hW => have ht := htt; ⟨⟨1, (), rfl, rfl, QW_of ht hW hP hK hD⟩, hS.F ht⟩) hS.2.2 dJ0_isLatin1_aae02_18
set_option maxHeartbeats 4000000 in
set_option maxRecDepth 100000 in
theorem c_J0_length_8abf5 (l : Launch) (dC : Nat → ClassId) (dI : Nat → Nat → Nat) (de : Nat) (qs : Nat) (nn : Nat) (byt : List Int32) (sz : Nat) : Met l yJ0_length_8abf5 (.code yJ0_length_8abf5 cJ0_length_8abf5 1 (some .int) :: wsL_law) { frames := 1, cells := 0, slots := 0, locals := 20 } (va_Pc [.ref qs] (PX (XQ nn byt qs) dC dI de [] [] sz)) (va_Qi (fun (r : Int32) (u : Unit) => r = nI nn) (fun (_ : Unit) (t : State) => QW dC dI [] [] (va_A [] sz) t) (va_A [] sz)) 0 0 (va_A [] sz) := by
  refine Met.ofW (cc := cJ0_length_8abf5) (maxL := 1) (ret := (some .int)) (by decide) rfl ?_
  intro p e s m args below meth c s₁ B hml hv
  obtain ⟨rfl, ⟨hsz, hP, hK, hD0, hG⟩, hX0⟩ := hv
  have hx := B.exec
  have hb := B.bytes
  have hr := B.returns
  have hts := atoms_spec (ws := .code yJ0_length_8abf5 cJ0_length_8abf5 1 (some .int) :: wsL_law) B.pre
  have ht : ∀ w ∈ wsL_law, w.before _ s = true := fun w h => hts w (List.mem_cons_of_mem _ h)
  have hown : s.vm.findClass RJ0 = some m.cls := findClass_of_methodNamed B.named
  have hlocks := B.notSynchronized
  subst hsz
  have hD := hD0.self (sz := s.heap.size)
  generalize hAe : va_A [] s.heap.size = A at hD hG hX0 ⊢
  have hA : ∀ q : Nat, s.heap.size ≤ q → A q := fun q h => by rw [← hAe]; exact Or.inr h
  have hS : va_S A s.heap s.heap [] := va_S.rf
  have hP : va_P (dC, dI) vwCl [] s.heap := hP
  have hD : va_D A [] := hD
  have hl := lv_entry ([.ref qs]) (n := 1) (Nat.le_of_ble_eq_true rfl)
  rw [lg_entry_eq]
  generalize (lg_sl ([.ref qs]) ++ List.replicate (1 - (lg_sl ([.ref qs])).length) Slot.unset).toArray = ls at hl ⊢
  have hl : lv_has ls 1 [(0, .ref qs)] := hl
  obtain ⟨sv, hO, hCo, hVa, hTv⟩ := id hX0
  refine lv_aload_n hx hb dJ0_length_8abf5_0 rfl (lv_at hl 0 rfl) ?_
  refine vk_getf hx hb hVa hS hown (ht _ (wr_10 _ (List.mem_of_getElem? (i := 15) rfl))) (fun _ h9 => h9) dJ0_length_8abf5_1 ?_
  refine va_tlen hx hb hTv hS (v := (nI nn)) rfl dJ0_length_8abf5_4 ?_
  refine lv_aload_n hx hb dJ0_length_8abf5_5 rfl (lv_at hl 0 rfl) ?_
  have hPc := hP.sub (ws' := []) [] rfl
  have hDc := hD.sub (ws' := []) [] (by decide) rfl
  have hKc := hK.sub (tys' := []) [] rfl
  have hFc := va_free (wc := []) hD hS hA [] rfl
  refine va_calli (va_runV (As := []) (rest := [.int (nI nn)]) ⟨hx, hb, hml, hown, ht⟩ (c_J0_coder_7d493 l dC dI de (qs) (nn) (byt) s.heap.size) (cwV 0 ht (gWV (wr_11 _ (List.mem_of_getElem? (i := 2) rfl)) (wr_11 _ (List.mem_of_getElem? (i := 3) rfl)) (wr_11 _ (List.mem_of_getElem? (i := 4) rfl)) (wr_10 _ (List.mem_of_getElem? (i := 9) rfl)) (wr_11 _ (List.mem_of_getElem? (i := 5) rfl))) rfl rfl rfl (by decide +kernel) ⟨Nat.le_of_ble_eq_true rfl, Nat.le_of_ble_eq_true rfl⟩) ⟨(PX_blind XQ_same), (va_Orecv hO hS), PX_call XQ_go hX0 hPc hDc hKc hS hG hFc⟩ rfl rfl hl.1 rfl (lv_room (Nat.le_of_ble_eq_true rfl)) dJ0_length_8abf5_6 ⟨Nat.le_of_ble_eq_true rfl, Nat.le_of_ble_eq_true rfl⟩) hS (fun q _ h => hFc q h) hFc (fun r_6 u t H1 locs ht9 hvm hw hB hz1 hk1 hS => ?_)
  obtain ⟨hP1, hK1, hD1⟩ := hB
  rw [ht9] at hP1
  have hK1 := va_K.moved hvm.symm hK1
  obtain ⟨hP, hD⟩ := va_join (wr := []) (w1 := []) hP hD [] [] rfl rfl (by decide) (by decide) hk1 hFc hP1 hD1
  have hK := (hK.sub (tys' := []) [] rfl).app hK1
  generalize H1 = H at hP hS ⊢
  replace hP : va_P (dC, dI) vwCl [] H := hP
  replace hD : va_D A [] := hD
  have hK : va_K (dC, dI) vwCl [] s := hK
  have e_6 : r_6 = 0 := hw
  subst e_6
  refine lv_ishr hx hb dJ0_length_8abf5_9 ?_
  refine lv_topi (fun y ey => ?_)
  replace ey : y = (nI nn) := ey.trans (sb_shr0 _)
  subst ey
  exact W.iret (v := (nI nn)) hx hb hr (fun t htt hW => have ht := htt; ⟨⟨(nI nn), (), rfl, rfl, QW_of ht hW hP hK hD⟩, hS.F ht⟩) hS.2.2 dJ0_length_8abf5_10
set_option maxHeartbeats 4000000 in
set_option maxRecDepth 100000 in
theorem c_J1_canEncode_9a6ad (l : Launch) (dC : Nat → ClassId) (dI : Nat → Nat → Nat) (de : Nat) (ch : Int32) (sz : Nat) : Met l yJ1_canEncode_9a6ad (.code yJ1_canEncode_9a6ad cJ1_canEncode_9a6ad 1 (some .boolean) :: wsL_law) { frames := 0, cells := 0, slots := 0, locals := 0 } (va_Pc [.int ch] (PW dC dI de [] [] sz)) (va_Qi (fun (r : Int32) (u : Unit) => (r = 1 ∧ ¬ ch < 0 ∧ ¬ 255 < ch) ∨ (r = 0 ∧ (ch < 0 ∨ 255 < ch))) (fun (_ : Unit) (t : State) => QW dC dI [] [] (va_A [] sz) t) (va_A [] sz)) 0 0 (va_A [] sz) := by
  refine Met.ofW (cc := cJ1_canEncode_9a6ad) (maxL := 1) (ret := (some .boolean)) (by decide) rfl ?_
  intro p e s m args below meth c s₁ B hml hv
  obtain ⟨rfl, hsz, hP, hK, hD0, hG⟩ := hv
  have hx := B.exec
  have hb := B.bytes
  have hr := B.returns
  have hts := atoms_spec (ws := .code yJ1_canEncode_9a6ad cJ1_canEncode_9a6ad 1 (some .boolean) :: wsL_law) B.pre
  have ht : ∀ w ∈ wsL_law, w.before _ s = true := fun w h => hts w (List.mem_cons_of_mem _ h)
  have hown : s.vm.findClass RJ1 = some m.cls := findClass_of_methodNamed B.named
  have hlocks := B.notSynchronized
  subst hsz
  have hD := hD0.self (sz := s.heap.size)
  generalize hAe : va_A [] s.heap.size = A at hD hG ⊢
  have hA : ∀ q : Nat, s.heap.size ≤ q → A q := fun q h => by rw [← hAe]; exact Or.inr h
  have hS : va_S A s.heap s.heap [] := va_S.rf
  have hP : va_P (dC, dI) vwCl [] s.heap := hP
  have hD : va_D A [] := hD
  have hl := lv_entry ([.int ch]) (n := 1) (Nat.le_of_ble_eq_true rfl)
  rw [lg_entry_eq]
  generalize (lg_sl ([.int ch]) ++ List.replicate (1 - (lg_sl ([.int ch])).length) Slot.unset).toArray = ls at hl ⊢
  have hl : lv_has ls 1 [(0, .int ch)] := hl
  refine lv_iload_n hx hb dJ1_canEncode_9a6ad_0 rfl (lv_at hl 0 rfl) ?_
  refine lv_if_lt (tgt := 15) hx hb dJ1_canEncode_9a6ad_1 (by decide) (fun c_1 => ?_) (fun c_1 => ?_)
  · refine lv_iconst (v := 0) hx hb dJ1_canEncode_9a6ad_15 (by decide) ?_
    exact W.zret (v := 0) hx hb hr (by decide) (fun t htt hW => have ht := htt; ⟨⟨0, (), rfl, (Or.inr ⟨rfl, Or.inl c_1⟩), QW_of ht hW hP hK hD⟩, hS.F ht⟩) hS.2.2 dJ1_canEncode_9a6ad_16
  · refine lv_iload_n hx hb dJ1_canEncode_9a6ad_4 rfl (lv_at hl 0 rfl) ?_
    refine lv_sipush (v := 255) hx hb dJ1_canEncode_9a6ad_5 (by decide) ?_
    refine lv_icmp_gt (tgt := 15) hx hb dJ1_canEncode_9a6ad_8 (by decide) (fun c_8 => ?_) (fun c_8 => ?_)
    · refine lv_iconst (v := 0) hx hb dJ1_canEncode_9a6ad_15 (by decide) ?_
      exact W.zret (v := 0) hx hb hr (by decide) (fun t htt hW => have ht := htt; ⟨⟨0, (), rfl, (Or.inr ⟨rfl, Or.inr c_8⟩), QW_of ht hW hP hK hD⟩, hS.F ht⟩) hS.2.2 dJ1_canEncode_9a6ad_16
    · refine lv_iconst (v := 1) hx hb dJ1_canEncode_9a6ad_11 (by decide) ?_
      refine lv_goto (tgt := 16) hx hb dJ1_canEncode_9a6ad_12 (by decide) ?_
      exact W.zret (v := 1) hx hb hr (by decide) (fun t htt hW => have ht := htt; ⟨⟨1, (), rfl, (Or.inl ⟨rfl, c_1, c_8⟩), QW_of ht hW hP hK hD⟩, hS.F ht⟩) hS.2.2 dJ1_canEncode_9a6ad_16
set_option maxHeartbeats 4000000 in
set_option maxRecDepth 100000 in
theorem c_J1_indexOfChar_4cfef (l : Launch) (dC : Nat → ClassId) (dI : Nat → Nat → Nat) (de : Nat) (sv : Nat) (nn : Nat) (byt : List Int32) (ch : Int32) (sz : Nat) (hc : ¬ ch < 0 ∧ ¬ 255 < ch) (hb1 : ∀ j, j < nn → ∃ m : Nat, m < 128 ∧ byt.getD j 0 = nI m) (hn1 : nn < 2 ^ 31) : Met l yJ1_indexOfChar_4cfef (.code yJ1_indexOfChar_4cfef cJ1_indexOfChar_4cfef 6 (some .int) :: wsL_law) { frames := 0, cells := 0, slots := 0, locals := 0 } (va_Pc [.ref sv, .int ch, .int 0, .int (nI nn)] (PX (XV nn byt sv) dC dI de [] [] sz)) (va_Qi (fun (r : Int32) (u : Unit) => SGr nn byt ch r) (fun (_ : Unit) (t : State) => QW dC dI [] [] (va_A [] sz) t) (va_A [] sz)) 0 0 (va_A [] sz) := by
  refine Met.ofW (cc := cJ1_indexOfChar_4cfef) (maxL := 6) (ret := (some .int)) (by decide) rfl ?_
  intro p e s m args below meth c s₁ B hml hv
  obtain ⟨rfl, ⟨hsz, hP, hK, hD0, hG⟩, hX0⟩ := hv
  have hx := B.exec
  have hb := B.bytes
  have hr := B.returns
  have hts := atoms_spec (ws := .code yJ1_indexOfChar_4cfef cJ1_indexOfChar_4cfef 6 (some .int) :: wsL_law) B.pre
  have ht : ∀ w ∈ wsL_law, w.before _ s = true := fun w h => hts w (List.mem_cons_of_mem _ h)
  have hown : s.vm.findClass RJ1 = some m.cls := findClass_of_methodNamed B.named
  have hlocks := B.notSynchronized
  subst hsz
  have hD := hD0.self (sz := s.heap.size)
  generalize hAe : va_A [] s.heap.size = A at hD hG hX0 ⊢
  have hA : ∀ q : Nat, s.heap.size ≤ q → A q := fun q h => by rw [← hAe]; exact Or.inr h
  have hS : va_S A s.heap s.heap [] := va_S.rf
  have hP : va_P (dC, dI) vwCl [] s.heap := hP
  have hD : va_D A [] := hD
  have hl := lv_entry ([.ref sv, .int ch, .int 0, .int (nI nn)]) (n := 6) (Nat.le_of_ble_eq_true rfl)
  rw [lg_entry_eq]
  generalize (lg_sl ([.ref sv, .int ch, .int 0, .int (nI nn)]) ++ List.replicate (6 - (lg_sl ([.ref sv, .int ch, .int 0, .int (nI nn)])).length) Slot.unset).toArray = ls at hl ⊢
  have hl : lv_has ls 6 [(0, .ref sv), (1, .int ch), (2, .int 0), (3, .int (nI nn))] := hl
  refine lv_iload_n hx hb dJ1_indexOfChar_4cfef_0 rfl (lv_at hl 1 rfl) ?_
  refine lv_i2b (v := (ch).toInt8.toInt32) hx hb dJ1_indexOfChar_4cfef_1 rfl ?_
  refine lv_istore (lv' := [(4, .int (ch).toInt8.toInt32), (0, .ref sv), (1, .int ch), (2, .int 0), (3, .int (nI nn))]) hx hb dJ1_indexOfChar_4cfef_2 hl (by decide) rfl (fun ls hl => ?_)
  refine lv_iload_n hx hb dJ1_indexOfChar_4cfef_4 rfl (lv_at hl 3 rfl) ?_
  refine lv_istore (lv' := [(5, .int 0), (4, .int (ch).toInt8.toInt32), (0, .ref sv), (1, .int ch), (2, .int 0), (3, .int (nI nn))]) hx hb dJ1_indexOfChar_4cfef_5 hl (by decide) rfl (fun ls hl => ?_)
  obtain ⟨n, i, hi0, hn⟩ : ∃ n i : Nat, i = 0 ∧ i + n = nn := ⟨nn, 0, rfl, Nat.zero_add _⟩
  replace hl : lv_has ls 6 [(5, .int (nI i)), (4, .int (ch).toInt8.toInt32), (0, .ref sv), (1, .int ch), (2, .int 0), (3, .int (nI nn))] := by rw [hi0]; exact hl
  have hinv : ∀ j, j < i → byt.getD j 0 ≠ ch := by rw [hi0]; exact (fun j hj => absurd hj (by omega))
  clear hi0
  induction n generalizing i ls with
  | zero =>
    refine lv_iload hx hb dJ1_indexOfChar_4cfef_7 (lv_at hl 0 rfl) ?_
    refine lv_iload_n hx hb dJ1_indexOfChar_4cfef_9 rfl (lv_at hl 5 rfl) ?_
    refine lv_icmp_ge (tgt := 31) hx hb dJ1_indexOfChar_4cfef_10 (by decide) (fun c_10 => ?_) (fun c_10 => absurd (nI_le (a := nn) (b := i) (by omega) (by omega)) c_10)
    refine lv_iconst (v := -1) hx hb dJ1_indexOfChar_4cfef_31 (by decide) ?_
    exact W.iret (v := (-1)) hx hb hr (fun t htt hW => have ht := htt; ⟨⟨(-1), (), rfl, (Or.inl ⟨by decide, fun h => by obtain ⟨j, hj, e⟩ := h; exact hinv j (by omega) e⟩), QW_of ht hW hP hK hD⟩, hS.F ht⟩) hS.2.2 dJ1_indexOfChar_4cfef_32
  | succ n ih =>
    refine lv_iload hx hb dJ1_indexOfChar_4cfef_7 (lv_at hl 0 rfl) ?_
    refine lv_iload_n hx hb dJ1_indexOfChar_4cfef_9 rfl (lv_at hl 5 rfl) ?_
    refine lv_icmp_ge (tgt := 31) hx hb dJ1_indexOfChar_4cfef_10 (by decide) (fun c_10 => absurd c_10 (nI_ge (a := i) (b := nn) (by omega) hn1)) (fun c_10 => ?_)
    refine lv_aload_n hx hb dJ1_indexOfChar_4cfef_13 rfl (lv_at hl 2 rfl) ?_
    refine lv_iload hx hb dJ1_indexOfChar_4cfef_14 (lv_at hl 0 rfl) ?_
    refine va_tb hx hb hX0 hS (vp_in_nI (n := i) (by omega) hn1) (v := .int (byt.getD i 0)) (congrArg (fun j => Value.int (byt.getD j 0)) (nI_clamp (show i < 2 ^ 31 by omega))) dJ1_indexOfChar_4cfef_16 ?_
    refine lv_iload hx hb dJ1_indexOfChar_4cfef_17 (lv_at hl 1 rfl) ?_
    refine lv_icmp_ne (tgt := 25) hx hb dJ1_indexOfChar_4cfef_19 (by decide) (fun c_19 => ?_) (fun c_19 => ?_)
    · obtain ⟨i_1, ei_1⟩ : ∃ y : Int32, y = (nI i) + 1 := ⟨_, rfl⟩
      refine lv_iinc (v := i_1) (lv' := [(5, .int i_1), (4, .int (ch).toInt8.toInt32), (0, .ref sv), (1, .int ch), (2, .int 0), (3, .int (nI nn))]) hx hb dJ1_indexOfChar_4cfef_25 hl (k := 0) rfl (by rw [ei_1]; rfl) (by decide) rfl (fun ls hl => ?_)
      refine lv_goto (tgt := 7) hx hb dJ1_indexOfChar_4cfef_28 (by decide) ?_
      have e9 : i_1 = nI (i + 1) := ei_1.trans (nI_1 i)
      subst e9
      exact ih (i := i + 1) (ls := ls) (hn := by omega) (hl := lv_sub hl [0, 1, 2, 3, 4, 5] rfl) (hinv := fun j hj => by rcases (show j < i ∨ j = i by omega) with h | rfl; exact hinv j h; exact fun e => c_19 ((sg_b hc (hb1 j (by omega))).mpr e))
    · refine lv_iload hx hb dJ1_indexOfChar_4cfef_22 (lv_at hl 0 rfl) ?_
      exact W.iret (v := (nI i)) hx hb hr (fun t htt hW => have ht := htt; ⟨⟨(nI i), (), rfl, (Or.inr ⟨nI_pos (by omega), i, by omega, (sg_b hc (hb1 i (by omega))).mp c_19⟩), QW_of ht hW hP hK hD⟩, hS.F ht⟩) hS.2.2 dJ1_indexOfChar_4cfef_24
set_option maxHeartbeats 4000000 in
set_option maxRecDepth 100000 in
theorem c_J1_indexOf_4cfef (l : Launch) (dC : Nat → ClassId) (dI : Nat → Nat → Nat) (de : Nat) (sv : Nat) (nn : Nat) (byt : List Int32) (ch : Int32) (sz : Nat) (hb1 : ∀ j, j < nn → ∃ m : Nat, m < 128 ∧ byt.getD j 0 = nI m) (hn1 : nn < 2 ^ 31) (hn0 : 0 < nn) : Met l yJ1_indexOf_4cfef (.code yJ1_indexOf_4cfef cJ1_indexOf_4cfef 4 (some .int) :: wsL_law) { frames := 1, cells := 0, slots := 0, locals := 40 } (va_Pc [.ref sv, .int ch, .int 0, .int (nI nn)] (PX (XV nn byt sv) dC dI de [] [] sz)) (va_Qi (fun (r : Int32) (u : Unit) => SGr nn byt ch r) (fun (_ : Unit) (t : State) => QW dC dI [] [] (va_A [] sz) t) (va_A [] sz)) 0 0 (va_A [] sz) := by
  refine Met.ofW (cc := cJ1_indexOf_4cfef) (maxL := 4) (ret := (some .int)) (by decide) rfl ?_
  intro p e s m args below meth c s₁ B hml hv
  obtain ⟨rfl, ⟨hsz, hP, hK, hD0, hG⟩, hX0⟩ := hv
  have hx := B.exec
  have hb := B.bytes
  have hr := B.returns
  have hts := atoms_spec (ws := .code yJ1_indexOf_4cfef cJ1_indexOf_4cfef 4 (some .int) :: wsL_law) B.pre
  have ht : ∀ w ∈ wsL_law, w.before _ s = true := fun w h => hts w (List.mem_cons_of_mem _ h)
  have hown : s.vm.findClass RJ1 = some m.cls := findClass_of_methodNamed B.named
  have hlocks := B.notSynchronized
  subst hsz
  have hD := hD0.self (sz := s.heap.size)
  generalize hAe : va_A [] s.heap.size = A at hD hG hX0 ⊢
  have hA : ∀ q : Nat, s.heap.size ≤ q → A q := fun q h => by rw [← hAe]; exact Or.inr h
  have hS : va_S A s.heap s.heap [] := va_S.rf
  have hP : va_P (dC, dI) vwCl [] s.heap := hP
  have hD : va_D A [] := hD
  have hl := lv_entry ([.ref sv, .int ch, .int 0, .int (nI nn)]) (n := 4) (Nat.le_of_ble_eq_true rfl)
  rw [lg_entry_eq]
  generalize (lg_sl ([.ref sv, .int ch, .int 0, .int (nI nn)]) ++ List.replicate (4 - (lg_sl ([.ref sv, .int ch, .int 0, .int (nI nn)])).length) Slot.unset).toArray = ls at hl ⊢
  have hl : lv_has ls 4 [(0, .ref sv), (1, .int ch), (2, .int 0), (3, .int (nI nn))] := hl
  refine lv_iload_n hx hb dJ1_indexOf_4cfef_0 rfl (lv_at hl 1 rfl) ?_
  have hPc := hP.sub (ws' := []) [] rfl
  have hDc := hD.sub (ws' := []) [] (by decide) rfl
  have hKc := hK.sub (tys' := []) [] rfl
  have hFc := va_free (wc := []) hD hS hA [] rfl
  refine va_calli (va_runS (As := [.int ch]) (rest := []) ⟨hx, hb, hml, hown, ht⟩ (c_J1_canEncode_9a6ad l dC dI de (ch) s.heap.size) (cwS 1 ht (gWS (wr_11 _ (List.mem_of_getElem? (i := 17) rfl)) (wr_11 _ (List.mem_of_getElem? (i := 18) rfl)) (wr_11 _ (List.mem_of_getElem? (i := 8) rfl)) (wr_11 _ (List.mem_of_getElem? (i := 19) rfl))) rfl rfl rfl (by decide +kernel) ⟨Nat.le_of_ble_eq_true rfl, Nat.le_of_ble_eq_true rfl⟩) ⟨PW_blind, PW_call hPc hDc hKc hS hG hFc⟩ rfl rfl hl.1 rfl (lv_room (Nat.le_of_ble_eq_true rfl)) dJ1_indexOf_4cfef_1 ⟨Nat.le_of_ble_eq_true rfl, Nat.le_of_ble_eq_true rfl⟩) hS (fun q _ h => hFc q h) hFc (fun r_1 u t H1 locs ht9 hvm hw hB hz1 hk1 hS => ?_)
  obtain ⟨hP1, hK1, hD1⟩ := hB
  rw [ht9] at hP1
  have hK1 := va_K.moved hvm.symm hK1
  obtain ⟨hP, hD⟩ := va_join (wr := []) (w1 := []) hP hD [] [] rfl rfl (by decide) (by decide) hk1 hFc hP1 hD1
  have hK := (hK.sub (tys' := []) [] rfl).app hK1
  generalize H1 = H at hP hS ⊢
  replace hP : va_P (dC, dI) vwCl [] H := hP
  replace hD : va_D A [] := hD
  have hK : va_K (dC, dI) vwCl [] s := hK
  rcases hw with ⟨rfl, m_1⟩ | ⟨rfl, m_1⟩
  · refine lv_if_ne (tgt := 9) hx hb dJ1_indexOf_4cfef_4 (by decide) (fun c_4 => ?_) (fun c_4 => absurd c_4 (by decide))
    refine lv_iload_n hx hb dJ1_indexOf_4cfef_9 rfl (lv_at hl 2 rfl) ?_
    refine lv_iconst (v := 0) hx hb dJ1_indexOf_4cfef_10 (by decide) ?_
    refine va_mmax hx hb (hml.trans hl.1.symm) hown (ht _ (wr_11 _ (List.mem_of_getElem? (i := 10) rfl))) (ht _ (wr_11 _ (List.mem_of_getElem? (i := 11) rfl))) (ht _ (wr_11 _ (List.mem_of_getElem? (i := 12) rfl))) (ht _ (wr_11 _ (List.mem_of_getElem? (i := 13) rfl))) (Nat.le_of_ble_eq_true rfl) (Nat.le_of_ble_eq_true rfl) (Nat.le_of_ble_eq_true rfl) (Nat.le_of_ble_eq_true rfl) dJ1_indexOf_4cfef_11 ?_
    refine W.eq (g2 := F0 m 14 ls [.int 0]) rfl ?_
    refine lv_istore_n (lv' := [(2, .int 0), (0, .ref sv), (1, .int ch), (3, .int (nI nn))]) hx hb dJ1_indexOf_4cfef_14 rfl hl (by decide) rfl (fun ls hl => ?_)
    refine lv_iload_n hx hb dJ1_indexOf_4cfef_15 rfl (lv_at hl 3 rfl) ?_
    refine lv_aload_n hx hb dJ1_indexOf_4cfef_16 rfl (lv_at hl 1 rfl) ?_
    refine va_tlen hx hb hX0 hS (v := (nI nn)) rfl dJ1_indexOf_4cfef_17 ?_
    refine va_mmin hx hb (hml.trans hl.1.symm) hown (ht _ (wr_11 _ (List.mem_of_getElem? (i := 14) rfl))) (ht _ (wr_11 _ (List.mem_of_getElem? (i := 15) rfl))) (ht _ (wr_11 _ (List.mem_of_getElem? (i := 12) rfl))) (ht _ (wr_11 _ (List.mem_of_getElem? (i := 16) rfl))) (Nat.le_of_ble_eq_true rfl) (Nat.le_of_ble_eq_true rfl) (Nat.le_of_ble_eq_true rfl) (Nat.le_of_ble_eq_true rfl) dJ1_indexOf_4cfef_18 ?_
    refine lv_topi (fun y ey => ?_)
    replace ey : y = (nI nn) := ey.trans (ite_self _)
    subst ey
    refine lv_istore_n (lv' := [(3, .int (nI nn)), (2, .int 0), (0, .ref sv), (1, .int ch)]) hx hb dJ1_indexOf_4cfef_21 rfl hl (by decide) rfl (fun ls hl => ?_)
    refine lv_iload_n hx hb dJ1_indexOf_4cfef_22 rfl (lv_at hl 1 rfl) ?_
    refine lv_iload_n hx hb dJ1_indexOf_4cfef_23 rfl (lv_at hl 0 rfl) ?_
    refine lv_icmp_lt (tgt := 29) hx hb dJ1_indexOf_4cfef_24 (by decide) (fun c_24 => ?_) (fun c_24 => absurd (show (0 : Int32) < nI nn from nI_lt (a := 0) hn0 hn1) c_24)
    refine lv_aload_n hx hb dJ1_indexOf_4cfef_29 rfl (lv_at hl 2 rfl) ?_
    refine lv_iload_n hx hb dJ1_indexOf_4cfef_30 rfl (lv_at hl 3 rfl) ?_
    refine lv_iload_n hx hb dJ1_indexOf_4cfef_31 rfl (lv_at hl 1 rfl) ?_
    refine lv_iload_n hx hb dJ1_indexOf_4cfef_32 rfl (lv_at hl 0 rfl) ?_
    have hPc := hP.sub (ws' := []) [] rfl
    have hDc := hD.sub (ws' := []) [] (by decide) rfl
    have hKc := hK.sub (tys' := []) [] rfl
    have hFc := va_free (wc := []) hD hS hA [] rfl
    refine va_calli (va_runS (As := [.ref sv, .int ch, .int 0, .int (nI nn)]) (rest := []) ⟨hx, hb, hml, hown, ht⟩ (c_J1_indexOfChar_4cfef l dC dI de (sv) (nn) (byt) (ch) H.size m_1 hb1 hn1) (cwS 4 ht (gWS (wr_11 _ (List.mem_of_getElem? (i := 20) rfl)) (wr_11 _ (List.mem_of_getElem? (i := 21) rfl)) (wr_11 _ (List.mem_of_getElem? (i := 8) rfl)) (wr_11 _ (List.mem_of_getElem? (i := 22) rfl))) rfl rfl rfl (by decide +kernel) ⟨Nat.le_of_ble_eq_true rfl, Nat.le_of_ble_eq_true rfl⟩) ⟨(PX_blind XV_same), PX_call XV_go hX0 hPc hDc hKc hS hG hFc⟩ rfl rfl hl.1 rfl (lv_room (Nat.le_of_ble_eq_true rfl)) dJ1_indexOf_4cfef_33 ⟨Nat.le_of_ble_eq_true rfl, Nat.le_of_ble_eq_true rfl⟩) hS (fun q _ h => hFc q h) hFc (fun r_33 u t H1 locs ht9 hvm hw hB hz1 hk1 hS => ?_)
    obtain ⟨hP1, hK1, hD1⟩ := hB
    rw [ht9] at hP1
    have hK1 := va_K.moved hvm.symm hK1
    obtain ⟨hP, hD⟩ := va_join (wr := []) (w1 := []) hP hD [] [] rfl rfl (by decide) (by decide) hk1 hFc hP1 hD1
    have hK := (hK.sub (tys' := []) [] rfl).app hK1
    generalize H1 = H at hP hS ⊢
    replace hP : va_P (dC, dI) vwCl [] H := hP
    replace hD : va_D A [] := hD
    have hK : va_K (dC, dI) vwCl [] s := hK
    have hw_33 := hw
    exact W.iret (v := r_33) hx hb hr (fun t htt hW => have ht := htt; ⟨⟨r_33, (), rfl, hw_33, QW_of ht hW hP hK hD⟩, hS.F ht⟩) hS.2.2 dJ1_indexOf_4cfef_36
  · refine lv_if_ne (tgt := 9) hx hb dJ1_indexOf_4cfef_4 (by decide) (fun c_4 => absurd c_4 (by decide)) (fun c_4 => ?_)
    refine lv_iconst (v := -1) hx hb dJ1_indexOf_4cfef_7 (by decide) ?_
    exact W.iret (v := (-1)) hx hb hr (fun t htt hW => have ht := htt; ⟨⟨(-1), (), rfl, (Or.inl ⟨by decide, sg_out hb1 m_1⟩), QW_of ht hW hP hK hD⟩, hS.F ht⟩) hS.2.2 dJ1_indexOf_4cfef_8
set_option maxHeartbeats 4000000 in
set_option maxRecDepth 100000 in
theorem c_J0_indexOf_7cf53 (l : Launch) (dC : Nat → ClassId) (dI : Nat → Nat → Nat) (de : Nat) (qs : Nat) (nn : Nat) (byt : List Int32) (ch : Int32) (sz : Nat) (hb1 : ∀ j, j < nn → ∃ m : Nat, m < 128 ∧ byt.getD j 0 = nI m) (hn1 : nn < 2 ^ 31) (hn0 : 0 < nn) : Met l yJ0_indexOf_7cf53 (.code yJ0_indexOf_7cf53 cJ0_indexOf_7cf53 3 (some .int) :: wsL_law) { frames := 2, cells := 0, slots := 0, locals := 63 } (va_Pc [.ref qs, .int ch, .int 0] (PX (XQ nn byt qs) dC dI de [] [] sz)) (va_Qi (fun (r : Int32) (u : Unit) => SGr nn byt ch r) (fun (_ : Unit) (t : State) => QW dC dI [] [] (va_A [] sz) t) (va_A [] sz)) 0 0 (va_A [] sz) := by
  refine Met.ofW (cc := cJ0_indexOf_7cf53) (maxL := 3) (ret := (some .int)) (by decide) rfl ?_
  intro p e s m args below meth c s₁ B hml hv
  obtain ⟨rfl, ⟨hsz, hP, hK, hD0, hG⟩, hX0⟩ := hv
  have hx := B.exec
  have hb := B.bytes
  have hr := B.returns
  have hts := atoms_spec (ws := .code yJ0_indexOf_7cf53 cJ0_indexOf_7cf53 3 (some .int) :: wsL_law) B.pre
  have ht : ∀ w ∈ wsL_law, w.before _ s = true := fun w h => hts w (List.mem_cons_of_mem _ h)
  have hown : s.vm.findClass RJ0 = some m.cls := findClass_of_methodNamed B.named
  have hlocks := B.notSynchronized
  subst hsz
  have hD := hD0.self (sz := s.heap.size)
  generalize hAe : va_A [] s.heap.size = A at hD hG hX0 ⊢
  have hA : ∀ q : Nat, s.heap.size ≤ q → A q := fun q h => by rw [← hAe]; exact Or.inr h
  have hS : va_S A s.heap s.heap [] := va_S.rf
  have hP : va_P (dC, dI) vwCl [] s.heap := hP
  have hD : va_D A [] := hD
  have hl := lv_entry ([.ref qs, .int ch, .int 0]) (n := 3) (Nat.le_of_ble_eq_true rfl)
  rw [lg_entry_eq]
  generalize (lg_sl ([.ref qs, .int ch, .int 0]) ++ List.replicate (3 - (lg_sl ([.ref qs, .int ch, .int 0])).length) Slot.unset).toArray = ls at hl ⊢
  have hl : lv_has ls 3 [(0, .ref qs), (1, .int ch), (2, .int 0)] := hl
  obtain ⟨sv, hO, hCo, hVa, hTv⟩ := id hX0
  refine lv_aload_n hx hb dJ0_indexOf_7cf53_0 rfl (lv_at hl 0 rfl) ?_
  have hPc := hP.sub (ws' := []) [] rfl
  have hDc := hD.sub (ws' := []) [] (by decide) rfl
  have hKc := hK.sub (tys' := []) [] rfl
  have hFc := va_free (wc := []) hD hS hA [] rfl
  refine va_calli (va_runV (As := []) (rest := []) ⟨hx, hb, hml, hown, ht⟩ (c_J0_isLatin1_aae02 l dC dI de (qs) (nn) (byt) s.heap.size) (cwV 0 ht (gWV (wr_10 _ (List.mem_of_getElem? (i := 16) rfl)) (wr_10 _ (List.mem_of_getElem? (i := 17) rfl)) (wr_10 _ (List.mem_of_getElem? (i := 18) rfl)) (wr_10 _ (List.mem_of_getElem? (i := 9) rfl)) (wr_10 _ (List.mem_of_getElem? (i := 19) rfl))) rfl rfl rfl (by decide +kernel) ⟨Nat.le_of_ble_eq_true rfl, Nat.le_of_ble_eq_true rfl⟩) ⟨(PX_blind XQ_same), (va_Orecv hO hS), PX_call XQ_go hX0 hPc hDc hKc hS hG hFc⟩ rfl rfl hl.1 rfl (lv_room (Nat.le_of_ble_eq_true rfl)) dJ0_indexOf_7cf53_1 ⟨Nat.le_of_ble_eq_true rfl, Nat.le_of_ble_eq_true rfl⟩) hS (fun q _ h => hFc q h) hFc (fun r_1 u t H1 locs ht9 hvm hw hB hz1 hk1 hS => ?_)
  obtain ⟨hP1, hK1, hD1⟩ := hB
  rw [ht9] at hP1
  have hK1 := va_K.moved hvm.symm hK1
  obtain ⟨hP, hD⟩ := va_join (wr := []) (w1 := []) hP hD [] [] rfl rfl (by decide) (by decide) hk1 hFc hP1 hD1
  have hK := (hK.sub (tys' := []) [] rfl).app hK1
  generalize H1 = H at hP hS ⊢
  replace hP : va_P (dC, dI) vwCl [] H := hP
  replace hD : va_D A [] := hD
  have hK : va_K (dC, dI) vwCl [] s := hK
  have e_1 : r_1 = 1 := hw
  subst e_1
  refine lv_if_eq (tgt := 23) hx hb dJ0_indexOf_7cf53_4 (by decide) (fun c_4 => absurd c_4 (by decide)) (fun c_4 => ?_)
  refine lv_aload_n hx hb dJ0_indexOf_7cf53_7 rfl (lv_at hl 0 rfl) ?_
  refine vk_getf hx hb hVa hS hown (ht _ (wr_10 _ (List.mem_of_getElem? (i := 15) rfl))) (fun _ h9 => h9) dJ0_indexOf_7cf53_8 ?_
  refine lv_iload_n hx hb dJ0_indexOf_7cf53_11 rfl (lv_at hl 1 rfl) ?_
  refine lv_iload_n hx hb dJ0_indexOf_7cf53_12 rfl (lv_at hl 2 rfl) ?_
  refine lv_aload_n hx hb dJ0_indexOf_7cf53_13 rfl (lv_at hl 0 rfl) ?_
  have hPc := hP.sub (ws' := []) [] rfl
  have hDc := hD.sub (ws' := []) [] (by decide) rfl
  have hKc := hK.sub (tys' := []) [] rfl
  have hFc := va_free (wc := []) hD hS hA [] rfl
  refine va_calli (va_runV (As := []) (rest := [.int 0, .int ch, .ref sv]) ⟨hx, hb, hml, hown, ht⟩ (c_J0_length_8abf5 l dC dI de (qs) (nn) (byt) H.size) (cwV 0 ht (gWV (wr_10 _ (List.mem_of_getElem? (i := 22) rfl)) (wr_10 _ (List.mem_of_getElem? (i := 23) rfl)) (wr_11 _ (List.mem_of_getElem? (i := 0) rfl)) (wr_10 _ (List.mem_of_getElem? (i := 9) rfl)) (wr_11 _ (List.mem_of_getElem? (i := 1) rfl))) rfl rfl rfl (by decide +kernel) ⟨Nat.le_of_ble_eq_true rfl, Nat.le_of_ble_eq_true rfl⟩) ⟨(PX_blind XQ_same), (va_Orecv hO hS), PX_call XQ_go hX0 hPc hDc hKc hS hG hFc⟩ rfl rfl hl.1 rfl (lv_room (Nat.le_of_ble_eq_true rfl)) dJ0_indexOf_7cf53_14 ⟨Nat.le_of_ble_eq_true rfl, Nat.le_of_ble_eq_true rfl⟩) hS (fun q _ h => hFc q h) hFc (fun r_14 u t H1 locs ht9 hvm hw hB hz1 hk1 hS => ?_)
  obtain ⟨hP1, hK1, hD1⟩ := hB
  rw [ht9] at hP1
  have hK1 := va_K.moved hvm.symm hK1
  obtain ⟨hP, hD⟩ := va_join (wr := []) (w1 := []) hP hD [] [] rfl rfl (by decide) (by decide) hk1 hFc hP1 hD1
  have hK := (hK.sub (tys' := []) [] rfl).app hK1
  generalize H1 = H at hP hS ⊢
  replace hP : va_P (dC, dI) vwCl [] H := hP
  replace hD : va_D A [] := hD
  have hK : va_K (dC, dI) vwCl [] s := hK
  have e_14 : r_14 = (nI nn) := hw
  subst e_14
  have hPc := hP.sub (ws' := []) [] rfl
  have hDc := hD.sub (ws' := []) [] (by decide) rfl
  have hKc := hK.sub (tys' := []) [] rfl
  have hFc := va_free (wc := []) hD hS hA [] rfl
  refine va_calli (va_runS (As := [.ref sv, .int ch, .int 0, .int (nI nn)]) (rest := []) ⟨hx, hb, hml, hown, ht⟩ (c_J1_indexOf_4cfef l dC dI de (sv) (nn) (byt) (ch) H.size hb1 hn1 hn0) (va_cwS 4 ht (gWS2 (wr_11 _ (List.mem_of_getElem? (i := 6) rfl)) (wr_11 _ (List.mem_of_getElem? (i := 7) rfl)) (wr_11 _ (List.mem_of_getElem? (i := 8) rfl)) (wr_11 _ (List.mem_of_getElem? (i := 9) rfl))) rfl rfl rfl (by decide +kernel) ⟨Nat.le_of_ble_eq_true rfl, Nat.le_of_ble_eq_true rfl⟩) ⟨(PX_blind XV_same), PX_call XV_go hTv hPc hDc hKc hS hG hFc⟩ rfl rfl hl.1 rfl (lv_room (Nat.le_of_ble_eq_true rfl)) dJ0_indexOf_7cf53_17 ⟨Nat.le_of_ble_eq_true rfl, Nat.le_of_ble_eq_true rfl⟩) hS (fun q _ h => hFc q h) hFc (fun r_17 u t H1 locs ht9 hvm hw hB hz1 hk1 hS => ?_)
  obtain ⟨hP1, hK1, hD1⟩ := hB
  rw [ht9] at hP1
  have hK1 := va_K.moved hvm.symm hK1
  obtain ⟨hP, hD⟩ := va_join (wr := []) (w1 := []) hP hD [] [] rfl rfl (by decide) (by decide) hk1 hFc hP1 hD1
  have hK := (hK.sub (tys' := []) [] rfl).app hK1
  generalize H1 = H at hP hS ⊢
  replace hP : va_P (dC, dI) vwCl [] H := hP
  replace hD : va_D A [] := hD
  have hK : va_K (dC, dI) vwCl [] s := hK
  have hw_17 := hw
  refine lv_goto (tgt := 36) hx hb dJ0_indexOf_7cf53_20 (by decide) ?_
  exact W.iret (v := r_17) hx hb hr (fun t htt hW => have ht := htt; ⟨⟨r_17, (), rfl, hw_17, QW_of ht hW hP hK hD⟩, hS.F ht⟩) hS.2.2 dJ0_indexOf_7cf53_36
set_option maxHeartbeats 4000000 in
set_option maxRecDepth 100000 in
theorem c_J0_indexOf_0f7a4 (l : Launch) (dC : Nat → ClassId) (dI : Nat → Nat → Nat) (de : Nat) (qs : Nat) (nn : Nat) (byt : List Int32) (ch : Int32) (sz : Nat) (hb1 : ∀ j, j < nn → ∃ m : Nat, m < 128 ∧ byt.getD j 0 = nI m) (hn1 : nn < 2 ^ 31) (hn0 : 0 < nn) : Met l yJ0_indexOf_0f7a4 (.code yJ0_indexOf_0f7a4 cJ0_indexOf_0f7a4 2 (some .int) :: wsL_law) { frames := 3, cells := 0, slots := 0, locals := 85 } (va_Pc [.ref qs, .int ch] (PX (XQ nn byt qs) dC dI de [] [] sz)) (va_Qi (fun (r : Int32) (u : Unit) => SGr nn byt ch r) (fun (_ : Unit) (t : State) => QW dC dI [] [] (va_A [] sz) t) (va_A [] sz)) 0 0 (va_A [] sz) := by
  refine Met.ofW (cc := cJ0_indexOf_0f7a4) (maxL := 2) (ret := (some .int)) (by decide) rfl ?_
  intro p e s m args below meth c s₁ B hml hv
  obtain ⟨rfl, ⟨hsz, hP, hK, hD0, hG⟩, hX0⟩ := hv
  have hx := B.exec
  have hb := B.bytes
  have hr := B.returns
  have hts := atoms_spec (ws := .code yJ0_indexOf_0f7a4 cJ0_indexOf_0f7a4 2 (some .int) :: wsL_law) B.pre
  have ht : ∀ w ∈ wsL_law, w.before _ s = true := fun w h => hts w (List.mem_cons_of_mem _ h)
  have hown : s.vm.findClass RJ0 = some m.cls := findClass_of_methodNamed B.named
  have hlocks := B.notSynchronized
  subst hsz
  have hD := hD0.self (sz := s.heap.size)
  generalize hAe : va_A [] s.heap.size = A at hD hG hX0 ⊢
  have hA : ∀ q : Nat, s.heap.size ≤ q → A q := fun q h => by rw [← hAe]; exact Or.inr h
  have hS : va_S A s.heap s.heap [] := va_S.rf
  have hP : va_P (dC, dI) vwCl [] s.heap := hP
  have hD : va_D A [] := hD
  have hl := lv_entry ([.ref qs, .int ch]) (n := 2) (Nat.le_of_ble_eq_true rfl)
  rw [lg_entry_eq]
  generalize (lg_sl ([.ref qs, .int ch]) ++ List.replicate (2 - (lg_sl ([.ref qs, .int ch])).length) Slot.unset).toArray = ls at hl ⊢
  have hl : lv_has ls 2 [(0, .ref qs), (1, .int ch)] := hl
  obtain ⟨sv, hO, hCo, hVa, hTv⟩ := id hX0
  refine lv_aload_n hx hb dJ0_indexOf_0f7a4_0 rfl (lv_at hl 0 rfl) ?_
  refine lv_iload_n hx hb dJ0_indexOf_0f7a4_1 rfl (lv_at hl 1 rfl) ?_
  refine lv_iconst (v := 0) hx hb dJ0_indexOf_0f7a4_2 (by decide) ?_
  have hPc := hP.sub (ws' := []) [] rfl
  have hDc := hD.sub (ws' := []) [] (by decide) rfl
  have hKc := hK.sub (tys' := []) [] rfl
  have hFc := va_free (wc := []) hD hS hA [] rfl
  refine va_calli (va_runV (As := [.int ch, .int 0]) (rest := []) ⟨hx, hb, hml, hown, ht⟩ (c_J0_indexOf_7cf53 l dC dI de (qs) (nn) (byt) (ch) s.heap.size hb1 hn1 hn0) (cwV 2 ht (gWV (wr_10 _ (List.mem_of_getElem? (i := 11) rfl)) (wr_10 _ (List.mem_of_getElem? (i := 12) rfl)) (wr_10 _ (List.mem_of_getElem? (i := 13) rfl)) (wr_10 _ (List.mem_of_getElem? (i := 9) rfl)) (wr_10 _ (List.mem_of_getElem? (i := 14) rfl))) rfl rfl rfl (by decide +kernel) ⟨Nat.le_of_ble_eq_true rfl, Nat.le_of_ble_eq_true rfl⟩) ⟨(PX_blind XQ_same), (va_Orecv hO hS), PX_call XQ_go hX0 hPc hDc hKc hS hG hFc⟩ rfl rfl hl.1 rfl (lv_room (Nat.le_of_ble_eq_true rfl)) dJ0_indexOf_0f7a4_3 ⟨Nat.le_of_ble_eq_true rfl, Nat.le_of_ble_eq_true rfl⟩) hS (fun q _ h => hFc q h) hFc (fun r_3 u t H1 locs ht9 hvm hw hB hz1 hk1 hS => ?_)
  obtain ⟨hP1, hK1, hD1⟩ := hB
  rw [ht9] at hP1
  have hK1 := va_K.moved hvm.symm hK1
  obtain ⟨hP, hD⟩ := va_join (wr := []) (w1 := []) hP hD [] [] rfl rfl (by decide) (by decide) hk1 hFc hP1 hD1
  have hK := (hK.sub (tys' := []) [] rfl).app hK1
  generalize H1 = H at hP hS ⊢
  replace hP : va_P (dC, dI) vwCl [] H := hP
  replace hD : va_D A [] := hD
  have hK : va_K (dC, dI) vwCl [] s := hK
  have hw_3 := hw
  exact W.iret (v := r_3) hx hb hr (fun t htt hW => have ht := htt; ⟨⟨r_3, (), rfl, hw_3, QW_of ht hW hP hK hD⟩, hS.F ht⟩) hS.2.2 dJ0_indexOf_0f7a4_6
