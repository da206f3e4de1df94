abbrev cJ13_bitCount : ByteArray := prog_9_method_50_code
def yJ13_bitCount : MethodName := ⟨RJ13, "bitCount", "(J)I"⟩
def wsJ13_bitCount : List Cond := .code yJ13_bitCount cJ13_bitCount 2 (some .int) :: ([.constantLong RJ13 314 6148914691236517205, .constantLong RJ13 316 3689348814741910323, .constantLong RJ13 318 1085102592571150095])
theorem dJ13_bitCount_0 : decode cJ13_bitCount 0 = .ok (.lload_n 0, 1) := by decide +kernel
theorem dJ13_bitCount_1 : decode cJ13_bitCount 1 = .ok (.lload_n 0, 1) := by decide +kernel
theorem dJ13_bitCount_2 : decode cJ13_bitCount 2 = .ok (.iconst 1, 1) := by decide +kernel
theorem dJ13_bitCount_3 : decode cJ13_bitCount 3 = .ok (.lushr, 1) := by decide +kernel
theorem dJ13_bitCount_4 : decode cJ13_bitCount 4 = .ok (.ldc2_w 314, 3) := by decide +kernel
theorem dJ13_bitCount_7 : decode cJ13_bitCount 7 = .ok (.land, 1) := by decide +kernel
theorem dJ13_bitCount_8 : decode cJ13_bitCount 8 = .ok (.lsub, 1) := by decide +kernel
theorem dJ13_bitCount_9 : decode cJ13_bitCount 9 = .ok (.lstore_n 0, 1) := by decide +kernel
theorem dJ13_bitCount_10 : decode cJ13_bitCount 10 = .ok (.lload_n 0, 1) := by decide +kernel
theorem dJ13_bitCount_11 : decode cJ13_bitCount 11 = .ok (.ldc2_w 316, 3) := by decide +kernel
theorem dJ13_bitCount_14 : decode cJ13_bitCount 14 = .ok (.land, 1) := by decide +kernel
theorem dJ13_bitCount_15 : decode cJ13_bitCount 15 = .ok (.lload_n 0, 1) := by decide +kernel
theorem dJ13_bitCount_16 : decode cJ13_bitCount 16 = .ok (.iconst 2, 1) := by decide +kernel
theorem dJ13_bitCount_17 : decode cJ13_bitCount 17 = .ok (.lushr, 1) := by decide +kernel
theorem dJ13_bitCount_18 : decode cJ13_bitCount 18 = .ok (.ldc2_w 316, 3) := by decide +kernel
theorem dJ13_bitCount_21 : decode cJ13_bitCount 21 = .ok (.land, 1) := by decide +kernel
theorem dJ13_bitCount_22 : decode cJ13_bitCount 22 = .ok (.ladd, 1) := by decide +kernel
theorem dJ13_bitCount_23 : decode cJ13_bitCount 23 = .ok (.lstore_n 0, 1) := by decide +kernel
theorem dJ13_bitCount_24 : decode cJ13_bitCount 24 = .ok (.lload_n 0, 1) := by decide +kernel
theorem dJ13_bitCount_25 : decode cJ13_bitCount 25 = .ok (.lload_n 0, 1) := by decide +kernel
theorem dJ13_bitCount_26 : decode cJ13_bitCount 26 = .ok (.iconst 4, 1) := by decide +kernel
theorem dJ13_bitCount_27 : decode cJ13_bitCount 27 = .ok (.lushr, 1) := by decide +kernel
theorem dJ13_bitCount_28 : decode cJ13_bitCount 28 = .ok (.ladd, 1) := by decide +kernel
theorem dJ13_bitCount_29 : decode cJ13_bitCount 29 = .ok (.ldc2_w 318, 3) := by decide +kernel
theorem dJ13_bitCount_32 : decode cJ13_bitCount 32 = .ok (.land, 1) := by decide +kernel
theorem dJ13_bitCount_33 : decode cJ13_bitCount 33 = .ok (.lstore_n 0, 1) := by decide +kernel
theorem dJ13_bitCount_34 : decode cJ13_bitCount 34 = .ok (.lload_n 0, 1) := by decide +kernel
theorem dJ13_bitCount_35 : decode cJ13_bitCount 35 = .ok (.lload_n 0, 1) := by decide +kernel
theorem dJ13_bitCount_36 : decode cJ13_bitCount 36 = .ok (.bipush 8, 2) := by decide +kernel
theorem dJ13_bitCount_38 : decode cJ13_bitCount 38 = .ok (.lushr, 1) := by decide +kernel
theorem dJ13_bitCount_39 : decode cJ13_bitCount 39 = .ok (.ladd, 1) := by decide +kernel
theorem dJ13_bitCount_40 : decode cJ13_bitCount 40 = .ok (.lstore_n 0, 1) := by decide +kernel
theorem dJ13_bitCount_41 : decode cJ13_bitCount 41 = .ok (.lload_n 0, 1) := by decide +kernel
theorem dJ13_bitCount_42 : decode cJ13_bitCount 42 = .ok (.lload_n 0, 1) := by decide +kernel
theorem dJ13_bitCount_43 : decode cJ13_bitCount 43 = .ok (.bipush 16, 2) := by decide +kernel
theorem dJ13_bitCount_45 : decode cJ13_bitCount 45 = .ok (.lushr, 1) := by decide +kernel
theorem dJ13_bitCount_46 : decode cJ13_bitCount 46 = .ok (.ladd, 1) := by decide +kernel
theorem dJ13_bitCount_47 : decode cJ13_bitCount 47 = .ok (.lstore_n 0, 1) := by decide +kernel
theorem dJ13_bitCount_48 : decode cJ13_bitCount 48 = .ok (.lload_n 0, 1) := by decide +kernel
theorem dJ13_bitCount_49 : decode cJ13_bitCount 49 = .ok (.lload_n 0, 1) := by decide +kernel
theorem dJ13_bitCount_50 : decode cJ13_bitCount 50 = .ok (.bipush 32, 2) := by decide +kernel
theorem dJ13_bitCount_52 : decode cJ13_bitCount 52 = .ok (.lushr, 1) := by decide +kernel
theorem dJ13_bitCount_53 : decode cJ13_bitCount 53 = .ok (.ladd, 1) := by decide +kernel
theorem dJ13_bitCount_54 : decode cJ13_bitCount 54 = .ok (.lstore_n 0, 1) := by decide +kernel
theorem dJ13_bitCount_55 : decode cJ13_bitCount 55 = .ok (.lload_n 0, 1) := by decide +kernel
theorem dJ13_bitCount_56 : decode cJ13_bitCount 56 = .ok (.l2i, 1) := by decide +kernel
theorem dJ13_bitCount_57 : decode cJ13_bitCount 57 = .ok (.bipush 127, 2) := by decide +kernel
theorem dJ13_bitCount_59 : decode cJ13_bitCount 59 = .ok (.iand, 1) := by decide +kernel
theorem dJ13_bitCount_60 : decode cJ13_bitCount 60 = .ok (.ireturn, 1) := by decide +kernel
abbrev cX2_handle : ByteArray := prog_1_method_13_code
def yX2_handle : MethodName := ⟨RX2, "handle", "(I)I"⟩
def wsX2_handle : List Cond := .code yX2_handle cX2_handle 2 (some .int) :: ([.fieldLink RX2 60 "BatchClasses" "latestRecord" "I", .fieldLink RX2 63 "BatchClasses" "latestDone" "Z", .fieldLink RX2 57 "BatchClasses" "doneBy" "[J", .methodLink RX2 86 yX2_isRecord, .instanceMethod yX2_isRecord, .selects RX2 yX2_isRecord yX2_isRecord, .initialized RX2, .code yX2_isRecord cX2_isRecord 2 (some .boolean), .fieldLink RX2 48 "BatchClasses" "records" "I", .classLink RX2 109 "java/lang/IllegalStateException", .initialized "java/lang/IllegalStateException", .methodLink RX2 114 yJ13_bitCount, .static yJ13_bitCount, .initialized RJ13, .code yJ13_bitCount cJ13_bitCount 2 (some .int), .constantLong RJ13 314 6148914691236517205, .constantLong RJ13 316 3689348814741910323, .constantLong RJ13 318 1085102592571150095] ++ wsX20 ++ (vx_atS RX2 113 "java/lang/IllegalStateException" ["java/lang/RuntimeException", "java/lang/Exception"]).filter goodWord)
theorem dX2_handle_0 : decode cX2_handle 0 = .ok (.aload_n 0, 1) := by decide +kernel
theorem dX2_handle_1 : decode cX2_handle 1 = .ok (.iload_n 1, 1) := by decide +kernel
theorem dX2_handle_2 : decode cX2_handle 2 = .ok (.invokevirtual 86, 3) := by decide +kernel
theorem dX2_handle_5 : decode cX2_handle 5 = .ok (.ifCond .eq 18, 3) := by decide +kernel
theorem dX2_handle_8 : decode cX2_handle 8 = .ok (.iload_n 1, 1) := by decide +kernel
theorem dX2_handle_9 : decode cX2_handle 9 = .ok (.aload_n 0, 1) := by decide +kernel
theorem dX2_handle_10 : decode cX2_handle 10 = .ok (.getfield 60, 3) := by decide +kernel
theorem dX2_handle_13 : decode cX2_handle 13 = .ok (.if_icmp .ne 10, 3) := by decide +kernel
theorem dX2_handle_16 : decode cX2_handle 16 = .ok (.aload_n 0, 1) := by decide +kernel
theorem dX2_handle_17 : decode cX2_handle 17 = .ok (.getfield 63, 3) := by decide +kernel
theorem dX2_handle_20 : decode cX2_handle 20 = .ok (.ifCond .ne 13, 3) := by decide +kernel
theorem dX2_handle_23 : decode cX2_handle 23 = .ok (.new 109, 3) := by decide +kernel
theorem dX2_handle_26 : decode cX2_handle 26 = .ok (.dup, 1) := by decide +kernel
theorem dX2_handle_27 : decode cX2_handle 27 = .ok (.ldc 111, 2) := by decide +kernel
theorem dX2_handle_29 : decode cX2_handle 29 = .ok (.invokespecial 113, 3) := by decide +kernel
theorem dX2_handle_32 : decode cX2_handle 32 = .ok (.athrow, 1) := by decide +kernel
theorem dX2_handle_33 : decode cX2_handle 33 = .ok (.aload_n 0, 1) := by decide +kernel
theorem dX2_handle_34 : decode cX2_handle 34 = .ok (.getfield 57, 3) := by decide +kernel
theorem dX2_handle_37 : decode cX2_handle 37 = .ok (.iload_n 1, 1) := by decide +kernel
theorem dX2_handle_38 : decode cX2_handle 38 = .ok (.iconst 1, 1) := by decide +kernel
theorem dX2_handle_39 : decode cX2_handle 39 = .ok (.isub, 1) := by decide +kernel
theorem dX2_handle_40 : decode cX2_handle 40 = .ok (.laload, 1) := by decide +kernel
theorem dX2_handle_41 : decode cX2_handle 41 = .ok (.invokestatic 114, 3) := by decide +kernel
theorem dX2_handle_44 : decode cX2_handle 44 = .ok (.ireturn, 1) := by decide +kernel
set_option maxRecDepth 20000 in
theorem ggX2_handle_X2_isRecord : GoodIn wsX2_handle wsX2_isRecord := goodIn_r _ [8, 9, 19, 20, 21, 22, 23, 24, 25, 26, 27, 28, 29, 30, 31, 32, 33, 34] (by decide +kernel) (by decide +kernel)
set_option maxRecDepth 20000 in
theorem gX2_handle_X2_isRecord : GoodIn wsX2_handle (wsV RX2 86 RX2 yX2_isRecord wsX2_isRecord) := goodIn_app (goodIn_of _ (by decide +kernel)) ggX2_handle_X2_isRecord
set_option maxRecDepth 20000 in
theorem ggX2_handle_J13_bitCount : GoodIn wsX2_handle wsJ13_bitCount := goodIn_r _ [15, 16, 17, 18] (by decide +kernel) (by decide +kernel)
set_option maxRecDepth 20000 in
theorem gX2_handle_J13_bitCount : GoodIn wsX2_handle (va_wsS RX2 114 yJ13_bitCount wsJ13_bitCount) := goodIn_app (goodIn_of _ (by decide +kernel)) ggX2_handle_J13_bitCount
abbrev cL_handle : ByteArray := method_4_code
def yL_handle : MethodName := ⟨RL, "handle", "(LBatchClasses;I[J)I"⟩
def wsL_handle : List Cond := .codeWith yL_handle cL_handle 4 (some .int) [(0, 9, 12, 19)] :: ([.classLink RL 19 "java/lang/IllegalStateException", .methodLink RL 15 yX2_handle, .instanceMethod yX2_handle, .selects RX2 yX2_handle yX2_handle, .initialized RX2, .code yX2_handle cX2_handle 2 (some .int), .fieldLink RX2 60 "BatchClasses" "latestRecord" "I", .fieldLink RX2 63 "BatchClasses" "latestDone" "Z", .fieldLink RX2 57 "BatchClasses" "doneBy" "[J", .methodLink RX2 86 yX2_isRecord, .instanceMethod yX2_isRecord, .selects RX2 yX2_isRecord yX2_isRecord, .code yX2_isRecord cX2_isRecord 2 (some .boolean), .fieldLink RX2 48 "BatchClasses" "records" "I", .classLink RX2 109 "java/lang/IllegalStateException", .initialized "java/lang/IllegalStateException", .methodLink RX2 114 yJ13_bitCount, .static yJ13_bitCount, .initialized RJ13, .code yJ13_bitCount cJ13_bitCount 2 (some .int), .constantLong RJ13 314 6148914691236517205, .constantLong RJ13 316 3689348814741910323, .constantLong RJ13 318 1085102592571150095] ++ wsX20 ++ (vx_atS RX2 113 "java/lang/IllegalStateException" ["java/lang/RuntimeException", "java/lang/Exception"]).filter goodWord)
theorem dL_handle_0 : decode cL_handle 0 = .ok (.aload_n 2, 1) := by decide +kernel
theorem dL_handle_1 : decode cL_handle 1 = .ok (.iconst 0, 1) := by decide +kernel
theorem dL_handle_2 : decode cL_handle 2 = .ok (.aload_n 0, 1) := by decide +kernel
theorem dL_handle_3 : decode cL_handle 3 = .ok (.iload_n 1, 1) := by decide +kernel
theorem dL_handle_4 : decode cL_handle 4 = .ok (.invokevirtual 15, 3) := by decide +kernel
theorem dL_handle_7 : decode cL_handle 7 = .ok (.i2l, 1) := by decide +kernel
theorem dL_handle_8 : decode cL_handle 8 = .ok (.lastore, 1) := by decide +kernel
theorem dL_handle_9 : decode cL_handle 9 = .ok (.goto 6, 3) := by decide +kernel
theorem dL_handle_12 : decode cL_handle 12 = .ok (.astore_n 3, 1) := by decide +kernel
theorem dL_handle_13 : decode cL_handle 13 = .ok (.iconst 1, 1) := by decide +kernel
theorem dL_handle_14 : decode cL_handle 14 = .ok (.ireturn, 1) := by decide +kernel
theorem dL_handle_15 : decode cL_handle 15 = .ok (.iconst 0, 1) := by decide +kernel
theorem dL_handle_16 : decode cL_handle 16 = .ok (.ireturn, 1) := by decide +kernel
set_option maxRecDepth 20000 in
theorem ggL_handle_X2_handle : GoodIn wsL_handle wsX2_handle := goodIn_ca (goodIn_r _ [6, 7, 8, 9, 10, 11, 12, 5, 13, 14, 15, 16, 17, 18, 19, 20, 21, 22, 23, 24, 25, 26, 27, 28, 29, 30, 31, 32, 33, 34, 35, 36, 37, 38, 39] (by decide +kernel) (by decide +kernel)) (goodIn_sub (fun _ h => List.mem_cons_of_mem _ (List.mem_append_right _ h)) (by decide +kernel))
set_option maxRecDepth 20000 in
theorem gL_handle_X2_handle : GoodIn wsL_handle (wsV RL 15 RX2 yX2_handle wsX2_handle) := goodIn_app (goodIn_of _ (by decide +kernel)) ggL_handle_X2_handle
def thW : List Cond := [.declares (Bundle.initS "java/lang/RuntimeException"), .declares (Bundle.initS "java/lang/Exception"), .declares (Bundle.initS Bundle.tN), .castable "java/lang/ArithmeticException" "java/lang/ArithmeticException", .castable "java/lang/IllegalStateException" "java/lang/IllegalStateException"]
theorem thW_ot : ∀ w ∈ thW, w.onTables = true := by decide +kernel
def thX (sa sb : Nat) (U : State) : Prop := (∀ w ∈ thW, va_Nw w U) ∧ vk_R RX2 97 "divided by 0" sa U ∧ vk_R RX2 111 "not the record that was run latest and done" sb U
theorem thX.warm {sa sb : Nat} {s U : State} (hW : s.WarmedH U.vm) (h : thX sa sb s) : thX sa sb U := by
  refine ⟨fun w hw => ?_, vk_R.warm hW h.2.1, vk_R.warm hW h.2.2⟩
  have h1 := h.1 w hw
  simp only [thW, List.mem_cons, List.not_mem_nil, or_false] at hw
  rcases hw with rfl | rfl | rfl | rfl | rfl
  · exact va_Nw.warmD hW h1
  · exact va_Nw.warmD hW h1
  · exact va_Nw.warmD hW h1
  · exact va_Nw.warmC hW h1
  · exact va_Nw.warmC hW h1
theorem thX.blind {sa sb : Nat} {U : State} {g : JFrame} {mk : MethodId} {a : Array Value} (h : thX sa sb U) : thX sa sb (U.calling g mk a) :=
  ⟨fun w hw => va_tabs (A := #[]) (u := U) (thW_ot w hw) rfl (h.1 w hw), vk_R.same (u := U) rfl h.2.1, vk_R.same (u := U) rfl h.2.2⟩
theorem thA_no : ∀ w ∈ (vx_atS RX2 99 "java/lang/ArithmeticException" ["java/lang/RuntimeException", "java/lang/Exception"]).filter (fun w => !goodWord w), w ∈ thW := by decide +kernel
theorem thI_no : ∀ w ∈ (vx_atS RX2 113 "java/lang/IllegalStateException" ["java/lang/RuntimeException", "java/lang/Exception"]).filter (fun w => !goodWord w), w ∈ thW := by decide +kernel
theorem thA_ot : ∀ w ∈ Cond.classLink RX2 95 "java/lang/ArithmeticException" :: Cond.initialized "java/lang/ArithmeticException" :: vx_atS RX2 99 "java/lang/ArithmeticException" ["java/lang/RuntimeException", "java/lang/Exception"], vx_ot w = true := by decide +kernel
theorem thI_ot : ∀ w ∈ Cond.classLink RX2 109 "java/lang/IllegalStateException" :: Cond.initialized "java/lang/IllegalStateException" :: vx_atS RX2 113 "java/lang/IllegalStateException" ["java/lang/RuntimeException", "java/lang/Exception"], vx_ot w = true := by decide +kernel
def pJ1 (x : Int64) : Int64 := x - ((x.toUInt64 >>> ((1 : Int32).toInt64.toUInt64 &&& Int64.toUInt64 63)).toInt64 &&& 6148914691236517205)
def pJ2 (x : Int64) : Int64 := (x &&& 3689348814741910323) + ((x.toUInt64 >>> ((2 : Int32).toInt64.toUInt64 &&& Int64.toUInt64 63)).toInt64 &&& 3689348814741910323)
def pJ3 (x : Int64) : Int64 := (x + (x.toUInt64 >>> ((4 : Int32).toInt64.toUInt64 &&& Int64.toUInt64 63)).toInt64) &&& 1085102592571150095
def pJ4 (x : Int64) : Int64 := x + (x.toUInt64 >>> ((8 : Int32).toInt64.toUInt64 &&& Int64.toUInt64 63)).toInt64
def pJ5 (x : Int64) : Int64 := x + (x.toUInt64 >>> ((16 : Int32).toInt64.toUInt64 &&& Int64.toUInt64 63)).toInt64
def pJ6 (x : Int64) : Int64 := x + (x.toUInt64 >>> ((32 : Int32).toInt64.toUInt64 &&& Int64.toUInt64 63)).toInt64
def pJ_bc (x : Int64) : Int32 :=
  (((pJ6 (pJ5 (pJ4 (pJ3 (pJ2 (pJ1 x)))))).toInt32) &&& 127)
set_option maxHeartbeats 4000000 in
set_option maxRecDepth 100000 in
theorem k_J13_bitCount (l : Launch) (dC : Nat → ClassId) (dI : Nat → Nat → Nat) (cI cZ cJ : ClassId) (sz : Nat) (x : Int64) : Met l yJ13_bitCount wsJ13_bitCount ({ frames := 0, cells := 0, slots := 0, locals := 0 }) (va_Pc [.long x] (fun U => U.heap.size = sz ∧ va_P (dC, dI) vwC2 [] U.heap ∧ va_K (dC, dI) vwC2 [(cI, .int), (cZ, .boolean), (cJ, .long)] U ∧ va_D (fun _ => True) [])) (va_Qi (fun (r : Int32) (_ : Unit) => r = pJ_bc x) (fun (_ : Unit) (t : State) => va_P (dC, dI) vwC2 [] t.heap ∧ va_K (dC, dI) vwC2 [(cI, .int), (cZ, .boolean), (cJ, .long)] t ∧ va_D (va_A [] sz) []) (va_A [] sz)) 0 0 (va_A [] sz) := by
  refine va_MetF (cc := cJ13_bitCount) (maxL := 2) (ret := (some .int)) (by decide) rfl ?_
  intro p e s m args below meth c s₁ B hml hv
  obtain ⟨rfl, hsz, hP, hK, hD0⟩ := hv
  have hx := B.exec
  have hb := B.bytes
  have hr := B.returns
  have hts := atoms_spec (ws := wsJ13_bitCount) B.pre
  have hown : s.vm.findClass RJ13 = some m.cls := findClass_of_methodNamed B.named
  have hlocks := B.notSynchronized
  subst hsz
  have hD := hD0.self (sz := s.heap.size)
  generalize hAe : va_A [] s.heap.size = A at hD ⊢
  have hA : ∀ q : Nat, s.heap.size ≤ q → A q := fun q h => by rw [← hAe]; exact Or.inr h
  have hS : va_S A s.heap s.heap [] := va_S.rf
  have hP : va_P (dC, dI) vwC2 [] s.heap := hP
  have hl := lv_entry ([.long x]) (n := 2) (Nat.le_of_ble_eq_true rfl)
  rw [lg_entry_eq]
  generalize (lg_sl ([.long x]) ++ List.replicate (2 - (lg_sl ([.long x])).length) Slot.unset).toArray = ls at hl ⊢
  have hl : lv_has ls 2 [(0, .long x)] := hl
  refine lv_lload_n hx hb dJ13_bitCount_0 rfl (lv_at hl 0 rfl) ?_
  refine lv_lload_n hx hb dJ13_bitCount_1 rfl (lv_at hl 0 rfl) ?_
  refine lv_iconst (v := 1) hx hb dJ13_bitCount_2 (by decide) ?_
  refine lv_lushr (v := ((x.toUInt64 >>> ((1 : Int32).toInt64.toUInt64 &&& Int64.toUInt64 63)).toInt64)) hx hb dJ13_bitCount_3 rfl ?_
  refine lv_ldc2 (v := 6148914691236517205) hx hb hown (hts (.constantLong RJ13 314 6148914691236517205) (by decide +kernel)) dJ13_bitCount_4 ?_
  refine lv_land hx hb dJ13_bitCount_7 ?_
  refine lv_lsub hx hb dJ13_bitCount_8 ?_
  refine lv_topl (fun z_9 ez_9 => ?_)
  obtain rfl : z_9 = pJ1 x := ez_9
  refine lv_lstore_n (lv' := [(0, .long (pJ1 x))]) hx hb dJ13_bitCount_9 rfl hl (by decide) rfl (fun ls hl => ?_)
  refine lv_lload_n hx hb dJ13_bitCount_10 rfl (lv_at hl 0 rfl) ?_
  refine lv_ldc2 (v := 3689348814741910323) hx hb hown (hts (.constantLong RJ13 316 3689348814741910323) (by decide +kernel)) dJ13_bitCount_11 ?_
  refine lv_land hx hb dJ13_bitCount_14 ?_
  refine lv_lload_n hx hb dJ13_bitCount_15 rfl (lv_at hl 0 rfl) ?_
  refine lv_iconst (v := 2) hx hb dJ13_bitCount_16 (by decide) ?_
  refine lv_lushr (v := (((pJ1 x).toUInt64 >>> ((2 : Int32).toInt64.toUInt64 &&& Int64.toUInt64 63)).toInt64)) hx hb dJ13_bitCount_17 rfl ?_
  refine lv_ldc2 (v := 3689348814741910323) hx hb hown (hts (.constantLong RJ13 316 3689348814741910323) (by decide +kernel)) dJ13_bitCount_18 ?_
  refine lv_land hx hb dJ13_bitCount_21 ?_
  refine lv_ladd hx hb dJ13_bitCount_22 ?_
  refine lv_topl (fun z_23 ez_23 => ?_)
  obtain rfl : z_23 = pJ2 (pJ1 x) := ez_23
  refine lv_lstore_n (lv' := [(0, .long (pJ2 (pJ1 x)))]) hx hb dJ13_bitCount_23 rfl hl (by decide) rfl (fun ls hl => ?_)
  refine lv_lload_n hx hb dJ13_bitCount_24 rfl (lv_at hl 0 rfl) ?_
  refine lv_lload_n hx hb dJ13_bitCount_25 rfl (lv_at hl 0 rfl) ?_
  refine lv_iconst (v := 4) hx hb dJ13_bitCount_26 (by decide) ?_
  refine lv_lushr (v := (((pJ2 (pJ1 x)).toUInt64 >>> ((4 : Int32).toInt64.toUInt64 &&& Int64.toUInt64 63)).toInt64)) hx hb dJ13_bitCount_27 rfl ?_
  refine lv_ladd hx hb dJ13_bitCount_28 ?_
  refine lv_ldc2 (v := 1085102592571150095) hx hb hown (hts (.constantLong RJ13 318 1085102592571150095) (by decide +kernel)) dJ13_bitCount_29 ?_
  refine lv_land hx hb dJ13_bitCount_32 ?_
  refine lv_topl (fun z_33 ez_33 => ?_)
  obtain rfl : z_33 = pJ3 (pJ2 (pJ1 x)) := ez_33
  refine lv_lstore_n (lv' := [(0, .long (pJ3 (pJ2 (pJ1 x))))]) hx hb dJ13_bitCount_33 rfl hl (by decide) rfl (fun ls hl => ?_)
  refine lv_lload_n hx hb dJ13_bitCount_34 rfl (lv_at hl 0 rfl) ?_
  refine lv_lload_n hx hb dJ13_bitCount_35 rfl (lv_at hl 0 rfl) ?_
  refine lv_bipush (v := 8) hx hb dJ13_bitCount_36 (by decide) ?_
  refine lv_lushr (v := (((pJ3 (pJ2 (pJ1 x))).toUInt64 >>> ((8 : Int32).toInt64.toUInt64 &&& Int64.toUInt64 63)).toInt64)) hx hb dJ13_bitCount_38 rfl ?_
  refine lv_ladd hx hb dJ13_bitCount_39 ?_
  refine lv_topl (fun z_40 ez_40 => ?_)
  obtain rfl : z_40 = pJ4 (pJ3 (pJ2 (pJ1 x))) := ez_40
  refine lv_lstore_n (lv' := [(0, .long (pJ4 (pJ3 (pJ2 (pJ1 x)))))]) hx hb dJ13_bitCount_40 rfl hl (by decide) rfl (fun ls hl => ?_)
  refine lv_lload_n hx hb dJ13_bitCount_41 rfl (lv_at hl 0 rfl) ?_
  refine lv_lload_n hx hb dJ13_bitCount_42 rfl (lv_at hl 0 rfl) ?_
  refine lv_bipush (v := 16) hx hb dJ13_bitCount_43 (by decide) ?_
  refine lv_lushr (v := (((pJ4 (pJ3 (pJ2 (pJ1 x)))).toUInt64 >>> ((16 : Int32).toInt64.toUInt64 &&& Int64.toUInt64 63)).toInt64)) hx hb dJ13_bitCount_45 rfl ?_
  refine lv_ladd hx hb dJ13_bitCount_46 ?_
  refine lv_topl (fun z_47 ez_47 => ?_)
  obtain rfl : z_47 = pJ5 (pJ4 (pJ3 (pJ2 (pJ1 x)))) := ez_47
  refine lv_lstore_n (lv' := [(0, .long (pJ5 (pJ4 (pJ3 (pJ2 (pJ1 x))))))]) hx hb dJ13_bitCount_47 rfl hl (by decide) rfl (fun ls hl => ?_)
  refine lv_lload_n hx hb dJ13_bitCount_48 rfl (lv_at hl 0 rfl) ?_
  refine lv_lload_n hx hb dJ13_bitCount_49 rfl (lv_at hl 0 rfl) ?_
  refine lv_bipush (v := 32) hx hb dJ13_bitCount_50 (by decide) ?_
  refine lv_lushr (v := (((pJ5 (pJ4 (pJ3 (pJ2 (pJ1 x))))).toUInt64 >>> ((32 : Int32).toInt64.toUInt64 &&& Int64.toUInt64 63)).toInt64)) hx hb dJ13_bitCount_52 rfl ?_
  refine lv_ladd hx hb dJ13_bitCount_53 ?_
  refine lv_topl (fun z_54 ez_54 => ?_)
  obtain rfl : z_54 = pJ6 (pJ5 (pJ4 (pJ3 (pJ2 (pJ1 x))))) := ez_54
  refine lv_lstore_n (lv' := [(0, .long (pJ6 (pJ5 (pJ4 (pJ3 (pJ2 (pJ1 x)))))))]) hx hb dJ13_bitCount_54 rfl hl (by decide) rfl (fun ls hl => ?_)
  refine lv_lload_n hx hb dJ13_bitCount_55 rfl (lv_at hl 0 rfl) ?_
  refine lv_l2i (v := (pJ6 (pJ5 (pJ4 (pJ3 (pJ2 (pJ1 x)))))).toInt32) hx hb dJ13_bitCount_56 rfl ?_
  refine lv_bipush (v := 127) hx hb dJ13_bitCount_57 (by decide) ?_
  refine lv_iand hx hb dJ13_bitCount_59 ?_
  exact W.iret (v := (((pJ6 (pJ5 (pJ4 (pJ3 (pJ2 (pJ1 x)))))).toInt32) &&& 127)) hx hb hr (fun t ht hW => ⟨⟨(((pJ6 (pJ5 (pJ4 (pJ3 (pJ2 (pJ1 x)))))).toInt32) &&& 127), (), rfl, by first | (simp only [pJ_bc]; done) | (simp only [pJ_bc]; rfl) | rfl, by rw [ht]; exact hP, va_K.moved hW.alike hK, hD⟩, hS.F ht⟩) hS.2.2 dJ13_bitCount_60
def pB_div (cl : Nat) (xo : Int32) (xa xb : Int64) : Int64 := if pB_isC cl xo = 0 then 0 else xa / xb
set_option maxHeartbeats 4000000 in
set_option maxRecDepth 100000 in
theorem k_X2_divide (l : Launch) (dC : Nat → ClassId) (dI : Nat → Nat → Nat) (cI cZ cJ : ClassId) (sz : Nat) (h0 h1 h2 a1 a2 a3 a4 a5 a6 a7 a8 sa sb : Nat) (N0 ty cl rc lr : (Nat)) (ld xo : Int32) (xa xb : Int64) (hlt : l.stackTraces = false) : vx_Met l yX2_divide wsX2_divide ({ frames := 6, cells := 1, slots := 6, locals := 82 }) (va_Pc [.ref h0, .int xo, .long xa, .long xb] (fun U => U.heap.size = sz ∧ va_P (dC, dI) vwC2 [(h0, .inr (2, [.int (nI N0), .ref h1, .ref h2, .int (nI ty), .ref a1, .ref a2, .int (nI cl), .ref a3, .ref a4, .ref a5, .int (nI rc), .ref a6, .ref a7, .ref a8, .int (nI lr), .int ld]))] U.heap ∧ va_K (dC, dI) vwC2 [(cI, .int), (cZ, .boolean), (cJ, .long)] U ∧ va_D (fun _ => True) [(h0, .inr (2, [.int (nI N0), .ref h1, .ref h2, .int (nI ty), .ref a1, .ref a2, .int (nI cl), .ref a3, .ref a4, .ref a5, .int (nI rc), .ref a6, .ref a7, .ref a8, .int (nI lr), .int ld]))] ∧ thX sa sb U ∧ vx_Zq Bundle.tN "UNASSIGNED_STACK" Bundle.steD (va_A [(h0, .inr (2, [.int (nI N0), .ref h1, .ref h2, .int (nI ty), .ref a1, .ref a2, .int (nI cl), .ref a3, .ref a4, .ref a5, .int (nI rc), .ref a6, .ref a7, .ref a8, .int (nI lr), .int ld]))] sz) U U.heap ∧ vx_Zq Bundle.tN "SUPPRESSED_SENTINEL" Bundle.listD (va_A [(h0, .inr (2, [.int (nI N0), .ref h1, .ref h2, .int (nI ty), .ref a1, .ref a2, .int (nI cl), .ref a3, .ref a4, .ref a5, .int (nI rc), .ref a6, .ref a7, .ref a8, .int (nI lr), .int ld]))] sz) U U.heap)) (va_Ql (fun (r : Int64) (_ : Unit) => r = pB_div cl xo xa xb ∧ (pB_isC cl xo = 0 ∨ ¬ xb = 0)) (fun (_ : Unit) (t : State) => va_P (dC, dI) vwC2 [(h0, .inr (2, [.int (nI N0), .ref h1, .ref h2, .int (nI ty), .ref a1, .ref a2, .int (nI cl), .ref a3, .ref a4, .ref a5, .int (nI rc), .ref a6, .ref a7, .ref a8, .int (nI lr), .int ld]))] t.heap ∧ va_K (dC, dI) vwC2 [(cI, .int), (cZ, .boolean), (cJ, .long)] t ∧ va_D (va_A [(h0, .inr (2, [.int (nI N0), .ref h1, .ref h2, .int (nI ty), .ref a1, .ref a2, .int (nI cl), .ref a3, .ref a4, .ref a5, .int (nI rc), .ref a6, .ref a7, .ref a8, .int (nI lr), .int ld]))] sz) [(h0, .inr (2, [.int (nI N0), .ref h1, .ref h2, .int (nI ty), .ref a1, .ref a2, .int (nI cl), .ref a3, .ref a4, .ref a5, .int (nI rc), .ref a6, .ref a7, .ref a8, .int (nI lr), .int ld]))]) (va_A [(h0, .inr (2, [.int (nI N0), .ref h1, .ref h2, .int (nI ty), .ref a1, .ref a2, .int (nI cl), .ref a3, .ref a4, .ref a5, .int (nI rc), .ref a6, .ref a7, .ref a8, .int (nI lr), .int ld]))] sz)) (vx_X (fun (_ : Unit) => ¬ pB_isC cl xo = 0 ∧ xb = 0) (fun (E : String) (_ : Unit) (t : State) => E = "java/lang/ArithmeticException" ∧ va_P (dC, dI) vwC2 [(h0, .inr (2, [.int (nI N0), .ref h1, .ref h2, .int (nI ty), .ref a1, .ref a2, .int (nI cl), .ref a3, .ref a4, .ref a5, .int (nI rc), .ref a6, .ref a7, .ref a8, .int (nI lr), .int ld]))] t.heap ∧ va_K (dC, dI) vwC2 [(cI, .int), (cZ, .boolean), (cJ, .long)] t ∧ va_D (va_A [(h0, .inr (2, [.int (nI N0), .ref h1, .ref h2, .int (nI ty), .ref a1, .ref a2, .int (nI cl), .ref a3, .ref a4, .ref a5, .int (nI rc), .ref a6, .ref a7, .ref a8, .int (nI lr), .int ld]))] sz) [(h0, .inr (2, [.int (nI N0), .ref h1, .ref h2, .int (nI ty), .ref a1, .ref a2, .int (nI cl), .ref a3, .ref a4, .ref a5, .int (nI rc), .ref a6, .ref a7, .ref a8, .int (nI lr), .int ld]))]) (va_A [(h0, .inr (2, [.int (nI N0), .ref h1, .ref h2, .int (nI ty), .ref a1, .ref a2, .int (nI cl), .ref a3, .ref a4, .ref a5, .int (nI rc), .ref a6, .ref a7, .ref a8, .int (nI lr), .int ld]))] sz)) 1 6 (va_A [(h0, .inr (2, [.int (nI N0), .ref h1, .ref h2, .int (nI ty), .ref a1, .ref a2, .int (nI cl), .ref a3, .ref a4, .ref a5, .int (nI rc), .ref a6, .ref a7, .ref a8, .int (nI lr), .int ld]))] sz) := by
  refine vx_ofW (cc := cX2_divide) (maxL := 6) (ret := (some .long)) (by decide) rfl ?_
  intro p e s m args below meth c s₁ B hml hnox hv
  obtain ⟨rfl, hsz, hP, hK, hD0, hT, hSU, hSV⟩ := hv
  have hx := B.exec
  have hb := B.bytes
  have hr := B.returns
  have hts := atoms_spec (ws := wsX2_divide) B.pre
  have hown : s.vm.findClass RX2 = some m.cls := findClass_of_methodNamed B.named
  have hlocks := B.notSynchronized
  subst hsz
  have hD := hD0.self (sz := s.heap.size)
  generalize hAe : va_A [(h0, .inr (2, [.int (nI N0), .ref h1, .ref h2, .int (nI ty), .ref a1, .ref a2, .int (nI cl), .ref a3, .ref a4, .ref a5, .int (nI rc), .ref a6, .ref a7, .ref a8, .int (nI lr), .int ld]))] s.heap.size = A at hD ⊢
  have hA : ∀ q : Nat, s.heap.size ≤ q → A q := fun q h => by rw [← hAe]; exact Or.inr h
  rw [hAe] at hSU
  rw [hAe] at hSV
  have hS : va_S A s.heap s.heap [] := va_S.rf
  have hP : va_P (dC, dI) vwC2 [(h0, .inr (2, [.int (nI N0), .ref h1, .ref h2, .int (nI ty), .ref a1, .ref a2, .int (nI cl), .ref a3, .ref a4, .ref a5, .int (nI rc), .ref a6, .ref a7, .ref a8, .int (nI lr), .int ld]))] s.heap := hP
  have hl := lv_entry ([.ref h0, .int xo, .long xa, .long xb]) (n := 6) (Nat.le_of_ble_eq_true rfl)
  rw [lg_entry_eq]
  generalize (lg_sl ([.ref h0, .int xo, .long xa, .long xb]) ++ List.replicate (6 - (lg_sl ([.ref h0, .int xo, .long xa, .long xb])).length) Slot.unset).toArray = ls at hl ⊢
  have hl : lv_has ls 6 [(0, .ref h0), (1, .int xo), (2, .long xa), (4, .long xb)] := hl
  refine lv_aload_n hx hb dX2_divide_0 rfl (lv_at hl 0 rfl) ?_
  refine lv_iload_n hx hb dX2_divide_1 rfl (lv_at hl 1 rfl) ?_
  have hPc := hP.sub (ws' := [(h0, .inr (2, [.int (nI N0), .ref h1, .ref h2, .int (nI ty), .ref a1, .ref a2, .int (nI cl), .ref a3, .ref a4, .ref a5, .int (nI rc), .ref a6, .ref a7, .ref a8, .int (nI lr), .int ld]))]) [0] rfl
  have hDc := hD.sub (ws' := [(h0, .inr (2, [.int (nI N0), .ref h1, .ref h2, .int (nI ty), .ref a1, .ref a2, .int (nI cl), .ref a3, .ref a4, .ref a5, .int (nI rc), .ref a6, .ref a7, .ref a8, .int (nI lr), .int ld]))]) [0] (by decide) rfl
  have hFc := va_free (wc := [(h0, .inr (2, [.int (nI N0), .ref h1, .ref h2, .int (nI ty), .ref a1, .ref a2, .int (nI cl), .ref a3, .ref a4, .ref a5, .int (nI rc), .ref a6, .ref a7, .ref a8, .int (nI lr), .int ld]))]) hD hS hA [0] rfl
  refine va_calli (va_runV (As := [.int xo]) (rest := []) ⟨hx, hb, hml, hown, hts⟩ (k_X2_isClass l dC dI cI cZ cJ s.heap.size h0 h1 h2 a1 a2 a3 a4 a5 a6 a7 a8 N0 ty cl rc lr ld xo) (cwV 1 hts gX2_divide_X2_isClass rfl rfl rfl (by decide +kernel) ⟨Nat.le_of_ble_eq_true rfl, Nat.le_of_ble_eq_true rfl⟩) ⟨fun a U g mk q => by obtain ⟨q0, q1, qP, qK, qD⟩ := q; exact ⟨q0, q1, qP, va_K.moved (u := U) (U := U.calling g mk a) (Vm.Alike.refl U.vm) qK, qD⟩, va_recv hK hPc (ci := 2) (q0 := 0) rfl rfl, fun U hU hW => ⟨rfl, by rw [hU], by rw [hU]; exact hPc, va_K.moved hW.alike hK, hDc.weaken (fun _ _ _ _ => trivial)⟩⟩ rfl rfl hl.1 rfl (lv_room (Nat.le_of_ble_eq_true rfl)) dX2_divide_2 ⟨Nat.le_of_ble_eq_true rfl, Nat.le_of_ble_eq_true rfl⟩) hS (fun q _ h => hFc q h) hFc (fun r_2 u t H1 locs ht hvm hw_2 hB hz1 hk1 hS => ?_)
  obtain ⟨hP1, hK1, hD1⟩ := hB
  rw [ht] at hP1
  try dsimp only at hw_2
  obtain ⟨hP, hD⟩ := va_join (wr := []) (w1 := [(h0, .inr (2, [.int (nI N0), .ref h1, .ref h2, .int (nI ty), .ref a1, .ref a2, .int (nI cl), .ref a3, .ref a4, .ref a5, .int (nI rc), .ref a6, .ref a7, .ref a8, .int (nI lr), .int ld]))]) hP hD [0] [] rfl rfl (by decide) (by decide) hk1 hFc hP1 hD1
  generalize H1 = H at hP hS ⊢
  have hP : va_P (dC, dI) vwC2 [(h0, .inr (2, [.int (nI N0), .ref h1, .ref h2, .int (nI ty), .ref a1, .ref a2, .int (nI cl), .ref a3, .ref a4, .ref a5, .int (nI rc), .ref a6, .ref a7, .ref a8, .int (nI lr), .int ld]))] H := hP.sub [0] rfl
  have hD : va_D A [(h0, .inr (2, [.int (nI N0), .ref h1, .ref h2, .int (nI ty), .ref a1, .ref a2, .int (nI cl), .ref a3, .ref a4, .ref a5, .int (nI rc), .ref a6, .ref a7, .ref a8, .int (nI lr), .int ld]))] := hD.sub [0] (by decide) rfl
  subst hw_2
  refine lv_if_ne (tgt := 10) hx hb dX2_divide_5 (by decide) (fun c_5 => ?_) (fun c_5 => ?_)
  · refine lv_lload hx hb dX2_divide_10 (lv_at hl 3 rfl) ?_
    refine lv_lconst (v := 0) hx hb dX2_divide_12 (by decide) ?_
    refine W.lcmp hx hb dX2_divide_13 ?_
    refine lv_if_ne (tgt := 27) hx hb dX2_divide_14 (by decide) (fun c_14 => ?_) (fun c_14 => ?_)
    · have c_14 : ¬ (xb = 0) := mt (lg_cmp_eq xb 0).mpr c_14
      refine lv_lload_n hx hb dX2_divide_27 rfl (lv_at hl 2 rfl) ?_
      refine lv_lload hx hb dX2_divide_28 (lv_at hl 3 rfl) ?_
      refine lv_ldiv hx hb dX2_divide_30 c_14 ?_
      refine W.widen (k := 1) (n := 6) (by omega) (by omega) ?_
      refine vx_ret ?_
      exact W.lret (v := (xa / xb)) hx hb hr (fun t ht hW => ⟨⟨(xa / xb), (), rfl, ⟨by rw [pB_div, if_neg c_5], Or.inr c_14⟩, by rw [ht]; exact hP, va_K.moved hW.alike hK, hD⟩, hS.F ht⟩) hS.2.2 dX2_divide_31
    · have c_14 : xb = 0 := (lg_cmp_eq xb 0).mp c_14
      exact vx_throwS (own := RX2) (cls := "java/lang/ArithmeticException") (text := "divided by 0") (names := ["java/lang/RuntimeException", "java/lang/Exception"]) (ik := 95) (is := 97) (ic := 99) (A := A) hx hb hlt hown (by decide +kernel) (by decide +kernel) (hts (.classLink RX2 95 "java/lang/ArithmeticException") (by decide +kernel)) (hts (.initialized "java/lang/ArithmeticException") (by decide +kernel)) hT.2.1 (vx_hat (L := vx_atS RX2 99 "java/lang/ArithmeticException" ["java/lang/RuntimeException", "java/lang/Exception"]) (B := thW) (fun w h => hts w (List.mem_cons_of_mem _ (List.mem_append_right _ h))) thA_no (fun w hw => va_Nw.use (thW_ot w hw) (hT.1 w hw))) thA_ot hSU hSV hS (hl.1.trans hml.symm) dX2_divide_17 dX2_divide_20 dX2_divide_21 dX2_divide_23 dX2_divide_26 (fun x h => (hnox x h).elim) (Nat.le_of_ble_eq_true rfl) (Nat.le_of_ble_eq_true rfl) (Nat.le_of_ble_eq_true rfl) (Nat.le_of_ble_eq_true rfl) hlocks (fun t hvm hz hk => ⟨(), ⟨c_5, c_14⟩, ⟨rfl, hP.kept (fun k q h => hk q.1 (hP k q h).lt), va_K.moved hvm hK, hD⟩, Nat.le_trans hS.1 hz, fun q h1 h2 => (hk q (Nat.lt_of_lt_of_le h1 hS.1)).trans (hS.2.1 q h1 h2)⟩) hS.2.2 (Nat.le_of_ble_eq_true rfl) (Nat.le_of_ble_eq_true rfl)
  · refine lv_lconst (v := 0) hx hb dX2_divide_8 (by decide) ?_
    refine W.widen (k := 1) (n := 6) (by omega) (by omega) ?_
    refine vx_ret ?_
    exact W.lret (v := 0) hx hb hr (fun t ht hW => ⟨⟨0, (), rfl, ⟨by rw [pB_div, if_pos c_5], Or.inl c_5⟩, by rw [ht]; exact hP, va_K.moved hW.alike hK, hD⟩, hS.F ht⟩) hS.2.2 dX2_divide_9
def pB_han (db : Nat → Int64) (lr : Nat) : Int32 := pJ_bc (db (lr - 1))
set_option maxHeartbeats 4000000 in
set_option maxRecDepth 100000 in
theorem k_X2_handle (l : Launch) (dC : Nat → ClassId) (dI : Nat → Nat → Nat) (cI cZ cJ : ClassId) (sz : Nat) (h0 h1 h2 a1 a2 a3 a4 a5 a6 a7 a8 sa sb : Nat) (N0 ty cl rc lr : (Nat)) (ld : Int32) (db : Nat → Int64) (xr : Int32) (hlr : lr ≤ rc) (hrc : rc ≤ 60) (hlt : l.stackTraces = false) : vx_Met l yX2_handle wsX2_handle ({ frames := 6, cells := 1, slots := 6, locals := 82 }) (va_Pc [.ref h0, .int xr] (fun U => U.heap.size = sz ∧ va_P (dC, dI) vwC2 [(h0, .inr (2, [.int (nI N0), .ref h1, .ref h2, .int (nI ty), .ref a1, .ref a2, .int (nI cl), .ref a3, .ref a4, .ref a5, .int (nI rc), .ref a6, .ref a7, .ref a8, .int (nI lr), .int ld])), (a8, .inl (cJ, 60, .inr (.inl db)))] U.heap ∧ va_K (dC, dI) vwC2 [(cI, .int), (cZ, .boolean), (cJ, .long)] U ∧ va_D (fun _ => True) [(h0, .inr (2, [.int (nI N0), .ref h1, .ref h2, .int (nI ty), .ref a1, .ref a2, .int (nI cl), .ref a3, .ref a4, .ref a5, .int (nI rc), .ref a6, .ref a7, .ref a8, .int (nI lr), .int ld])), (a8, .inl (cJ, 60, .inr (.inl db)))] ∧ thX sa sb U ∧ vx_Zq Bundle.tN "UNASSIGNED_STACK" Bundle.steD (va_A [(h0, .inr (2, [.int (nI N0), .ref h1, .ref h2, .int (nI ty), .ref a1, .ref a2, .int (nI cl), .ref a3, .ref a4, .ref a5, .int (nI rc), .ref a6, .ref a7, .ref a8, .int (nI lr), .int ld])), (a8, .inl (cJ, 60, .inr (.inl db)))] sz) U U.heap ∧ vx_Zq Bundle.tN "SUPPRESSED_SENTINEL" Bundle.listD (va_A [(h0, .inr (2, [.int (nI N0), .ref h1, .ref h2, .int (nI ty), .ref a1, .ref a2, .int (nI cl), .ref a3, .ref a4, .ref a5, .int (nI rc), .ref a6, .ref a7, .ref a8, .int (nI lr), .int ld])), (a8, .inl (cJ, 60, .inr (.inl db)))] sz) U U.heap)) (va_Qi (fun (r : Int32) (_ : Unit) => r = pB_han db lr ∧ ¬ (pB_isR rc xr = 0 ∨ ¬ xr = nI lr ∨ ld = 0)) (fun (_ : Unit) (t : State) => va_P (dC, dI) vwC2 [(h0, .inr (2, [.int (nI N0), .ref h1, .ref h2, .int (nI ty), .ref a1, .ref a2, .int (nI cl), .ref a3, .ref a4, .ref a5, .int (nI rc), .ref a6, .ref a7, .ref a8, .int (nI lr), .int ld])), (a8, .inl (cJ, 60, .inr (.inl db)))] t.heap ∧ va_K (dC, dI) vwC2 [(cI, .int), (cZ, .boolean), (cJ, .long)] t ∧ va_D (va_A [(h0, .inr (2, [.int (nI N0), .ref h1, .ref h2, .int (nI ty), .ref a1, .ref a2, .int (nI cl), .ref a3, .ref a4, .ref a5, .int (nI rc), .ref a6, .ref a7, .ref a8, .int (nI lr), .int ld])), (a8, .inl (cJ, 60, .inr (.inl db)))] sz) [(h0, .inr (2, [.int (nI N0), .ref h1, .ref h2, .int (nI ty), .ref a1, .ref a2, .int (nI cl), .ref a3, .ref a4, .ref a5, .int (nI rc), .ref a6, .ref a7, .ref a8, .int (nI lr), .int ld])), (a8, .inl (cJ, 60, .inr (.inl db)))]) (va_A [(h0, .inr (2, [.int (nI N0), .ref h1, .ref h2, .int (nI ty), .ref a1, .ref a2, .int (nI cl), .ref a3, .ref a4, .ref a5, .int (nI rc), .ref a6, .ref a7, .ref a8, .int (nI lr), .int ld])), (a8, .inl (cJ, 60, .inr (.inl db)))] sz)) (vx_X (fun (_ : Unit) => pB_isR rc xr = 0 ∨ ¬ xr = nI lr ∨ ld = 0) (fun (E : String) (_ : Unit) (t : State) => E = "java/lang/IllegalStateException" ∧ va_P (dC, dI) vwC2 [(h0, .inr (2, [.int (nI N0), .ref h1, .ref h2, .int (nI ty), .ref a1, .ref a2, .int (nI cl), .ref a3, .ref a4, .ref a5, .int (nI rc), .ref a6, .ref a7, .ref a8, .int (nI lr), .int ld])), (a8, .inl (cJ, 60, .inr (.inl db)))] t.heap ∧ va_K (dC, dI) vwC2 [(cI, .int), (cZ, .boolean), (cJ, .long)] t ∧ va_D (va_A [(h0, .inr (2, [.int (nI N0), .ref h1, .ref h2, .int (nI ty), .ref a1, .ref a2, .int (nI cl), .ref a3, .ref a4, .ref a5, .int (nI rc), .ref a6, .ref a7, .ref a8, .int (nI lr), .int ld])), (a8, .inl (cJ, 60, .inr (.inl db)))] sz) [(h0, .inr (2, [.int (nI N0), .ref h1, .ref h2, .int (nI ty), .ref a1, .ref a2, .int (nI cl), .ref a3, .ref a4, .ref a5, .int (nI rc), .ref a6, .ref a7, .ref a8, .int (nI lr), .int ld])), (a8, .inl (cJ, 60, .inr (.inl db)))]) (va_A [(h0, .inr (2, [.int (nI N0), .ref h1, .ref h2, .int (nI ty), .ref a1, .ref a2, .int (nI cl), .ref a3, .ref a4, .ref a5, .int (nI rc), .ref a6, .ref a7, .ref a8, .int (nI lr), .int ld])), (a8, .inl (cJ, 60, .inr (.inl db)))] sz)) 1 6 (va_A [(h0, .inr (2, [.int (nI N0), .ref h1, .ref h2, .int (nI ty), .ref a1, .ref a2, .int (nI cl), .ref a3, .ref a4, .ref a5, .int (nI rc), .ref a6, .ref a7, .ref a8, .int (nI lr), .int ld])), (a8, .inl (cJ, 60, .inr (.inl db)))] sz) := by
  refine vx_ofW (cc := cX2_handle) (maxL := 2) (ret := (some .int)) (by decide) rfl ?_
  intro p e s m args below meth c s₁ B hml hnox hv
  obtain ⟨rfl, hsz, hP, hK, hD0, hT, hSU, hSV⟩ := hv
  have hx := B.exec
  have hb := B.bytes
  have hr := B.returns
  have hts := atoms_spec (ws := wsX2_handle) B.pre
  have hown : s.vm.findClass RX2 = some m.cls := findClass_of_methodNamed B.named
  have hlocks := B.notSynchronized
  subst hsz
  have hD := hD0.self (sz := s.heap.size)
  generalize hAe : va_A [(h0, .inr (2, [.int (nI N0), .ref h1, .ref h2, .int (nI ty), .ref a1, .ref a2, .int (nI cl), .ref a3, .ref a4, .ref a5, .int (nI rc), .ref a6, .ref a7, .ref a8, .int (nI lr), .int ld])), (a8, .inl (cJ, 60, .inr (.inl db)))] s.heap.size = A at hD ⊢
  have hA : ∀ q : Nat, s.heap.size ≤ q → A q := fun q h => by rw [← hAe]; exact Or.inr h
  rw [hAe] at hSU
  rw [hAe] at hSV
  have hS : va_S A s.heap s.heap [] := va_S.rf
  have hP : va_P (dC, dI) vwC2 [(h0, .inr (2, [.int (nI N0), .ref h1, .ref h2, .int (nI ty), .ref a1, .ref a2, .int (nI cl), .ref a3, .ref a4, .ref a5, .int (nI rc), .ref a6, .ref a7, .ref a8, .int (nI lr), .int ld])), (a8, .inl (cJ, 60, .inr (.inl db)))] s.heap := hP
  have hl := lv_entry ([.ref h0, .int xr]) (n := 2) (Nat.le_of_ble_eq_true rfl)
  rw [lg_entry_eq]
  generalize (lg_sl ([.ref h0, .int xr]) ++ List.replicate (2 - (lg_sl ([.ref h0, .int xr])).length) Slot.unset).toArray = ls at hl ⊢
  have hl : lv_has ls 2 [(0, .ref h0), (1, .int xr)] := hl
  refine lv_aload_n hx hb dX2_handle_0 rfl (lv_at hl 0 rfl) ?_
  refine lv_iload_n hx hb dX2_handle_1 rfl (lv_at hl 1 rfl) ?_
  have hPc := hP.sub (ws' := [(h0, .inr (2, [.int (nI N0), .ref h1, .ref h2, .int (nI ty), .ref a1, .ref a2, .int (nI cl), .ref a3, .ref a4, .ref a5, .int (nI rc), .ref a6, .ref a7, .ref a8, .int (nI lr), .int ld]))]) [0] rfl
  have hDc := hD.sub (ws' := [(h0, .inr (2, [.int (nI N0), .ref h1, .ref h2, .int (nI ty), .ref a1, .ref a2, .int (nI cl), .ref a3, .ref a4, .ref a5, .int (nI rc), .ref a6, .ref a7, .ref a8, .int (nI lr), .int ld]))]) [0] (by decide) rfl
  have hFc := va_free (wc := [(h0, .inr (2, [.int (nI N0), .ref h1, .ref h2, .int (nI ty), .ref a1, .ref a2, .int (nI cl), .ref a3, .ref a4, .ref a5, .int (nI rc), .ref a6, .ref a7, .ref a8, .int (nI lr), .int ld]))]) hD hS hA [0] rfl
  refine va_calli (va_runV (As := [.int xr]) (rest := []) ⟨hx, hb, hml, hown, hts⟩ (k_X2_isRecord l dC dI cI cZ cJ s.heap.size h0 h1 h2 a1 a2 a3 a4 a5 a6 a7 a8 N0 ty cl rc lr ld xr) (cwV 1 hts gX2_handle_X2_isRecord rfl rfl rfl (by decide +kernel) ⟨Nat.le_of_ble_eq_true rfl, Nat.le_of_ble_eq_true rfl⟩) ⟨fun a U g mk q => by obtain ⟨q0, q1, qP, qK, qD⟩ := q; exact ⟨q0, q1, qP, va_K.moved (u := U) (U := U.calling g mk a) (Vm.Alike.refl U.vm) qK, qD⟩, va_recv hK hPc (ci := 2) (q0 := 0) rfl rfl, fun U hU hW => ⟨rfl, by rw [hU], by rw [hU]; exact hPc, va_K.moved hW.alike hK, hDc.weaken (fun _ _ _ _ => trivial)⟩⟩ rfl rfl hl.1 rfl (lv_room (Nat.le_of_ble_eq_true rfl)) dX2_handle_2 ⟨Nat.le_of_ble_eq_true rfl, Nat.le_of_ble_eq_true rfl⟩) hS (fun q _ h => hFc q h) hFc (fun r_2 u t H1 locs ht hvm hw_2 hB hz1 hk1 hS => ?_)
  obtain ⟨hP1, hK1, hD1⟩ := hB
  rw [ht] at hP1
  try dsimp only at hw_2
  obtain ⟨hP, hD⟩ := va_join (wr := [(a8, .inl (cJ, 60, .inr (.inl db)))]) (w1 := [(h0, .inr (2, [.int (nI N0), .ref h1, .ref h2, .int (nI ty), .ref a1, .ref a2, .int (nI cl), .ref a3, .ref a4, .ref a5, .int (nI rc), .ref a6, .ref a7, .ref a8, .int (nI lr), .int ld]))]) hP hD [0] [1] rfl rfl (by decide) (by decide) hk1 hFc hP1 hD1
  generalize H1 = H at hP hS ⊢
  have hP : va_P (dC, dI) vwC2 [(h0, .inr (2, [.int (nI N0), .ref h1, .ref h2, .int (nI ty), .ref a1, .ref a2, .int (nI cl), .ref a3, .ref a4, .ref a5, .int (nI rc), .ref a6, .ref a7, .ref a8, .int (nI lr), .int ld])), (a8, .inl (cJ, 60, .inr (.inl db)))] H := hP.sub [1, 0] rfl
  have hD : va_D A [(h0, .inr (2, [.int (nI N0), .ref h1, .ref h2, .int (nI ty), .ref a1, .ref a2, .int (nI cl), .ref a3, .ref a4, .ref a5, .int (nI rc), .ref a6, .ref a7, .ref a8, .int (nI lr), .int ld])), (a8, .inl (cJ, 60, .inr (.inl db)))] := hD.sub [1, 0] (by decide) rfl
  subst hw_2
  refine lv_if_eq (tgt := 23) hx hb dX2_handle_5 (by decide) (fun c_5 => ?_) (fun c_5 => ?_)
  · exact vx_throwS (own := RX2) (cls := "java/lang/IllegalStateException") (text := "not the record that was run latest and done") (names := ["java/lang/RuntimeException", "java/lang/Exception"]) (ik := 109) (is := 111) (ic := 113) (A := A) hx hb hlt hown (by decide +kernel) (by decide +kernel) (hts (.classLink RX2 109 "java/lang/IllegalStateException") (by decide +kernel)) (hts (.initialized "java/lang/IllegalStateException") (by decide +kernel)) hT.2.2 (vx_hat (L := vx_atS RX2 113 "java/lang/IllegalStateException" ["java/lang/RuntimeException", "java/lang/Exception"]) (B := thW) (fun w h => hts w (List.mem_cons_of_mem _ (List.mem_append_right _ h))) thI_no (fun w hw => va_Nw.use (thW_ot w hw) (hT.1 w hw))) thI_ot hSU hSV hS (hl.1.trans hml.symm) dX2_handle_23 dX2_handle_26 dX2_handle_27 dX2_handle_29 dX2_handle_32 (fun x h => (hnox x h).elim) (Nat.le_of_ble_eq_true rfl) (Nat.le_of_ble_eq_true rfl) (Nat.le_of_ble_eq_true rfl) (Nat.le_of_ble_eq_true rfl) hlocks (fun t hvm hz hk => ⟨(), Or.inl c_5, ⟨rfl, hP.kept (fun k q h => hk q.1 (hP k q h).lt), va_K.moved hvm hK, hD⟩, Nat.le_trans hS.1 hz, fun q h1 h2 => (hk q (Nat.lt_of_lt_of_le h1 hS.1)).trans (hS.2.1 q h1 h2)⟩) hS.2.2 (Nat.le_of_ble_eq_true rfl) (Nat.le_of_ble_eq_true rfl)
  · obtain ⟨j, hj1, hj2, rfl⟩ := isR_nat c_5 (by omega)
    refine lv_iload_n hx hb dX2_handle_8 rfl (lv_at hl 1 rfl) ?_
    refine lv_aload_n hx hb dX2_handle_9 rfl (lv_at hl 0 rfl) ?_
    refine va_get (D := (dC, dI)) (ci := 2) (v := .int (nI lr)) (C := RX2) (T := TX2) (N := 16) hx hb hts (by decide +kernel) hown hK hP 0 rfl rfl 14 (by decide) (hts (.fieldLink RX2 60 "BatchClasses" "latestRecord" "I") (by decide +kernel)) (fun _ h9 => h9) rfl dX2_handle_10 ?_
    refine lv_icmp_ne (tgt := 23) hx hb dX2_handle_13 (by decide) (fun c_13 => ?_) (fun c_13 => ?_)
    · have c_13 : ¬ (j = lr) := mt (@nI_eq j lr (by omega) (by omega)  ).mpr c_13
      exact vx_throwS (own := RX2) (cls := "java/lang/IllegalStateException") (text := "not the record that was run latest and done") (names := ["java/lang/RuntimeException", "java/lang/Exception"]) (ik := 109) (is := 111) (ic := 113) (A := A) hx hb hlt hown (by decide +kernel) (by decide +kernel) (hts (.classLink RX2 109 "java/lang/IllegalStateException") (by decide +kernel)) (hts (.initialized "java/lang/IllegalStateException") (by decide +kernel)) hT.2.2 (vx_hat (L := vx_atS RX2 113 "java/lang/IllegalStateException" ["java/lang/RuntimeException", "java/lang/Exception"]) (B := thW) (fun w h => hts w (List.mem_cons_of_mem _ (List.mem_append_right _ h))) thI_no (fun w hw => va_Nw.use (thW_ot w hw) (hT.1 w hw))) thI_ot hSU hSV hS (hl.1.trans hml.symm) dX2_handle_23 dX2_handle_26 dX2_handle_27 dX2_handle_29 dX2_handle_32 (fun x h => (hnox x h).elim) (Nat.le_of_ble_eq_true rfl) (Nat.le_of_ble_eq_true rfl) (Nat.le_of_ble_eq_true rfl) (Nat.le_of_ble_eq_true rfl) hlocks (fun t hvm hz hk => ⟨(), Or.inr (Or.inl (fun h => c_13 ((nI_eq (by omega) (by omega)).mp h))), ⟨rfl, hP.kept (fun k q h => hk q.1 (hP k q h).lt), va_K.moved hvm hK, hD⟩, Nat.le_trans hS.1 hz, fun q h1 h2 => (hk q (Nat.lt_of_lt_of_le h1 hS.1)).trans (hS.2.1 q h1 h2)⟩) hS.2.2 (Nat.le_of_ble_eq_true rfl) (Nat.le_of_ble_eq_true rfl)
    · have c_13 : j = lr := (@nI_eq j lr (by omega) (by omega)  ).mp c_13
      refine lv_aload_n hx hb dX2_handle_16 rfl (lv_at hl 0 rfl) ?_
      refine va_get (D := (dC, dI)) (ci := 2) (v := .int ld) (C := RX2) (T := TX2) (N := 16) hx hb hts (by decide +kernel) hown hK hP 0 rfl rfl 15 (by decide) (hts (.fieldLink RX2 63 "BatchClasses" "latestDone" "Z") (by decide +kernel)) (fun _ h9 => h9) rfl dX2_handle_17 ?_
      refine lv_if_ne (tgt := 33) hx hb dX2_handle_20 (by decide) (fun c_20 => ?_) (fun c_20 => ?_)
      · refine lv_aload_n hx hb dX2_handle_33 rfl (lv_at hl 0 rfl) ?_
        refine va_get (D := (dC, dI)) (ci := 2) (v := .ref a8) (C := RX2) (T := TX2) (N := 16) hx hb hts (by decide +kernel) hown hK hP 0 rfl rfl 13 (by decide) (hts (.fieldLink RX2 57 "BatchClasses" "doneBy" "[J") (by decide +kernel)) (fun _ h9 => h9) rfl dX2_handle_34 ?_
        refine lv_iload_n hx hb dX2_handle_37 rfl (lv_at hl 1 rfl) ?_
        refine lv_iconst (v := 1) hx hb dX2_handle_38 (by decide) ?_
        refine lv_isub hx hb dX2_handle_39 ?_
        refine lv_topi (fun z_39 ez_39 => ?_)
        obtain rfl : z_39 = nI (j - 1) := ez_39.trans (pk_sub (a := j) (b := 1) (by omega))
        refine va_lald hx hb hK hP 1 2 rfl rfl (vp_in_nI (by omega) (by omega)) dX2_handle_40 ?_
        refine lv_topl (fun z_40 ez_40 => ?_)
        obtain rfl : z_40 = db (j - 1) := ez_40.trans (by rw [nI_clamp (n := (j - 1)) (by omega)])
        have hPc := hP.sub (ws' := []) [] rfl
        have hDc := hD.sub (ws' := []) [] (by decide) rfl
        have hFc := va_free (wc := []) hD hS hA [] rfl
        refine va_calli (va_runS (As := [.long (db (j - 1))]) (rest := []) ⟨hx, hb, hml, hown, hts⟩ (k_J13_bitCount l dC dI cI cZ cJ H.size (db (j - 1))) (va_cwS 1 hts gX2_handle_J13_bitCount rfl rfl rfl (by decide +kernel) ⟨Nat.le_of_ble_eq_true rfl, Nat.le_of_ble_eq_true rfl⟩) ⟨fun a U g mk q => by obtain ⟨q0, q1, qP, qK, qD⟩ := q; exact ⟨q0, q1, qP, va_K.moved (u := U) (U := U.calling g mk a) (Vm.Alike.refl U.vm) qK, qD⟩, fun U hU hW => ⟨rfl, by rw [hU], by rw [hU]; exact hPc, va_K.moved hW.alike hK, hDc.weaken (fun _ _ _ _ => trivial)⟩⟩ rfl rfl hl.1 rfl (lv_room (Nat.le_of_ble_eq_true rfl)) dX2_handle_41 ⟨Nat.le_of_ble_eq_true rfl, Nat.le_of_ble_eq_true rfl⟩) hS (fun q _ h => hFc q h) hFc (fun r_41 u t H1 locs ht hvm hw_41 hB hz1 hk1 hS => ?_)
        obtain ⟨hP1, hK1, hD1⟩ := hB
        rw [ht] at hP1
        try dsimp only at hw_41
        obtain ⟨hP, hD⟩ := va_join (wr := [(h0, .inr (2, [.int (nI N0), .ref h1, .ref h2, .int (nI ty), .ref a1, .ref a2, .int (nI cl), .ref a3, .ref a4, .ref a5, .int (nI rc), .ref a6, .ref a7, .ref a8, .int (nI lr), .int ld])), (a8, .inl (cJ, 60, .inr (.inl db)))]) (w1 := []) hP hD [] [0, 1] rfl rfl (by decide) (by decide) hk1 hFc hP1 hD1
        generalize H1 = H at hP hS ⊢
        have hP : va_P (dC, dI) vwC2 [(h0, .inr (2, [.int (nI N0), .ref h1, .ref h2, .int (nI ty), .ref a1, .ref a2, .int (nI cl), .ref a3, .ref a4, .ref a5, .int (nI rc), .ref a6, .ref a7, .ref a8, .int (nI lr), .int ld])), (a8, .inl (cJ, 60, .inr (.inl db)))] H := hP.sub [0, 1] rfl
        have hD : va_D A [(h0, .inr (2, [.int (nI N0), .ref h1, .ref h2, .int (nI ty), .ref a1, .ref a2, .int (nI cl), .ref a3, .ref a4, .ref a5, .int (nI rc), .ref a6, .ref a7, .ref a8, .int (nI lr), .int ld])), (a8, .inl (cJ, 60, .inr (.inl db)))] := hD.sub [0, 1] (by decide) rfl
        subst hw_41
        refine W.widen (k := 1) (n := 6) (by omega) (by omega) ?_
        refine vx_ret ?_
        exact W.iret (v := (pJ_bc (db (j - 1)))) hx hb hr (fun t ht hW => ⟨⟨(pJ_bc (db (j - 1))), (), rfl, ⟨by rw [pB_han, ← c_13], fun h => by rcases h with h | h | h; exact c_5 h; exact h (by rw [c_13]); exact c_20 h⟩, by rw [ht]; exact hP, va_K.moved hW.alike hK, hD⟩, hS.F ht⟩) hS.2.2 dX2_handle_44
      · exact vx_throwS (own := RX2) (cls := "java/lang/IllegalStateException") (text := "not the record that was run latest and done") (names := ["java/lang/RuntimeException", "java/lang/Exception"]) (ik := 109) (is := 111) (ic := 113) (A := A) hx hb hlt hown (by decide +kernel) (by decide +kernel) (hts (.classLink RX2 109 "java/lang/IllegalStateException") (by decide +kernel)) (hts (.initialized "java/lang/IllegalStateException") (by decide +kernel)) hT.2.2 (vx_hat (L := vx_atS RX2 113 "java/lang/IllegalStateException" ["java/lang/RuntimeException", "java/lang/Exception"]) (B := thW) (fun w h => hts w (List.mem_cons_of_mem _ (List.mem_append_right _ h))) thI_no (fun w hw => va_Nw.use (thW_ot w hw) (hT.1 w hw))) thI_ot hSU hSV hS (hl.1.trans hml.symm) dX2_handle_23 dX2_handle_26 dX2_handle_27 dX2_handle_29 dX2_handle_32 (fun x h => (hnox x h).elim) (Nat.le_of_ble_eq_true rfl) (Nat.le_of_ble_eq_true rfl) (Nat.le_of_ble_eq_true rfl) (Nat.le_of_ble_eq_true rfl) hlocks (fun t hvm hz hk => ⟨(), Or.inr (Or.inr c_20), ⟨rfl, hP.kept (fun k q h => hk q.1 (hP k q h).lt), va_K.moved hvm hK, hD⟩, Nat.le_trans hS.1 hz, fun q h1 h2 => (hk q (Nat.lt_of_lt_of_le h1 hS.1)).trans (hS.2.1 q h1 h2)⟩) hS.2.2 (Nat.le_of_ble_eq_true rfl) (Nat.le_of_ble_eq_true rfl)
