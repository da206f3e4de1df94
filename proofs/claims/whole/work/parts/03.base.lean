-- what the walks use beside the kit
theorem up_nI (f : Nat → Nat) (k v : Nat) : upd (fun q => nI (f q)) k (nI v) = fun q => nI (va_up f k v q) := by
  funext q
  by_cases h : q = k <;> simp [upd, va_up, h]
theorem max_nI {a b : Nat} (ha : a < 2 ^ 31) (hb : b < 2 ^ 31) : (if nI a < nI b then nI b else nI a) = nI (if a < b then b else a) := by
  by_cases h : a < b
  · rw [if_pos ((nI_ltI ha hb).mpr h), if_pos h]
  · rw [if_neg (mt (nI_ltI ha hb).mp h), if_neg h]
theorem i32_1 : (1 : Int32).toInt = 1 := rfl
theorem nat_of {x : Int32} {n : Nat} (h1 : ¬ x < 1) (h2 : ¬ nI n < x) (hn : n < 2 ^ 31) : ∃ j : Nat, 1 ≤ j ∧ j ≤ n ∧ x = nI j := by
  rw [Int32.lt_iff_toInt_lt] at h1 h2
  rw [nI_toInt hn] at h2
  rw [i32_1] at h1
  obtain ⟨j, hj, rfl⟩ := nI_of (x := x) (by rw [Int32.lt_iff_toInt_lt, Int32.toInt_zero]; omega)
  rw [nI_toInt hj] at h1 h2
  exact ⟨j, by omega, by omega, rfl⟩
theorem nat_of0 {x : Int32} {n : Nat} (h1 : ¬ x ≤ 0) (h2 : ¬ nI n < x) (hn : n < 2 ^ 31) : ∃ j : Nat, 1 ≤ j ∧ j ≤ n ∧ x = nI j := by
  refine nat_of (fun h => h1 ?_) h2 hn
  rw [Int32.lt_iff_toInt_lt, i32_1] at h
  rw [Int32.le_iff_toInt_le, Int32.toInt_zero]
  omega
theorem nat_lt {x : Int32} {n : Nat} (h1 : ¬ x < 0) (h2 : x < nI n) (hn : n < 2 ^ 31) : ∃ j : Nat, 0 ≤ j ∧ j < n ∧ x = nI j := by
  obtain ⟨j, hj, rfl⟩ := nI_of h1
  exact ⟨j, by omega, (nI_ltI hj hn).mp h2, rfl⟩
theorem nat_leC {x : Int32} {n : Nat} {c : Int32} (hc : c.toInt = n) (h1 : ¬ x < 0) (h2 : ¬ c < x) : ∃ j : Nat, 0 ≤ j ∧ j ≤ n ∧ x = nI j := by
  obtain ⟨j, hj, rfl⟩ := nI_of h1
  rw [Int32.lt_iff_toInt_lt, hc, nI_toInt hj] at h2
  exact ⟨j, by omega, by omega, rfl⟩
theorem nat_le3 {x : Int32} (h1 : ¬ x < 0) (h2 : ¬ 3 < x) : ∃ j : Nat, 0 ≤ j ∧ j ≤ 3 ∧ x = nI j := nat_leC (c := 3) rfl h1 h2
theorem nat_le99 {x : Int32} (h1 : ¬ x < 0) (h2 : ¬ 99 < x) : ∃ j : Nat, 0 ≤ j ∧ j ≤ 99 ∧ x = nI j := nat_leC (c := 99) rfl h1 h2
theorem nat_le2 {x : Int32} (h1 : ¬ x < 0) (h2 : x ≤ 2) : ∃ j : Nat, 0 ≤ j ∧ j ≤ 2 ∧ x = nI j := nat_leC (c := 2) rfl h1 (fun h => by
  rw [Int32.lt_iff_toInt_lt] at h
  rw [Int32.le_iff_toInt_le] at h2
  omega)
theorem nat_lt4 {x : Int32} (h1 : ¬ x < 0) (h2 : ¬ 4 ≤ x) : ∃ j : Nat, 0 ≤ j ∧ j ≤ 3 ∧ x = nI j := nat_leC (c := 3) rfl h1 (fun h => h2 (by
  rw [Int32.lt_iff_toInt_lt, show (3 : Int32).toInt = 3 from rfl] at h
  rw [Int32.le_iff_toInt_le, show (4 : Int32).toInt = 4 from rfl]
  omega))
theorem sw_3 (w : Int32) : w = 0 ∨ w = 1 ∨ w = 2 ∨ ((w.toInt < 0 ∨ 2 < w.toInt) ∧ ¬ w = 0 ∧ ¬ w = 1 ∧ ¬ w = 2) := by
  have e0 : (0 : Int32).toInt = 0 := rfl
  have e1 : (1 : Int32).toInt = 1 := rfl
  have e2 : (2 : Int32).toInt = 2 := rfl
  simp only [← Int32.toInt_inj, e0, e1, e2]
  omega
/-- the steps of a house -/
def stN (x : Int32) : Nat := if x < 1 then 1 else if 200 < x then 200 else x.toNatClampNeg
theorem stN_1 {x : Int32} (h : ¬ 1 ≤ x) : (1 : Int32) = nI (stN x) := by
  have h : x < 1 := Int32.not_le.mp h
  rw [stN, if_pos h]
  rfl
theorem stN_2 {x : Int32} (h : 1 ≤ x) (h2 : ¬ x ≤ 200) : (200 : Int32) = nI (stN x) := by
  rw [stN, if_neg (Int32.not_lt.mpr h), if_pos (Int32.not_le.mp h2)]
  rfl
theorem stN_3 {x : Int32} (h : 1 ≤ x) (h2 : x ≤ 200) : x = nI (stN x) := by
  rw [stN, if_neg (Int32.not_lt.mpr h), if_neg (Int32.not_lt.mpr h2)]
  obtain ⟨j, hj, rfl⟩ := nI_of (x := x) (fun h3 => by
    rw [Int32.lt_iff_toInt_lt, Int32.toInt_zero] at h3
    rw [Int32.le_iff_toInt_le, i32_1] at h
    omega)
  rw [nI_clamp hj]
theorem stN_B (x : Int32) : (if 1 < (if x < 200 then x else 200) then (if x < 200 then x else 200) else 1) = nI (stN x) := by
  have e2 : (200 : Int32).toInt = 200 := rfl
  by_cases h1 : 1 ≤ x
  · by_cases h2 : x ≤ 200
    · rw [← stN_3 h1 h2]
      have h1' := h1
      have h2' := h2
      rw [Int32.le_iff_toInt_le, i32_1] at h1'
      rw [Int32.le_iff_toInt_le, e2] at h2'
      by_cases h3 : x < 200
      · rw [if_pos h3]
        by_cases h4 : 1 < x
        · rw [if_pos h4]
        · rw [if_neg h4]
          rw [Int32.lt_iff_toInt_lt, i32_1] at h4
          rw [← Int32.toInt_inj, i32_1]
          omega
      · rw [if_neg h3, if_pos (by decide)]
        rw [Int32.lt_iff_toInt_lt, e2] at h3
        rw [← Int32.toInt_inj, e2]
        omega
    · rw [← stN_2 h1 h2]
      have h3 : ¬ x < 200 := fun h => h2 (by
        rw [Int32.lt_iff_toInt_lt] at h
        rw [Int32.le_iff_toInt_le]
        omega)
      rw [if_neg h3, if_pos (by decide)]
  · rw [← stN_1 h1]
    have h3 : x < 200 := by
      rw [Int32.le_iff_toInt_le, i32_1] at h1
      rw [Int32.lt_iff_toInt_lt, e2]
      omega
    rw [if_pos h3, if_neg (fun h => h1 (by
      rw [Int32.lt_iff_toInt_lt] at h
      rw [Int32.le_iff_toInt_le]
      omega))]
theorem stN_in (x : Int32) : 1 ≤ stN x ∧ stN x ≤ 200 := by
  have e2 : (200 : Int32).toInt = 200 := rfl
  unfold stN
  by_cases h1 : x < 1
  · rw [if_pos h1]; omega
  · rw [if_neg h1]
    by_cases h2 : 200 < x
    · rw [if_pos h2]; omega
    · rw [if_neg h2]
      rw [Int32.lt_iff_toInt_lt, i32_1] at h1
      rw [Int32.lt_iff_toInt_lt, e2] at h2
      obtain ⟨j, hj, rfl⟩ := nI_of (x := x) (fun h3 => by rw [Int32.lt_iff_toInt_lt, Int32.toInt_zero] at h3; omega)
      rw [nI_toInt hj] at h1 h2
      rw [nI_clamp hj]
      omega
section HN
variable {p : Program} {l : Launch} {e : Env} {R : Room} {s : State} {m : MethodId} {args : Array Value} {below : List Frame} {meth : Method} {c : Code} {H : Heap} {locs : List Loc} {cells slots : Nat} {Q : State → Prop}
variable {cc : ByteArray} {pc : Nat} {ls : Array Slot} {rest : List Value} {D : va_G} {cl : List vw_C} {A : Nat → Prop} {tys : List (ClassId × FieldType)} {ws : va_W} {H0 : Heap}
/-- an array is made; its class is the one that the tables' list has already -/
theorem hn_newa (hexec : p.tables.exec = Jvm.exec) (hb : c.code = cc) {atype : ArrayType} (harr : (Cond.arrayClass (newarray.typeOf atype)).before args s = true) {ty : FieldType} (hty : newarray.typeOf atype = ty) (hprim : ∀ cA : ClassId, va_RA s cA ty → s.vm.findClass ("[" ++ ty.toString) = some cA) (hK : va_K D cl tys s) (hP : va_P D cl ws H) (hD : va_D A ws) (hS : va_S A H0 H locs) (hA : ∀ q, H0.size ≤ q → A q)
    {t0 : Nat} {cA0 : ClassId} (ht : tys[t0]? = some (cA0, ty)) {n : Int32} {N' : Nat} {a0 : vp_A} (ha : ∀ cA : ClassId, vp_cell cA a0 = arrV cA N' (fun _ => defaultValue ty)) (hn : ¬ n < 0) (hN : n.toNatClampNeg = N') (hbytes : N' * componentBytes ty ≤ 536870912) (hcells : cells + 1 ≤ R.cells) (hslots : slots + N' ≤ R.slots) (hdg : decode cc pc = .ok (.newarray atype, 2))
    (kk : ∀ (q : Nat) (H1 : Heap), va_P D cl (ws ++ [(q, .inl (cA0, a0))]) H1 → va_D A (ws ++ [(q, .inl (cA0, a0))]) → va_S A H0 H1 locs →
      W p l e R s m args below meth c H1 locs (cells + 1) (slots + N') Q (F0 m (pc + 2) ls (.ref q :: rest))) : W p l e R s m args below meth c H locs cells slots Q (F0 m pc ls (.int n :: rest)) := by
  refine va_newa hexec hb harr hty hK hP hD hS hA ha hn hN hbytes hcells hslots hdg (fun q cA H1 hK1 hP1 hD1 hS1 => ?_)
  have h1 : s.vm.findClass ("[" ++ ty.toString) = some cA := hprim cA (hK1.2 tys.length (cA, ty) (by simp)).2
  have h2 : s.vm.findClass ("[" ++ ty.toString) = some cA0 := hprim cA0 (hK.2 t0 (cA0, ty) ht).2
  have h3 : cA = cA0 := Option.some.inj (h1.symm.trans h2)
  subst h3
  exact kk q H1 hP1 hD1 hS1
end HN
theorem hn_i (cA : ClassId) (N : Nat) : vp_cell cA (N, .inl (fun _ => 0)) = arrV cA N (fun _ => defaultValue .int) := rfl
theorem hn_z (cA : ClassId) (N : Nat) : vp_cell cA (N, .inl (fun _ => 0)) = arrV cA N (fun _ => defaultValue .boolean) := rfl
theorem hn_l (cA : ClassId) (N : Nat) : vp_cell cA (N, .inr (.inl (fun _ => 0))) = arrV cA N (fun _ => defaultValue .long) := rfl
theorem hn_arr {args : Array Value} {s : State} {ty : FieldType} (h : (Cond.arrayClass ty).before args s = true) (hprim : ∀ cA : ClassId, s.vm.findClass ("[" ++ ty.toString) = some cA → va_RA s cA ty) : ∃ cA : ClassId, ArrOfT s cA ty ∧ va_RA s cA ty := by
  obtain ⟨cA, kA, comp, h1, h2, h3⟩ := Cond.arrayClass_spec h
  exact ⟨cA, fun n z => ⟨fun k h => (by cases h), kA, h2, comp, h3⟩, hprim cA h1⟩
theorem law_len {L k : Nat} (hL : L ≤ 3073) (hk : k ≤ 4000) : nI L - 6 < nI k ↔ L < k + 6 := by
  have h : (nI L - 6).toInt = (L : Int) - 6 := pk_sub_toInt (a := L) (b := 6) (by omega) (by omega)
  rw [Int32.lt_iff_toInt_lt, h, nI_toInt (by omega)]
  omega
-- what one class of the nest uses of another's: these words don't stand among those that a method hands on, so they are carried beside
def nestW : List Cond := [.methodLinkNest RX2 9 yX1_init "BatchClasses", .methodLinkNest RX2 18 yX0_init "BatchClasses", .methodLinkNest RX2 92 yX0_look "BatchClasses", .methodLinkNest RX2 105 yX1_countOthers "BatchClasses", .methodLinkNest RX2 124 yX0_note "BatchClasses", .methodLinkNest RX2 128 yX1_load "BatchClasses", .methodLinkNest RX2 132 yX1_perform "BatchClasses", .methodLinkNest RX2 135 yX1_store "BatchClasses"]
def nestF : List (Nat × String × String) := [(139, "cell", "J"), (143, "locks", "Z")]
def nwB (U : State) : Prop := (∀ w ∈ nestW, va_Nw w U) ∧ ∀ q ∈ nestF, va_Nw (.fieldLinkNest RX2 q.1 "BatchClasses$Trial" q.2.1 q.2.2 "BatchClasses") U
theorem nwB.warm {s U : State} (hW : s.WarmedH U.vm) (h : nwB s) : nwB U := by
  refine ⟨fun w hw => ?_, fun q hq => va_Nw.warmF hW (h.2 q hq)⟩
  have h1 := h.1 w hw
  simp only [nestW, List.mem_cons, List.not_mem_nil, or_false] at hw
  rcases hw with rfl | rfl | rfl | rfl | rfl | rfl | rfl | rfl <;> exact va_Nw.warmM hW h1
theorem nwB.blind {U : State} {g : JFrame} {mk : MethodId} {a : Array Value} (h : nwB U) : nwB (U.calling g mk a) := by
  refine ⟨fun w hw => ?_, fun q hq => va_tabs (A := #[]) (u := U) rfl rfl (h.2 q hq)⟩
  have h1 := h.1 w hw
  simp only [nestW, List.mem_cons, List.not_mem_nil, or_false] at hw
  rcases hw with rfl | rfl | rfl | rfl | rfl | rfl | rfl | rfl <;> exact va_tabs (A := #[]) (u := U) rfl rfl h1
