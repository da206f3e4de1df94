set_option maxHeartbeats 4000000 in
set_option maxRecDepth 100000 in
theorem k_X0_init (l : Launch) (dC : Nat → ClassId) (dI : Nat → Nat → Nat) (cI cZ cJ : ClassId) (sz : Nat) (h2 : Nat) : Met l yX0_init wsX0_init ({ frames := 1, cells := 3, slots := 300, locals := 12 }) (va_Pc [.ref h2] (fun U => U.heap.size = sz ∧ va_P (dC, dI) vwC2 [(h2, .inr (0, [.int 0, .null, .null, .null]))] U.heap ∧ va_K (dC, dI) vwC2 [(cI, .int), (cZ, .boolean), (cJ, .long)] U ∧ va_D (fun _ => True) [(h2, .inr (0, [.int 0, .null, .null, .null]))])) (va_Qv (fun (u : Unit) => True) (fun (_ : Unit) (t : State) => ∃ (b1 b2 b3 : Nat), va_P (dC, dI) vwC2 [(h2, .inr (0, [.int 0, .ref b1, .ref b2, .ref b3])), (b1, .inl (cI, 100, .inl (fun _ => 0))), (b2, .inl (cI, 100, .inl (fun _ => 0))), (b3, .inl (cI, 100, .inl (fun _ => 0)))] t.heap ∧ va_K (dC, dI) vwC2 [(cI, .int), (cZ, .boolean), (cJ, .long)] t ∧ va_D (va_A [(h2, .inr (0, [.int 0, .null, .null, .null]))] sz) [(h2, .inr (0, [.int 0, .ref b1, .ref b2, .ref b3])), (b1, .inl (cI, 100, .inl (fun _ => 0))), (b2, .inl (cI, 100, .inl (fun _ => 0))), (b3, .inl (cI, 100, .inl (fun _ => 0)))]) (va_A [(h2, .inr (0, [.int 0, .null, .null, .null]))] sz)) 3 300 (va_A [(h2, .inr (0, [.int 0, .null, .null, .null]))] sz) := by
  refine Met.ofW (cc := cX0_init) (maxL := 1) (ret := none) (by decide) rfl ?_
  intro p e s m args below meth c s₁ B hml hv
  obtain ⟨rfl, hsz, hP, hK, hD0⟩ := hv
  have hx := B.exec
  have hb := B.bytes
  have hr := B.returns
  have hts := atoms_spec (ws := wsX0_init) B.pre
  have hown : s.vm.findClass RX0 = some m.cls := findClass_of_methodNamed B.named
  have hlocks := B.notSynchronized
  have hin : meth.name = "<init>" := (name_of_methodNamed B.named B.method).1
  subst hsz
  have hD := hD0.self (sz := s.heap.size)
  generalize hAe : va_A [(h2, .inr (0, [.int 0, .null, .null, .null]))] s.heap.size = A at hD ⊢
  have hA : ∀ q : Nat, s.heap.size ≤ q → A q := fun q h => by rw [← hAe]; exact Or.inr h
  have hS : va_S A s.heap s.heap [] := va_S.rf
  have hP : va_P (dC, dI) vwC2 [(h2, .inr (0, [.int 0, .null, .null, .null]))] s.heap := hP
  have hl := lv_entry ([.ref h2]) (n := 1) (Nat.le_of_ble_eq_true rfl)
  rw [lg_entry_eq]
  generalize (lg_sl ([.ref h2]) ++ List.replicate (1 - (lg_sl ([.ref h2])).length) Slot.unset).toArray = ls at hl ⊢
  have hl : lv_has ls 1 [(0, .ref h2)] := hl
  refine lv_aload_n hx hb dX0_init_0 rfl (lv_at hl 0 rfl) ?_
  refine W.objInit hx hb hown (hts (.methodLink RX0 3 objectInit) (by decide +kernel)) (hts (.instanceMethod objectInit) (by decide +kernel)) (hts _ (List.mem_of_getElem? (i := 3) rfl)) rfl (by rw [hml]; exact hl.1) rfl dX0_init_1 (Nat.le_of_ble_eq_true rfl) (Nat.le_of_ble_eq_true rfl) ?_
  refine W.eq (g2 := F0 m 4 ls []) rfl ?_
  refine lv_aload_n hx hb dX0_init_4 rfl (lv_at hl 0 rfl) ?_
  refine lv_iconst (v := 0) hx hb dX0_init_5 (by decide) ?_
  refine va_put (D := (dC, dI)) (ci := 0) (v := .int 0) (ty := .int) (C := RX0) (T := TX0) (N := 4) hx hb hts (by decide +kernel) tyX0 tyX0_ok nmX0 hown hK hP hD hS 0 rfl rfl 0 (by decide) (hts (.fieldLink RX0 9 "BatchClasses$FailureLog" "count" "I") (by decide +kernel)) (fun _ h9 => h9) rfl (by decide +kernel) rfl rfl (Nat.le_of_ble_eq_true rfl) dX0_init_6 (fun H locs hP hD hS => ?_)
  have hP : va_P (dC, dI) vwC2 [(h2, .inr (0, [.int 0, .null, .null, .null]))] H := hP
  have hD : va_D A [(h2, .inr (0, [.int 0, .null, .null, .null]))] := hD
  refine lv_aload_n hx hb dX0_init_9 rfl (lv_at hl 0 rfl) ?_
  refine lv_bipush (v := 100) hx hb dX0_init_10 (by decide) ?_
  refine hn_newa (atype := .int) (cA0 := cI) (ty := .int) (a0 := (100, .inl (fun _ => 0))) (t0 := 0) hx hb (hts (.arrayClass .int) (by decide +kernel)) rfl (fun _ h => h) hK hP hD hS hA rfl (fun cA => hn_i cA 100) (by decide) (N' := 100) (by decide) (by decide) (Nat.le_of_ble_eq_true rfl) (Nat.le_of_ble_eq_true rfl) dX0_init_12 (fun q12 H hP hD hS => ?_)
  have hP : va_P (dC, dI) vwC2 [(h2, .inr (0, [.int 0, .null, .null, .null])), (q12, .inl (cI, 100, .inl (fun _ => 0)))] H := hP
  have hD : va_D A [(h2, .inr (0, [.int 0, .null, .null, .null])), (q12, .inl (cI, 100, .inl (fun _ => 0)))] := hD
  refine W.widen (k := 1) (n := 100) (by omega) (by omega) ?_
  refine va_putF (D := (dC, dI)) (ci := 0) (v := .ref q12) (ty := .array .int) (C := RX0) (T := TX0) (N := 4) hx hb hts (by decide +kernel) tyX0 tyX0_ok nmX0 hown hK hP hD hS 0 rfl rfl 1 (by decide) (hts (.fieldLink RX0 15 "BatchClasses$FailureLog" "ofRecord" "[I") (by decide +kernel)) (fun _ h9 => h9) rfl hin rfl (by decide +kernel) rfl rfl (Nat.le_of_ble_eq_true rfl) dX0_init_14 (fun H locs hP hD hS => ?_)
  have hP : va_P (dC, dI) vwC2 [(h2, .inr (0, [.int 0, .ref q12, .null, .null])), (q12, .inl (cI, 100, .inl (fun _ => 0)))] H := hP
  have hD : va_D A [(h2, .inr (0, [.int 0, .ref q12, .null, .null])), (q12, .inl (cI, 100, .inl (fun _ => 0)))] := hD
  refine lv_aload_n hx hb dX0_init_17 rfl (lv_at hl 0 rfl) ?_
  refine lv_bipush (v := 100) hx hb dX0_init_18 (by decide) ?_
  refine hn_newa (atype := .int) (cA0 := cI) (ty := .int) (a0 := (100, .inl (fun _ => 0))) (t0 := 0) hx hb (hts (.arrayClass .int) (by decide +kernel)) rfl (fun _ h => h) hK hP hD hS hA rfl (fun cA => hn_i cA 100) (by decide) (N' := 100) (by decide) (by decide) (Nat.le_of_ble_eq_true rfl) (Nat.le_of_ble_eq_true rfl) dX0_init_20 (fun q20 H hP hD hS => ?_)
  have hP : va_P (dC, dI) vwC2 [(h2, .inr (0, [.int 0, .ref q12, .null, .null])), (q12, .inl (cI, 100, .inl (fun _ => 0))), (q20, .inl (cI, 100, .inl (fun _ => 0)))] H := hP
  have hD : va_D A [(h2, .inr (0, [.int 0, .ref q12, .null, .null])), (q12, .inl (cI, 100, .inl (fun _ => 0))), (q20, .inl (cI, 100, .inl (fun _ => 0)))] := hD
  refine W.widen (k := 2) (n := 200) (by omega) (by omega) ?_
  refine va_putF (D := (dC, dI)) (ci := 0) (v := .ref q20) (ty := .array .int) (C := RX0) (T := TX0) (N := 4) hx hb hts (by decide +kernel) tyX0 tyX0_ok nmX0 hown hK hP hD hS 0 rfl rfl 2 (by decide) (hts (.fieldLink RX0 19 "BatchClasses$FailureLog" "ofKind" "[I") (by decide +kernel)) (fun _ h9 => h9) rfl hin rfl (by decide +kernel) rfl rfl (Nat.le_of_ble_eq_true rfl) dX0_init_22 (fun H locs hP hD hS => ?_)
  have hP : va_P (dC, dI) vwC2 [(h2, .inr (0, [.int 0, .ref q12, .ref q20, .null])), (q12, .inl (cI, 100, .inl (fun _ => 0))), (q20, .inl (cI, 100, .inl (fun _ => 0)))] H := hP
  have hD : va_D A [(h2, .inr (0, [.int 0, .ref q12, .ref q20, .null])), (q12, .inl (cI, 100, .inl (fun _ => 0))), (q20, .inl (cI, 100, .inl (fun _ => 0)))] := hD
  refine lv_aload_n hx hb dX0_init_25 rfl (lv_at hl 0 rfl) ?_
  refine lv_bipush (v := 100) hx hb dX0_init_26 (by decide) ?_
  refine hn_newa (atype := .int) (cA0 := cI) (ty := .int) (a0 := (100, .inl (fun _ => 0))) (t0 := 0) hx hb (hts (.arrayClass .int) (by decide +kernel)) rfl (fun _ h => h) hK hP hD hS hA rfl (fun cA => hn_i cA 100) (by decide) (N' := 100) (by decide) (by decide) (Nat.le_of_ble_eq_true rfl) (Nat.le_of_ble_eq_true rfl) dX0_init_28 (fun q28 H hP hD hS => ?_)
  have hP : va_P (dC, dI) vwC2 [(h2, .inr (0, [.int 0, .ref q12, .ref q20, .null])), (q12, .inl (cI, 100, .inl (fun _ => 0))), (q20, .inl (cI, 100, .inl (fun _ => 0))), (q28, .inl (cI, 100, .inl (fun _ => 0)))] H := hP
  have hD : va_D A [(h2, .inr (0, [.int 0, .ref q12, .ref q20, .null])), (q12, .inl (cI, 100, .inl (fun _ => 0))), (q20, .inl (cI, 100, .inl (fun _ => 0))), (q28, .inl (cI, 100, .inl (fun _ => 0)))] := hD
  refine W.widen (k := 3) (n := 300) (by omega) (by omega) ?_
  refine va_putF (D := (dC, dI)) (ci := 0) (v := .ref q28) (ty := .array .int) (C := RX0) (T := TX0) (N := 4) hx hb hts (by decide +kernel) tyX0 tyX0_ok nmX0 hown hK hP hD hS 0 rfl rfl 3 (by decide) (hts (.fieldLink RX0 22 "BatchClasses$FailureLog" "ofClass" "[I") (by decide +kernel)) (fun _ h9 => h9) rfl hin rfl (by decide +kernel) rfl rfl (Nat.le_of_ble_eq_true rfl) dX0_init_30 (fun H locs hP hD hS => ?_)
  have hP : va_P (dC, dI) vwC2 [(h2, .inr (0, [.int 0, .ref q12, .ref q20, .ref q28])), (q12, .inl (cI, 100, .inl (fun _ => 0))), (q20, .inl (cI, 100, .inl (fun _ => 0))), (q28, .inl (cI, 100, .inl (fun _ => 0)))] H := hP
  have hD : va_D A [(h2, .inr (0, [.int 0, .ref q12, .ref q20, .ref q28])), (q12, .inl (cI, 100, .inl (fun _ => 0))), (q20, .inl (cI, 100, .inl (fun _ => 0))), (q28, .inl (cI, 100, .inl (fun _ => 0)))] := hD
  refine W.widen (k := 3) (n := 300) (by omega) (by omega) ?_
  exact W.vret hx hb hr (fun t ht hW => ⟨⟨(), rfl, trivial, q12, q20, q28, by rw [ht]; exact hP, va_K.moved hW.alike hK, hD⟩, hS.F ht⟩) hS.2.2 dX0_init_33
def pL_note (cn : (Nat)) (o1 : Nat → Int32) (o2 : Nat → Int32) (o3 : Nat → Int32) (xj : Int32) (xk : Int32) (xc : Int32) : (Nat) × (Nat → Int32) × (Nat → Int32) × (Nat → Int32) :=
  if cn < 100 then
    ((cn + 1), (upd o1 cn xj), (upd o2 cn xk), (upd o3 cn xc))
  else
    (cn, o1, o2, o3)
set_option maxHeartbeats 4000000 in
set_option maxRecDepth 100000 in
theorem k_X0_note (l : Launch) (dC : Nat → ClassId) (dI : Nat → Nat → Nat) (cI cZ cJ : ClassId) (sz : Nat) (h2 b1 b2 b3 : Nat) (cn : (Nat)) (o1 o2 o3 : Nat → Int32) (xj xk xc : Int32) (hcn : cn ≤ 100) : Met l yX0_note wsX0_note ({ frames := 0, cells := 0, slots := 0, locals := 0 }) (va_Pc [.ref h2, .int xj, .int xk, .int xc] (fun U => U.heap.size = sz ∧ va_P (dC, dI) vwC2 [(h2, .inr (0, [.int (nI cn), .ref b1, .ref b2, .ref b3])), (b1, .inl (cI, 100, .inl o1)), (b2, .inl (cI, 100, .inl o2)), (b3, .inl (cI, 100, .inl o3))] U.heap ∧ va_K (dC, dI) vwC2 [(cI, .int), (cZ, .boolean), (cJ, .long)] U ∧ va_D (fun _ => True) [(h2, .inr (0, [.int (nI cn), .ref b1, .ref b2, .ref b3])), (b1, .inl (cI, 100, .inl o1)), (b2, .inl (cI, 100, .inl o2)), (b3, .inl (cI, 100, .inl o3))])) (va_Qv (fun (u : (Nat) × (Nat → Int32) × (Nat → Int32) × (Nat → Int32)) => u = pL_note cn o1 o2 o3 xj xk xc) (fun (u : (Nat) × (Nat → Int32) × (Nat → Int32) × (Nat → Int32)) (t : State) => match u with | (cn', o1', o2', o3') => va_P (dC, dI) vwC2 [(h2, .inr (0, [.int (nI cn'), .ref b1, .ref b2, .ref b3])), (b1, .inl (cI, 100, .inl o1')), (b2, .inl (cI, 100, .inl o2')), (b3, .inl (cI, 100, .inl o3'))] t.heap ∧ va_K (dC, dI) vwC2 [(cI, .int), (cZ, .boolean), (cJ, .long)] t ∧ va_D (va_A [(h2, .inr (0, [.int (nI cn), .ref b1, .ref b2, .ref b3])), (b1, .inl (cI, 100, .inl o1)), (b2, .inl (cI, 100, .inl o2)), (b3, .inl (cI, 100, .inl o3))] sz) [(h2, .inr (0, [.int (nI cn'), .ref b1, .ref b2, .ref b3])), (b1, .inl (cI, 100, .inl o1')), (b2, .inl (cI, 100, .inl o2')), (b3, .inl (cI, 100, .inl o3'))]) (va_A [(h2, .inr (0, [.int (nI cn), .ref b1, .ref b2, .ref b3])), (b1, .inl (cI, 100, .inl o1)), (b2, .inl (cI, 100, .inl o2)), (b3, .inl (cI, 100, .inl o3))] sz)) 0 0 (va_A [(h2, .inr (0, [.int (nI cn), .ref b1, .ref b2, .ref b3])), (b1, .inl (cI, 100, .inl o1)), (b2, .inl (cI, 100, .inl o2)), (b3, .inl (cI, 100, .inl o3))] sz) := by
  refine Met.ofW (cc := cX0_note) (maxL := 4) (ret := none) (by decide) rfl ?_
  intro p e s m args below meth c s₁ B hml hv
  obtain ⟨rfl, hsz, hP, hK, hD0⟩ := hv
  have hx := B.exec
  have hb := B.bytes
  have hr := B.returns
  have hts := atoms_spec (ws := wsX0_note) B.pre
  have hown : s.vm.findClass RX0 = some m.cls := findClass_of_methodNamed B.named
  have hlocks := B.notSynchronized
  subst hsz
  have hD := hD0.self (sz := s.heap.size)
  generalize hAe : va_A [(h2, .inr (0, [.int (nI cn), .ref b1, .ref b2, .ref b3])), (b1, .inl (cI, 100, .inl o1)), (b2, .inl (cI, 100, .inl o2)), (b3, .inl (cI, 100, .inl o3))] s.heap.size = A at hD ⊢
  have hA : ∀ q : Nat, s.heap.size ≤ q → A q := fun q h => by rw [← hAe]; exact Or.inr h
  have hS : va_S A s.heap s.heap [] := va_S.rf
  have hP : va_P (dC, dI) vwC2 [(h2, .inr (0, [.int (nI cn), .ref b1, .ref b2, .ref b3])), (b1, .inl (cI, 100, .inl o1)), (b2, .inl (cI, 100, .inl o2)), (b3, .inl (cI, 100, .inl o3))] s.heap := hP
  have hl := lv_entry ([.ref h2, .int xj, .int xk, .int xc]) (n := 4) (Nat.le_of_ble_eq_true rfl)
  rw [lg_entry_eq]
  generalize (lg_sl ([.ref h2, .int xj, .int xk, .int xc]) ++ List.replicate (4 - (lg_sl ([.ref h2, .int xj, .int xk, .int xc])).length) Slot.unset).toArray = ls at hl ⊢
  have hl : lv_has ls 4 [(0, .ref h2), (1, .int xj), (2, .int xk), (3, .int xc)] := hl
  refine lv_aload_n hx hb dX0_note_0 rfl (lv_at hl 0 rfl) ?_
  refine va_get (D := (dC, dI)) (ci := 0) (v := .int (nI cn)) (C := RX0) (T := TX0) (N := 4) hx hb hts (by decide +kernel) hown hK hP 0 rfl rfl 0 (by decide) (hts (.fieldLink RX0 9 "BatchClasses$FailureLog" "count" "I") (by decide +kernel)) (fun _ h9 => h9) rfl dX0_note_1 ?_
  refine lv_bipush (v := 100) hx hb dX0_note_4 (by decide) ?_
  refine lv_icmp_lt (tgt := 10) hx hb dX0_note_6 (by decide) (fun c_6 => ?_) (fun c_6 => ?_)
  · have c_6 : cn < 100 := (@nI_ltI cn 100 (by omega) (by omega)  ).mp c_6
    refine lv_aload_n hx hb dX0_note_10 rfl (lv_at hl 0 rfl) ?_
    refine va_get (D := (dC, dI)) (ci := 0) (v := .ref b1) (C := RX0) (T := TX0) (N := 4) hx hb hts (by decide +kernel) hown hK hP 0 rfl rfl 1 (by decide) (hts (.fieldLink RX0 15 "BatchClasses$FailureLog" "ofRecord" "[I") (by decide +kernel)) (fun _ h9 => h9) rfl dX0_note_11 ?_
    refine lv_aload_n hx hb dX0_note_14 rfl (lv_at hl 0 rfl) ?_
    refine va_get (D := (dC, dI)) (ci := 0) (v := .int (nI cn)) (C := RX0) (T := TX0) (N := 4) hx hb hts (by decide +kernel) hown hK hP 0 rfl rfl 0 (by decide) (hts (.fieldLink RX0 9 "BatchClasses$FailureLog" "count" "I") (by decide +kernel)) (fun _ h9 => h9) rfl dX0_note_15 ?_
    refine lv_iload_n hx hb dX0_note_18 rfl (lv_at hl 1 rfl) ?_
    refine va_iast hx hb hK hP hD hS 1 0 rfl rfl (vp_in_nI (by omega) (by omega)) dX0_note_19 (fun H locs hP hD hS => ?_)
    rw [nI_clamp (n := cn) (by omega)] at hP hD
    have hP : va_P (dC, dI) vwC2 [(h2, .inr (0, [.int (nI cn), .ref b1, .ref b2, .ref b3])), (b1, .inl (cI, 100, .inl (upd o1 cn xj))), (b2, .inl (cI, 100, .inl o2)), (b3, .inl (cI, 100, .inl o3))] H := hP
    have hD : va_D A [(h2, .inr (0, [.int (nI cn), .ref b1, .ref b2, .ref b3])), (b1, .inl (cI, 100, .inl (upd o1 cn xj))), (b2, .inl (cI, 100, .inl o2)), (b3, .inl (cI, 100, .inl o3))] := hD
    refine lv_aload_n hx hb dX0_note_20 rfl (lv_at hl 0 rfl) ?_
    refine va_get (D := (dC, dI)) (ci := 0) (v := .ref b2) (C := RX0) (T := TX0) (N := 4) hx hb hts (by decide +kernel) hown hK hP 0 rfl rfl 2 (by decide) (hts (.fieldLink RX0 19 "BatchClasses$FailureLog" "ofKind" "[I") (by decide +kernel)) (fun _ h9 => h9) rfl dX0_note_21 ?_
    refine lv_aload_n hx hb dX0_note_24 rfl (lv_at hl 0 rfl) ?_
    refine va_get (D := (dC, dI)) (ci := 0) (v := .int (nI cn)) (C := RX0) (T := TX0) (N := 4) hx hb hts (by decide +kernel) hown hK hP 0 rfl rfl 0 (by decide) (hts (.fieldLink RX0 9 "BatchClasses$FailureLog" "count" "I") (by decide +kernel)) (fun _ h9 => h9) rfl dX0_note_25 ?_
    refine lv_iload_n hx hb dX0_note_28 rfl (lv_at hl 2 rfl) ?_
    refine va_iast hx hb hK hP hD hS 2 0 rfl rfl (vp_in_nI (by omega) (by omega)) dX0_note_29 (fun H locs hP hD hS => ?_)
    rw [nI_clamp (n := cn) (by omega)] at hP hD
    have hP : va_P (dC, dI) vwC2 [(h2, .inr (0, [.int (nI cn), .ref b1, .ref b2, .ref b3])), (b1, .inl (cI, 100, .inl (upd o1 cn xj))), (b2, .inl (cI, 100, .inl (upd o2 cn xk))), (b3, .inl (cI, 100, .inl o3))] H := hP
    have hD : va_D A [(h2, .inr (0, [.int (nI cn), .ref b1, .ref b2, .ref b3])), (b1, .inl (cI, 100, .inl (upd o1 cn xj))), (b2, .inl (cI, 100, .inl (upd o2 cn xk))), (b3, .inl (cI, 100, .inl o3))] := hD
    refine lv_aload_n hx hb dX0_note_30 rfl (lv_at hl 0 rfl) ?_
    refine va_get (D := (dC, dI)) (ci := 0) (v := .ref b3) (C := RX0) (T := TX0) (N := 4) hx hb hts (by decide +kernel) hown hK hP 0 rfl rfl 3 (by decide) (hts (.fieldLink RX0 22 "BatchClasses$FailureLog" "ofClass" "[I") (by decide +kernel)) (fun _ h9 => h9) rfl dX0_note_31 ?_
    refine lv_aload_n hx hb dX0_note_34 rfl (lv_at hl 0 rfl) ?_
    refine va_get (D := (dC, dI)) (ci := 0) (v := .int (nI cn)) (C := RX0) (T := TX0) (N := 4) hx hb hts (by decide +kernel) hown hK hP 0 rfl rfl 0 (by decide) (hts (.fieldLink RX0 9 "BatchClasses$FailureLog" "count" "I") (by decide +kernel)) (fun _ h9 => h9) rfl dX0_note_35 ?_
    refine lv_iload_n hx hb dX0_note_38 rfl (lv_at hl 3 rfl) ?_
    refine va_iast hx hb hK hP hD hS 3 0 rfl rfl (vp_in_nI (by omega) (by omega)) dX0_note_39 (fun H locs hP hD hS => ?_)
    rw [nI_clamp (n := cn) (by omega)] at hP hD
    have hP : va_P (dC, dI) vwC2 [(h2, .inr (0, [.int (nI cn), .ref b1, .ref b2, .ref b3])), (b1, .inl (cI, 100, .inl (upd o1 cn xj))), (b2, .inl (cI, 100, .inl (upd o2 cn xk))), (b3, .inl (cI, 100, .inl (upd o3 cn xc)))] H := hP
    have hD : va_D A [(h2, .inr (0, [.int (nI cn), .ref b1, .ref b2, .ref b3])), (b1, .inl (cI, 100, .inl (upd o1 cn xj))), (b2, .inl (cI, 100, .inl (upd o2 cn xk))), (b3, .inl (cI, 100, .inl (upd o3 cn xc)))] := hD
    refine lv_aload_n hx hb dX0_note_40 rfl (lv_at hl 0 rfl) ?_
    refine lv_dup hx hb dX0_note_41 rfl ?_
    refine va_get (D := (dC, dI)) (ci := 0) (v := .int (nI cn)) (C := RX0) (T := TX0) (N := 4) hx hb hts (by decide +kernel) hown hK hP 0 rfl rfl 0 (by decide) (hts (.fieldLink RX0 9 "BatchClasses$FailureLog" "count" "I") (by decide +kernel)) (fun _ h9 => h9) rfl dX0_note_42 ?_
    refine lv_iconst (v := 1) hx hb dX0_note_45 (by decide) ?_
    refine lv_iadd hx hb dX0_note_46 ?_
    refine lv_topi (fun z_46 ez_46 => ?_)
    obtain rfl : z_46 = nI (cn + 1) := ez_46.trans (nI_add cn 1)
    refine va_put (D := (dC, dI)) (ci := 0) (v := .int (nI (cn + 1))) (ty := .int) (C := RX0) (T := TX0) (N := 4) hx hb hts (by decide +kernel) tyX0 tyX0_ok nmX0 hown hK hP hD hS 0 rfl rfl 0 (by decide) (hts (.fieldLink RX0 9 "BatchClasses$FailureLog" "count" "I") (by decide +kernel)) (fun _ h9 => h9) rfl (by decide +kernel) rfl rfl (Nat.le_of_ble_eq_true rfl) dX0_note_47 (fun H locs hP hD hS => ?_)
    have hP : va_P (dC, dI) vwC2 [(h2, .inr (0, [.int (nI (cn + 1)), .ref b1, .ref b2, .ref b3])), (b1, .inl (cI, 100, .inl (upd o1 cn xj))), (b2, .inl (cI, 100, .inl (upd o2 cn xk))), (b3, .inl (cI, 100, .inl (upd o3 cn xc)))] H := hP
    have hD : va_D A [(h2, .inr (0, [.int (nI (cn + 1)), .ref b1, .ref b2, .ref b3])), (b1, .inl (cI, 100, .inl (upd o1 cn xj))), (b2, .inl (cI, 100, .inl (upd o2 cn xk))), (b3, .inl (cI, 100, .inl (upd o3 cn xc)))] := hD
    exact W.vret hx hb hr (fun t ht hW => ⟨⟨((cn + 1), (upd o1 cn xj), (upd o2 cn xk), (upd o3 cn xc)), rfl, by first | (simp only [pL_note, if_pos c_6]; done) | (simp only [pL_note, if_pos c_6]; rfl) | rfl, by rw [ht]; exact hP, va_K.moved hW.alike hK, hD⟩, hS.F ht⟩) hS.2.2 dX0_note_50
  · have c_6 : ¬ (cn < 100) := mt (@nI_ltI cn 100 (by omega) (by omega)  ).mpr c_6
    exact W.vret hx hb hr (fun t ht hW => ⟨⟨(cn, o1, o2, o3), rfl, by first | (simp only [pL_note, if_neg c_6]; done) | (simp only [pL_note, if_neg c_6]; rfl) | rfl, by rw [ht]; exact hP, va_K.moved hW.alike hK, hD⟩, hS.F ht⟩) hS.2.2 dX0_note_9
def pL_look (cn : (Nat)) (o1 : Nat → Int32) (o2 : Nat → Int32) (o3 : Nat → Int32) (xi : Int32) (xw : Int32) : Int32 :=
  if xi < 0 then
    (-1)
  else
    if xi < (nI cn) then
      if xw = 0 then
        (o1 xi.toNatClampNeg)
      else
        if xw = 1 then
          (o2 xi.toNatClampNeg)
        else
          if xw = 2 then
            (o3 xi.toNatClampNeg)
          else
            (-1)
    else
      (-1)
set_option maxHeartbeats 4000000 in
set_option maxRecDepth 100000 in
theorem k_X0_look (l : Launch) (dC : Nat → ClassId) (dI : Nat → Nat → Nat) (cI cZ cJ : ClassId) (sz : Nat) (h2 b1 b2 b3 : Nat) (cn : (Nat)) (o1 o2 o3 : Nat → Int32) (xi xw : Int32) (hcn : cn ≤ 100) : Met l yX0_look wsX0_look ({ frames := 0, cells := 0, slots := 0, locals := 0 }) (va_Pc [.ref h2, .int xi, .int xw] (fun U => U.heap.size = sz ∧ va_P (dC, dI) vwC2 [(h2, .inr (0, [.int (nI cn), .ref b1, .ref b2, .ref b3])), (b1, .inl (cI, 100, .inl o1)), (b2, .inl (cI, 100, .inl o2)), (b3, .inl (cI, 100, .inl o3))] U.heap ∧ va_K (dC, dI) vwC2 [(cI, .int), (cZ, .boolean), (cJ, .long)] U ∧ va_D (fun _ => True) [(h2, .inr (0, [.int (nI cn), .ref b1, .ref b2, .ref b3])), (b1, .inl (cI, 100, .inl o1)), (b2, .inl (cI, 100, .inl o2)), (b3, .inl (cI, 100, .inl o3))])) (va_Qi (fun (r : Int32) (_ : Unit) => r = pL_look cn o1 o2 o3 xi xw) (fun (_ : Unit) (t : State) => va_P (dC, dI) vwC2 [(h2, .inr (0, [.int (nI cn), .ref b1, .ref b2, .ref b3])), (b1, .inl (cI, 100, .inl o1)), (b2, .inl (cI, 100, .inl o2)), (b3, .inl (cI, 100, .inl o3))] t.heap ∧ va_K (dC, dI) vwC2 [(cI, .int), (cZ, .boolean), (cJ, .long)] t ∧ va_D (va_A [(h2, .inr (0, [.int (nI cn), .ref b1, .ref b2, .ref b3])), (b1, .inl (cI, 100, .inl o1)), (b2, .inl (cI, 100, .inl o2)), (b3, .inl (cI, 100, .inl o3))] sz) [(h2, .inr (0, [.int (nI cn), .ref b1, .ref b2, .ref b3])), (b1, .inl (cI, 100, .inl o1)), (b2, .inl (cI, 100, .inl o2)), (b3, .inl (cI, 100, .inl o3))]) (va_A [(h2, .inr (0, [.int (nI cn), .ref b1, .ref b2, .ref b3])), (b1, .inl (cI, 100, .inl o1)), (b2, .inl (cI, 100, .inl o2)), (b3, .inl (cI, 100, .inl o3))] sz)) 0 0 (va_A [(h2, .inr (0, [.int (nI cn), .ref b1, .ref b2, .ref b3])), (b1, .inl (cI, 100, .inl o1)), (b2, .inl (cI, 100, .inl o2)), (b3, .inl (cI, 100, .inl o3))] sz) := by
  refine Met.ofW (cc := cX0_look) (maxL := 3) (ret := (some .int)) (by decide) rfl ?_
  intro p e s m args below meth c s₁ B hml hv
  obtain ⟨rfl, hsz, hP, hK, hD0⟩ := hv
  have hx := B.exec
  have hb := B.bytes
  have hr := B.returns
  have hts := atoms_spec (ws := wsX0_look) B.pre
  have hown : s.vm.findClass RX0 = some m.cls := findClass_of_methodNamed B.named
  have hlocks := B.notSynchronized
  subst hsz
  have hD := hD0.self (sz := s.heap.size)
  generalize hAe : va_A [(h2, .inr (0, [.int (nI cn), .ref b1, .ref b2, .ref b3])), (b1, .inl (cI, 100, .inl o1)), (b2, .inl (cI, 100, .inl o2)), (b3, .inl (cI, 100, .inl o3))] s.heap.size = A at hD ⊢
  have hA : ∀ q : Nat, s.heap.size ≤ q → A q := fun q h => by rw [← hAe]; exact Or.inr h
  have hS : va_S A s.heap s.heap [] := va_S.rf
  have hP : va_P (dC, dI) vwC2 [(h2, .inr (0, [.int (nI cn), .ref b1, .ref b2, .ref b3])), (b1, .inl (cI, 100, .inl o1)), (b2, .inl (cI, 100, .inl o2)), (b3, .inl (cI, 100, .inl o3))] s.heap := hP
  have hl := lv_entry ([.ref h2, .int xi, .int xw]) (n := 3) (Nat.le_of_ble_eq_true rfl)
  rw [lg_entry_eq]
  generalize (lg_sl ([.ref h2, .int xi, .int xw]) ++ List.replicate (3 - (lg_sl ([.ref h2, .int xi, .int xw])).length) Slot.unset).toArray = ls at hl ⊢
  have hl : lv_has ls 3 [(0, .ref h2), (1, .int xi), (2, .int xw)] := hl
  refine lv_iload_n hx hb dX0_look_0 rfl (lv_at hl 1 rfl) ?_
  refine lv_if_lt (tgt := 12) hx hb dX0_look_1 (by decide) (fun c_1 => ?_) (fun c_1 => ?_)
  · refine lv_iconst (v := (-1)) hx hb dX0_look_12 (by decide) ?_
    exact W.iret (v := (-1)) hx hb hr (fun t ht hW => ⟨⟨(-1), (), rfl, by first | (simp only [pL_look, if_pos c_1]; done) | (simp only [pL_look, if_pos c_1]; rfl) | rfl, by rw [ht]; exact hP, va_K.moved hW.alike hK, hD⟩, hS.F ht⟩) hS.2.2 dX0_look_13
  · refine lv_iload_n hx hb dX0_look_4 rfl (lv_at hl 1 rfl) ?_
    refine lv_aload_n hx hb dX0_look_5 rfl (lv_at hl 0 rfl) ?_
    refine va_get (D := (dC, dI)) (ci := 0) (v := .int (nI cn)) (C := RX0) (T := TX0) (N := 4) hx hb hts (by decide +kernel) hown hK hP 0 rfl rfl 0 (by decide) (hts (.fieldLink RX0 9 "BatchClasses$FailureLog" "count" "I") (by decide +kernel)) (fun _ h9 => h9) rfl dX0_look_6 ?_
    refine lv_icmp_lt (tgt := 14) hx hb dX0_look_9 (by decide) (fun c_9 => ?_) (fun c_9 => ?_)
    · obtain ⟨jx, hjx0, hjx, rfl⟩ := nat_lt c_1 c_9 (by omega)
      refine lv_iload_n hx hb dX0_look_14 rfl (lv_at hl 2 rfl) ?_
      rcases sw_3 xw with e_15 | e_15 | e_15 | e_15
      · refine lv_tableIn (tgt := 40) hx hb dX0_look_15 (by rw [e_15]; decide) (by rw [e_15]; decide) (by rw [e_15]; rfl) (by decide) ?_
        refine lv_aload_n hx hb dX0_look_40 rfl (lv_at hl 0 rfl) ?_
        refine va_get (D := (dC, dI)) (ci := 0) (v := .ref b1) (C := RX0) (T := TX0) (N := 4) hx hb hts (by decide +kernel) hown hK hP 0 rfl rfl 1 (by decide) (hts (.fieldLink RX0 15 "BatchClasses$FailureLog" "ofRecord" "[I") (by decide +kernel)) (fun _ h9 => h9) rfl dX0_look_41 ?_
        refine lv_iload_n hx hb dX0_look_44 rfl (lv_at hl 1 rfl) ?_
        refine va_iald hx hb hK hP 1 0 rfl rfl (vp_in_nI (by omega) (by omega)) dX0_look_45 ?_
        refine lv_topi (fun z_45 ez_45 => ?_)
        obtain rfl : z_45 = o1 jx := ez_45.trans (by rw [nI_clamp (n := jx) (by omega)])
        exact W.iret (v := (o1 jx)) hx hb hr (fun t ht hW => ⟨⟨(o1 jx), (), rfl, by first | (simp only [pL_look, if_neg c_1, nI_clamp (n := jx) (by omega), if_pos c_9, if_pos e_15]; done) | (simp only [pL_look, if_neg c_1, nI_clamp (n := jx) (by omega), if_pos c_9, if_pos e_15]; rfl) | rfl, by rw [ht]; exact hP, va_K.moved hW.alike hK, hD⟩, hS.F ht⟩) hS.2.2 dX0_look_46
      · refine lv_tableIn (tgt := 47) hx hb dX0_look_15 (by rw [e_15]; decide) (by rw [e_15]; decide) (by rw [e_15]; rfl) (by decide) ?_
        refine lv_aload_n hx hb dX0_look_47 rfl (lv_at hl 0 rfl) ?_
        refine va_get (D := (dC, dI)) (ci := 0) (v := .ref b2) (C := RX0) (T := TX0) (N := 4) hx hb hts (by decide +kernel) hown hK hP 0 rfl rfl 2 (by decide) (hts (.fieldLink RX0 19 "BatchClasses$FailureLog" "ofKind" "[I") (by decide +kernel)) (fun _ h9 => h9) rfl dX0_look_48 ?_
        refine lv_iload_n hx hb dX0_look_51 rfl (lv_at hl 1 rfl) ?_
        refine va_iald hx hb hK hP 2 0 rfl rfl (vp_in_nI (by omega) (by omega)) dX0_look_52 ?_
        refine lv_topi (fun z_52 ez_52 => ?_)
        obtain rfl : z_52 = o2 jx := ez_52.trans (by rw [nI_clamp (n := jx) (by omega)])
        exact W.iret (v := (o2 jx)) hx hb hr (fun t ht hW => ⟨⟨(o2 jx), (), rfl, by first | (simp only [pL_look, if_neg c_1, nI_clamp (n := jx) (by omega), if_pos c_9, if_neg (show ¬ xw = 0 from by rw [e_15]; decide), if_pos e_15]; done) | (simp only [pL_look, if_neg c_1, nI_clamp (n := jx) (by omega), if_pos c_9, if_neg (show ¬ xw = 0 from by rw [e_15]; decide), if_pos e_15]; rfl) | rfl, by rw [ht]; exact hP, va_K.moved hW.alike hK, hD⟩, hS.F ht⟩) hS.2.2 dX0_look_53
      · refine lv_tableIn (tgt := 54) hx hb dX0_look_15 (by rw [e_15]; decide) (by rw [e_15]; decide) (by rw [e_15]; rfl) (by decide) ?_
        refine lv_aload_n hx hb dX0_look_54 rfl (lv_at hl 0 rfl) ?_
        refine va_get (D := (dC, dI)) (ci := 0) (v := .ref b3) (C := RX0) (T := TX0) (N := 4) hx hb hts (by decide +kernel) hown hK hP 0 rfl rfl 3 (by decide) (hts (.fieldLink RX0 22 "BatchClasses$FailureLog" "ofClass" "[I") (by decide +kernel)) (fun _ h9 => h9) rfl dX0_look_55 ?_
        refine lv_iload_n hx hb dX0_look_58 rfl (lv_at hl 1 rfl) ?_
        refine va_iald hx hb hK hP 3 0 rfl rfl (vp_in_nI (by omega) (by omega)) dX0_look_59 ?_
        refine lv_topi (fun z_59 ez_59 => ?_)
        obtain rfl : z_59 = o3 jx := ez_59.trans (by rw [nI_clamp (n := jx) (by omega)])
        exact W.iret (v := (o3 jx)) hx hb hr (fun t ht hW => ⟨⟨(o3 jx), (), rfl, by first | (simp only [pL_look, if_neg c_1, nI_clamp (n := jx) (by omega), if_pos c_9, if_neg (show ¬ xw = 0 from by rw [e_15]; decide), if_neg (show ¬ xw = 1 from by rw [e_15]; decide), if_pos e_15]; done) | (simp only [pL_look, if_neg c_1, nI_clamp (n := jx) (by omega), if_pos c_9, if_neg (show ¬ xw = 0 from by rw [e_15]; decide), if_neg (show ¬ xw = 1 from by rw [e_15]; decide), if_pos e_15]; rfl) | rfl, by rw [ht]; exact hP, va_K.moved hW.alike hK, hD⟩, hS.F ht⟩) hS.2.2 dX0_look_60
      · refine lv_tableOut (tgt := 61) hx hb dX0_look_15 e_15.1 (by decide) ?_
        refine lv_iconst (v := (-1)) hx hb dX0_look_61 (by decide) ?_
        exact W.iret (v := (-1)) hx hb hr (fun t ht hW => ⟨⟨(-1), (), rfl, by first | (simp only [pL_look, if_neg c_1, nI_clamp (n := jx) (by omega), if_pos c_9, if_neg (show ¬ xw = 0 from e_15.2.1), if_neg (show ¬ xw = 1 from e_15.2.2.1), if_neg (show ¬ xw = 2 from e_15.2.2.2)]; done) | (simp only [pL_look, if_neg c_1, nI_clamp (n := jx) (by omega), if_pos c_9, if_neg (show ¬ xw = 0 from e_15.2.1), if_neg (show ¬ xw = 1 from e_15.2.2.1), if_neg (show ¬ xw = 2 from e_15.2.2.2)]; rfl) | rfl, by rw [ht]; exact hP, va_K.moved hW.alike hK, hD⟩, hS.F ht⟩) hS.2.2 dX0_look_62
    · refine lv_iconst (v := (-1)) hx hb dX0_look_12 (by decide) ?_
      exact W.iret (v := (-1)) hx hb hr (fun t ht hW => ⟨⟨(-1), (), rfl, by first | (simp only [pL_look, if_neg c_1, if_neg c_9]; done) | (simp only [pL_look, if_neg c_1, if_neg c_9]; rfl) | rfl, by rw [ht]; exact hP, va_K.moved hW.alike hK, hD⟩, hS.F ht⟩) hS.2.2 dX0_look_13
