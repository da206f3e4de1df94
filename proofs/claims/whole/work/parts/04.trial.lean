def pT_swap (ta : Int64) (tb : Int64) : Int64 × Int64 :=
  (tb, ta)
set_option maxHeartbeats 4000000 in
set_option maxRecDepth 100000 in
/-- A and B change places -/
theorem k_X1_swap (l : Launch) (dC : Nat → ClassId) (dI : Nat → Nat → Nat) (cI cZ cJ : ClassId) (sz : Nat) (h1 : Nat) (ta tb tc td te : Int64) (tk : Int32) : Met l yX1_swap wsX1_swap ({ frames := 0, cells := 0, slots := 0, locals := 0 }) (va_Pc [.ref h1] (fun U => U.heap.size = sz ∧ va_P (dC, dI) vwC2 [(h1, .inr (1, [.long ta, .long tb, .long tc, .long td, .long te, .int tk]))] U.heap ∧ va_K (dC, dI) vwC2 [(cI, .int), (cZ, .boolean), (cJ, .long)] U ∧ va_D (fun _ => True) [(h1, .inr (1, [.long ta, .long tb, .long tc, .long td, .long te, .int tk]))])) (va_Qv (fun (u : Int64 × Int64) => u = pT_swap ta tb) (fun (u : Int64 × Int64) (t : State) => match u with | (ta', tb') => va_P (dC, dI) vwC2 [(h1, .inr (1, [.long ta', .long tb', .long tc, .long td, .long te, .int tk]))] t.heap ∧ va_K (dC, dI) vwC2 [(cI, .int), (cZ, .boolean), (cJ, .long)] t ∧ va_D (va_A [(h1, .inr (1, [.long ta, .long tb, .long tc, .long td, .long te, .int tk]))] sz) [(h1, .inr (1, [.long ta', .long tb', .long tc, .long td, .long te, .int tk]))]) (va_A [(h1, .inr (1, [.long ta, .long tb, .long tc, .long td, .long te, .int tk]))] sz)) 0 0 (va_A [(h1, .inr (1, [.long ta, .long tb, .long tc, .long td, .long te, .int tk]))] sz) := by
  refine Met.ofW (cc := cX1_swap) (maxL := 3) (ret := none) (by decide) rfl ?_
  intro p e s m args below meth c s₁ B hml hv
  obtain ⟨rfl, hsz, hP, hK, hD0⟩ := hv
  have hx := B.exec
  have hb := B.bytes
  have hr := B.returns
  have hts := atoms_spec (ws := wsX1_swap) B.pre
  have hown : s.vm.findClass RX1 = some m.cls := findClass_of_methodNamed B.named
  have hlocks := B.notSynchronized
  subst hsz
  have hD := hD0.self (sz := s.heap.size)
  generalize hAe : va_A [(h1, .inr (1, [.long ta, .long tb, .long tc, .long td, .long te, .int tk]))] s.heap.size = A at hD ⊢
  have hA : ∀ q : Nat, s.heap.size ≤ q → A q := fun q h => by rw [← hAe]; exact Or.inr h
  have hS : va_S A s.heap s.heap [] := va_S.rf
  have hP : va_P (dC, dI) vwC2 [(h1, .inr (1, [.long ta, .long tb, .long tc, .long td, .long te, .int tk]))] s.heap := hP
  have hl := lv_entry ([.ref h1]) (n := 3) (Nat.le_of_ble_eq_true rfl)
  rw [lg_entry_eq]
  generalize (lg_sl ([.ref h1]) ++ List.replicate (3 - (lg_sl ([.ref h1])).length) Slot.unset).toArray = ls at hl ⊢
  have hl : lv_has ls 3 [(0, .ref h1)] := hl
  refine lv_aload_n hx hb dX1_swap_0 rfl (lv_at hl 0 rfl) ?_
  refine va_get (D := (dC, dI)) (ci := 1) (v := .long ta) (C := RX1) (T := TX1) (N := 6) hx hb hts (by decide +kernel) hown hK hP 0 rfl rfl 0 (by decide) (hts (.fieldLink RX1 9 "BatchClasses$Trial" "a" "J") (by decide +kernel)) (fun _ h9 => h9) rfl dX1_swap_1 ?_
  refine lv_lstore_n (lv' := [(1, .long ta), (0, .ref h1)]) hx hb dX1_swap_4 rfl hl (by decide) rfl (fun ls hl => ?_)
  refine lv_aload_n hx hb dX1_swap_5 rfl (lv_at hl 1 rfl) ?_
  refine lv_aload_n hx hb dX1_swap_6 rfl (lv_at hl 1 rfl) ?_
  refine va_get (D := (dC, dI)) (ci := 1) (v := .long tb) (C := RX1) (T := TX1) (N := 6) hx hb hts (by decide +kernel) hown hK hP 0 rfl rfl 1 (by decide) (hts (.fieldLink RX1 15 "BatchClasses$Trial" "b" "J") (by decide +kernel)) (fun _ h9 => h9) rfl dX1_swap_7 ?_
  refine va_put (D := (dC, dI)) (ci := 1) (v := .long tb) (ty := .long) (C := RX1) (T := TX1) (N := 6) hx hb hts (by decide +kernel) tyX1 tyX1_ok nmX1 hown hK hP hD hS 0 rfl rfl 0 (by decide) (hts (.fieldLink RX1 9 "BatchClasses$Trial" "a" "J") (by decide +kernel)) (fun _ h9 => h9) rfl (by decide +kernel) rfl rfl (Nat.le_of_ble_eq_true rfl) dX1_swap_10 (fun H locs hP hD hS => ?_)
  have hP : va_P (dC, dI) vwC2 [(h1, .inr (1, [.long tb, .long tb, .long tc, .long td, .long te, .int tk]))] H := hP
  have hD : va_D A [(h1, .inr (1, [.long tb, .long tb, .long tc, .long td, .long te, .int tk]))] := hD
  refine lv_aload_n hx hb dX1_swap_13 rfl (lv_at hl 1 rfl) ?_
  refine lv_lload_n hx hb dX1_swap_14 rfl (lv_at hl 0 rfl) ?_
  refine va_put (D := (dC, dI)) (ci := 1) (v := .long ta) (ty := .long) (C := RX1) (T := TX1) (N := 6) hx hb hts (by decide +kernel) tyX1 tyX1_ok nmX1 hown hK hP hD hS 0 rfl rfl 1 (by decide) (hts (.fieldLink RX1 15 "BatchClasses$Trial" "b" "J") (by decide +kernel)) (fun _ h9 => h9) rfl (by decide +kernel) rfl rfl (Nat.le_of_ble_eq_true rfl) dX1_swap_15 (fun H locs hP hD hS => ?_)
  have hP : va_P (dC, dI) vwC2 [(h1, .inr (1, [.long tb, .long ta, .long tc, .long td, .long te, .int tk]))] H := hP
  have hD : va_D A [(h1, .inr (1, [.long tb, .long ta, .long tc, .long td, .long te, .int tk]))] := hD
  exact W.vret hx hb hr (fun t ht hW => ⟨⟨(tb, ta), rfl, by first | (simp only [pT_swap]; done) | (simp only [pT_swap]; rfl) | rfl, by rw [ht]; exact hP, va_K.moved hW.alike hK, hD⟩, hS.F ht⟩) hS.2.2 dX1_swap_18
def pT_load (fi : Nat → Int64) (bs : (Nat)) (lc : Int64) : Int64 × Int64 × Int64 × Int64 × Int64 × Int32 :=
  ((fi bs), (fi (bs + 1)), (fi (bs + 2)), (fi (bs + 3)), lc, 0)
set_option maxHeartbeats 4000000 in
set_option maxRecDepth 100000 in
theorem k_X1_load (l : Launch) (dC : Nat → ClassId) (dI : Nat → Nat → Nat) (cI cZ cJ : ClassId) (sz : Nat) (h1 a6 : Nat) (ta tb tc td te : Int64) (tk : Int32) (fi : Nat → Int64) (bs : (Nat)) (lc : Int64) (hbs : bs + 3 < 240) : Met l yX1_load wsX1_load ({ frames := 0, cells := 0, slots := 0, locals := 0 }) (va_Pc [.ref h1, .ref a6, .int (nI bs), .long lc] (fun U => U.heap.size = sz ∧ va_P (dC, dI) vwC2 [(h1, .inr (1, [.long ta, .long tb, .long tc, .long td, .long te, .int tk])), (a6, .inl (cJ, 240, .inr (.inl fi)))] U.heap ∧ va_K (dC, dI) vwC2 [(cI, .int), (cZ, .boolean), (cJ, .long)] U ∧ va_D (fun _ => True) [(h1, .inr (1, [.long ta, .long tb, .long tc, .long td, .long te, .int tk])), (a6, .inl (cJ, 240, .inr (.inl fi)))])) (va_Qv (fun (u : Int64 × Int64 × Int64 × Int64 × Int64 × Int32) => u = pT_load fi bs lc) (fun (u : Int64 × Int64 × Int64 × Int64 × Int64 × Int32) (t : State) => match u with | (ta', tb', tc', td', te', tk') => va_P (dC, dI) vwC2 [(h1, .inr (1, [.long ta', .long tb', .long tc', .long td', .long te', .int tk'])), (a6, .inl (cJ, 240, .inr (.inl fi)))] t.heap ∧ va_K (dC, dI) vwC2 [(cI, .int), (cZ, .boolean), (cJ, .long)] t ∧ va_D (va_A [(h1, .inr (1, [.long ta, .long tb, .long tc, .long td, .long te, .int tk])), (a6, .inl (cJ, 240, .inr (.inl fi)))] sz) [(h1, .inr (1, [.long ta', .long tb', .long tc', .long td', .long te', .int tk'])), (a6, .inl (cJ, 240, .inr (.inl fi)))]) (va_A [(h1, .inr (1, [.long ta, .long tb, .long tc, .long td, .long te, .int tk])), (a6, .inl (cJ, 240, .inr (.inl fi)))] sz)) 0 0 (va_A [(h1, .inr (1, [.long ta, .long tb, .long tc, .long td, .long te, .int tk])), (a6, .inl (cJ, 240, .inr (.inl fi)))] sz) := by
  refine Met.ofW (cc := cX1_load) (maxL := 5) (ret := none) (by decide) rfl ?_
  intro p e s m args below meth c s₁ B hml hv
  obtain ⟨rfl, hsz, hP, hK, hD0⟩ := hv
  have hx := B.exec
  have hb := B.bytes
  have hr := B.returns
  have hts := atoms_spec (ws := wsX1_load) B.pre
  have hown : s.vm.findClass RX1 = some m.cls := findClass_of_methodNamed B.named
  have hlocks := B.notSynchronized
  subst hsz
  have hD := hD0.self (sz := s.heap.size)
  generalize hAe : va_A [(h1, .inr (1, [.long ta, .long tb, .long tc, .long td, .long te, .int tk])), (a6, .inl (cJ, 240, .inr (.inl fi)))] s.heap.size = A at hD ⊢
  have hA : ∀ q : Nat, s.heap.size ≤ q → A q := fun q h => by rw [← hAe]; exact Or.inr h
  have hS : va_S A s.heap s.heap [] := va_S.rf
  have hP : va_P (dC, dI) vwC2 [(h1, .inr (1, [.long ta, .long tb, .long tc, .long td, .long te, .int tk])), (a6, .inl (cJ, 240, .inr (.inl fi)))] s.heap := hP
  have hl := lv_entry ([.ref h1, .ref a6, .int (nI bs), .long lc]) (n := 5) (Nat.le_of_ble_eq_true rfl)
  rw [lg_entry_eq]
  generalize (lg_sl ([.ref h1, .ref a6, .int (nI bs), .long lc]) ++ List.replicate (5 - (lg_sl ([.ref h1, .ref a6, .int (nI bs), .long lc])).length) Slot.unset).toArray = ls at hl ⊢
  have hl : lv_has ls 5 [(0, .ref h1), (1, .ref a6), (2, .int (nI bs)), (3, .long lc)] := hl
  refine lv_aload_n hx hb dX1_load_0 rfl (lv_at hl 0 rfl) ?_
  refine lv_aload_n hx hb dX1_load_1 rfl (lv_at hl 1 rfl) ?_
  refine lv_iload_n hx hb dX1_load_2 rfl (lv_at hl 2 rfl) ?_
  refine va_lald hx hb hK hP 1 2 rfl rfl (vp_in_nI (by omega) (by omega)) dX1_load_3 ?_
  refine lv_topl (fun z_3 ez_3 => ?_)
  obtain rfl : z_3 = fi bs := ez_3.trans (by rw [nI_clamp (n := bs) (by omega)])
  refine va_put (D := (dC, dI)) (ci := 1) (v := .long (fi bs)) (ty := .long) (C := RX1) (T := TX1) (N := 6) hx hb hts (by decide +kernel) tyX1 tyX1_ok nmX1 hown hK hP hD hS 0 rfl rfl 0 (by decide) (hts (.fieldLink RX1 9 "BatchClasses$Trial" "a" "J") (by decide +kernel)) (fun _ h9 => h9) rfl (by decide +kernel) rfl rfl (Nat.le_of_ble_eq_true rfl) dX1_load_4 (fun H locs hP hD hS => ?_)
  have hP : va_P (dC, dI) vwC2 [(h1, .inr (1, [.long (fi bs), .long tb, .long tc, .long td, .long te, .int tk])), (a6, .inl (cJ, 240, .inr (.inl fi)))] H := hP
  have hD : va_D A [(h1, .inr (1, [.long (fi bs), .long tb, .long tc, .long td, .long te, .int tk])), (a6, .inl (cJ, 240, .inr (.inl fi)))] := hD
  refine lv_aload_n hx hb dX1_load_7 rfl (lv_at hl 0 rfl) ?_
  refine lv_aload_n hx hb dX1_load_8 rfl (lv_at hl 1 rfl) ?_
  refine lv_iload_n hx hb dX1_load_9 rfl (lv_at hl 2 rfl) ?_
  refine lv_iconst (v := 1) hx hb dX1_load_10 (by decide) ?_
  refine lv_iadd hx hb dX1_load_11 ?_
  refine lv_topi (fun z_11 ez_11 => ?_)
  obtain rfl : z_11 = nI (bs + 1) := ez_11.trans (nI_add bs 1)
  refine va_lald hx hb hK hP 1 2 rfl rfl (vp_in_nI (by omega) (by omega)) dX1_load_12 ?_
  refine lv_topl (fun z_12 ez_12 => ?_)
  obtain rfl : z_12 = fi (bs + 1) := ez_12.trans (by rw [nI_clamp (n := (bs + 1)) (by omega)])
  refine va_put (D := (dC, dI)) (ci := 1) (v := .long (fi (bs + 1))) (ty := .long) (C := RX1) (T := TX1) (N := 6) hx hb hts (by decide +kernel) tyX1 tyX1_ok nmX1 hown hK hP hD hS 0 rfl rfl 1 (by decide) (hts (.fieldLink RX1 15 "BatchClasses$Trial" "b" "J") (by decide +kernel)) (fun _ h9 => h9) rfl (by decide +kernel) rfl rfl (Nat.le_of_ble_eq_true rfl) dX1_load_13 (fun H locs hP hD hS => ?_)
  have hP : va_P (dC, dI) vwC2 [(h1, .inr (1, [.long (fi bs), .long (fi (bs + 1)), .long tc, .long td, .long te, .int tk])), (a6, .inl (cJ, 240, .inr (.inl fi)))] H := hP
  have hD : va_D A [(h1, .inr (1, [.long (fi bs), .long (fi (bs + 1)), .long tc, .long td, .long te, .int tk])), (a6, .inl (cJ, 240, .inr (.inl fi)))] := hD
  refine lv_aload_n hx hb dX1_load_16 rfl (lv_at hl 0 rfl) ?_
  refine lv_aload_n hx hb dX1_load_17 rfl (lv_at hl 1 rfl) ?_
  refine lv_iload_n hx hb dX1_load_18 rfl (lv_at hl 2 rfl) ?_
  refine lv_iconst (v := 2) hx hb dX1_load_19 (by decide) ?_
  refine lv_iadd hx hb dX1_load_20 ?_
  refine lv_topi (fun z_20 ez_20 => ?_)
  obtain rfl : z_20 = nI (bs + 2) := ez_20.trans (nI_add bs 2)
  refine va_lald hx hb hK hP 1 2 rfl rfl (vp_in_nI (by omega) (by omega)) dX1_load_21 ?_
  refine lv_topl (fun z_21 ez_21 => ?_)
  obtain rfl : z_21 = fi (bs + 2) := ez_21.trans (by rw [nI_clamp (n := (bs + 2)) (by omega)])
  refine va_put (D := (dC, dI)) (ci := 1) (v := .long (fi (bs + 2))) (ty := .long) (C := RX1) (T := TX1) (N := 6) hx hb hts (by decide +kernel) tyX1 tyX1_ok nmX1 hown hK hP hD hS 0 rfl rfl 2 (by decide) (hts (.fieldLink RX1 18 "BatchClasses$Trial" "c" "J") (by decide +kernel)) (fun _ h9 => h9) rfl (by decide +kernel) rfl rfl (Nat.le_of_ble_eq_true rfl) dX1_load_22 (fun H locs hP hD hS => ?_)
  have hP : va_P (dC, dI) vwC2 [(h1, .inr (1, [.long (fi bs), .long (fi (bs + 1)), .long (fi (bs + 2)), .long td, .long te, .int tk])), (a6, .inl (cJ, 240, .inr (.inl fi)))] H := hP
  have hD : va_D A [(h1, .inr (1, [.long (fi bs), .long (fi (bs + 1)), .long (fi (bs + 2)), .long td, .long te, .int tk])), (a6, .inl (cJ, 240, .inr (.inl fi)))] := hD
  refine lv_aload_n hx hb dX1_load_25 rfl (lv_at hl 0 rfl) ?_
  refine lv_aload_n hx hb dX1_load_26 rfl (lv_at hl 1 rfl) ?_
  refine lv_iload_n hx hb dX1_load_27 rfl (lv_at hl 2 rfl) ?_
  refine lv_iconst (v := 3) hx hb dX1_load_28 (by decide) ?_
  refine lv_iadd hx hb dX1_load_29 ?_
  refine lv_topi (fun z_29 ez_29 => ?_)
  obtain rfl : z_29 = nI (bs + 3) := ez_29.trans (nI_add bs 3)
  refine va_lald hx hb hK hP 1 2 rfl rfl (vp_in_nI (by omega) (by omega)) dX1_load_30 ?_
  refine lv_topl (fun z_30 ez_30 => ?_)
  obtain rfl : z_30 = fi (bs + 3) := ez_30.trans (by rw [nI_clamp (n := (bs + 3)) (by omega)])
  refine va_put (D := (dC, dI)) (ci := 1) (v := .long (fi (bs + 3))) (ty := .long) (C := RX1) (T := TX1) (N := 6) hx hb hts (by decide +kernel) tyX1 tyX1_ok nmX1 hown hK hP hD hS 0 rfl rfl 3 (by decide) (hts (.fieldLink RX1 21 "BatchClasses$Trial" "d" "J") (by decide +kernel)) (fun _ h9 => h9) rfl (by decide +kernel) rfl rfl (Nat.le_of_ble_eq_true rfl) dX1_load_31 (fun H locs hP hD hS => ?_)
  have hP : va_P (dC, dI) vwC2 [(h1, .inr (1, [.long (fi bs), .long (fi (bs + 1)), .long (fi (bs + 2)), .long (fi (bs + 3)), .long te, .int tk])), (a6, .inl (cJ, 240, .inr (.inl fi)))] H := hP
  have hD : va_D A [(h1, .inr (1, [.long (fi bs), .long (fi (bs + 1)), .long (fi (bs + 2)), .long (fi (bs + 3)), .long te, .int tk])), (a6, .inl (cJ, 240, .inr (.inl fi)))] := hD
  refine lv_aload_n hx hb dX1_load_34 rfl (lv_at hl 0 rfl) ?_
  refine lv_lload_n hx hb dX1_load_35 rfl (lv_at hl 3 rfl) ?_
  refine va_put (D := (dC, dI)) (ci := 1) (v := .long lc) (ty := .long) (C := RX1) (T := TX1) (N := 6) hx hb hts (by decide +kernel) tyX1 tyX1_ok nmX1 hown hK hP hD hS 0 rfl rfl 4 (by decide) (hts (.fieldLink RX1 24 "BatchClasses$Trial" "cell" "J") (by decide +kernel)) (fun _ h9 => h9) rfl (by decide +kernel) rfl rfl (Nat.le_of_ble_eq_true rfl) dX1_load_36 (fun H locs hP hD hS => ?_)
  have hP : va_P (dC, dI) vwC2 [(h1, .inr (1, [.long (fi bs), .long (fi (bs + 1)), .long (fi (bs + 2)), .long (fi (bs + 3)), .long lc, .int tk])), (a6, .inl (cJ, 240, .inr (.inl fi)))] H := hP
  have hD : va_D A [(h1, .inr (1, [.long (fi bs), .long (fi (bs + 1)), .long (fi (bs + 2)), .long (fi (bs + 3)), .long lc, .int tk])), (a6, .inl (cJ, 240, .inr (.inl fi)))] := hD
  refine lv_aload_n hx hb dX1_load_39 rfl (lv_at hl 0 rfl) ?_
  refine lv_iconst (v := 0) hx hb dX1_load_40 (by decide) ?_
  refine va_put (D := (dC, dI)) (ci := 1) (v := .int 0) (ty := .boolean) (C := RX1) (T := TX1) (N := 6) hx hb hts (by decide +kernel) tyX1 tyX1_ok nmX1 hown hK hP hD hS 0 rfl rfl 5 (by decide) (hts (.fieldLink RX1 27 "BatchClasses$Trial" "locks" "Z") (by decide +kernel)) (fun _ h9 => h9) rfl (by decide +kernel) rfl rfl (Nat.le_of_ble_eq_true rfl) dX1_load_41 (fun H locs hP hD hS => ?_)
  have hP : va_P (dC, dI) vwC2 [(h1, .inr (1, [.long (fi bs), .long (fi (bs + 1)), .long (fi (bs + 2)), .long (fi (bs + 3)), .long lc, .int 0])), (a6, .inl (cJ, 240, .inr (.inl fi)))] H := hP
  have hD : va_D A [(h1, .inr (1, [.long (fi bs), .long (fi (bs + 1)), .long (fi (bs + 2)), .long (fi (bs + 3)), .long lc, .int 0])), (a6, .inl (cJ, 240, .inr (.inl fi)))] := hD
  exact W.vret hx hb hr (fun t ht hW => ⟨⟨((fi bs), (fi (bs + 1)), (fi (bs + 2)), (fi (bs + 3)), lc, 0), rfl, by first | (simp only [pT_load]; done) | (simp only [pT_load]; rfl) | rfl, by rw [ht]; exact hP, va_K.moved hW.alike hK, hD⟩, hS.F ht⟩) hS.2.2 dX1_load_44
def pT_store (ta : Int64) (tb : Int64) (tc : Int64) (td : Int64) (fi : Nat → Int64) (bs : (Nat)) : (Nat → Int64) :=
  (vp_updL (vp_updL (vp_updL (vp_updL fi bs ta) (bs + 1) tb) (bs + 2) tc) (bs + 3) td)
set_option maxHeartbeats 4000000 in
set_option maxRecDepth 100000 in
theorem k_X1_store (l : Launch) (dC : Nat → ClassId) (dI : Nat → Nat → Nat) (cI cZ cJ : ClassId) (sz : Nat) (h1 a6 : Nat) (ta tb tc td te : Int64) (tk : Int32) (fi : Nat → Int64) (bs : (Nat)) (hbs : bs + 3 < 240) : Met l yX1_store wsX1_store ({ frames := 0, cells := 0, slots := 0, locals := 0 }) (va_Pc [.ref h1, .ref a6, .int (nI bs)] (fun U => U.heap.size = sz ∧ va_P (dC, dI) vwC2 [(h1, .inr (1, [.long ta, .long tb, .long tc, .long td, .long te, .int tk])), (a6, .inl (cJ, 240, .inr (.inl fi)))] U.heap ∧ va_K (dC, dI) vwC2 [(cI, .int), (cZ, .boolean), (cJ, .long)] U ∧ va_D (fun _ => True) [(h1, .inr (1, [.long ta, .long tb, .long tc, .long td, .long te, .int tk])), (a6, .inl (cJ, 240, .inr (.inl fi)))])) (va_Qv (fun (u : (Nat → Int64)) => u = pT_store ta tb tc td fi bs) (fun (u : (Nat → Int64)) (t : State) => match u with | fi' => va_P (dC, dI) vwC2 [(h1, .inr (1, [.long ta, .long tb, .long tc, .long td, .long te, .int tk])), (a6, .inl (cJ, 240, .inr (.inl fi')))] t.heap ∧ va_K (dC, dI) vwC2 [(cI, .int), (cZ, .boolean), (cJ, .long)] t ∧ va_D (va_A [(h1, .inr (1, [.long ta, .long tb, .long tc, .long td, .long te, .int tk])), (a6, .inl (cJ, 240, .inr (.inl fi)))] sz) [(h1, .inr (1, [.long ta, .long tb, .long tc, .long td, .long te, .int tk])), (a6, .inl (cJ, 240, .inr (.inl fi')))]) (va_A [(h1, .inr (1, [.long ta, .long tb, .long tc, .long td, .long te, .int tk])), (a6, .inl (cJ, 240, .inr (.inl fi)))] sz)) 0 0 (va_A [(h1, .inr (1, [.long ta, .long tb, .long tc, .long td, .long te, .int tk])), (a6, .inl (cJ, 240, .inr (.inl fi)))] sz) := by
  refine Met.ofW (cc := cX1_store) (maxL := 3) (ret := none) (by decide) rfl ?_
  intro p e s m args below meth c s₁ B hml hv
  obtain ⟨rfl, hsz, hP, hK, hD0⟩ := hv
  have hx := B.exec
  have hb := B.bytes
  have hr := B.returns
  have hts := atoms_spec (ws := wsX1_store) B.pre
  have hown : s.vm.findClass RX1 = some m.cls := findClass_of_methodNamed B.named
  have hlocks := B.notSynchronized
  subst hsz
  have hD := hD0.self (sz := s.heap.size)
  generalize hAe : va_A [(h1, .inr (1, [.long ta, .long tb, .long tc, .long td, .long te, .int tk])), (a6, .inl (cJ, 240, .inr (.inl fi)))] s.heap.size = A at hD ⊢
  have hA : ∀ q : Nat, s.heap.size ≤ q → A q := fun q h => by rw [← hAe]; exact Or.inr h
  have hS : va_S A s.heap s.heap [] := va_S.rf
  have hP : va_P (dC, dI) vwC2 [(h1, .inr (1, [.long ta, .long tb, .long tc, .long td, .long te, .int tk])), (a6, .inl (cJ, 240, .inr (.inl fi)))] s.heap := hP
  have hl := lv_entry ([.ref h1, .ref a6, .int (nI bs)]) (n := 3) (Nat.le_of_ble_eq_true rfl)
  rw [lg_entry_eq]
  generalize (lg_sl ([.ref h1, .ref a6, .int (nI bs)]) ++ List.replicate (3 - (lg_sl ([.ref h1, .ref a6, .int (nI bs)])).length) Slot.unset).toArray = ls at hl ⊢
  have hl : lv_has ls 3 [(0, .ref h1), (1, .ref a6), (2, .int (nI bs))] := hl
  refine lv_aload_n hx hb dX1_store_0 rfl (lv_at hl 1 rfl) ?_
  refine lv_iload_n hx hb dX1_store_1 rfl (lv_at hl 2 rfl) ?_
  refine lv_aload_n hx hb dX1_store_2 rfl (lv_at hl 0 rfl) ?_
  refine va_get (D := (dC, dI)) (ci := 1) (v := .long ta) (C := RX1) (T := TX1) (N := 6) hx hb hts (by decide +kernel) hown hK hP 0 rfl rfl 0 (by decide) (hts (.fieldLink RX1 9 "BatchClasses$Trial" "a" "J") (by decide +kernel)) (fun _ h9 => h9) rfl dX1_store_3 ?_
  refine va_last hx hb hK hP hD hS 1 2 rfl rfl (vp_in_nI (by omega) (by omega)) dX1_store_6 (fun H locs hP hD hS => ?_)
  rw [nI_clamp (n := bs) (by omega)] at hP hD
  have hP : va_P (dC, dI) vwC2 [(h1, .inr (1, [.long ta, .long tb, .long tc, .long td, .long te, .int tk])), (a6, .inl (cJ, 240, .inr (.inl (vp_updL fi bs ta))))] H := hP
  have hD : va_D A [(h1, .inr (1, [.long ta, .long tb, .long tc, .long td, .long te, .int tk])), (a6, .inl (cJ, 240, .inr (.inl (vp_updL fi bs ta))))] := hD
  refine lv_aload_n hx hb dX1_store_7 rfl (lv_at hl 1 rfl) ?_
  refine lv_iload_n hx hb dX1_store_8 rfl (lv_at hl 2 rfl) ?_
  refine lv_iconst (v := 1) hx hb dX1_store_9 (by decide) ?_
  refine lv_iadd hx hb dX1_store_10 ?_
  refine lv_topi (fun z_10 ez_10 => ?_)
  obtain rfl : z_10 = nI (bs + 1) := ez_10.trans (nI_add bs 1)
  refine lv_aload_n hx hb dX1_store_11 rfl (lv_at hl 0 rfl) ?_
  refine va_get (D := (dC, dI)) (ci := 1) (v := .long tb) (C := RX1) (T := TX1) (N := 6) hx hb hts (by decide +kernel) hown hK hP 0 rfl rfl 1 (by decide) (hts (.fieldLink RX1 15 "BatchClasses$Trial" "b" "J") (by decide +kernel)) (fun _ h9 => h9) rfl dX1_store_12 ?_
  refine va_last hx hb hK hP hD hS 1 2 rfl rfl (vp_in_nI (by omega) (by omega)) dX1_store_15 (fun H locs hP hD hS => ?_)
  rw [nI_clamp (n := (bs + 1)) (by omega)] at hP hD
  have hP : va_P (dC, dI) vwC2 [(h1, .inr (1, [.long ta, .long tb, .long tc, .long td, .long te, .int tk])), (a6, .inl (cJ, 240, .inr (.inl (vp_updL (vp_updL fi bs ta) (bs + 1) tb))))] H := hP
  have hD : va_D A [(h1, .inr (1, [.long ta, .long tb, .long tc, .long td, .long te, .int tk])), (a6, .inl (cJ, 240, .inr (.inl (vp_updL (vp_updL fi bs ta) (bs + 1) tb))))] := hD
  refine lv_aload_n hx hb dX1_store_16 rfl (lv_at hl 1 rfl) ?_
  refine lv_iload_n hx hb dX1_store_17 rfl (lv_at hl 2 rfl) ?_
  refine lv_iconst (v := 2) hx hb dX1_store_18 (by decide) ?_
  refine lv_iadd hx hb dX1_store_19 ?_
  refine lv_topi (fun z_19 ez_19 => ?_)
  obtain rfl : z_19 = nI (bs + 2) := ez_19.trans (nI_add bs 2)
  refine lv_aload_n hx hb dX1_store_20 rfl (lv_at hl 0 rfl) ?_
  refine va_get (D := (dC, dI)) (ci := 1) (v := .long tc) (C := RX1) (T := TX1) (N := 6) hx hb hts (by decide +kernel) hown hK hP 0 rfl rfl 2 (by decide) (hts (.fieldLink RX1 18 "BatchClasses$Trial" "c" "J") (by decide +kernel)) (fun _ h9 => h9) rfl dX1_store_21 ?_
  refine va_last hx hb hK hP hD hS 1 2 rfl rfl (vp_in_nI (by omega) (by omega)) dX1_store_24 (fun H locs hP hD hS => ?_)
  rw [nI_clamp (n := (bs + 2)) (by omega)] at hP hD
  have hP : va_P (dC, dI) vwC2 [(h1, .inr (1, [.long ta, .long tb, .long tc, .long td, .long te, .int tk])), (a6, .inl (cJ, 240, .inr (.inl (vp_updL (vp_updL (vp_updL fi bs ta) (bs + 1) tb) (bs + 2) tc))))] H := hP
  have hD : va_D A [(h1, .inr (1, [.long ta, .long tb, .long tc, .long td, .long te, .int tk])), (a6, .inl (cJ, 240, .inr (.inl (vp_updL (vp_updL (vp_updL fi bs ta) (bs + 1) tb) (bs + 2) tc))))] := hD
  refine lv_aload_n hx hb dX1_store_25 rfl (lv_at hl 1 rfl) ?_
  refine lv_iload_n hx hb dX1_store_26 rfl (lv_at hl 2 rfl) ?_
  refine lv_iconst (v := 3) hx hb dX1_store_27 (by decide) ?_
  refine lv_iadd hx hb dX1_store_28 ?_
  refine lv_topi (fun z_28 ez_28 => ?_)
  obtain rfl : z_28 = nI (bs + 3) := ez_28.trans (nI_add bs 3)
  refine lv_aload_n hx hb dX1_store_29 rfl (lv_at hl 0 rfl) ?_
  refine va_get (D := (dC, dI)) (ci := 1) (v := .long td) (C := RX1) (T := TX1) (N := 6) hx hb hts (by decide +kernel) hown hK hP 0 rfl rfl 3 (by decide) (hts (.fieldLink RX1 21 "BatchClasses$Trial" "d" "J") (by decide +kernel)) (fun _ h9 => h9) rfl dX1_store_30 ?_
  refine va_last hx hb hK hP hD hS 1 2 rfl rfl (vp_in_nI (by omega) (by omega)) dX1_store_33 (fun H locs hP hD hS => ?_)
  rw [nI_clamp (n := (bs + 3)) (by omega)] at hP hD
  have hP : va_P (dC, dI) vwC2 [(h1, .inr (1, [.long ta, .long tb, .long tc, .long td, .long te, .int tk])), (a6, .inl (cJ, 240, .inr (.inl (vp_updL (vp_updL (vp_updL (vp_updL fi bs ta) (bs + 1) tb) (bs + 2) tc) (bs + 3) td))))] H := hP
  have hD : va_D A [(h1, .inr (1, [.long ta, .long tb, .long tc, .long td, .long te, .int tk])), (a6, .inl (cJ, 240, .inr (.inl (vp_updL (vp_updL (vp_updL (vp_updL fi bs ta) (bs + 1) tb) (bs + 2) tc) (bs + 3) td))))] := hD
  exact W.vret hx hb hr (fun t ht hW => ⟨⟨((vp_updL (vp_updL (vp_updL (vp_updL fi bs ta) (bs + 1) tb) (bs + 2) tc) (bs + 3) td)), rfl, by first | (simp only [pT_store]; done) | (simp only [pT_store]; rfl) | rfl, by rw [ht]; exact hP, va_K.moved hW.alike hK, hD⟩, hS.F ht⟩) hS.2.2 dX1_store_34
def pT_count (ta : Int64) (tb : Int64) (tc : Int64) (td : Int64) (fi : Nat → Int64) (bs : Nat) : Int32 := nI ((if ta = fi bs then 0 else 1) + (if tb = fi (bs + 1) then 0 else 1) + (if tc = fi (bs + 2) then 0 else 1) + (if td = fi (bs + 3) then 0 else 1))
set_option maxHeartbeats 4000000 in
set_option maxRecDepth 100000 in
theorem k_X1_countOthers (l : Launch) (dC : Nat → ClassId) (dI : Nat → Nat → Nat) (cI cZ cJ : ClassId) (sz : Nat) (h1 a6 : Nat) (ta tb tc td te : Int64) (tk : Int32) (fi : Nat → Int64) (bs : (Nat)) (hbs : bs + 3 < 240) : Met l yX1_countOthers wsX1_countOthers ({ frames := 0, cells := 0, slots := 0, locals := 0 }) (va_Pc [.ref h1, .ref a6, .int (nI bs)] (fun U => U.heap.size = sz ∧ va_P (dC, dI) vwC2 [(h1, .inr (1, [.long ta, .long tb, .long tc, .long td, .long te, .int tk])), (a6, .inl (cJ, 240, .inr (.inl fi)))] U.heap ∧ va_K (dC, dI) vwC2 [(cI, .int), (cZ, .boolean), (cJ, .long)] U ∧ va_D (fun _ => True) [(h1, .inr (1, [.long ta, .long tb, .long tc, .long td, .long te, .int tk])), (a6, .inl (cJ, 240, .inr (.inl fi)))])) (va_Qi (fun (r : Int32) (_ : Unit) => r = pT_count ta tb tc td fi bs) (fun (_ : Unit) (t : State) => va_P (dC, dI) vwC2 [(h1, .inr (1, [.long ta, .long tb, .long tc, .long td, .long te, .int tk])), (a6, .inl (cJ, 240, .inr (.inl fi)))] t.heap ∧ va_K (dC, dI) vwC2 [(cI, .int), (cZ, .boolean), (cJ, .long)] t ∧ va_D (va_A [(h1, .inr (1, [.long ta, .long tb, .long tc, .long td, .long te, .int tk])), (a6, .inl (cJ, 240, .inr (.inl fi)))] sz) [(h1, .inr (1, [.long ta, .long tb, .long tc, .long td, .long te, .int tk])), (a6, .inl (cJ, 240, .inr (.inl fi)))]) (va_A [(h1, .inr (1, [.long ta, .long tb, .long tc, .long td, .long te, .int tk])), (a6, .inl (cJ, 240, .inr (.inl fi)))] sz)) 0 0 (va_A [(h1, .inr (1, [.long ta, .long tb, .long tc, .long td, .long te, .int tk])), (a6, .inl (cJ, 240, .inr (.inl fi)))] sz) := by
  refine Met.ofW (cc := cX1_countOthers) (maxL := 3) (ret := (some .int)) (by decide) rfl ?_
  intro p e s m args below meth c s₁ B hml hv
  obtain ⟨rfl, hsz, hP, hK, hD0⟩ := hv
  have hx := B.exec
  have hb := B.bytes
  have hr := B.returns
  have hts := atoms_spec (ws := wsX1_countOthers) B.pre
  have hown : s.vm.findClass RX1 = some m.cls := findClass_of_methodNamed B.named
  have hlocks := B.notSynchronized
  subst hsz
  have hD := hD0.self (sz := s.heap.size)
  generalize hAe : va_A [(h1, .inr (1, [.long ta, .long tb, .long tc, .long td, .long te, .int tk])), (a6, .inl (cJ, 240, .inr (.inl fi)))] s.heap.size = A at hD ⊢
  have hA : ∀ q : Nat, s.heap.size ≤ q → A q := fun q h => by rw [← hAe]; exact Or.inr h
  have hS : va_S A s.heap s.heap [] := va_S.rf
  have hP : va_P (dC, dI) vwC2 [(h1, .inr (1, [.long ta, .long tb, .long tc, .long td, .long te, .int tk])), (a6, .inl (cJ, 240, .inr (.inl fi)))] s.heap := hP
  have hl := lv_entry ([.ref h1, .ref a6, .int (nI bs)]) (n := 3) (Nat.le_of_ble_eq_true rfl)
  rw [lg_entry_eq]
  generalize (lg_sl ([.ref h1, .ref a6, .int (nI bs)]) ++ List.replicate (3 - (lg_sl ([.ref h1, .ref a6, .int (nI bs)])).length) Slot.unset).toArray = ls at hl ⊢
  have hl : lv_has ls 3 [(0, .ref h1), (1, .ref a6), (2, .int (nI bs))] := hl
  refine lv_aload_n hx hb dX1_countOthers_0 rfl (lv_at hl 0 rfl) ?_
  refine va_get (D := (dC, dI)) (ci := 1) (v := .long ta) (C := RX1) (T := TX1) (N := 6) hx hb hts (by decide +kernel) hown hK hP 0 rfl rfl 0 (by decide) (hts (.fieldLink RX1 9 "BatchClasses$Trial" "a" "J") (by decide +kernel)) (fun _ h9 => h9) rfl dX1_countOthers_1 ?_
  refine lv_aload_n hx hb dX1_countOthers_4 rfl (lv_at hl 1 rfl) ?_
  refine lv_iload_n hx hb dX1_countOthers_5 rfl (lv_at hl 2 rfl) ?_
  refine va_lald hx hb hK hP 1 2 rfl rfl (vp_in_nI (by omega) (by omega)) dX1_countOthers_6 ?_
  refine lv_topl (fun z_6 ez_6 => ?_)
  obtain rfl : z_6 = fi bs := ez_6.trans (by rw [nI_clamp (n := bs) (by omega)])
  refine W.lcmp hx hb dX1_countOthers_7 ?_
  refine lv_if_eq (tgt := 15) hx hb dX1_countOthers_8 (by decide) (fun c_8 => ?_) (fun c_8 => ?_)
  · have c_8 : ta = (fi bs) := (lg_cmp_eq ta (fi bs)).mp c_8
    refine lv_iconst (v := 0) hx hb dX1_countOthers_15 (by decide) ?_
    refine lv_aload_n hx hb dX1_countOthers_16 rfl (lv_at hl 0 rfl) ?_
    refine va_get (D := (dC, dI)) (ci := 1) (v := .long tb) (C := RX1) (T := TX1) (N := 6) hx hb hts (by decide +kernel) hown hK hP 0 rfl rfl 1 (by decide) (hts (.fieldLink RX1 15 "BatchClasses$Trial" "b" "J") (by decide +kernel)) (fun _ h9 => h9) rfl dX1_countOthers_17 ?_
    refine lv_aload_n hx hb dX1_countOthers_20 rfl (lv_at hl 1 rfl) ?_
    refine lv_iload_n hx hb dX1_countOthers_21 rfl (lv_at hl 2 rfl) ?_
    refine lv_iconst (v := 1) hx hb dX1_countOthers_22 (by decide) ?_
    refine lv_iadd hx hb dX1_countOthers_23 ?_
    refine lv_topi (fun z_23 ez_23 => ?_)
    obtain rfl : z_23 = nI (bs + 1) := ez_23.trans (nI_add bs 1)
    refine va_lald hx hb hK hP 1 2 rfl rfl (vp_in_nI (by omega) (by omega)) dX1_countOthers_24 ?_
    refine lv_topl (fun z_24 ez_24 => ?_)
    obtain rfl : z_24 = fi (bs + 1) := ez_24.trans (by rw [nI_clamp (n := (bs + 1)) (by omega)])
    refine W.lcmp hx hb dX1_countOthers_25 ?_
    refine lv_if_eq (tgt := 33) hx hb dX1_countOthers_26 (by decide) (fun c_26 => ?_) (fun c_26 => ?_)
    · have c_26 : tb = (fi (bs + 1)) := (lg_cmp_eq tb (fi (bs + 1))).mp c_26
      refine lv_iconst (v := 0) hx hb dX1_countOthers_33 (by decide) ?_
      refine lv_iadd hx hb dX1_countOthers_34 ?_
      refine lv_topi (fun z_34 ez_34 => ?_)
      obtain rfl : z_34 = 0 := ez_34.trans (by decide)
      refine lv_aload_n hx hb dX1_countOthers_35 rfl (lv_at hl 0 rfl) ?_
      refine va_get (D := (dC, dI)) (ci := 1) (v := .long tc) (C := RX1) (T := TX1) (N := 6) hx hb hts (by decide +kernel) hown hK hP 0 rfl rfl 2 (by decide) (hts (.fieldLink RX1 18 "BatchClasses$Trial" "c" "J") (by decide +kernel)) (fun _ h9 => h9) rfl dX1_countOthers_36 ?_
      refine lv_aload_n hx hb dX1_countOthers_39 rfl (lv_at hl 1 rfl) ?_
      refine lv_iload_n hx hb dX1_countOthers_40 rfl (lv_at hl 2 rfl) ?_
      refine lv_iconst (v := 2) hx hb dX1_countOthers_41 (by decide) ?_
      refine lv_iadd hx hb dX1_countOthers_42 ?_
      refine lv_topi (fun z_42 ez_42 => ?_)
      obtain rfl : z_42 = nI (bs + 2) := ez_42.trans (nI_add bs 2)
      refine va_lald hx hb hK hP 1 2 rfl rfl (vp_in_nI (by omega) (by omega)) dX1_countOthers_43 ?_
      refine lv_topl (fun z_43 ez_43 => ?_)
      obtain rfl : z_43 = fi (bs + 2) := ez_43.trans (by rw [nI_clamp (n := (bs + 2)) (by omega)])
      refine W.lcmp hx hb dX1_countOthers_44 ?_
      refine lv_if_eq (tgt := 52) hx hb dX1_countOthers_45 (by decide) (fun c_45 => ?_) (fun c_45 => ?_)
      · have c_45 : tc = (fi (bs + 2)) := (lg_cmp_eq tc (fi (bs + 2))).mp c_45
        refine lv_iconst (v := 0) hx hb dX1_countOthers_52 (by decide) ?_
        refine lv_iadd hx hb dX1_countOthers_53 ?_
        refine lv_topi (fun z_53 ez_53 => ?_)
        obtain rfl : z_53 = 0 := ez_53.trans (by decide)
        refine lv_aload_n hx hb dX1_countOthers_54 rfl (lv_at hl 0 rfl) ?_
        refine va_get (D := (dC, dI)) (ci := 1) (v := .long td) (C := RX1) (T := TX1) (N := 6) hx hb hts (by decide +kernel) hown hK hP 0 rfl rfl 3 (by decide) (hts (.fieldLink RX1 21 "BatchClasses$Trial" "d" "J") (by decide +kernel)) (fun _ h9 => h9) rfl dX1_countOthers_55 ?_
        refine lv_aload_n hx hb dX1_countOthers_58 rfl (lv_at hl 1 rfl) ?_
        refine lv_iload_n hx hb dX1_countOthers_59 rfl (lv_at hl 2 rfl) ?_
        refine lv_iconst (v := 3) hx hb dX1_countOthers_60 (by decide) ?_
        refine lv_iadd hx hb dX1_countOthers_61 ?_
        refine lv_topi (fun z_61 ez_61 => ?_)
        obtain rfl : z_61 = nI (bs + 3) := ez_61.trans (nI_add bs 3)
        refine va_lald hx hb hK hP 1 2 rfl rfl (vp_in_nI (by omega) (by omega)) dX1_countOthers_62 ?_
        refine lv_topl (fun z_62 ez_62 => ?_)
        obtain rfl : z_62 = fi (bs + 3) := ez_62.trans (by rw [nI_clamp (n := (bs + 3)) (by omega)])
        refine W.lcmp hx hb dX1_countOthers_63 ?_
        refine lv_if_eq (tgt := 71) hx hb dX1_countOthers_64 (by decide) (fun c_64 => ?_) (fun c_64 => ?_)
        · have c_64 : td = (fi (bs + 3)) := (lg_cmp_eq td (fi (bs + 3))).mp c_64
          refine lv_iconst (v := 0) hx hb dX1_countOthers_71 (by decide) ?_
          refine lv_iadd hx hb dX1_countOthers_72 ?_
          refine lv_topi (fun z_72 ez_72 => ?_)
          obtain rfl : z_72 = 0 := ez_72.trans (by decide)
          exact W.iret (v := 0) hx hb hr (fun t ht hW => ⟨⟨0, (), rfl, by first | (simp only [pT_count, if_pos c_8, if_pos c_26, if_pos c_45, if_pos c_64]; done) | (simp only [pT_count, if_pos c_8, if_pos c_26, if_pos c_45, if_pos c_64]; rfl) | rfl, by rw [ht]; exact hP, va_K.moved hW.alike hK, hD⟩, hS.F ht⟩) hS.2.2 dX1_countOthers_73
        · have c_64 : ¬ (td = (fi (bs + 3))) := mt (lg_cmp_eq td (fi (bs + 3))).mpr c_64
          refine lv_iconst (v := 1) hx hb dX1_countOthers_67 (by decide) ?_
          refine lv_goto (tgt := 72) hx hb dX1_countOthers_68 (by decide) ?_
          refine lv_iadd hx hb dX1_countOthers_72 ?_
          refine lv_topi (fun z_72 ez_72 => ?_)
          obtain rfl : z_72 = 1 := ez_72.trans (by decide)
          exact W.iret (v := 1) hx hb hr (fun t ht hW => ⟨⟨1, (), rfl, by first | (simp only [pT_count, if_pos c_8, if_pos c_26, if_pos c_45, if_neg c_64]; done) | (simp only [pT_count, if_pos c_8, if_pos c_26, if_pos c_45, if_neg c_64]; rfl) | rfl, by rw [ht]; exact hP, va_K.moved hW.alike hK, hD⟩, hS.F ht⟩) hS.2.2 dX1_countOthers_73
      · have c_45 : ¬ (tc = (fi (bs + 2))) := mt (lg_cmp_eq tc (fi (bs + 2))).mpr c_45
        refine lv_iconst (v := 1) hx hb dX1_countOthers_48 (by decide) ?_
        refine lv_goto (tgt := 53) hx hb dX1_countOthers_49 (by decide) ?_
        refine lv_iadd hx hb dX1_countOthers_53 ?_
        refine lv_topi (fun z_53 ez_53 => ?_)
        obtain rfl : z_53 = 1 := ez_53.trans (by decide)
        refine lv_aload_n hx hb dX1_countOthers_54 rfl (lv_at hl 0 rfl) ?_
        refine va_get (D := (dC, dI)) (ci := 1) (v := .long td) (C := RX1) (T := TX1) (N := 6) hx hb hts (by decide +kernel) hown hK hP 0 rfl rfl 3 (by decide) (hts (.fieldLink RX1 21 "BatchClasses$Trial" "d" "J") (by decide +kernel)) (fun _ h9 => h9) rfl dX1_countOthers_55 ?_
        refine lv_aload_n hx hb dX1_countOthers_58 rfl (lv_at hl 1 rfl) ?_
        refine lv_iload_n hx hb dX1_countOthers_59 rfl (lv_at hl 2 rfl) ?_
        refine lv_iconst (v := 3) hx hb dX1_countOthers_60 (by decide) ?_
        refine lv_iadd hx hb dX1_countOthers_61 ?_
        refine lv_topi (fun z_61 ez_61 => ?_)
        obtain rfl : z_61 = nI (bs + 3) := ez_61.trans (nI_add bs 3)
        refine va_lald hx hb hK hP 1 2 rfl rfl (vp_in_nI (by omega) (by omega)) dX1_countOthers_62 ?_
        refine lv_topl (fun z_62 ez_62 => ?_)
        obtain rfl : z_62 = fi (bs + 3) := ez_62.trans (by rw [nI_clamp (n := (bs + 3)) (by omega)])
        refine W.lcmp hx hb dX1_countOthers_63 ?_
        refine lv_if_eq (tgt := 71) hx hb dX1_countOthers_64 (by decide) (fun c_64 => ?_) (fun c_64 => ?_)
        · have c_64 : td = (fi (bs + 3)) := (lg_cmp_eq td (fi (bs + 3))).mp c_64
          refine lv_iconst (v := 0) hx hb dX1_countOthers_71 (by decide) ?_
          refine lv_iadd hx hb dX1_countOthers_72 ?_
          refine lv_topi (fun z_72 ez_72 => ?_)
          obtain rfl : z_72 = 1 := ez_72.trans (by decide)
          exact W.iret (v := 1) hx hb hr (fun t ht hW => ⟨⟨1, (), rfl, by first | (simp only [pT_count, if_pos c_8, if_pos c_26, if_neg c_45, if_pos c_64]; done) | (simp only [pT_count, if_pos c_8, if_pos c_26, if_neg c_45, if_pos c_64]; rfl) | rfl, by rw [ht]; exact hP, va_K.moved hW.alike hK, hD⟩, hS.F ht⟩) hS.2.2 dX1_countOthers_73
        · have c_64 : ¬ (td = (fi (bs + 3))) := mt (lg_cmp_eq td (fi (bs + 3))).mpr c_64
          refine lv_iconst (v := 1) hx hb dX1_countOthers_67 (by decide) ?_
          refine lv_goto (tgt := 72) hx hb dX1_countOthers_68 (by decide) ?_
          refine lv_iadd hx hb dX1_countOthers_72 ?_
          refine lv_topi (fun z_72 ez_72 => ?_)
          obtain rfl : z_72 = 2 := ez_72.trans (by decide)
          exact W.iret (v := 2) hx hb hr (fun t ht hW => ⟨⟨2, (), rfl, by first | (simp only [pT_count, if_pos c_8, if_pos c_26, if_neg c_45, if_neg c_64]; done) | (simp only [pT_count, if_pos c_8, if_pos c_26, if_neg c_45, if_neg c_64]; rfl) | rfl, by rw [ht]; exact hP, va_K.moved hW.alike hK, hD⟩, hS.F ht⟩) hS.2.2 dX1_countOthers_73
    · have c_26 : ¬ (tb = (fi (bs + 1))) := mt (lg_cmp_eq tb (fi (bs + 1))).mpr c_26
      refine lv_iconst (v := 1) hx hb dX1_countOthers_29 (by decide) ?_
      refine lv_goto (tgt := 34) hx hb dX1_countOthers_30 (by decide) ?_
      refine lv_iadd hx hb dX1_countOthers_34 ?_
      refine lv_topi (fun z_34 ez_34 => ?_)
      obtain rfl : z_34 = 1 := ez_34.trans (by decide)
      refine lv_aload_n hx hb dX1_countOthers_35 rfl (lv_at hl 0 rfl) ?_
      refine va_get (D := (dC, dI)) (ci := 1) (v := .long tc) (C := RX1) (T := TX1) (N := 6) hx hb hts (by decide +kernel) hown hK hP 0 rfl rfl 2 (by decide) (hts (.fieldLink RX1 18 "BatchClasses$Trial" "c" "J") (by decide +kernel)) (fun _ h9 => h9) rfl dX1_countOthers_36 ?_
      refine lv_aload_n hx hb dX1_countOthers_39 rfl (lv_at hl 1 rfl) ?_
      refine lv_iload_n hx hb dX1_countOthers_40 rfl (lv_at hl 2 rfl) ?_
      refine lv_iconst (v := 2) hx hb dX1_countOthers_41 (by decide) ?_
      refine lv_iadd hx hb dX1_countOthers_42 ?_
      refine lv_topi (fun z_42 ez_42 => ?_)
      obtain rfl : z_42 = nI (bs + 2) := ez_42.trans (nI_add bs 2)
      refine va_lald hx hb hK hP 1 2 rfl rfl (vp_in_nI (by omega) (by omega)) dX1_countOthers_43 ?_
      refine lv_topl (fun z_43 ez_43 => ?_)
      obtain rfl : z_43 = fi (bs + 2) := ez_43.trans (by rw [nI_clamp (n := (bs + 2)) (by omega)])
      refine W.lcmp hx hb dX1_countOthers_44 ?_
      refine lv_if_eq (tgt := 52) hx hb dX1_countOthers_45 (by decide) (fun c_45 => ?_) (fun c_45 => ?_)
      · have c_45 : tc = (fi (bs + 2)) := (lg_cmp_eq tc (fi (bs + 2))).mp c_45
        refine lv_iconst (v := 0) hx hb dX1_countOthers_52 (by decide) ?_
        refine lv_iadd hx hb dX1_countOthers_53 ?_
        refine lv_topi (fun z_53 ez_53 => ?_)
        obtain rfl : z_53 = 1 := ez_53.trans (by decide)
        refine lv_aload_n hx hb dX1_countOthers_54 rfl (lv_at hl 0 rfl) ?_
        refine va_get (D := (dC, dI)) (ci := 1) (v := .long td) (C := RX1) (T := TX1) (N := 6) hx hb hts (by decide +kernel) hown hK hP 0 rfl rfl 3 (by decide) (hts (.fieldLink RX1 21 "BatchClasses$Trial" "d" "J") (by decide +kernel)) (fun _ h9 => h9) rfl dX1_countOthers_55 ?_
        refine lv_aload_n hx hb dX1_countOthers_58 rfl (lv_at hl 1 rfl) ?_
        refine lv_iload_n hx hb dX1_countOthers_59 rfl (lv_at hl 2 rfl) ?_
        refine lv_iconst (v := 3) hx hb dX1_countOthers_60 (by decide) ?_
        refine lv_iadd hx hb dX1_countOthers_61 ?_
        refine lv_topi (fun z_61 ez_61 => ?_)
        obtain rfl : z_61 = nI (bs + 3) := ez_61.trans (nI_add bs 3)
        refine va_lald hx hb hK hP 1 2 rfl rfl (vp_in_nI (by omega) (by omega)) dX1_countOthers_62 ?_
        refine lv_topl (fun z_62 ez_62 => ?_)
        obtain rfl : z_62 = fi (bs + 3) := ez_62.trans (by rw [nI_clamp (n := (bs + 3)) (by omega)])
        refine W.lcmp hx hb dX1_countOthers_63 ?_
        refine lv_if_eq (tgt := 71) hx hb dX1_countOthers_64 (by decide) (fun c_64 => ?_) (fun c_64 => ?_)
        · have c_64 : td = (fi (bs + 3)) := (lg_cmp_eq td (fi (bs + 3))).mp c_64
          refine lv_iconst (v := 0) hx hb dX1_countOthers_71 (by decide) ?_
          refine lv_iadd hx hb dX1_countOthers_72 ?_
          refine lv_topi (fun z_72 ez_72 => ?_)
          obtain rfl : z_72 = 1 := ez_72.trans (by decide)
          exact W.iret (v := 1) hx hb hr (fun t ht hW => ⟨⟨1, (), rfl, by first | (simp only [pT_count, if_pos c_8, if_neg c_26, if_pos c_45, if_pos c_64]; done) | (simp only [pT_count, if_pos c_8, if_neg c_26, if_pos c_45, if_pos c_64]; rfl) | rfl, by rw [ht]; exact hP, va_K.moved hW.alike hK, hD⟩, hS.F ht⟩) hS.2.2 dX1_countOthers_73
        · have c_64 : ¬ (td = (fi (bs + 3))) := mt (lg_cmp_eq td (fi (bs + 3))).mpr c_64
          refine lv_iconst (v := 1) hx hb dX1_countOthers_67 (by decide) ?_
          refine lv_goto (tgt := 72) hx hb dX1_countOthers_68 (by decide) ?_
          refine lv_iadd hx hb dX1_countOthers_72 ?_
          refine lv_topi (fun z_72 ez_72 => ?_)
          obtain rfl : z_72 = 2 := ez_72.trans (by decide)
          exact W.iret (v := 2) hx hb hr (fun t ht hW => ⟨⟨2, (), rfl, by first | (simp only [pT_count, if_pos c_8, if_neg c_26, if_pos c_45, if_neg c_64]; done) | (simp only [pT_count, if_pos c_8, if_neg c_26, if_pos c_45, if_neg c_64]; rfl) | rfl, by rw [ht]; exact hP, va_K.moved hW.alike hK, hD⟩, hS.F ht⟩) hS.2.2 dX1_countOthers_73
      · have c_45 : ¬ (tc = (fi (bs + 2))) := mt (lg_cmp_eq tc (fi (bs + 2))).mpr c_45
        refine lv_iconst (v := 1) hx hb dX1_countOthers_48 (by decide) ?_
        refine lv_goto (tgt := 53) hx hb dX1_countOthers_49 (by decide) ?_
        refine lv_iadd hx hb dX1_countOthers_53 ?_
        refine lv_topi (fun z_53 ez_53 => ?_)
        obtain rfl : z_53 = 2 := ez_53.trans (by decide)
        refine lv_aload_n hx hb dX1_countOthers_54 rfl (lv_at hl 0 rfl) ?_
        refine va_get (D := (dC, dI)) (ci := 1) (v := .long td) (C := RX1) (T := TX1) (N := 6) hx hb hts (by decide +kernel) hown hK hP 0 rfl rfl 3 (by decide) (hts (.fieldLink RX1 21 "BatchClasses$Trial" "d" "J") (by decide +kernel)) (fun _ h9 => h9) rfl dX1_countOthers_55 ?_
        refine lv_aload_n hx hb dX1_countOthers_58 rfl (lv_at hl 1 rfl) ?_
        refine lv_iload_n hx hb dX1_countOthers_59 rfl (lv_at hl 2 rfl) ?_
        refine lv_iconst (v := 3) hx hb dX1_countOthers_60 (by decide) ?_
        refine lv_iadd hx hb dX1_countOthers_61 ?_
        refine lv_topi (fun z_61 ez_61 => ?_)
        obtain rfl : z_61 = nI (bs + 3) := ez_61.trans (nI_add bs 3)
        refine va_lald hx hb hK hP 1 2 rfl rfl (vp_in_nI (by omega) (by omega)) dX1_countOthers_62 ?_
        refine lv_topl (fun z_62 ez_62 => ?_)
        obtain rfl : z_62 = fi (bs + 3) := ez_62.trans (by rw [nI_clamp (n := (bs + 3)) (by omega)])
        refine W.lcmp hx hb dX1_countOthers_63 ?_
        refine lv_if_eq (tgt := 71) hx hb dX1_countOthers_64 (by decide) (fun c_64 => ?_) (fun c_64 => ?_)
        · have c_64 : td = (fi (bs + 3)) := (lg_cmp_eq td (fi (bs + 3))).mp c_64
          refine lv_iconst (v := 0) hx hb dX1_countOthers_71 (by decide) ?_
          refine lv_iadd hx hb dX1_countOthers_72 ?_
          refine lv_topi (fun z_72 ez_72 => ?_)
          obtain rfl : z_72 = 2 := ez_72.trans (by decide)
          exact W.iret (v := 2) hx hb hr (fun t ht hW => ⟨⟨2, (), rfl, by first | (simp only [pT_count, if_pos c_8, if_neg c_26, if_neg c_45, if_pos c_64]; done) | (simp only [pT_count, if_pos c_8, if_neg c_26, if_neg c_45, if_pos c_64]; rfl) | rfl, by rw [ht]; exact hP, va_K.moved hW.alike hK, hD⟩, hS.F ht⟩) hS.2.2 dX1_countOthers_73
        · have c_64 : ¬ (td = (fi (bs + 3))) := mt (lg_cmp_eq td (fi (bs + 3))).mpr c_64
          refine lv_iconst (v := 1) hx hb dX1_countOthers_67 (by decide) ?_
          refine lv_goto (tgt := 72) hx hb dX1_countOthers_68 (by decide) ?_
          refine lv_iadd hx hb dX1_countOthers_72 ?_
          refine lv_topi (fun z_72 ez_72 => ?_)
          obtain rfl : z_72 = 3 := ez_72.trans (by decide)
          exact W.iret (v := 3) hx hb hr (fun t ht hW => ⟨⟨3, (), rfl, by first | (simp only [pT_count, if_pos c_8, if_neg c_26, if_neg c_45, if_neg c_64]; done) | (simp only [pT_count, if_pos c_8, if_neg c_26, if_neg c_45, if_neg c_64]; rfl) | rfl, by rw [ht]; exact hP, va_K.moved hW.alike hK, hD⟩, hS.F ht⟩) hS.2.2 dX1_countOthers_73
  · have c_8 : ¬ (ta = (fi bs)) := mt (lg_cmp_eq ta (fi bs)).mpr c_8
    refine lv_iconst (v := 1) hx hb dX1_countOthers_11 (by decide) ?_
    refine lv_goto (tgt := 16) hx hb dX1_countOthers_12 (by decide) ?_
    refine lv_aload_n hx hb dX1_countOthers_16 rfl (lv_at hl 0 rfl) ?_
    refine va_get (D := (dC, dI)) (ci := 1) (v := .long tb) (C := RX1) (T := TX1) (N := 6) hx hb hts (by decide +kernel) hown hK hP 0 rfl rfl 1 (by decide) (hts (.fieldLink RX1 15 "BatchClasses$Trial" "b" "J") (by decide +kernel)) (fun _ h9 => h9) rfl dX1_countOthers_17 ?_
    refine lv_aload_n hx hb dX1_countOthers_20 rfl (lv_at hl 1 rfl) ?_
    refine lv_iload_n hx hb dX1_countOthers_21 rfl (lv_at hl 2 rfl) ?_
    refine lv_iconst (v := 1) hx hb dX1_countOthers_22 (by decide) ?_
    refine lv_iadd hx hb dX1_countOthers_23 ?_
    refine lv_topi (fun z_23 ez_23 => ?_)
    obtain rfl : z_23 = nI (bs + 1) := ez_23.trans (nI_add bs 1)
    refine va_lald hx hb hK hP 1 2 rfl rfl (vp_in_nI (by omega) (by omega)) dX1_countOthers_24 ?_
    refine lv_topl (fun z_24 ez_24 => ?_)
    obtain rfl : z_24 = fi (bs + 1) := ez_24.trans (by rw [nI_clamp (n := (bs + 1)) (by omega)])
    refine W.lcmp hx hb dX1_countOthers_25 ?_
    refine lv_if_eq (tgt := 33) hx hb dX1_countOthers_26 (by decide) (fun c_26 => ?_) (fun c_26 => ?_)
    · have c_26 : tb = (fi (bs + 1)) := (lg_cmp_eq tb (fi (bs + 1))).mp c_26
      refine lv_iconst (v := 0) hx hb dX1_countOthers_33 (by decide) ?_
      refine lv_iadd hx hb dX1_countOthers_34 ?_
      refine lv_topi (fun z_34 ez_34 => ?_)
      obtain rfl : z_34 = 1 := ez_34.trans (by decide)
      refine lv_aload_n hx hb dX1_countOthers_35 rfl (lv_at hl 0 rfl) ?_
      refine va_get (D := (dC, dI)) (ci := 1) (v := .long tc) (C := RX1) (T := TX1) (N := 6) hx hb hts (by decide +kernel) hown hK hP 0 rfl rfl 2 (by decide) (hts (.fieldLink RX1 18 "BatchClasses$Trial" "c" "J") (by decide +kernel)) (fun _ h9 => h9) rfl dX1_countOthers_36 ?_
      refine lv_aload_n hx hb dX1_countOthers_39 rfl (lv_at hl 1 rfl) ?_
      refine lv_iload_n hx hb dX1_countOthers_40 rfl (lv_at hl 2 rfl) ?_
      refine lv_iconst (v := 2) hx hb dX1_countOthers_41 (by decide) ?_
      refine lv_iadd hx hb dX1_countOthers_42 ?_
      refine lv_topi (fun z_42 ez_42 => ?_)
      obtain rfl : z_42 = nI (bs + 2) := ez_42.trans (nI_add bs 2)
      refine va_lald hx hb hK hP 1 2 rfl rfl (vp_in_nI (by omega) (by omega)) dX1_countOthers_43 ?_
      refine lv_topl (fun z_43 ez_43 => ?_)
      obtain rfl : z_43 = fi (bs + 2) := ez_43.trans (by rw [nI_clamp (n := (bs + 2)) (by omega)])
      refine W.lcmp hx hb dX1_countOthers_44 ?_
      refine lv_if_eq (tgt := 52) hx hb dX1_countOthers_45 (by decide) (fun c_45 => ?_) (fun c_45 => ?_)
      · have c_45 : tc = (fi (bs + 2)) := (lg_cmp_eq tc (fi (bs + 2))).mp c_45
        refine lv_iconst (v := 0) hx hb dX1_countOthers_52 (by decide) ?_
        refine lv_iadd hx hb dX1_countOthers_53 ?_
        refine lv_topi (fun z_53 ez_53 => ?_)
        obtain rfl : z_53 = 1 := ez_53.trans (by decide)
        refine lv_aload_n hx hb dX1_countOthers_54 rfl (lv_at hl 0 rfl) ?_
        refine va_get (D := (dC, dI)) (ci := 1) (v := .long td) (C := RX1) (T := TX1) (N := 6) hx hb hts (by decide +kernel) hown hK hP 0 rfl rfl 3 (by decide) (hts (.fieldLink RX1 21 "BatchClasses$Trial" "d" "J") (by decide +kernel)) (fun _ h9 => h9) rfl dX1_countOthers_55 ?_
        refine lv_aload_n hx hb dX1_countOthers_58 rfl (lv_at hl 1 rfl) ?_
        refine lv_iload_n hx hb dX1_countOthers_59 rfl (lv_at hl 2 rfl) ?_
        refine lv_iconst (v := 3) hx hb dX1_countOthers_60 (by decide) ?_
        refine lv_iadd hx hb dX1_countOthers_61 ?_
        refine lv_topi (fun z_61 ez_61 => ?_)
        obtain rfl : z_61 = nI (bs + 3) := ez_61.trans (nI_add bs 3)
        refine va_lald hx hb hK hP 1 2 rfl rfl (vp_in_nI (by omega) (by omega)) dX1_countOthers_62 ?_
        refine lv_topl (fun z_62 ez_62 => ?_)
        obtain rfl : z_62 = fi (bs + 3) := ez_62.trans (by rw [nI_clamp (n := (bs + 3)) (by omega)])
        refine W.lcmp hx hb dX1_countOthers_63 ?_
        refine lv_if_eq (tgt := 71) hx hb dX1_countOthers_64 (by decide) (fun c_64 => ?_) (fun c_64 => ?_)
        · have c_64 : td = (fi (bs + 3)) := (lg_cmp_eq td (fi (bs + 3))).mp c_64
          refine lv_iconst (v := 0) hx hb dX1_countOthers_71 (by decide) ?_
          refine lv_iadd hx hb dX1_countOthers_72 ?_
          refine lv_topi (fun z_72 ez_72 => ?_)
          obtain rfl : z_72 = 1 := ez_72.trans (by decide)
          exact W.iret (v := 1) hx hb hr (fun t ht hW => ⟨⟨1, (), rfl, by first | (simp only [pT_count, if_neg c_8, if_pos c_26, if_pos c_45, if_pos c_64]; done) | (simp only [pT_count, if_neg c_8, if_pos c_26, if_pos c_45, if_pos c_64]; rfl) | rfl, by rw [ht]; exact hP, va_K.moved hW.alike hK, hD⟩, hS.F ht⟩) hS.2.2 dX1_countOthers_73
        · have c_64 : ¬ (td = (fi (bs + 3))) := mt (lg_cmp_eq td (fi (bs + 3))).mpr c_64
          refine lv_iconst (v := 1) hx hb dX1_countOthers_67 (by decide) ?_
          refine lv_goto (tgt := 72) hx hb dX1_countOthers_68 (by decide) ?_
          refine lv_iadd hx hb dX1_countOthers_72 ?_
          refine lv_topi (fun z_72 ez_72 => ?_)
          obtain rfl : z_72 = 2 := ez_72.trans (by decide)
          exact W.iret (v := 2) hx hb hr (fun t ht hW => ⟨⟨2, (), rfl, by first | (simp only [pT_count, if_neg c_8, if_pos c_26, if_pos c_45, if_neg c_64]; done) | (simp only [pT_count, if_neg c_8, if_pos c_26, if_pos c_45, if_neg c_64]; rfl) | rfl, by rw [ht]; exact hP, va_K.moved hW.alike hK, hD⟩, hS.F ht⟩) hS.2.2 dX1_countOthers_73
      · have c_45 : ¬ (tc = (fi (bs + 2))) := mt (lg_cmp_eq tc (fi (bs + 2))).mpr c_45
        refine lv_iconst (v := 1) hx hb dX1_countOthers_48 (by decide) ?_
        refine lv_goto (tgt := 53) hx hb dX1_countOthers_49 (by decide) ?_
        refine lv_iadd hx hb dX1_countOthers_53 ?_
        refine lv_topi (fun z_53 ez_53 => ?_)
        obtain rfl : z_53 = 2 := ez_53.trans (by decide)
        refine lv_aload_n hx hb dX1_countOthers_54 rfl (lv_at hl 0 rfl) ?_
        refine va_get (D := (dC, dI)) (ci := 1) (v := .long td) (C := RX1) (T := TX1) (N := 6) hx hb hts (by decide +kernel) hown hK hP 0 rfl rfl 3 (by decide) (hts (.fieldLink RX1 21 "BatchClasses$Trial" "d" "J") (by decide +kernel)) (fun _ h9 => h9) rfl dX1_countOthers_55 ?_
        refine lv_aload_n hx hb dX1_countOthers_58 rfl (lv_at hl 1 rfl) ?_
        refine lv_iload_n hx hb dX1_countOthers_59 rfl (lv_at hl 2 rfl) ?_
        refine lv_iconst (v := 3) hx hb dX1_countOthers_60 (by decide) ?_
        refine lv_iadd hx hb dX1_countOthers_61 ?_
        refine lv_topi (fun z_61 ez_61 => ?_)
        obtain rfl : z_61 = nI (bs + 3) := ez_61.trans (nI_add bs 3)
        refine va_lald hx hb hK hP 1 2 rfl rfl (vp_in_nI (by omega) (by omega)) dX1_countOthers_62 ?_
        refine lv_topl (fun z_62 ez_62 => ?_)
        obtain rfl : z_62 = fi (bs + 3) := ez_62.trans (by rw [nI_clamp (n := (bs + 3)) (by omega)])
        refine W.lcmp hx hb dX1_countOthers_63 ?_
        refine lv_if_eq (tgt := 71) hx hb dX1_countOthers_64 (by decide) (fun c_64 => ?_) (fun c_64 => ?_)
        · have c_64 : td = (fi (bs + 3)) := (lg_cmp_eq td (fi (bs + 3))).mp c_64
          refine lv_iconst (v := 0) hx hb dX1_countOthers_71 (by decide) ?_
          refine lv_iadd hx hb dX1_countOthers_72 ?_
          refine lv_topi (fun z_72 ez_72 => ?_)
          obtain rfl : z_72 = 2 := ez_72.trans (by decide)
          exact W.iret (v := 2) hx hb hr (fun t ht hW => ⟨⟨2, (), rfl, by first | (simp only [pT_count, if_neg c_8, if_pos c_26, if_neg c_45, if_pos c_64]; done) | (simp only [pT_count, if_neg c_8, if_pos c_26, if_neg c_45, if_pos c_64]; rfl) | rfl, by rw [ht]; exact hP, va_K.moved hW.alike hK, hD⟩, hS.F ht⟩) hS.2.2 dX1_countOthers_73
        · have c_64 : ¬ (td = (fi (bs + 3))) := mt (lg_cmp_eq td (fi (bs + 3))).mpr c_64
          refine lv_iconst (v := 1) hx hb dX1_countOthers_67 (by decide) ?_
          refine lv_goto (tgt := 72) hx hb dX1_countOthers_68 (by decide) ?_
          refine lv_iadd hx hb dX1_countOthers_72 ?_
          refine lv_topi (fun z_72 ez_72 => ?_)
          obtain rfl : z_72 = 3 := ez_72.trans (by decide)
          exact W.iret (v := 3) hx hb hr (fun t ht hW => ⟨⟨3, (), rfl, by first | (simp only [pT_count, if_neg c_8, if_pos c_26, if_neg c_45, if_neg c_64]; done) | (simp only [pT_count, if_neg c_8, if_pos c_26, if_neg c_45, if_neg c_64]; rfl) | rfl, by rw [ht]; exact hP, va_K.moved hW.alike hK, hD⟩, hS.F ht⟩) hS.2.2 dX1_countOthers_73
    · have c_26 : ¬ (tb = (fi (bs + 1))) := mt (lg_cmp_eq tb (fi (bs + 1))).mpr c_26
      refine lv_iconst (v := 1) hx hb dX1_countOthers_29 (by decide) ?_
      refine lv_goto (tgt := 34) hx hb dX1_countOthers_30 (by decide) ?_
      refine lv_iadd hx hb dX1_countOthers_34 ?_
      refine lv_topi (fun z_34 ez_34 => ?_)
      obtain rfl : z_34 = 2 := ez_34.trans (by decide)
      refine lv_aload_n hx hb dX1_countOthers_35 rfl (lv_at hl 0 rfl) ?_
      refine va_get (D := (dC, dI)) (ci := 1) (v := .long tc) (C := RX1) (T := TX1) (N := 6) hx hb hts (by decide +kernel) hown hK hP 0 rfl rfl 2 (by decide) (hts (.fieldLink RX1 18 "BatchClasses$Trial" "c" "J") (by decide +kernel)) (fun _ h9 => h9) rfl dX1_countOthers_36 ?_
      refine lv_aload_n hx hb dX1_countOthers_39 rfl (lv_at hl 1 rfl) ?_
      refine lv_iload_n hx hb dX1_countOthers_40 rfl (lv_at hl 2 rfl) ?_
      refine lv_iconst (v := 2) hx hb dX1_countOthers_41 (by decide) ?_
      refine lv_iadd hx hb dX1_countOthers_42 ?_
      refine lv_topi (fun z_42 ez_42 => ?_)
      obtain rfl : z_42 = nI (bs + 2) := ez_42.trans (nI_add bs 2)
      refine va_lald hx hb hK hP 1 2 rfl rfl (vp_in_nI (by omega) (by omega)) dX1_countOthers_43 ?_
      refine lv_topl (fun z_43 ez_43 => ?_)
      obtain rfl : z_43 = fi (bs + 2) := ez_43.trans (by rw [nI_clamp (n := (bs + 2)) (by omega)])
      refine W.lcmp hx hb dX1_countOthers_44 ?_
      refine lv_if_eq (tgt := 52) hx hb dX1_countOthers_45 (by decide) (fun c_45 => ?_) (fun c_45 => ?_)
      · have c_45 : tc = (fi (bs + 2)) := (lg_cmp_eq tc (fi (bs + 2))).mp c_45
        refine lv_iconst (v := 0) hx hb dX1_countOthers_52 (by decide) ?_
        refine lv_iadd hx hb dX1_countOthers_53 ?_
        refine lv_topi (fun z_53 ez_53 => ?_)
        obtain rfl : z_53 = 2 := ez_53.trans (by decide)
        refine lv_aload_n hx hb dX1_countOthers_54 rfl (lv_at hl 0 rfl) ?_
        refine va_get (D := (dC, dI)) (ci := 1) (v := .long td) (C := RX1) (T := TX1) (N := 6) hx hb hts (by decide +kernel) hown hK hP 0 rfl rfl 3 (by decide) (hts (.fieldLink RX1 21 "BatchClasses$Trial" "d" "J") (by decide +kernel)) (fun _ h9 => h9) rfl dX1_countOthers_55 ?_
        refine lv_aload_n hx hb dX1_countOthers_58 rfl (lv_at hl 1 rfl) ?_
        refine lv_iload_n hx hb dX1_countOthers_59 rfl (lv_at hl 2 rfl) ?_
        refine lv_iconst (v := 3) hx hb dX1_countOthers_60 (by decide) ?_
        refine lv_iadd hx hb dX1_countOthers_61 ?_
        refine lv_topi (fun z_61 ez_61 => ?_)
        obtain rfl : z_61 = nI (bs + 3) := ez_61.trans (nI_add bs 3)
        refine va_lald hx hb hK hP 1 2 rfl rfl (vp_in_nI (by omega) (by omega)) dX1_countOthers_62 ?_
        refine lv_topl (fun z_62 ez_62 => ?_)
        obtain rfl : z_62 = fi (bs + 3) := ez_62.trans (by rw [nI_clamp (n := (bs + 3)) (by omega)])
        refine W.lcmp hx hb dX1_countOthers_63 ?_
        refine lv_if_eq (tgt := 71) hx hb dX1_countOthers_64 (by decide) (fun c_64 => ?_) (fun c_64 => ?_)
        · have c_64 : td = (fi (bs + 3)) := (lg_cmp_eq td (fi (bs + 3))).mp c_64
          refine lv_iconst (v := 0) hx hb dX1_countOthers_71 (by decide) ?_
          refine lv_iadd hx hb dX1_countOthers_72 ?_
          refine lv_topi (fun z_72 ez_72 => ?_)
          obtain rfl : z_72 = 2 := ez_72.trans (by decide)
          exact W.iret (v := 2) hx hb hr (fun t ht hW => ⟨⟨2, (), rfl, by first | (simp only [pT_count, if_neg c_8, if_neg c_26, if_pos c_45, if_pos c_64]; done) | (simp only [pT_count, if_neg c_8, if_neg c_26, if_pos c_45, if_pos c_64]; rfl) | rfl, by rw [ht]; exact hP, va_K.moved hW.alike hK, hD⟩, hS.F ht⟩) hS.2.2 dX1_countOthers_73
        · have c_64 : ¬ (td = (fi (bs + 3))) := mt (lg_cmp_eq td (fi (bs + 3))).mpr c_64
          refine lv_iconst (v := 1) hx hb dX1_countOthers_67 (by decide) ?_
          refine lv_goto (tgt := 72) hx hb dX1_countOthers_68 (by decide) ?_
          refine lv_iadd hx hb dX1_countOthers_72 ?_
          refine lv_topi (fun z_72 ez_72 => ?_)
          obtain rfl : z_72 = 3 := ez_72.trans (by decide)
          exact W.iret (v := 3) hx hb hr (fun t ht hW => ⟨⟨3, (), rfl, by first | (simp only [pT_count, if_neg c_8, if_neg c_26, if_pos c_45, if_neg c_64]; done) | (simp only [pT_count, if_neg c_8, if_neg c_26, if_pos c_45, if_neg c_64]; rfl) | rfl, by rw [ht]; exact hP, va_K.moved hW.alike hK, hD⟩, hS.F ht⟩) hS.2.2 dX1_countOthers_73
      · have c_45 : ¬ (tc = (fi (bs + 2))) := mt (lg_cmp_eq tc (fi (bs + 2))).mpr c_45
        refine lv_iconst (v := 1) hx hb dX1_countOthers_48 (by decide) ?_
        refine lv_goto (tgt := 53) hx hb dX1_countOthers_49 (by decide) ?_
        refine lv_iadd hx hb dX1_countOthers_53 ?_
        refine lv_topi (fun z_53 ez_53 => ?_)
        obtain rfl : z_53 = 3 := ez_53.trans (by decide)
        refine lv_aload_n hx hb dX1_countOthers_54 rfl (lv_at hl 0 rfl) ?_
        refine va_get (D := (dC, dI)) (ci := 1) (v := .long td) (C := RX1) (T := TX1) (N := 6) hx hb hts (by decide +kernel) hown hK hP 0 rfl rfl 3 (by decide) (hts (.fieldLink RX1 21 "BatchClasses$Trial" "d" "J") (by decide +kernel)) (fun _ h9 => h9) rfl dX1_countOthers_55 ?_
        refine lv_aload_n hx hb dX1_countOthers_58 rfl (lv_at hl 1 rfl) ?_
        refine lv_iload_n hx hb dX1_countOthers_59 rfl (lv_at hl 2 rfl) ?_
        refine lv_iconst (v := 3) hx hb dX1_countOthers_60 (by decide) ?_
        refine lv_iadd hx hb dX1_countOthers_61 ?_
        refine lv_topi (fun z_61 ez_61 => ?_)
        obtain rfl : z_61 = nI (bs + 3) := ez_61.trans (nI_add bs 3)
        refine va_lald hx hb hK hP 1 2 rfl rfl (vp_in_nI (by omega) (by omega)) dX1_countOthers_62 ?_
        refine lv_topl (fun z_62 ez_62 => ?_)
        obtain rfl : z_62 = fi (bs + 3) := ez_62.trans (by rw [nI_clamp (n := (bs + 3)) (by omega)])
        refine W.lcmp hx hb dX1_countOthers_63 ?_
        refine lv_if_eq (tgt := 71) hx hb dX1_countOthers_64 (by decide) (fun c_64 => ?_) (fun c_64 => ?_)
        · have c_64 : td = (fi (bs + 3)) := (lg_cmp_eq td (fi (bs + 3))).mp c_64
          refine lv_iconst (v := 0) hx hb dX1_countOthers_71 (by decide) ?_
          refine lv_iadd hx hb dX1_countOthers_72 ?_
          refine lv_topi (fun z_72 ez_72 => ?_)
          obtain rfl : z_72 = 3 := ez_72.trans (by decide)
          exact W.iret (v := 3) hx hb hr (fun t ht hW => ⟨⟨3, (), rfl, by first | (simp only [pT_count, if_neg c_8, if_neg c_26, if_neg c_45, if_pos c_64]; done) | (simp only [pT_count, if_neg c_8, if_neg c_26, if_neg c_45, if_pos c_64]; rfl) | rfl, by rw [ht]; exact hP, va_K.moved hW.alike hK, hD⟩, hS.F ht⟩) hS.2.2 dX1_countOthers_73
        · have c_64 : ¬ (td = (fi (bs + 3))) := mt (lg_cmp_eq td (fi (bs + 3))).mpr c_64
          refine lv_iconst (v := 1) hx hb dX1_countOthers_67 (by decide) ?_
          refine lv_goto (tgt := 72) hx hb dX1_countOthers_68 (by decide) ?_
          refine lv_iadd hx hb dX1_countOthers_72 ?_
          refine lv_topi (fun z_72 ez_72 => ?_)
          obtain rfl : z_72 = 4 := ez_72.trans (by decide)
          exact W.iret (v := 4) hx hb hr (fun t ht hW => ⟨⟨4, (), rfl, by first | (simp only [pT_count, if_neg c_8, if_neg c_26, if_neg c_45, if_neg c_64]; done) | (simp only [pT_count, if_neg c_8, if_neg c_26, if_neg c_45, if_neg c_64]; rfl) | rfl, by rw [ht]; exact hP, va_K.moved hW.alike hK, hD⟩, hS.F ht⟩) hS.2.2 dX1_countOthers_73
def pT_change (ta : Int64) (tb : Int64) (tc : Int64) (td : Int64) (te : Int64) (tk : Int32) (ac : (Nat)) : Int32 × Int64 × Int64 × Int64 × Int64 × Int64 × Int32 :=
  match ac with
  | 1 =>
    (0, (ta + 1), tb, tc, td, te, tk)
  | 2 =>
    (0, (ta * 2), tb, tc, td, te, tk)
  | 3 =>
    (0, ta, ta, tc, td, te, tk)
  | 4 =>
    if tb = 0 then
      (2, ta, tb, tc, td, te, tk)
    else
      (0, (ta / tb), tb, tc, td, te, tk)
  | 5 =>
    match pT_swap ta tb with
    | (ta_131, tb_131) =>
      (0, ta_131, tb_131, tc, td, te, tk)
  | 7 =>
    (0, ta, tb, tc, td, te, 1)
  | 8 =>
    (0, ta, tb, tc, td, (te + ta), tk)
  | 9 =>
    (0, te, tb, tc, td, te, tk)
  | 10 =>
    (3, ta, tb, tc, td, te, tk)
  | 11 =>
    (0, ta, tb, td, td, te, tk)
  | 12 =>
    (0, ta, tb, tc, (ta - tc), te, tk)
  | _ =>
    (0, ta, tb, tc, td, te, tk)
set_option maxHeartbeats 4000000 in
set_option maxRecDepth 100000 in
theorem k_X1_change (l : Launch) (dC : Nat → ClassId) (dI : Nat → Nat → Nat) (cI cZ cJ : ClassId) (sz : Nat) (h1 : Nat) (ta tb tc td te : Int64) (tk : Int32) (ac : (Nat)) (hac : ac < 16) : Met l yX1_change wsX1_change ({ frames := 1, cells := 0, slots := 0, locals := 22 }) (va_Pc [.ref h1, .int (nI ac)] (fun U => U.heap.size = sz ∧ va_P (dC, dI) vwC2 [(h1, .inr (1, [.long ta, .long tb, .long tc, .long td, .long te, .int tk]))] U.heap ∧ va_K (dC, dI) vwC2 [(cI, .int), (cZ, .boolean), (cJ, .long)] U ∧ va_D (fun _ => True) [(h1, .inr (1, [.long ta, .long tb, .long tc, .long td, .long te, .int tk]))])) (va_Qi (fun (r : Int32) (u : Int64 × Int64 × Int64 × Int64 × Int64 × Int32) => (r, u) = pT_change ta tb tc td te tk ac) (fun (u : Int64 × Int64 × Int64 × Int64 × Int64 × Int32) (t : State) => match u with | (ta', tb', tc', td', te', tk') => va_P (dC, dI) vwC2 [(h1, .inr (1, [.long ta', .long tb', .long tc', .long td', .long te', .int tk']))] t.heap ∧ va_K (dC, dI) vwC2 [(cI, .int), (cZ, .boolean), (cJ, .long)] t ∧ va_D (va_A [(h1, .inr (1, [.long ta, .long tb, .long tc, .long td, .long te, .int tk]))] sz) [(h1, .inr (1, [.long ta', .long tb', .long tc', .long td', .long te', .int tk']))]) (va_A [(h1, .inr (1, [.long ta, .long tb, .long tc, .long td, .long te, .int tk]))] sz)) 0 0 (va_A [(h1, .inr (1, [.long ta, .long tb, .long tc, .long td, .long te, .int tk]))] sz) := by
  refine Met.ofW (cc := cX1_change) (maxL := 2) (ret := (some .int)) (by decide) rfl ?_
  intro p e s m args below meth c s₁ B hml hv
  obtain ⟨rfl, hsz, hP, hK, hD0⟩ := hv
  have hx := B.exec
  have hb := B.bytes
  have hr := B.returns
  have hts := atoms_spec (ws := wsX1_change) B.pre
  have hown : s.vm.findClass RX1 = some m.cls := findClass_of_methodNamed B.named
  have hlocks := B.notSynchronized
  subst hsz
  have hD := hD0.self (sz := s.heap.size)
  generalize hAe : va_A [(h1, .inr (1, [.long ta, .long tb, .long tc, .long td, .long te, .int tk]))] s.heap.size = A at hD ⊢
  have hA : ∀ q : Nat, s.heap.size ≤ q → A q := fun q h => by rw [← hAe]; exact Or.inr h
  have hS : va_S A s.heap s.heap [] := va_S.rf
  have hP : va_P (dC, dI) vwC2 [(h1, .inr (1, [.long ta, .long tb, .long tc, .long td, .long te, .int tk]))] s.heap := hP
  have hl := lv_entry ([.ref h1, .int (nI ac)]) (n := 2) (Nat.le_of_ble_eq_true rfl)
  rw [lg_entry_eq]
  generalize (lg_sl ([.ref h1, .int (nI ac)]) ++ List.replicate (2 - (lg_sl ([.ref h1, .int (nI ac)])).length) Slot.unset).toArray = ls at hl ⊢
  have hl : lv_has ls 2 [(0, .ref h1), (1, .int (nI ac))] := hl
  refine lv_iload_n hx hb dX1_change_0 rfl (lv_at hl 1 rfl) ?_
  rcases (show ac = 0 ∨ ac = 1 ∨ ac = 2 ∨ ac = 3 ∨ ac = 4 ∨ ac = 5 ∨ ac = 6 ∨ ac = 7 ∨ ac = 8 ∨ ac = 9 ∨ ac = 10 ∨ ac = 11 ∨ ac = 12 ∨ ac = 13 ∨ ac = 14 ∨ ac = 15 by omega) with rfl | rfl | rfl | rfl | rfl | rfl | rfl | rfl | rfl | rfl | rfl | rfl | rfl | rfl | rfl | rfl
  · refine lv_tableOut (x := nI 0) (tgt := 201) hx hb dX1_change_1 (by decide +kernel) (by decide) ?_
    refine lv_iconst (v := 0) hx hb dX1_change_201 (by decide) ?_
    exact W.iret (v := 0) hx hb hr (fun t ht hW => ⟨⟨0, (ta, tb, tc, td, te, tk), rfl, by first | (simp only [pT_change]; done) | (simp only [pT_change]; rfl) | rfl, by rw [ht]; exact hP, va_K.moved hW.alike hK, hD⟩, hS.F ht⟩) hS.2.2 dX1_change_202
  · refine lv_tableIn (x := nI 1) (tgt := 64) hx hb dX1_change_1 (by decide +kernel) (by decide +kernel) rfl (by decide) ?_
    refine lv_aload_n hx hb dX1_change_64 rfl (lv_at hl 0 rfl) ?_
    refine lv_dup hx hb dX1_change_65 rfl ?_
    refine va_get (D := (dC, dI)) (ci := 1) (v := .long ta) (C := RX1) (T := TX1) (N := 6) hx hb hts (by decide +kernel) hown hK hP 0 rfl rfl 0 (by decide) (hts (.fieldLink RX1 9 "BatchClasses$Trial" "a" "J") (by decide +kernel)) (fun _ h9 => h9) rfl dX1_change_66 ?_
    refine lv_lconst (v := 1) hx hb dX1_change_69 (by decide) ?_
    refine lv_ladd hx hb dX1_change_70 ?_
    refine va_put (D := (dC, dI)) (ci := 1) (v := .long (ta + 1)) (ty := .long) (C := RX1) (T := TX1) (N := 6) hx hb hts (by decide +kernel) tyX1 tyX1_ok nmX1 hown hK hP hD hS 0 rfl rfl 0 (by decide) (hts (.fieldLink RX1 9 "BatchClasses$Trial" "a" "J") (by decide +kernel)) (fun _ h9 => h9) rfl (by decide +kernel) rfl rfl (Nat.le_of_ble_eq_true rfl) dX1_change_71 (fun H locs hP hD hS => ?_)
    have hP : va_P (dC, dI) vwC2 [(h1, .inr (1, [.long (ta + 1), .long tb, .long tc, .long td, .long te, .int tk]))] H := hP
    have hD : va_D A [(h1, .inr (1, [.long (ta + 1), .long tb, .long tc, .long td, .long te, .int tk]))] := hD
    refine lv_goto (tgt := 201) hx hb dX1_change_74 (by decide) ?_
    refine lv_iconst (v := 0) hx hb dX1_change_201 (by decide) ?_
    exact W.iret (v := 0) hx hb hr (fun t ht hW => ⟨⟨0, ((ta + 1), tb, tc, td, te, tk), rfl, by first | (simp only [pT_change]; done) | (simp only [pT_change]; rfl) | rfl, by rw [ht]; exact hP, va_K.moved hW.alike hK, hD⟩, hS.F ht⟩) hS.2.2 dX1_change_202
  · refine lv_tableIn (x := nI 2) (tgt := 77) hx hb dX1_change_1 (by decide +kernel) (by decide +kernel) rfl (by decide) ?_
    refine lv_aload_n hx hb dX1_change_77 rfl (lv_at hl 0 rfl) ?_
    refine lv_dup hx hb dX1_change_78 rfl ?_
    refine va_get (D := (dC, dI)) (ci := 1) (v := .long ta) (C := RX1) (T := TX1) (N := 6) hx hb hts (by decide +kernel) hown hK hP 0 rfl rfl 0 (by decide) (hts (.fieldLink RX1 9 "BatchClasses$Trial" "a" "J") (by decide +kernel)) (fun _ h9 => h9) rfl dX1_change_79 ?_
    refine lv_ldc2 (v := 2) hx hb hown (hts (.constantLong RX1 35 2) (by decide +kernel)) dX1_change_82 ?_
    refine lv_lmul hx hb dX1_change_85 ?_
    refine va_put (D := (dC, dI)) (ci := 1) (v := .long (ta * 2)) (ty := .long) (C := RX1) (T := TX1) (N := 6) hx hb hts (by decide +kernel) tyX1 tyX1_ok nmX1 hown hK hP hD hS 0 rfl rfl 0 (by decide) (hts (.fieldLink RX1 9 "BatchClasses$Trial" "a" "J") (by decide +kernel)) (fun _ h9 => h9) rfl (by decide +kernel) rfl rfl (Nat.le_of_ble_eq_true rfl) dX1_change_86 (fun H locs hP hD hS => ?_)
    have hP : va_P (dC, dI) vwC2 [(h1, .inr (1, [.long (ta * 2), .long tb, .long tc, .long td, .long te, .int tk]))] H := hP
    have hD : va_D A [(h1, .inr (1, [.long (ta * 2), .long tb, .long tc, .long td, .long te, .int tk]))] := hD
    refine lv_goto (tgt := 201) hx hb dX1_change_89 (by decide) ?_
    refine lv_iconst (v := 0) hx hb dX1_change_201 (by decide) ?_
    exact W.iret (v := 0) hx hb hr (fun t ht hW => ⟨⟨0, ((ta * 2), tb, tc, td, te, tk), rfl, by first | (simp only [pT_change]; done) | (simp only [pT_change]; rfl) | rfl, by rw [ht]; exact hP, va_K.moved hW.alike hK, hD⟩, hS.F ht⟩) hS.2.2 dX1_change_202
  · refine lv_tableIn (x := nI 3) (tgt := 92) hx hb dX1_change_1 (by decide +kernel) (by decide +kernel) rfl (by decide) ?_
    refine lv_aload_n hx hb dX1_change_92 rfl (lv_at hl 0 rfl) ?_
    refine lv_aload_n hx hb dX1_change_93 rfl (lv_at hl 0 rfl) ?_
    refine va_get (D := (dC, dI)) (ci := 1) (v := .long ta) (C := RX1) (T := TX1) (N := 6) hx hb hts (by decide +kernel) hown hK hP 0 rfl rfl 0 (by decide) (hts (.fieldLink RX1 9 "BatchClasses$Trial" "a" "J") (by decide +kernel)) (fun _ h9 => h9) rfl dX1_change_94 ?_
    refine va_put (D := (dC, dI)) (ci := 1) (v := .long ta) (ty := .long) (C := RX1) (T := TX1) (N := 6) hx hb hts (by decide +kernel) tyX1 tyX1_ok nmX1 hown hK hP hD hS 0 rfl rfl 1 (by decide) (hts (.fieldLink RX1 15 "BatchClasses$Trial" "b" "J") (by decide +kernel)) (fun _ h9 => h9) rfl (by decide +kernel) rfl rfl (Nat.le_of_ble_eq_true rfl) dX1_change_97 (fun H locs hP hD hS => ?_)
    have hP : va_P (dC, dI) vwC2 [(h1, .inr (1, [.long ta, .long ta, .long tc, .long td, .long te, .int tk]))] H := hP
    have hD : va_D A [(h1, .inr (1, [.long ta, .long ta, .long tc, .long td, .long te, .int tk]))] := hD
    refine lv_goto (tgt := 201) hx hb dX1_change_100 (by decide) ?_
    refine lv_iconst (v := 0) hx hb dX1_change_201 (by decide) ?_
    exact W.iret (v := 0) hx hb hr (fun t ht hW => ⟨⟨0, (ta, ta, tc, td, te, tk), rfl, by first | (simp only [pT_change]; done) | (simp only [pT_change]; rfl) | rfl, by rw [ht]; exact hP, va_K.moved hW.alike hK, hD⟩, hS.F ht⟩) hS.2.2 dX1_change_202
  · refine lv_tableIn (x := nI 4) (tgt := 103) hx hb dX1_change_1 (by decide +kernel) (by decide +kernel) rfl (by decide) ?_
    refine lv_aload_n hx hb dX1_change_103 rfl (lv_at hl 0 rfl) ?_
    refine va_get (D := (dC, dI)) (ci := 1) (v := .long tb) (C := RX1) (T := TX1) (N := 6) hx hb hts (by decide +kernel) hown hK hP 0 rfl rfl 1 (by decide) (hts (.fieldLink RX1 15 "BatchClasses$Trial" "b" "J") (by decide +kernel)) (fun _ h9 => h9) rfl dX1_change_104 ?_
    refine lv_lconst (v := 0) hx hb dX1_change_107 (by decide) ?_
    refine W.lcmp hx hb dX1_change_108 ?_
    refine lv_if_ne (tgt := 114) hx hb dX1_change_109 (by decide) (fun c_109 => ?_) (fun c_109 => ?_)
    · have c_109 : ¬ (tb = 0) := mt (lg_cmp_eq tb 0).mpr c_109
      refine lv_aload_n hx hb dX1_change_114 rfl (lv_at hl 0 rfl) ?_
      refine lv_dup hx hb dX1_change_115 rfl ?_
      refine va_get (D := (dC, dI)) (ci := 1) (v := .long ta) (C := RX1) (T := TX1) (N := 6) hx hb hts (by decide +kernel) hown hK hP 0 rfl rfl 0 (by decide) (hts (.fieldLink RX1 9 "BatchClasses$Trial" "a" "J") (by decide +kernel)) (fun _ h9 => h9) rfl dX1_change_116 ?_
      refine lv_aload_n hx hb dX1_change_119 rfl (lv_at hl 0 rfl) ?_
      refine va_get (D := (dC, dI)) (ci := 1) (v := .long tb) (C := RX1) (T := TX1) (N := 6) hx hb hts (by decide +kernel) hown hK hP 0 rfl rfl 1 (by decide) (hts (.fieldLink RX1 15 "BatchClasses$Trial" "b" "J") (by decide +kernel)) (fun _ h9 => h9) rfl dX1_change_120 ?_
      refine lv_ldiv hx hb dX1_change_123 c_109 ?_
      refine va_put (D := (dC, dI)) (ci := 1) (v := .long (ta / tb)) (ty := .long) (C := RX1) (T := TX1) (N := 6) hx hb hts (by decide +kernel) tyX1 tyX1_ok nmX1 hown hK hP hD hS 0 rfl rfl 0 (by decide) (hts (.fieldLink RX1 9 "BatchClasses$Trial" "a" "J") (by decide +kernel)) (fun _ h9 => h9) rfl (by decide +kernel) rfl rfl (Nat.le_of_ble_eq_true rfl) dX1_change_124 (fun H locs hP hD hS => ?_)
      have hP : va_P (dC, dI) vwC2 [(h1, .inr (1, [.long (ta / tb), .long tb, .long tc, .long td, .long te, .int tk]))] H := hP
      have hD : va_D A [(h1, .inr (1, [.long (ta / tb), .long tb, .long tc, .long td, .long te, .int tk]))] := hD
      refine lv_goto (tgt := 201) hx hb dX1_change_127 (by decide) ?_
      refine lv_iconst (v := 0) hx hb dX1_change_201 (by decide) ?_
      exact W.iret (v := 0) hx hb hr (fun t ht hW => ⟨⟨0, ((ta / tb), tb, tc, td, te, tk), rfl, by first | (simp only [pT_change, if_neg c_109]; done) | (simp only [pT_change, if_neg c_109]; rfl) | rfl, by rw [ht]; exact hP, va_K.moved hW.alike hK, hD⟩, hS.F ht⟩) hS.2.2 dX1_change_202
    · have c_109 : tb = 0 := (lg_cmp_eq tb 0).mp c_109
      refine lv_iconst (v := 2) hx hb dX1_change_112 (by decide) ?_
      exact W.iret (v := 2) hx hb hr (fun t ht hW => ⟨⟨2, (ta, tb, tc, td, te, tk), rfl, by first | (simp only [pT_change, if_pos c_109]; done) | (simp only [pT_change, if_pos c_109]; rfl) | rfl, by rw [ht]; exact hP, va_K.moved hW.alike hK, hD⟩, hS.F ht⟩) hS.2.2 dX1_change_113
  · refine lv_tableIn (x := nI 5) (tgt := 130) hx hb dX1_change_1 (by decide +kernel) (by decide +kernel) rfl (by decide) ?_
    refine lv_aload_n hx hb dX1_change_130 rfl (lv_at hl 0 rfl) ?_
    have hPc := hP.sub (ws' := [(h1, .inr (1, [.long ta, .long tb, .long tc, .long td, .long te, .int tk]))]) [0] rfl
    have hDc := hD.sub (ws' := [(h1, .inr (1, [.long ta, .long tb, .long tc, .long td, .long te, .int tk]))]) [0] (by decide) rfl
    have hFc := va_free (wc := [(h1, .inr (1, [.long ta, .long tb, .long tc, .long td, .long te, .int tk]))]) hD hS hA [0] rfl
    refine va_callv (va_runV (As := []) (rest := []) ⟨hx, hb, hml, hown, hts⟩ (k_X1_swap l dC dI cI cZ cJ s.heap.size h1 ta tb tc td te tk) (cwV 0 hts gX1_change_X1_swap rfl rfl rfl (by decide +kernel) ⟨Nat.le_of_ble_eq_true rfl, Nat.le_of_ble_eq_true rfl⟩) ⟨fun a U g mk q => by obtain ⟨q0, q1, qP, qK, qD⟩ := q; exact ⟨q0, q1, qP, va_K.moved (u := U) (U := U.calling g mk a) (Vm.Alike.refl U.vm) qK, qD⟩, va_recv hK hPc (ci := 1) (q0 := 0) rfl rfl, fun U hU hW => ⟨rfl, by rw [hU], by rw [hU]; exact hPc, va_K.moved hW.alike hK, hDc.weaken (fun _ _ _ _ => trivial)⟩⟩ rfl rfl hl.1 rfl (lv_room (Nat.le_of_ble_eq_true rfl)) dX1_change_131 ⟨Nat.zero_le _, Nat.zero_le _⟩) hS (fun q _ h => hFc q h) hFc (fun u t H1 locs ht hvm hw_131 hB hz1 hk1 hS => ?_)
    obtain ⟨ta_131, tb_131⟩ := u
    obtain ⟨hP1, hK1, hD1⟩ := hB
    rw [ht] at hP1
    try dsimp only at hw_131
    obtain ⟨hP, hD⟩ := va_join (wr := []) (w1 := [(h1, .inr (1, [.long ta_131, .long tb_131, .long tc, .long td, .long te, .int tk]))]) hP hD [0] [] rfl rfl (by decide) (by decide) hk1 hFc hP1 hD1
    generalize H1 = H at hP hS ⊢
    have hP : va_P (dC, dI) vwC2 [(h1, .inr (1, [.long ta_131, .long tb_131, .long tc, .long td, .long te, .int tk]))] H := hP.sub [0] rfl
    have hD : va_D A [(h1, .inr (1, [.long ta_131, .long tb_131, .long tc, .long td, .long te, .int tk]))] := hD.sub [0] (by decide) rfl
    refine lv_goto (tgt := 201) hx hb dX1_change_134 (by decide) ?_
    refine lv_iconst (v := 0) hx hb dX1_change_201 (by decide) ?_
    exact W.iret (v := 0) hx hb hr (fun t ht hW => ⟨⟨0, (ta_131, tb_131, tc, td, te, tk), rfl, by first | (simp only [pT_change, ← hw_131]; done) | (simp only [pT_change, ← hw_131]; rfl) | rfl, by rw [ht]; exact hP, va_K.moved hW.alike hK, hD⟩, hS.F ht⟩) hS.2.2 dX1_change_202
  · refine lv_tableIn (x := nI 6) (tgt := 201) hx hb dX1_change_1 (by decide +kernel) (by decide +kernel) rfl (by decide) ?_
    refine lv_iconst (v := 0) hx hb dX1_change_201 (by decide) ?_
    exact W.iret (v := 0) hx hb hr (fun t ht hW => ⟨⟨0, (ta, tb, tc, td, te, tk), rfl, by first | (simp only [pT_change]; done) | (simp only [pT_change]; rfl) | rfl, by rw [ht]; exact hP, va_K.moved hW.alike hK, hD⟩, hS.F ht⟩) hS.2.2 dX1_change_202
  · refine lv_tableIn (x := nI 7) (tgt := 137) hx hb dX1_change_1 (by decide +kernel) (by decide +kernel) rfl (by decide) ?_
    refine lv_aload_n hx hb dX1_change_137 rfl (lv_at hl 0 rfl) ?_
    refine lv_iconst (v := 1) hx hb dX1_change_138 (by decide) ?_
    refine va_put (D := (dC, dI)) (ci := 1) (v := .int 1) (ty := .boolean) (C := RX1) (T := TX1) (N := 6) hx hb hts (by decide +kernel) tyX1 tyX1_ok nmX1 hown hK hP hD hS 0 rfl rfl 5 (by decide) (hts (.fieldLink RX1 27 "BatchClasses$Trial" "locks" "Z") (by decide +kernel)) (fun _ h9 => h9) rfl (by decide +kernel) rfl rfl (Nat.le_of_ble_eq_true rfl) dX1_change_139 (fun H locs hP hD hS => ?_)
    have hP : va_P (dC, dI) vwC2 [(h1, .inr (1, [.long ta, .long tb, .long tc, .long td, .long te, .int 1]))] H := hP
    have hD : va_D A [(h1, .inr (1, [.long ta, .long tb, .long tc, .long td, .long te, .int 1]))] := hD
    refine lv_goto (tgt := 201) hx hb dX1_change_142 (by decide) ?_
    refine lv_iconst (v := 0) hx hb dX1_change_201 (by decide) ?_
    exact W.iret (v := 0) hx hb hr (fun t ht hW => ⟨⟨0, (ta, tb, tc, td, te, 1), rfl, by first | (simp only [pT_change]; done) | (simp only [pT_change]; rfl) | rfl, by rw [ht]; exact hP, va_K.moved hW.alike hK, hD⟩, hS.F ht⟩) hS.2.2 dX1_change_202
  · refine lv_tableIn (x := nI 8) (tgt := 145) hx hb dX1_change_1 (by decide +kernel) (by decide +kernel) rfl (by decide) ?_
    refine lv_aload_n hx hb dX1_change_145 rfl (lv_at hl 0 rfl) ?_
    refine lv_dup hx hb dX1_change_146 rfl ?_
    refine va_get (D := (dC, dI)) (ci := 1) (v := .long te) (C := RX1) (T := TX1) (N := 6) hx hb hts (by decide +kernel) hown hK hP 0 rfl rfl 4 (by decide) (hts (.fieldLink RX1 24 "BatchClasses$Trial" "cell" "J") (by decide +kernel)) (fun _ h9 => h9) rfl dX1_change_147 ?_
    refine lv_aload_n hx hb dX1_change_150 rfl (lv_at hl 0 rfl) ?_
    refine va_get (D := (dC, dI)) (ci := 1) (v := .long ta) (C := RX1) (T := TX1) (N := 6) hx hb hts (by decide +kernel) hown hK hP 0 rfl rfl 0 (by decide) (hts (.fieldLink RX1 9 "BatchClasses$Trial" "a" "J") (by decide +kernel)) (fun _ h9 => h9) rfl dX1_change_151 ?_
    refine lv_ladd hx hb dX1_change_154 ?_
    refine va_put (D := (dC, dI)) (ci := 1) (v := .long (te + ta)) (ty := .long) (C := RX1) (T := TX1) (N := 6) hx hb hts (by decide +kernel) tyX1 tyX1_ok nmX1 hown hK hP hD hS 0 rfl rfl 4 (by decide) (hts (.fieldLink RX1 24 "BatchClasses$Trial" "cell" "J") (by decide +kernel)) (fun _ h9 => h9) rfl (by decide +kernel) rfl rfl (Nat.le_of_ble_eq_true rfl) dX1_change_155 (fun H locs hP hD hS => ?_)
    have hP : va_P (dC, dI) vwC2 [(h1, .inr (1, [.long ta, .long tb, .long tc, .long td, .long (te + ta), .int tk]))] H := hP
    have hD : va_D A [(h1, .inr (1, [.long ta, .long tb, .long tc, .long td, .long (te + ta), .int tk]))] := hD
    refine lv_goto (tgt := 201) hx hb dX1_change_158 (by decide) ?_
    refine lv_iconst (v := 0) hx hb dX1_change_201 (by decide) ?_
    exact W.iret (v := 0) hx hb hr (fun t ht hW => ⟨⟨0, (ta, tb, tc, td, (te + ta), tk), rfl, by first | (simp only [pT_change]; done) | (simp only [pT_change]; rfl) | rfl, by rw [ht]; exact hP, va_K.moved hW.alike hK, hD⟩, hS.F ht⟩) hS.2.2 dX1_change_202
  · refine lv_tableIn (x := nI 9) (tgt := 161) hx hb dX1_change_1 (by decide +kernel) (by decide +kernel) rfl (by decide) ?_
    refine lv_aload_n hx hb dX1_change_161 rfl (lv_at hl 0 rfl) ?_
    refine lv_aload_n hx hb dX1_change_162 rfl (lv_at hl 0 rfl) ?_
    refine va_get (D := (dC, dI)) (ci := 1) (v := .long te) (C := RX1) (T := TX1) (N := 6) hx hb hts (by decide +kernel) hown hK hP 0 rfl rfl 4 (by decide) (hts (.fieldLink RX1 24 "BatchClasses$Trial" "cell" "J") (by decide +kernel)) (fun _ h9 => h9) rfl dX1_change_163 ?_
    refine va_put (D := (dC, dI)) (ci := 1) (v := .long te) (ty := .long) (C := RX1) (T := TX1) (N := 6) hx hb hts (by decide +kernel) tyX1 tyX1_ok nmX1 hown hK hP hD hS 0 rfl rfl 0 (by decide) (hts (.fieldLink RX1 9 "BatchClasses$Trial" "a" "J") (by decide +kernel)) (fun _ h9 => h9) rfl (by decide +kernel) rfl rfl (Nat.le_of_ble_eq_true rfl) dX1_change_166 (fun H locs hP hD hS => ?_)
    have hP : va_P (dC, dI) vwC2 [(h1, .inr (1, [.long te, .long tb, .long tc, .long td, .long te, .int tk]))] H := hP
    have hD : va_D A [(h1, .inr (1, [.long te, .long tb, .long tc, .long td, .long te, .int tk]))] := hD
    refine lv_goto (tgt := 201) hx hb dX1_change_169 (by decide) ?_
    refine lv_iconst (v := 0) hx hb dX1_change_201 (by decide) ?_
    exact W.iret (v := 0) hx hb hr (fun t ht hW => ⟨⟨0, (te, tb, tc, td, te, tk), rfl, by first | (simp only [pT_change]; done) | (simp only [pT_change]; rfl) | rfl, by rw [ht]; exact hP, va_K.moved hW.alike hK, hD⟩, hS.F ht⟩) hS.2.2 dX1_change_202
  · refine lv_tableIn (x := nI 10) (tgt := 172) hx hb dX1_change_1 (by decide +kernel) (by decide +kernel) rfl (by decide) ?_
    refine lv_iconst (v := 3) hx hb dX1_change_172 (by decide) ?_
    exact W.iret (v := 3) hx hb hr (fun t ht hW => ⟨⟨3, (ta, tb, tc, td, te, tk), rfl, by first | (simp only [pT_change]; done) | (simp only [pT_change]; rfl) | rfl, by rw [ht]; exact hP, va_K.moved hW.alike hK, hD⟩, hS.F ht⟩) hS.2.2 dX1_change_173
  · refine lv_tableIn (x := nI 11) (tgt := 174) hx hb dX1_change_1 (by decide +kernel) (by decide +kernel) rfl (by decide) ?_
    refine lv_aload_n hx hb dX1_change_174 rfl (lv_at hl 0 rfl) ?_
    refine lv_aload_n hx hb dX1_change_175 rfl (lv_at hl 0 rfl) ?_
    refine va_get (D := (dC, dI)) (ci := 1) (v := .long td) (C := RX1) (T := TX1) (N := 6) hx hb hts (by decide +kernel) hown hK hP 0 rfl rfl 3 (by decide) (hts (.fieldLink RX1 21 "BatchClasses$Trial" "d" "J") (by decide +kernel)) (fun _ h9 => h9) rfl dX1_change_176 ?_
    refine va_put (D := (dC, dI)) (ci := 1) (v := .long td) (ty := .long) (C := RX1) (T := TX1) (N := 6) hx hb hts (by decide +kernel) tyX1 tyX1_ok nmX1 hown hK hP hD hS 0 rfl rfl 2 (by decide) (hts (.fieldLink RX1 18 "BatchClasses$Trial" "c" "J") (by decide +kernel)) (fun _ h9 => h9) rfl (by decide +kernel) rfl rfl (Nat.le_of_ble_eq_true rfl) dX1_change_179 (fun H locs hP hD hS => ?_)
    have hP : va_P (dC, dI) vwC2 [(h1, .inr (1, [.long ta, .long tb, .long td, .long td, .long te, .int tk]))] H := hP
    have hD : va_D A [(h1, .inr (1, [.long ta, .long tb, .long td, .long td, .long te, .int tk]))] := hD
    refine lv_goto (tgt := 201) hx hb dX1_change_182 (by decide) ?_
    refine lv_iconst (v := 0) hx hb dX1_change_201 (by decide) ?_
    exact W.iret (v := 0) hx hb hr (fun t ht hW => ⟨⟨0, (ta, tb, td, td, te, tk), rfl, by first | (simp only [pT_change]; done) | (simp only [pT_change]; rfl) | rfl, by rw [ht]; exact hP, va_K.moved hW.alike hK, hD⟩, hS.F ht⟩) hS.2.2 dX1_change_202
  · refine lv_tableIn (x := nI 12) (tgt := 185) hx hb dX1_change_1 (by decide +kernel) (by decide +kernel) rfl (by decide) ?_
    refine lv_aload_n hx hb dX1_change_185 rfl (lv_at hl 0 rfl) ?_
    refine lv_aload_n hx hb dX1_change_186 rfl (lv_at hl 0 rfl) ?_
    refine va_get (D := (dC, dI)) (ci := 1) (v := .long ta) (C := RX1) (T := TX1) (N := 6) hx hb hts (by decide +kernel) hown hK hP 0 rfl rfl 0 (by decide) (hts (.fieldLink RX1 9 "BatchClasses$Trial" "a" "J") (by decide +kernel)) (fun _ h9 => h9) rfl dX1_change_187 ?_
    refine lv_aload_n hx hb dX1_change_190 rfl (lv_at hl 0 rfl) ?_
    refine va_get (D := (dC, dI)) (ci := 1) (v := .long tc) (C := RX1) (T := TX1) (N := 6) hx hb hts (by decide +kernel) hown hK hP 0 rfl rfl 2 (by decide) (hts (.fieldLink RX1 18 "BatchClasses$Trial" "c" "J") (by decide +kernel)) (fun _ h9 => h9) rfl dX1_change_191 ?_
    refine lv_lsub hx hb dX1_change_194 ?_
    refine va_put (D := (dC, dI)) (ci := 1) (v := .long (ta - tc)) (ty := .long) (C := RX1) (T := TX1) (N := 6) hx hb hts (by decide +kernel) tyX1 tyX1_ok nmX1 hown hK hP hD hS 0 rfl rfl 3 (by decide) (hts (.fieldLink RX1 21 "BatchClasses$Trial" "d" "J") (by decide +kernel)) (fun _ h9 => h9) rfl (by decide +kernel) rfl rfl (Nat.le_of_ble_eq_true rfl) dX1_change_195 (fun H locs hP hD hS => ?_)
    have hP : va_P (dC, dI) vwC2 [(h1, .inr (1, [.long ta, .long tb, .long tc, .long (ta - tc), .long te, .int tk]))] H := hP
    have hD : va_D A [(h1, .inr (1, [.long ta, .long tb, .long tc, .long (ta - tc), .long te, .int tk]))] := hD
    refine lv_goto (tgt := 201) hx hb dX1_change_198 (by decide) ?_
    refine lv_iconst (v := 0) hx hb dX1_change_201 (by decide) ?_
    exact W.iret (v := 0) hx hb hr (fun t ht hW => ⟨⟨0, (ta, tb, tc, (ta - tc), te, tk), rfl, by first | (simp only [pT_change]; done) | (simp only [pT_change]; rfl) | rfl, by rw [ht]; exact hP, va_K.moved hW.alike hK, hD⟩, hS.F ht⟩) hS.2.2 dX1_change_202
  · refine lv_tableOut (x := nI 13) (tgt := 201) hx hb dX1_change_1 (by decide +kernel) (by decide) ?_
    refine lv_iconst (v := 0) hx hb dX1_change_201 (by decide) ?_
    exact W.iret (v := 0) hx hb hr (fun t ht hW => ⟨⟨0, (ta, tb, tc, td, te, tk), rfl, by first | (simp only [pT_change]; done) | (simp only [pT_change]; rfl) | rfl, by rw [ht]; exact hP, va_K.moved hW.alike hK, hD⟩, hS.F ht⟩) hS.2.2 dX1_change_202
  · refine lv_tableOut (x := nI 14) (tgt := 201) hx hb dX1_change_1 (by decide +kernel) (by decide) ?_
    refine lv_iconst (v := 0) hx hb dX1_change_201 (by decide) ?_
    exact W.iret (v := 0) hx hb hr (fun t ht hW => ⟨⟨0, (ta, tb, tc, td, te, tk), rfl, by first | (simp only [pT_change]; done) | (simp only [pT_change]; rfl) | rfl, by rw [ht]; exact hP, va_K.moved hW.alike hK, hD⟩, hS.F ht⟩) hS.2.2 dX1_change_202
  · refine lv_tableOut (x := nI 15) (tgt := 201) hx hb dX1_change_1 (by decide +kernel) (by decide) ?_
    refine lv_iconst (v := 0) hx hb dX1_change_201 (by decide) ?_
    exact W.iret (v := 0) hx hb hr (fun t ht hW => ⟨⟨0, (ta, tb, tc, td, te, tk), rfl, by first | (simp only [pT_change]; done) | (simp only [pT_change]; rfl) | rfl, by rw [ht]; exact hP, va_K.moved hW.alike hK, hD⟩, hS.F ht⟩) hS.2.2 dX1_change_202
/-- the act at place i of a program -/
def acN (p : Int32) (i : Nat) : Nat := p.toBitVec.toNat / 2 ^ (4 * i) % 16
theorem acN_lt (p : Int32) (i : Nat) : acN p i < 16 := Nat.mod_lt _ (by decide)
theorem acN_L (p : Int32) {i : Nat} (h : i < 8) : (p.toUInt32 >>> ((nI (i * 4)).toUInt32 &&& Int32.toUInt32 31)).toInt32 &&& 15 = nI (acN p i) := by
  have hs : (((nI (i * 4)).toUInt32 &&& Int32.toUInt32 31).toBitVec % 32).toNat = 4 * i := by
    rcases (show i = 0 ∨ i = 1 ∨ i = 2 ∨ i = 3 ∨ i = 4 ∨ i = 5 ∨ i = 6 ∨ i = 7 by omega) with rfl | rfl | rfl | rfl | rfl | rfl | rfl | rfl <;> rfl
  rw [pk_and _ 4 (by decide), pk_ushr p _ _ hs]
  rfl
def pT_nx (p : Int32) (i : Nat) (a c : Int64) : Nat := if acN p i = 6 then (if c ≤ a then i + 1 else 0) else i + 1
def pT_perf : Nat → Int32 → Nat → Int64 → Int64 → Int64 → Int64 → Int64 → Int32 → Int32 × Int64 × Int64 × Int64 × Int64 × Int64 × Int32
  | 0, _, _, a, b, c, d, e, k => (4, a, b, c, d, e, k)
  | n + 1, p, i, a, b, c, d, e, k =>
    if acN p i = 13 then (0, a, b, c, d, e, k) else
    match pT_change a b c d e k (acN p i) with
    | (r, a', b', c', d', e', k') =>
      if r = 0 then
        (if pT_nx p i a c < 8 then pT_perf n p (pT_nx p i a c) a' b' c' d' e' k' else (0, a', b', c', d', e', k'))
      else (r, a', b', c', d', e', k')
def pT_perform (ta : Int64) (tb : Int64) (tc : Int64) (td : Int64) (te : Int64) (tk : Int32) (pr : Int32) (tm : Nat) : Int32 × Int64 × Int64 × Int64 × Int64 × Int64 × Int32 := pT_perf tm pr 0 ta tb tc td te tk
set_option maxHeartbeats 4000000 in
set_option maxRecDepth 100000 in
theorem k_X1_perform (l : Launch) (dC : Nat → ClassId) (dI : Nat → Nat → Nat) (cI cZ cJ : ClassId) (sz : Nat) (h1 : Nat) (ta tb tc td te : Int64) (tk pr : Int32) (tm : (Nat)) (htm : tm < 2 ^ 31) : Met l yX1_perform wsX1_perform ({ frames := 2, cells := 0, slots := 0, locals := 43 }) (va_Pc [.ref h1, .int pr, .int (nI tm)] (fun U => U.heap.size = sz ∧ va_P (dC, dI) vwC2 [(h1, .inr (1, [.long ta, .long tb, .long tc, .long td, .long te, .int tk]))] U.heap ∧ va_K (dC, dI) vwC2 [(cI, .int), (cZ, .boolean), (cJ, .long)] U ∧ va_D (fun _ => True) [(h1, .inr (1, [.long ta, .long tb, .long tc, .long td, .long te, .int tk]))])) (va_Qi (fun (r : Int32) (u : Int64 × Int64 × Int64 × Int64 × Int64 × Int32) => (r, u) = pT_perform ta tb tc td te tk pr tm) (fun (u : Int64 × Int64 × Int64 × Int64 × Int64 × Int32) (t : State) => match u with | (ta', tb', tc', td', te', tk') => va_P (dC, dI) vwC2 [(h1, .inr (1, [.long ta', .long tb', .long tc', .long td', .long te', .int tk']))] t.heap ∧ va_K (dC, dI) vwC2 [(cI, .int), (cZ, .boolean), (cJ, .long)] t ∧ va_D (va_A [(h1, .inr (1, [.long ta, .long tb, .long tc, .long td, .long te, .int tk]))] sz) [(h1, .inr (1, [.long ta', .long tb', .long tc', .long td', .long te', .int tk']))]) (va_A [(h1, .inr (1, [.long ta, .long tb, .long tc, .long td, .long te, .int tk]))] sz)) 0 0 (va_A [(h1, .inr (1, [.long ta, .long tb, .long tc, .long td, .long te, .int tk]))] sz) := by
  refine Met.ofW (cc := cX1_perform) (maxL := 7) (ret := (some .int)) (by decide) rfl ?_
  intro p e s m args below meth c s₁ B hml hv
  obtain ⟨rfl, hsz, hP, hK, hD0⟩ := hv
  have hx := B.exec
  have hb := B.bytes
  have hr := B.returns
  have hts := atoms_spec (ws := wsX1_perform) B.pre
  have hown : s.vm.findClass RX1 = some m.cls := findClass_of_methodNamed B.named
  have hlocks := B.notSynchronized
  subst hsz
  have hD := hD0.self (sz := s.heap.size)
  generalize hAe : va_A [(h1, .inr (1, [.long ta, .long tb, .long tc, .long td, .long te, .int tk]))] s.heap.size = A at hD ⊢
  have hA : ∀ q : Nat, s.heap.size ≤ q → A q := fun q h => by rw [← hAe]; exact Or.inr h
  have hS : va_S A s.heap s.heap [] := va_S.rf
  have hP : va_P (dC, dI) vwC2 [(h1, .inr (1, [.long ta, .long tb, .long tc, .long td, .long te, .int tk]))] s.heap := hP
  have hl := lv_entry ([.ref h1, .int pr, .int (nI tm)]) (n := 7) (Nat.le_of_ble_eq_true rfl)
  rw [lg_entry_eq]
  generalize (lg_sl ([.ref h1, .int pr, .int (nI tm)]) ++ List.replicate (7 - (lg_sl ([.ref h1, .int pr, .int (nI tm)])).length) Slot.unset).toArray = ls at hl ⊢
  have hl : lv_has ls 7 [(0, .ref h1), (1, .int pr), (2, .int (nI tm))] := hl
  refine lv_iconst (v := 0) hx hb dX1_perform_0 (by decide) ?_
  refine lv_istore_n (lv' := [(3, .int 0), (0, .ref h1), (1, .int pr), (2, .int (nI tm))]) hx hb dX1_perform_1 rfl hl (by decide) rfl (fun ls hl => ?_)
  refine lv_iconst (v := 0) hx hb dX1_perform_2 (by decide) ?_
  refine lv_istore (lv' := [(4, .int 0), (3, .int 0), (0, .ref h1), (1, .int pr), (2, .int (nI tm))]) hx hb dX1_perform_3 hl (by decide) rfl (fun ls hl => ?_)
  have loop : ∀ (n i k : Nat) (ua ub uc ud ue : Int64) (uk : Int32) (H : Heap) (locs : List Loc) (ls : Array Slot), i < 8 → k + n = tm → pT_perf n pr i ua ub uc ud ue uk = pT_perf tm pr 0 ta tb tc td te tk → va_P (dC, dI) vwC2 [(h1, .inr (1, [.long ua, .long ub, .long uc, .long ud, .long ue, .int uk]))] H → va_D A [(h1, .inr (1, [.long ua, .long ub, .long uc, .long ud, .long ue, .int uk]))] → va_S A s.heap H locs → lv_has ls 7 [(4, .int (nI k)), (3, .int (nI i)), (0, .ref h1), (1, .int pr), (2, .int (nI tm))] → W p l e (headSpec wsX1_perform { frames := 2, cells := 0, slots := 0, locals := 43 }).room s m ([.ref h1, .int pr, .int (nI tm)] : List Value).toArray below meth c H locs 0 0 (MQ below (va_Qi (fun (r : Int32) (u : Int64 × Int64 × Int64 × Int64 × Int64 × Int32) => (r, u) = pT_perform ta tb tc td te tk pr tm) (fun (u : Int64 × Int64 × Int64 × Int64 × Int64 × Int32) (t : State) => match u with | (ta', tb', tc', td', te', tk') => va_P (dC, dI) vwC2 [(h1, .inr (1, [.long ta', .long tb', .long tc', .long td', .long te', .int tk']))] t.heap ∧ va_K (dC, dI) vwC2 [(cI, .int), (cZ, .boolean), (cJ, .long)] t ∧ va_D (A) [(h1, .inr (1, [.long ta', .long tb', .long tc', .long td', .long te', .int tk']))]) (A)) ([.ref h1, .int pr, .int (nI tm)] : List Value).toArray s 0 0 A) (F0 m 5 ls []) := by
    intro n
    induction n with
    | zero =>
      intro i k ua ub uc ud ue uk H locs ls hi hk hq hP hD hS hl
      refine lv_iload hx hb dX1_perform_5 (lv_at hl 0 rfl) ?_
      refine lv_iload_n hx hb dX1_perform_7 rfl (lv_at hl 4 rfl) ?_
      refine lv_icmp_ge (tgt := 84) hx hb dX1_perform_8 (by decide) (fun c_8 => ?_) (fun c_8 => absurd (by omega) (mt (@nI_leI tm k (by omega) (by omega)  ).mpr c_8))
      refine lv_iconst (v := 4) hx hb dX1_perform_84 (by decide) ?_
      have hpost : ((4 : Int32), ua, ub, uc, ud, ue, uk) = pT_perf tm pr 0 ta tb tc td te tk := by rw [← hq]; rfl
      exact W.iret (v := 4) hx hb hr (fun t ht hW => ⟨⟨4, (ua, ub, uc, ud, ue, uk), rfl, hpost, by rw [ht]; exact hP, va_K.moved hW.alike hK, hD⟩, hS.F ht⟩) hS.2.2 dX1_perform_85
    | succ n ih =>
      intro i k ua ub uc ud ue uk H locs ls hi hk hq hP hD hS hl
      refine lv_iload hx hb dX1_perform_5 (lv_at hl 0 rfl) ?_
      refine lv_iload_n hx hb dX1_perform_7 rfl (lv_at hl 4 rfl) ?_
      refine lv_icmp_ge (tgt := 84) hx hb dX1_perform_8 (by decide) (fun c_8 => absurd ((@nI_leI tm k (by omega) (by omega)  ).mp c_8) (by omega)) (fun c_8 => ?_)
      refine lv_iload_n hx hb dX1_perform_11 rfl (lv_at hl 3 rfl) ?_
      refine lv_iload_n hx hb dX1_perform_12 rfl (lv_at hl 1 rfl) ?_
      refine lv_iconst (v := 4) hx hb dX1_perform_13 (by decide) ?_
      refine lv_imul hx hb dX1_perform_14 ?_
      refine lv_topi (fun z_14 ez_14 => ?_)
      obtain rfl : z_14 = nI (i * 4) := ez_14.trans (pk_mul i 4)
      refine lv_iushr (v := (pr.toUInt32 >>> ((nI (i * 4)).toUInt32 &&& Int32.toUInt32 31)).toInt32) hx hb dX1_perform_15 rfl ?_
      refine lv_bipush (v := 15) hx hb dX1_perform_16 (by decide) ?_
      refine lv_iand hx hb dX1_perform_18 ?_
      refine lv_topi (fun z_19 ez_19 => ?_)
      obtain rfl : z_19 = nI (acN pr i) := ez_19.trans (acN_L pr hi)
      have hac := acN_lt pr i
      refine lv_istore (lv' := [(5, .int (nI (acN pr i))), (4, .int (nI k)), (3, .int (nI i)), (0, .ref h1), (1, .int pr), (2, .int (nI tm))]) hx hb dX1_perform_19 hl (by decide) rfl (fun ls hl => ?_)
      refine lv_iinc (v := (nI (i + 1))) (lv' := [(3, .int (nI (i + 1))), (5, .int (nI (acN pr i))), (4, .int (nI k)), (0, .ref h1), (1, .int pr), (2, .int (nI tm))]) hx hb dX1_perform_21 hl (k := 2) rfl (nI_add i 1) (by decide) rfl (fun ls hl => ?_)
      refine lv_iload hx hb dX1_perform_24 (lv_at hl 1 rfl) ?_
      refine lv_bipush (v := 13) hx hb dX1_perform_26 (by decide) ?_
      refine lv_icmp_ne (tgt := 33) hx hb dX1_perform_28 (by decide) (fun c_28 => ?_) (fun c_28 => ?_)
      · have c_28 : ¬ ((acN pr i) = 13) := mt (@nI_eq (acN pr i) 13 (by omega) (by omega)  ).mpr c_28
        refine lv_iload hx hb dX1_perform_33 (lv_at hl 1 rfl) ?_
        refine lv_bipush (v := 6) hx hb dX1_perform_35 (by decide) ?_
        refine lv_icmp_ne (tgt := 54) hx hb dX1_perform_37 (by decide) (fun c_37 => ?_) (fun c_37 => ?_)
        · have c_37 : ¬ ((acN pr i) = 6) := mt (@nI_eq (acN pr i) 6 (by omega) (by omega)  ).mpr c_37
          refine lv_aload_n hx hb dX1_perform_54 rfl (lv_at hl 3 rfl) ?_
          refine lv_iload hx hb dX1_perform_55 (lv_at hl 1 rfl) ?_
          have hPc := hP.sub (ws' := [(h1, .inr (1, [.long ua, .long ub, .long uc, .long ud, .long ue, .int uk]))]) [0] rfl
          have hDc := hD.sub (ws' := [(h1, .inr (1, [.long ua, .long ub, .long uc, .long ud, .long ue, .int uk]))]) [0] (by decide) rfl
          have hFc := va_free (wc := [(h1, .inr (1, [.long ua, .long ub, .long uc, .long ud, .long ue, .int uk]))]) hD hS hA [0] rfl
          refine va_calli (va_runV (As := [.int (nI (acN pr i))]) (rest := []) ⟨hx, hb, hml, hown, hts⟩ (k_X1_change l dC dI cI cZ cJ H.size h1 ua ub uc ud ue uk (acN pr i) hac) (cwV 1 hts gX1_perform_X1_change rfl rfl rfl (by decide +kernel) ⟨Nat.le_of_ble_eq_true rfl, Nat.le_of_ble_eq_true rfl⟩) ⟨fun a U g mk q => by obtain ⟨q0, q1, qP, qK, qD⟩ := q; exact ⟨q0, q1, qP, va_K.moved (u := U) (U := U.calling g mk a) (Vm.Alike.refl U.vm) qK, qD⟩, va_recv hK hPc (ci := 1) (q0 := 0) rfl rfl, fun U hU hW => ⟨rfl, by rw [hU], by rw [hU]; exact hPc, va_K.moved hW.alike hK, hDc.weaken (fun _ _ _ _ => trivial)⟩⟩ rfl rfl hl.1 rfl (lv_room (Nat.le_of_ble_eq_true rfl)) dX1_perform_57 ⟨Nat.zero_le _, Nat.zero_le _⟩) hS (fun q _ h => hFc q h) hFc (fun r_57 u t H1 locs ht hvm hw_57 hB hz1 hk1 hS => ?_)
          obtain ⟨ta_57, tb_57, tc_57, td_57, te_57, tk_57⟩ := u
          obtain ⟨hP1, hK1, hD1⟩ := hB
          rw [ht] at hP1
          try dsimp only at hw_57
          obtain ⟨hP, hD⟩ := va_join (wr := []) (w1 := [(h1, .inr (1, [.long ta_57, .long tb_57, .long tc_57, .long td_57, .long te_57, .int tk_57]))]) hP hD [0] [] rfl rfl (by decide) (by decide) hk1 hFc hP1 hD1
          generalize H1 = H at hP hS ⊢
          have hP : va_P (dC, dI) vwC2 [(h1, .inr (1, [.long ta_57, .long tb_57, .long tc_57, .long td_57, .long te_57, .int tk_57]))] H := hP.sub [0] rfl
          have hD : va_D A [(h1, .inr (1, [.long ta_57, .long tb_57, .long tc_57, .long td_57, .long te_57, .int tk_57]))] := hD.sub [0] (by decide) rfl
          refine lv_istore (lv' := [(6, .int r_57), (3, .int (nI (i + 1))), (5, .int (nI (acN pr i))), (4, .int (nI k)), (0, .ref h1), (1, .int pr), (2, .int (nI tm))]) hx hb dX1_perform_60 hl (by decide) rfl (fun ls hl => ?_)
          refine lv_iload hx hb dX1_perform_62 (lv_at hl 0 rfl) ?_
          refine lv_if_eq (tgt := 70) hx hb dX1_perform_64 (by decide) (fun c_64 => ?_) (fun c_64 => ?_)
          · refine lv_iload_n hx hb dX1_perform_70 rfl (lv_at hl 1 rfl) ?_
            refine lv_bipush (v := 8) hx hb dX1_perform_71 (by decide) ?_
            refine lv_icmp_lt (tgt := 78) hx hb dX1_perform_73 (by decide) (fun c_73 => ?_) (fun c_73 => ?_)
            · have c_73 : (i + 1) < 8 := (@nI_ltI (i + 1) 8 (by omega) (by omega)  ).mp c_73
              refine lv_iinc (v := (nI (k + 1))) (lv' := [(4, .int (nI (k + 1))), (6, .int r_57), (3, .int (nI (i + 1))), (5, .int (nI (acN pr i))), (0, .ref h1), (1, .int pr), (2, .int (nI tm))]) hx hb dX1_perform_78 hl (k := 3) rfl (nI_add k 1) (by decide) rfl (fun ls hl => ?_)
              refine lv_goto (tgt := 5) hx hb dX1_perform_81 (by decide) ?_
              exact ih (i + 1) (k + 1) ta_57 tb_57 tc_57 td_57 te_57 tk_57 _ _ ls (by omega) (by omega) (by rw [← hq]; conv => { rhs; rw [pT_perf] }; simp [pT_nx, if_neg c_28, if_neg c_37, ← hw_57, if_pos c_64, if_pos c_73]) hP hD hS (lv_sub hl [0, 2, 4, 5, 6] rfl)
            · have c_73 : ¬ ((i + 1) < 8) := mt (@nI_ltI (i + 1) 8 (by omega) (by omega)  ).mpr c_73
              refine lv_iconst (v := 0) hx hb dX1_perform_76 (by decide) ?_
              have hpost : ((0 : Int32), ta_57, tb_57, tc_57, td_57, te_57, tk_57) = pT_perf tm pr 0 ta tb tc td te tk := by rw [← hq]; conv => { rhs; rw [pT_perf] }; simp [pT_nx, if_neg c_28, if_neg c_37, ← hw_57, if_pos c_64, if_neg c_73]
              exact W.iret (v := 0) hx hb hr (fun t ht hW => ⟨⟨0, (ta_57, tb_57, tc_57, td_57, te_57, tk_57), rfl, hpost, by rw [ht]; exact hP, va_K.moved hW.alike hK, hD⟩, hS.F ht⟩) hS.2.2 dX1_perform_77
          · refine lv_iload hx hb dX1_perform_67 (lv_at hl 0 rfl) ?_
            have hpost : ((r_57 : Int32), ta_57, tb_57, tc_57, td_57, te_57, tk_57) = pT_perf tm pr 0 ta tb tc td te tk := by rw [← hq]; conv => { rhs; rw [pT_perf] }; simp [pT_nx, if_neg c_28, if_neg c_37, ← hw_57, if_neg c_64]
            exact W.iret (v := r_57) hx hb hr (fun t ht hW => ⟨⟨r_57, (ta_57, tb_57, tc_57, td_57, te_57, tk_57), rfl, hpost, by rw [ht]; exact hP, va_K.moved hW.alike hK, hD⟩, hS.F ht⟩) hS.2.2 dX1_perform_69
        · have c_37 : (acN pr i) = 6 := (@nI_eq (acN pr i) 6 (by omega) (by omega)  ).mp c_37
          refine lv_aload_n hx hb dX1_perform_40 rfl (lv_at hl 3 rfl) ?_
          refine va_get (D := (dC, dI)) (ci := 1) (v := .long ua) (C := RX1) (T := TX1) (N := 6) hx hb hts (by decide +kernel) hown hK hP 0 rfl rfl 0 (by decide) (hts (.fieldLink RX1 9 "BatchClasses$Trial" "a" "J") (by decide +kernel)) (fun _ h9 => h9) rfl dX1_perform_41 ?_
          refine lv_aload_n hx hb dX1_perform_44 rfl (lv_at hl 3 rfl) ?_
          refine va_get (D := (dC, dI)) (ci := 1) (v := .long uc) (C := RX1) (T := TX1) (N := 6) hx hb hts (by decide +kernel) hown hK hP 0 rfl rfl 2 (by decide) (hts (.fieldLink RX1 18 "BatchClasses$Trial" "c" "J") (by decide +kernel)) (fun _ h9 => h9) rfl dX1_perform_45 ?_
          refine W.lcmp hx hb dX1_perform_48 ?_
          refine lv_if_ge (tgt := 54) hx hb dX1_perform_49 (by decide) (fun c_49 => ?_) (fun c_49 => ?_)
          · have c_49 : uc ≤ ua := (lg_cmp_ge ua uc).mp c_49
            refine lv_aload_n hx hb dX1_perform_54 rfl (lv_at hl 3 rfl) ?_
            refine lv_iload hx hb dX1_perform_55 (lv_at hl 1 rfl) ?_
            have hPc := hP.sub (ws' := [(h1, .inr (1, [.long ua, .long ub, .long uc, .long ud, .long ue, .int uk]))]) [0] rfl
            have hDc := hD.sub (ws' := [(h1, .inr (1, [.long ua, .long ub, .long uc, .long ud, .long ue, .int uk]))]) [0] (by decide) rfl
            have hFc := va_free (wc := [(h1, .inr (1, [.long ua, .long ub, .long uc, .long ud, .long ue, .int uk]))]) hD hS hA [0] rfl
            refine va_calli (va_runV (As := [.int (nI (acN pr i))]) (rest := []) ⟨hx, hb, hml, hown, hts⟩ (k_X1_change l dC dI cI cZ cJ H.size h1 ua ub uc ud ue uk (acN pr i) hac) (cwV 1 hts gX1_perform_X1_change rfl rfl rfl (by decide +kernel) ⟨Nat.le_of_ble_eq_true rfl, Nat.le_of_ble_eq_true rfl⟩) ⟨fun a U g mk q => by obtain ⟨q0, q1, qP, qK, qD⟩ := q; exact ⟨q0, q1, qP, va_K.moved (u := U) (U := U.calling g mk a) (Vm.Alike.refl U.vm) qK, qD⟩, va_recv hK hPc (ci := 1) (q0 := 0) rfl rfl, fun U hU hW => ⟨rfl, by rw [hU], by rw [hU]; exact hPc, va_K.moved hW.alike hK, hDc.weaken (fun _ _ _ _ => trivial)⟩⟩ rfl rfl hl.1 rfl (lv_room (Nat.le_of_ble_eq_true rfl)) dX1_perform_57 ⟨Nat.zero_le _, Nat.zero_le _⟩) hS (fun q _ h => hFc q h) hFc (fun r_57 u t H1 locs ht hvm hw_57 hB hz1 hk1 hS => ?_)
            obtain ⟨ta_57, tb_57, tc_57, td_57, te_57, tk_57⟩ := u
            obtain ⟨hP1, hK1, hD1⟩ := hB
            rw [ht] at hP1
            try dsimp only at hw_57
            obtain ⟨hP, hD⟩ := va_join (wr := []) (w1 := [(h1, .inr (1, [.long ta_57, .long tb_57, .long tc_57, .long td_57, .long te_57, .int tk_57]))]) hP hD [0] [] rfl rfl (by decide) (by decide) hk1 hFc hP1 hD1
            generalize H1 = H at hP hS ⊢
            have hP : va_P (dC, dI) vwC2 [(h1, .inr (1, [.long ta_57, .long tb_57, .long tc_57, .long td_57, .long te_57, .int tk_57]))] H := hP.sub [0] rfl
            have hD : va_D A [(h1, .inr (1, [.long ta_57, .long tb_57, .long tc_57, .long td_57, .long te_57, .int tk_57]))] := hD.sub [0] (by decide) rfl
            refine lv_istore (lv' := [(6, .int r_57), (3, .int (nI (i + 1))), (5, .int (nI (acN pr i))), (4, .int (nI k)), (0, .ref h1), (1, .int pr), (2, .int (nI tm))]) hx hb dX1_perform_60 hl (by decide) rfl (fun ls hl => ?_)
            refine lv_iload hx hb dX1_perform_62 (lv_at hl 0 rfl) ?_
            refine lv_if_eq (tgt := 70) hx hb dX1_perform_64 (by decide) (fun c_64 => ?_) (fun c_64 => ?_)
            · refine lv_iload_n hx hb dX1_perform_70 rfl (lv_at hl 1 rfl) ?_
              refine lv_bipush (v := 8) hx hb dX1_perform_71 (by decide) ?_
              refine lv_icmp_lt (tgt := 78) hx hb dX1_perform_73 (by decide) (fun c_73 => ?_) (fun c_73 => ?_)
              · have c_73 : (i + 1) < 8 := (@nI_ltI (i + 1) 8 (by omega) (by omega)  ).mp c_73
                refine lv_iinc (v := (nI (k + 1))) (lv' := [(4, .int (nI (k + 1))), (6, .int r_57), (3, .int (nI (i + 1))), (5, .int (nI (acN pr i))), (0, .ref h1), (1, .int pr), (2, .int (nI tm))]) hx hb dX1_perform_78 hl (k := 3) rfl (nI_add k 1) (by decide) rfl (fun ls hl => ?_)
                refine lv_goto (tgt := 5) hx hb dX1_perform_81 (by decide) ?_
                exact ih (i + 1) (k + 1) ta_57 tb_57 tc_57 td_57 te_57 tk_57 _ _ ls (by omega) (by omega) (by rw [← hq]; conv => { rhs; rw [pT_perf] }; simp [pT_nx, if_neg c_28, if_pos c_37, if_pos c_49, ← hw_57, if_pos c_64, if_pos c_73]) hP hD hS (lv_sub hl [0, 2, 4, 5, 6] rfl)
              · have c_73 : ¬ ((i + 1) < 8) := mt (@nI_ltI (i + 1) 8 (by omega) (by omega)  ).mpr c_73
                refine lv_iconst (v := 0) hx hb dX1_perform_76 (by decide) ?_
                have hpost : ((0 : Int32), ta_57, tb_57, tc_57, td_57, te_57, tk_57) = pT_perf tm pr 0 ta tb tc td te tk := by rw [← hq]; conv => { rhs; rw [pT_perf] }; simp [pT_nx, if_neg c_28, if_pos c_37, if_pos c_49, ← hw_57, if_pos c_64, if_neg c_73]
                exact W.iret (v := 0) hx hb hr (fun t ht hW => ⟨⟨0, (ta_57, tb_57, tc_57, td_57, te_57, tk_57), rfl, hpost, by rw [ht]; exact hP, va_K.moved hW.alike hK, hD⟩, hS.F ht⟩) hS.2.2 dX1_perform_77
            · refine lv_iload hx hb dX1_perform_67 (lv_at hl 0 rfl) ?_
              have hpost : ((r_57 : Int32), ta_57, tb_57, tc_57, td_57, te_57, tk_57) = pT_perf tm pr 0 ta tb tc td te tk := by rw [← hq]; conv => { rhs; rw [pT_perf] }; simp [pT_nx, if_neg c_28, if_pos c_37, if_pos c_49, ← hw_57, if_neg c_64]
              exact W.iret (v := r_57) hx hb hr (fun t ht hW => ⟨⟨r_57, (ta_57, tb_57, tc_57, td_57, te_57, tk_57), rfl, hpost, by rw [ht]; exact hP, va_K.moved hW.alike hK, hD⟩, hS.F ht⟩) hS.2.2 dX1_perform_69
          · have c_49 : ¬ (uc ≤ ua) := mt (lg_cmp_ge ua uc).mpr c_49
            refine lv_iconst (v := 0) hx hb dX1_perform_52 (by decide) ?_
            refine lv_istore_n (lv' := [(3, .int 0), (5, .int (nI (acN pr i))), (4, .int (nI k)), (0, .ref h1), (1, .int pr), (2, .int (nI tm))]) hx hb dX1_perform_53 rfl hl (by decide) rfl (fun ls hl => ?_)
            refine lv_aload_n hx hb dX1_perform_54 rfl (lv_at hl 3 rfl) ?_
            refine lv_iload hx hb dX1_perform_55 (lv_at hl 1 rfl) ?_
            have hPc := hP.sub (ws' := [(h1, .inr (1, [.long ua, .long ub, .long uc, .long ud, .long ue, .int uk]))]) [0] rfl
            have hDc := hD.sub (ws' := [(h1, .inr (1, [.long ua, .long ub, .long uc, .long ud, .long ue, .int uk]))]) [0] (by decide) rfl
            have hFc := va_free (wc := [(h1, .inr (1, [.long ua, .long ub, .long uc, .long ud, .long ue, .int uk]))]) hD hS hA [0] rfl
            refine va_calli (va_runV (As := [.int (nI (acN pr i))]) (rest := []) ⟨hx, hb, hml, hown, hts⟩ (k_X1_change l dC dI cI cZ cJ H.size h1 ua ub uc ud ue uk (acN pr i) hac) (cwV 1 hts gX1_perform_X1_change rfl rfl rfl (by decide +kernel) ⟨Nat.le_of_ble_eq_true rfl, Nat.le_of_ble_eq_true rfl⟩) ⟨fun a U g mk q => by obtain ⟨q0, q1, qP, qK, qD⟩ := q; exact ⟨q0, q1, qP, va_K.moved (u := U) (U := U.calling g mk a) (Vm.Alike.refl U.vm) qK, qD⟩, va_recv hK hPc (ci := 1) (q0 := 0) rfl rfl, fun U hU hW => ⟨rfl, by rw [hU], by rw [hU]; exact hPc, va_K.moved hW.alike hK, hDc.weaken (fun _ _ _ _ => trivial)⟩⟩ rfl rfl hl.1 rfl (lv_room (Nat.le_of_ble_eq_true rfl)) dX1_perform_57 ⟨Nat.zero_le _, Nat.zero_le _⟩) hS (fun q _ h => hFc q h) hFc (fun r_57 u t H1 locs ht hvm hw_57 hB hz1 hk1 hS => ?_)
            obtain ⟨ta_57, tb_57, tc_57, td_57, te_57, tk_57⟩ := u
            obtain ⟨hP1, hK1, hD1⟩ := hB
            rw [ht] at hP1
            try dsimp only at hw_57
            obtain ⟨hP, hD⟩ := va_join (wr := []) (w1 := [(h1, .inr (1, [.long ta_57, .long tb_57, .long tc_57, .long td_57, .long te_57, .int tk_57]))]) hP hD [0] [] rfl rfl (by decide) (by decide) hk1 hFc hP1 hD1
            generalize H1 = H at hP hS ⊢
            have hP : va_P (dC, dI) vwC2 [(h1, .inr (1, [.long ta_57, .long tb_57, .long tc_57, .long td_57, .long te_57, .int tk_57]))] H := hP.sub [0] rfl
            have hD : va_D A [(h1, .inr (1, [.long ta_57, .long tb_57, .long tc_57, .long td_57, .long te_57, .int tk_57]))] := hD.sub [0] (by decide) rfl
            refine lv_istore (lv' := [(6, .int r_57), (3, .int 0), (5, .int (nI (acN pr i))), (4, .int (nI k)), (0, .ref h1), (1, .int pr), (2, .int (nI tm))]) hx hb dX1_perform_60 hl (by decide) rfl (fun ls hl => ?_)
            refine lv_iload hx hb dX1_perform_62 (lv_at hl 0 rfl) ?_
            refine lv_if_eq (tgt := 70) hx hb dX1_perform_64 (by decide) (fun c_64 => ?_) (fun c_64 => ?_)
            · refine lv_iload_n hx hb dX1_perform_70 rfl (lv_at hl 1 rfl) ?_
              refine lv_bipush (v := 8) hx hb dX1_perform_71 (by decide) ?_
              refine lv_icmp_lt (tgt := 78) hx hb dX1_perform_73 (by decide) (fun c_73 => ?_) (fun c_73 => absurd (by decide) c_73)
              refine lv_iinc (v := (nI (k + 1))) (lv' := [(4, .int (nI (k + 1))), (6, .int r_57), (3, .int 0), (5, .int (nI (acN pr i))), (0, .ref h1), (1, .int pr), (2, .int (nI tm))]) hx hb dX1_perform_78 hl (k := 3) rfl (nI_add k 1) (by decide) rfl (fun ls hl => ?_)
              refine lv_goto (tgt := 5) hx hb dX1_perform_81 (by decide) ?_
              exact ih 0 (k + 1) ta_57 tb_57 tc_57 td_57 te_57 tk_57 _ _ ls (by omega) (by omega) (by rw [← hq]; conv => { rhs; rw [pT_perf] }; simp [pT_nx, if_neg c_28, if_pos c_37, if_neg c_49, ← hw_57, if_pos c_64]) hP hD hS (lv_sub hl [0, 2, 4, 5, 6] rfl)
            · refine lv_iload hx hb dX1_perform_67 (lv_at hl 0 rfl) ?_
              have hpost : ((r_57 : Int32), ta_57, tb_57, tc_57, td_57, te_57, tk_57) = pT_perf tm pr 0 ta tb tc td te tk := by rw [← hq]; conv => { rhs; rw [pT_perf] }; simp [pT_nx, if_neg c_28, if_pos c_37, if_neg c_49, ← hw_57, if_neg c_64]
              exact W.iret (v := r_57) hx hb hr (fun t ht hW => ⟨⟨r_57, (ta_57, tb_57, tc_57, td_57, te_57, tk_57), rfl, hpost, by rw [ht]; exact hP, va_K.moved hW.alike hK, hD⟩, hS.F ht⟩) hS.2.2 dX1_perform_69
      · have c_28 : (acN pr i) = 13 := (@nI_eq (acN pr i) 13 (by omega) (by omega)  ).mp c_28
        refine lv_iconst (v := 0) hx hb dX1_perform_31 (by decide) ?_
        have hpost : ((0 : Int32), ua, ub, uc, ud, ue, uk) = pT_perf tm pr 0 ta tb tc td te tk := by rw [← hq]; conv => { rhs; rw [pT_perf] }; simp [pT_nx, if_pos c_28]
        exact W.iret (v := 0) hx hb hr (fun t ht hW => ⟨⟨0, (ua, ub, uc, ud, ue, uk), rfl, hpost, by rw [ht]; exact hP, va_K.moved hW.alike hK, hD⟩, hS.F ht⟩) hS.2.2 dX1_perform_32
  exact loop tm 0 0 ta tb tc td te tk _ _ ls (by omega) (by omega) rfl hP hD hS (lv_sub hl [0, 1, 2, 3, 4] rfl)
set_option maxHeartbeats 4000000 in
set_option maxRecDepth 100000 in
theorem k_X1_init (l : Launch) (dC : Nat → ClassId) (dI : Nat → Nat → Nat) (cI cZ cJ : ClassId) (sz : Nat) (h1 : Nat) : Met l yX1_init wsX1_init ({ frames := 1, cells := 0, slots := 0, locals := 12 }) (va_Pc [.ref h1] (fun U => U.heap.size = sz ∧ va_P (dC, dI) vwC2 [(h1, .inr (1, [.long 0, .long 0, .long 0, .long 0, .long 0, .int 0]))] U.heap ∧ va_K (dC, dI) vwC2 [(cI, .int), (cZ, .boolean), (cJ, .long)] U ∧ va_D (fun _ => True) [(h1, .inr (1, [.long 0, .long 0, .long 0, .long 0, .long 0, .int 0]))])) (va_Qv (fun (u : Unit) => True) (fun (_ : Unit) (t : State) => va_P (dC, dI) vwC2 [(h1, .inr (1, [.long 0, .long 0, .long 0, .long 0, .long 0, .int 0]))] t.heap ∧ va_K (dC, dI) vwC2 [(cI, .int), (cZ, .boolean), (cJ, .long)] t ∧ va_D (va_A [(h1, .inr (1, [.long 0, .long 0, .long 0, .long 0, .long 0, .int 0]))] sz) [(h1, .inr (1, [.long 0, .long 0, .long 0, .long 0, .long 0, .int 0]))]) (va_A [(h1, .inr (1, [.long 0, .long 0, .long 0, .long 0, .long 0, .int 0]))] sz)) 0 0 (va_A [(h1, .inr (1, [.long 0, .long 0, .long 0, .long 0, .long 0, .int 0]))] sz) := by
  refine Met.ofW (cc := cX1_init) (maxL := 1) (ret := none) (by decide) rfl ?_
  intro p e s m args below meth c s₁ B hml hv
  obtain ⟨rfl, hsz, hP, hK, hD0⟩ := hv
  have hx := B.exec
  have hb := B.bytes
  have hr := B.returns
  have hts := atoms_spec (ws := wsX1_init) B.pre
  have hown : s.vm.findClass RX1 = some m.cls := findClass_of_methodNamed B.named
  have hlocks := B.notSynchronized
  have hin : meth.name = "<init>" := (name_of_methodNamed B.named B.method).1
  subst hsz
  have hD := hD0.self (sz := s.heap.size)
  generalize hAe : va_A [(h1, .inr (1, [.long 0, .long 0, .long 0, .long 0, .long 0, .int 0]))] s.heap.size = A at hD ⊢
  have hA : ∀ q : Nat, s.heap.size ≤ q → A q := fun q h => by rw [← hAe]; exact Or.inr h
  have hS : va_S A s.heap s.heap [] := va_S.rf
  have hP : va_P (dC, dI) vwC2 [(h1, .inr (1, [.long 0, .long 0, .long 0, .long 0, .long 0, .int 0]))] s.heap := hP
  have hl := lv_entry ([.ref h1]) (n := 1) (Nat.le_of_ble_eq_true rfl)
  rw [lg_entry_eq]
  generalize (lg_sl ([.ref h1]) ++ List.replicate (1 - (lg_sl ([.ref h1])).length) Slot.unset).toArray = ls at hl ⊢
  have hl : lv_has ls 1 [(0, .ref h1)] := hl
  refine lv_aload_n hx hb dX1_init_0 rfl (lv_at hl 0 rfl) ?_
  refine W.objInit hx hb hown (hts (.methodLink RX1 3 objectInit) (by decide +kernel)) (hts (.instanceMethod objectInit) (by decide +kernel)) (hts _ (List.mem_of_getElem? (i := 3) rfl)) rfl (by rw [hml]; exact hl.1) rfl dX1_init_1 (Nat.le_of_ble_eq_true rfl) (Nat.le_of_ble_eq_true rfl) ?_
  refine W.eq (g2 := F0 m 4 ls []) rfl ?_
  refine lv_aload_n hx hb dX1_init_4 rfl (lv_at hl 0 rfl) ?_
  refine lv_lconst (v := 0) hx hb dX1_init_5 (by decide) ?_
  refine va_put (D := (dC, dI)) (ci := 1) (v := .long 0) (ty := .long) (C := RX1) (T := TX1) (N := 6) hx hb hts (by decide +kernel) tyX1 tyX1_ok nmX1 hown hK hP hD hS 0 rfl rfl 0 (by decide) (hts (.fieldLink RX1 9 "BatchClasses$Trial" "a" "J") (by decide +kernel)) (fun _ h9 => h9) rfl (by decide +kernel) rfl rfl (Nat.le_of_ble_eq_true rfl) dX1_init_6 (fun H locs hP hD hS => ?_)
  have hP : va_P (dC, dI) vwC2 [(h1, .inr (1, [.long 0, .long 0, .long 0, .long 0, .long 0, .int 0]))] H := hP
  have hD : va_D A [(h1, .inr (1, [.long 0, .long 0, .long 0, .long 0, .long 0, .int 0]))] := hD
  refine lv_aload_n hx hb dX1_init_9 rfl (lv_at hl 0 rfl) ?_
  refine lv_lconst (v := 0) hx hb dX1_init_10 (by decide) ?_
  refine va_put (D := (dC, dI)) (ci := 1) (v := .long 0) (ty := .long) (C := RX1) (T := TX1) (N := 6) hx hb hts (by decide +kernel) tyX1 tyX1_ok nmX1 hown hK hP hD hS 0 rfl rfl 1 (by decide) (hts (.fieldLink RX1 15 "BatchClasses$Trial" "b" "J") (by decide +kernel)) (fun _ h9 => h9) rfl (by decide +kernel) rfl rfl (Nat.le_of_ble_eq_true rfl) dX1_init_11 (fun H locs hP hD hS => ?_)
  have hP : va_P (dC, dI) vwC2 [(h1, .inr (1, [.long 0, .long 0, .long 0, .long 0, .long 0, .int 0]))] H := hP
  have hD : va_D A [(h1, .inr (1, [.long 0, .long 0, .long 0, .long 0, .long 0, .int 0]))] := hD
  refine lv_aload_n hx hb dX1_init_14 rfl (lv_at hl 0 rfl) ?_
  refine lv_lconst (v := 0) hx hb dX1_init_15 (by decide) ?_
  refine va_put (D := (dC, dI)) (ci := 1) (v := .long 0) (ty := .long) (C := RX1) (T := TX1) (N := 6) hx hb hts (by decide +kernel) tyX1 tyX1_ok nmX1 hown hK hP hD hS 0 rfl rfl 2 (by decide) (hts (.fieldLink RX1 18 "BatchClasses$Trial" "c" "J") (by decide +kernel)) (fun _ h9 => h9) rfl (by decide +kernel) rfl rfl (Nat.le_of_ble_eq_true rfl) dX1_init_16 (fun H locs hP hD hS => ?_)
  have hP : va_P (dC, dI) vwC2 [(h1, .inr (1, [.long 0, .long 0, .long 0, .long 0, .long 0, .int 0]))] H := hP
  have hD : va_D A [(h1, .inr (1, [.long 0, .long 0, .long 0, .long 0, .long 0, .int 0]))] := hD
  refine lv_aload_n hx hb dX1_init_19 rfl (lv_at hl 0 rfl) ?_
  refine lv_lconst (v := 0) hx hb dX1_init_20 (by decide) ?_
  refine va_put (D := (dC, dI)) (ci := 1) (v := .long 0) (ty := .long) (C := RX1) (T := TX1) (N := 6) hx hb hts (by decide +kernel) tyX1 tyX1_ok nmX1 hown hK hP hD hS 0 rfl rfl 3 (by decide) (hts (.fieldLink RX1 21 "BatchClasses$Trial" "d" "J") (by decide +kernel)) (fun _ h9 => h9) rfl (by decide +kernel) rfl rfl (Nat.le_of_ble_eq_true rfl) dX1_init_21 (fun H locs hP hD hS => ?_)
  have hP : va_P (dC, dI) vwC2 [(h1, .inr (1, [.long 0, .long 0, .long 0, .long 0, .long 0, .int 0]))] H := hP
  have hD : va_D A [(h1, .inr (1, [.long 0, .long 0, .long 0, .long 0, .long 0, .int 0]))] := hD
  refine lv_aload_n hx hb dX1_init_24 rfl (lv_at hl 0 rfl) ?_
  refine lv_lconst (v := 0) hx hb dX1_init_25 (by decide) ?_
  refine va_put (D := (dC, dI)) (ci := 1) (v := .long 0) (ty := .long) (C := RX1) (T := TX1) (N := 6) hx hb hts (by decide +kernel) tyX1 tyX1_ok nmX1 hown hK hP hD hS 0 rfl rfl 4 (by decide) (hts (.fieldLink RX1 24 "BatchClasses$Trial" "cell" "J") (by decide +kernel)) (fun _ h9 => h9) rfl (by decide +kernel) rfl rfl (Nat.le_of_ble_eq_true rfl) dX1_init_26 (fun H locs hP hD hS => ?_)
  have hP : va_P (dC, dI) vwC2 [(h1, .inr (1, [.long 0, .long 0, .long 0, .long 0, .long 0, .int 0]))] H := hP
  have hD : va_D A [(h1, .inr (1, [.long 0, .long 0, .long 0, .long 0, .long 0, .int 0]))] := hD
  refine lv_aload_n hx hb dX1_init_29 rfl (lv_at hl 0 rfl) ?_
  refine lv_iconst (v := 0) hx hb dX1_init_30 (by decide) ?_
  refine va_put (D := (dC, dI)) (ci := 1) (v := .int 0) (ty := .boolean) (C := RX1) (T := TX1) (N := 6) hx hb hts (by decide +kernel) tyX1 tyX1_ok nmX1 hown hK hP hD hS 0 rfl rfl 5 (by decide) (hts (.fieldLink RX1 27 "BatchClasses$Trial" "locks" "Z") (by decide +kernel)) (fun _ h9 => h9) rfl (by decide +kernel) rfl rfl (Nat.le_of_ble_eq_true rfl) dX1_init_31 (fun H locs hP hD hS => ?_)
  have hP : va_P (dC, dI) vwC2 [(h1, .inr (1, [.long 0, .long 0, .long 0, .long 0, .long 0, .int 0]))] H := hP
  have hD : va_D A [(h1, .inr (1, [.long 0, .long 0, .long 0, .long 0, .long 0, .int 0]))] := hD
  exact W.vret hx hb hr (fun t ht hW => ⟨⟨(), rfl, trivial, by rw [ht]; exact hP, va_K.moved hW.alike hK, hD⟩, hS.F ht⟩) hS.2.2 dX1_init_34
