def pM_isC (mcl : (Nat)) (x : Int32) : Int32 :=
  if x ≤ 0 then
    0
  else
    if (nI mcl) < x then
      0
    else
      1
set_option maxHeartbeats 4000000 in
set_option maxRecDepth 100000 in
theorem k_XM_isClass (l : Launch) (dC : Nat → ClassId) (dI : Nat → Nat → Nat) (cI cZ cJ : ClassId) (sz : Nat) (g0 e1 e2 e3 e4 e5 e6 e7 e8 e9 : Nat) (mth : Int32) (mN mty mcl mrc mfc mlr : (Nat)) (mld : Int32) (mcv : Int64) (mlo x : Int32) : Met l yXM_isClass wsXM_isClass ({ frames := 0, cells := 0, slots := 0, locals := 0 }) (va_Pc [.ref g0, .int x] (fun U => U.heap.size = sz ∧ va_P (dC, dI) vwC2 [(g0, .inr (3, [.int mth, .int (nI mN), .int (nI mty), .ref e1, .ref e2, .int (nI mcl), .ref e3, .ref e4, .int (nI mrc), .ref e5, .ref e6, .ref e7, .ref e8, .int (nI mfc), .int (nI mlr), .int mld, .ref e9, .long mcv, .int mlo]))] U.heap ∧ va_K (dC, dI) vwC2 [(cI, .int), (cZ, .boolean), (cJ, .long)] U ∧ va_D (fun _ => True) [(g0, .inr (3, [.int mth, .int (nI mN), .int (nI mty), .ref e1, .ref e2, .int (nI mcl), .ref e3, .ref e4, .int (nI mrc), .ref e5, .ref e6, .ref e7, .ref e8, .int (nI mfc), .int (nI mlr), .int mld, .ref e9, .long mcv, .int mlo]))])) (va_Qi (fun (r : Int32) (_ : Unit) => r = pM_isC mcl x) (fun (_ : Unit) (t : State) => va_P (dC, dI) vwC2 [(g0, .inr (3, [.int mth, .int (nI mN), .int (nI mty), .ref e1, .ref e2, .int (nI mcl), .ref e3, .ref e4, .int (nI mrc), .ref e5, .ref e6, .ref e7, .ref e8, .int (nI mfc), .int (nI mlr), .int mld, .ref e9, .long mcv, .int mlo]))] t.heap ∧ va_K (dC, dI) vwC2 [(cI, .int), (cZ, .boolean), (cJ, .long)] t ∧ va_D (va_A [(g0, .inr (3, [.int mth, .int (nI mN), .int (nI mty), .ref e1, .ref e2, .int (nI mcl), .ref e3, .ref e4, .int (nI mrc), .ref e5, .ref e6, .ref e7, .ref e8, .int (nI mfc), .int (nI mlr), .int mld, .ref e9, .long mcv, .int mlo]))] sz) [(g0, .inr (3, [.int mth, .int (nI mN), .int (nI mty), .ref e1, .ref e2, .int (nI mcl), .ref e3, .ref e4, .int (nI mrc), .ref e5, .ref e6, .ref e7, .ref e8, .int (nI mfc), .int (nI mlr), .int mld, .ref e9, .long mcv, .int mlo]))]) (va_A [(g0, .inr (3, [.int mth, .int (nI mN), .int (nI mty), .ref e1, .ref e2, .int (nI mcl), .ref e3, .ref e4, .int (nI mrc), .ref e5, .ref e6, .ref e7, .ref e8, .int (nI mfc), .int (nI mlr), .int mld, .ref e9, .long mcv, .int mlo]))] sz)) 0 0 (va_A [(g0, .inr (3, [.int mth, .int (nI mN), .int (nI mty), .ref e1, .ref e2, .int (nI mcl), .ref e3, .ref e4, .int (nI mrc), .ref e5, .ref e6, .ref e7, .ref e8, .int (nI mfc), .int (nI mlr), .int mld, .ref e9, .long mcv, .int mlo]))] sz) := by
  refine Met.ofW (cc := cXM_isClass) (maxL := 2) (ret := (some .boolean)) (by decide) rfl ?_
  intro p e s m args below meth c s₁ B hml hv
  obtain ⟨rfl, hsz, hP, hK, hD0⟩ := hv
  have hx := B.exec
  have hb := B.bytes
  have hr := B.returns
  have hts := atoms_spec (ws := wsXM_isClass) B.pre
  have hown : s.vm.findClass RXM = some m.cls := findClass_of_methodNamed B.named
  have hlocks := B.notSynchronized
  subst hsz
  have hD := hD0.self (sz := s.heap.size)
  generalize hAe : va_A [(g0, .inr (3, [.int mth, .int (nI mN), .int (nI mty), .ref e1, .ref e2, .int (nI mcl), .ref e3, .ref e4, .int (nI mrc), .ref e5, .ref e6, .ref e7, .ref e8, .int (nI mfc), .int (nI mlr), .int mld, .ref e9, .long mcv, .int mlo]))] s.heap.size = A at hD ⊢
  have hA : ∀ q : Nat, s.heap.size ≤ q → A q := fun q h => by rw [← hAe]; exact Or.inr h
  have hS : va_S A s.heap s.heap [] := va_S.rf
  have hP : va_P (dC, dI) vwC2 [(g0, .inr (3, [.int mth, .int (nI mN), .int (nI mty), .ref e1, .ref e2, .int (nI mcl), .ref e3, .ref e4, .int (nI mrc), .ref e5, .ref e6, .ref e7, .ref e8, .int (nI mfc), .int (nI mlr), .int mld, .ref e9, .long mcv, .int mlo]))] s.heap := hP
  have hl := lv_entry ([.ref g0, .int x]) (n := 2) (Nat.le_of_ble_eq_true rfl)
  rw [lg_entry_eq]
  generalize (lg_sl ([.ref g0, .int x]) ++ List.replicate (2 - (lg_sl ([.ref g0, .int x])).length) Slot.unset).toArray = ls at hl ⊢
  have hl : lv_has ls 2 [(0, .ref g0), (1, .int x)] := hl
  refine lv_iload_n hx hb dXM_isClass_0 rfl (lv_at hl 1 rfl) ?_
  refine lv_if_le (tgt := 16) hx hb dXM_isClass_1 (by decide) (fun c_1 => ?_) (fun c_1 => ?_)
  · refine lv_iconst (v := 0) hx hb dXM_isClass_16 (by decide) ?_
    exact W.zret (v := 0) (ty := .boolean) hx hb hr rfl (fun t ht hW => ⟨⟨0, (), rfl, by first | (simp only [pM_isC, if_pos c_1]; done) | (simp only [pM_isC, if_pos c_1]; rfl) | rfl, by rw [ht]; exact hP, va_K.moved hW.alike hK, hD⟩, hS.F ht⟩) hS.2.2 dXM_isClass_17
  · refine lv_iload_n hx hb dXM_isClass_4 rfl (lv_at hl 1 rfl) ?_
    refine lv_aload_n hx hb dXM_isClass_5 rfl (lv_at hl 0 rfl) ?_
    refine va_get (D := (dC, dI)) (ci := 3) (v := .int (nI mcl)) (C := RXM) (T := TXM) (N := 19) hx hb hts (by decide +kernel) hown hK hP 0 rfl rfl 5 (by decide) (hts (.fieldLink RXM 46 "BatchClassesModel" "classes" "I") (by decide +kernel)) (fun _ h9 => h9) rfl dXM_isClass_6 ?_
    refine lv_icmp_gt (tgt := 16) hx hb dXM_isClass_9 (by decide) (fun c_9 => ?_) (fun c_9 => ?_)
    · refine lv_iconst (v := 0) hx hb dXM_isClass_16 (by decide) ?_
      exact W.zret (v := 0) (ty := .boolean) hx hb hr rfl (fun t ht hW => ⟨⟨0, (), rfl, by first | (simp only [pM_isC, if_neg c_1, if_pos c_9]; done) | (simp only [pM_isC, if_neg c_1, if_pos c_9]; rfl) | rfl, by rw [ht]; exact hP, va_K.moved hW.alike hK, hD⟩, hS.F ht⟩) hS.2.2 dXM_isClass_17
    · refine lv_iconst (v := 1) hx hb dXM_isClass_12 (by decide) ?_
      refine lv_goto (tgt := 17) hx hb dXM_isClass_13 (by decide) ?_
      exact W.zret (v := 1) (ty := .boolean) hx hb hr rfl (fun t ht hW => ⟨⟨1, (), rfl, by first | (simp only [pM_isC, if_neg c_1, if_neg c_9]; done) | (simp only [pM_isC, if_neg c_1, if_neg c_9]; rfl) | rfl, by rw [ht]; exact hP, va_K.moved hW.alike hK, hD⟩, hS.F ht⟩) hS.2.2 dXM_isClass_17
def pM_isR (mrc : (Nat)) (x : Int32) : Int32 :=
  if x ≤ 0 then
    0
  else
    if (nI mrc) < x then
      0
    else
      1
set_option maxHeartbeats 4000000 in
set_option maxRecDepth 100000 in
theorem k_XM_isRecord (l : Launch) (dC : Nat → ClassId) (dI : Nat → Nat → Nat) (cI cZ cJ : ClassId) (sz : Nat) (g0 e1 e2 e3 e4 e5 e6 e7 e8 e9 : Nat) (mth : Int32) (mN mty mcl mrc mfc mlr : (Nat)) (mld : Int32) (mcv : Int64) (mlo x : Int32) : Met l yXM_isRecord wsXM_isRecord ({ frames := 0, cells := 0, slots := 0, locals := 0 }) (va_Pc [.ref g0, .int x] (fun U => U.heap.size = sz ∧ va_P (dC, dI) vwC2 [(g0, .inr (3, [.int mth, .int (nI mN), .int (nI mty), .ref e1, .ref e2, .int (nI mcl), .ref e3, .ref e4, .int (nI mrc), .ref e5, .ref e6, .ref e7, .ref e8, .int (nI mfc), .int (nI mlr), .int mld, .ref e9, .long mcv, .int mlo]))] U.heap ∧ va_K (dC, dI) vwC2 [(cI, .int), (cZ, .boolean), (cJ, .long)] U ∧ va_D (fun _ => True) [(g0, .inr (3, [.int mth, .int (nI mN), .int (nI mty), .ref e1, .ref e2, .int (nI mcl), .ref e3, .ref e4, .int (nI mrc), .ref e5, .ref e6, .ref e7, .ref e8, .int (nI mfc), .int (nI mlr), .int mld, .ref e9, .long mcv, .int mlo]))])) (va_Qi (fun (r : Int32) (_ : Unit) => r = pM_isR mrc x) (fun (_ : Unit) (t : State) => va_P (dC, dI) vwC2 [(g0, .inr (3, [.int mth, .int (nI mN), .int (nI mty), .ref e1, .ref e2, .int (nI mcl), .ref e3, .ref e4, .int (nI mrc), .ref e5, .ref e6, .ref e7, .ref e8, .int (nI mfc), .int (nI mlr), .int mld, .ref e9, .long mcv, .int mlo]))] t.heap ∧ va_K (dC, dI) vwC2 [(cI, .int), (cZ, .boolean), (cJ, .long)] t ∧ va_D (va_A [(g0, .inr (3, [.int mth, .int (nI mN), .int (nI mty), .ref e1, .ref e2, .int (nI mcl), .ref e3, .ref e4, .int (nI mrc), .ref e5, .ref e6, .ref e7, .ref e8, .int (nI mfc), .int (nI mlr), .int mld, .ref e9, .long mcv, .int mlo]))] sz) [(g0, .inr (3, [.int mth, .int (nI mN), .int (nI mty), .ref e1, .ref e2, .int (nI mcl), .ref e3, .ref e4, .int (nI mrc), .ref e5, .ref e6, .ref e7, .ref e8, .int (nI mfc), .int (nI mlr), .int mld, .ref e9, .long mcv, .int mlo]))]) (va_A [(g0, .inr (3, [.int mth, .int (nI mN), .int (nI mty), .ref e1, .ref e2, .int (nI mcl), .ref e3, .ref e4, .int (nI mrc), .ref e5, .ref e6, .ref e7, .ref e8, .int (nI mfc), .int (nI mlr), .int mld, .ref e9, .long mcv, .int mlo]))] sz)) 0 0 (va_A [(g0, .inr (3, [.int mth, .int (nI mN), .int (nI mty), .ref e1, .ref e2, .int (nI mcl), .ref e3, .ref e4, .int (nI mrc), .ref e5, .ref e6, .ref e7, .ref e8, .int (nI mfc), .int (nI mlr), .int mld, .ref e9, .long mcv, .int mlo]))] sz) := by
  refine Met.ofW (cc := cXM_isRecord) (maxL := 2) (ret := (some .boolean)) (by decide) rfl ?_
  intro p e s m args below meth c s₁ B hml hv
  obtain ⟨rfl, hsz, hP, hK, hD0⟩ := hv
  have hx := B.exec
  have hb := B.bytes
  have hr := B.returns
  have hts := atoms_spec (ws := wsXM_isRecord) B.pre
  have hown : s.vm.findClass RXM = some m.cls := findClass_of_methodNamed B.named
  have hlocks := B.notSynchronized
  subst hsz
  have hD := hD0.self (sz := s.heap.size)
  generalize hAe : va_A [(g0, .inr (3, [.int mth, .int (nI mN), .int (nI mty), .ref e1, .ref e2, .int (nI mcl), .ref e3, .ref e4, .int (nI mrc), .ref e5, .ref e6, .ref e7, .ref e8, .int (nI mfc), .int (nI mlr), .int mld, .ref e9, .long mcv, .int mlo]))] s.heap.size = A at hD ⊢
  have hA : ∀ q : Nat, s.heap.size ≤ q → A q := fun q h => by rw [← hAe]; exact Or.inr h
  have hS : va_S A s.heap s.heap [] := va_S.rf
  have hP : va_P (dC, dI) vwC2 [(g0, .inr (3, [.int mth, .int (nI mN), .int (nI mty), .ref e1, .ref e2, .int (nI mcl), .ref e3, .ref e4, .int (nI mrc), .ref e5, .ref e6, .ref e7, .ref e8, .int (nI mfc), .int (nI mlr), .int mld, .ref e9, .long mcv, .int mlo]))] s.heap := hP
  have hl := lv_entry ([.ref g0, .int x]) (n := 2) (Nat.le_of_ble_eq_true rfl)
  rw [lg_entry_eq]
  generalize (lg_sl ([.ref g0, .int x]) ++ List.replicate (2 - (lg_sl ([.ref g0, .int x])).length) Slot.unset).toArray = ls at hl ⊢
  have hl : lv_has ls 2 [(0, .ref g0), (1, .int x)] := hl
  refine lv_iload_n hx hb dXM_isRecord_0 rfl (lv_at hl 1 rfl) ?_
  refine lv_if_le (tgt := 16) hx hb dXM_isRecord_1 (by decide) (fun c_1 => ?_) (fun c_1 => ?_)
  · refine lv_iconst (v := 0) hx hb dXM_isRecord_16 (by decide) ?_
    exact W.zret (v := 0) (ty := .boolean) hx hb hr rfl (fun t ht hW => ⟨⟨0, (), rfl, by first | (simp only [pM_isR, if_pos c_1]; done) | (simp only [pM_isR, if_pos c_1]; rfl) | rfl, by rw [ht]; exact hP, va_K.moved hW.alike hK, hD⟩, hS.F ht⟩) hS.2.2 dXM_isRecord_17
  · refine lv_iload_n hx hb dXM_isRecord_4 rfl (lv_at hl 1 rfl) ?_
    refine lv_aload_n hx hb dXM_isRecord_5 rfl (lv_at hl 0 rfl) ?_
    refine va_get (D := (dC, dI)) (ci := 3) (v := .int (nI mrc)) (C := RXM) (T := TXM) (N := 19) hx hb hts (by decide +kernel) hown hK hP 0 rfl rfl 8 (by decide) (hts (.fieldLink RXM 49 "BatchClassesModel" "records" "I") (by decide +kernel)) (fun _ h9 => h9) rfl dXM_isRecord_6 ?_
    refine lv_icmp_gt (tgt := 16) hx hb dXM_isRecord_9 (by decide) (fun c_9 => ?_) (fun c_9 => ?_)
    · refine lv_iconst (v := 0) hx hb dXM_isRecord_16 (by decide) ?_
      exact W.zret (v := 0) (ty := .boolean) hx hb hr rfl (fun t ht hW => ⟨⟨0, (), rfl, by first | (simp only [pM_isR, if_neg c_1, if_pos c_9]; done) | (simp only [pM_isR, if_neg c_1, if_pos c_9]; rfl) | rfl, by rw [ht]; exact hP, va_K.moved hW.alike hK, hD⟩, hS.F ht⟩) hS.2.2 dXM_isRecord_17
    · refine lv_iconst (v := 1) hx hb dXM_isRecord_12 (by decide) ?_
      refine lv_goto (tgt := 17) hx hb dXM_isRecord_13 (by decide) ?_
      exact W.zret (v := 1) (ty := .boolean) hx hb hr rfl (fun t ht hW => ⟨⟨1, (), rfl, by first | (simp only [pM_isR, if_neg c_1, if_neg c_9]; done) | (simp only [pM_isR, if_neg c_1, if_neg c_9]; rfl) | rfl, by rw [ht]; exact hP, va_K.moved hW.alike hK, hD⟩, hS.F ht⟩) hS.2.2 dXM_isRecord_17
def pM_thrown (mth : Int32) : Int32 :=
  mth
set_option maxHeartbeats 4000000 in
set_option maxRecDepth 100000 in
theorem k_XM_thrown (l : Launch) (dC : Nat → ClassId) (dI : Nat → Nat → Nat) (cI cZ cJ : ClassId) (sz : Nat) (g0 e1 e2 e3 e4 e5 e6 e7 e8 e9 : Nat) (mth : Int32) (mN mty mcl mrc mfc mlr : (Nat)) (mld : Int32) (mcv : Int64) (mlo : Int32) (mp msf : Nat → Int32) (mtn : Nat → Nat) (mce mfi : Nat → Int64) (mlk mdn mfl : Nat → Int32) (mw : Nat → Int64) : Met l yXM_thrown wsXM_thrown ({ frames := 0, cells := 0, slots := 0, locals := 0 }) (va_Pc [.ref g0] (fun U => U.heap.size = sz ∧ va_P (dC, dI) vwC2 [(g0, .inr (3, [.int mth, .int (nI mN), .int (nI mty), .ref e1, .ref e2, .int (nI mcl), .ref e3, .ref e4, .int (nI mrc), .ref e5, .ref e6, .ref e7, .ref e8, .int (nI mfc), .int (nI mlr), .int mld, .ref e9, .long mcv, .int mlo])), (e1, .inl (cI, 21, .inl mp)), (e2, .inl (cZ, 21, .inl msf)), (e3, .inl (cI, 61, .inl (fun q => nI (mtn q)))), (e4, .inl (cJ, 61, .inr (.inl mce))), (e5, .inl (cJ, 244, .inr (.inl mfi))), (e6, .inl (cZ, 61, .inl mlk)), (e7, .inl (cZ, 3721, .inl mdn)), (e8, .inl (cI, 300, .inl mfl)), (e9, .inl (cJ, 4, .inr (.inl mw)))] U.heap ∧ va_K (dC, dI) vwC2 [(cI, .int), (cZ, .boolean), (cJ, .long)] U ∧ va_D (fun _ => True) [(g0, .inr (3, [.int mth, .int (nI mN), .int (nI mty), .ref e1, .ref e2, .int (nI mcl), .ref e3, .ref e4, .int (nI mrc), .ref e5, .ref e6, .ref e7, .ref e8, .int (nI mfc), .int (nI mlr), .int mld, .ref e9, .long mcv, .int mlo])), (e1, .inl (cI, 21, .inl mp)), (e2, .inl (cZ, 21, .inl msf)), (e3, .inl (cI, 61, .inl (fun q => nI (mtn q)))), (e4, .inl (cJ, 61, .inr (.inl mce))), (e5, .inl (cJ, 244, .inr (.inl mfi))), (e6, .inl (cZ, 61, .inl mlk)), (e7, .inl (cZ, 3721, .inl mdn)), (e8, .inl (cI, 300, .inl mfl)), (e9, .inl (cJ, 4, .inr (.inl mw)))])) (va_Qi (fun (r : Int32) (_ : Unit) => r = pM_thrown mth) (fun (_ : Unit) (t : State) => va_P (dC, dI) vwC2 [(g0, .inr (3, [.int mth, .int (nI mN), .int (nI mty), .ref e1, .ref e2, .int (nI mcl), .ref e3, .ref e4, .int (nI mrc), .ref e5, .ref e6, .ref e7, .ref e8, .int (nI mfc), .int (nI mlr), .int mld, .ref e9, .long mcv, .int mlo])), (e1, .inl (cI, 21, .inl mp)), (e2, .inl (cZ, 21, .inl msf)), (e3, .inl (cI, 61, .inl (fun q => nI (mtn q)))), (e4, .inl (cJ, 61, .inr (.inl mce))), (e5, .inl (cJ, 244, .inr (.inl mfi))), (e6, .inl (cZ, 61, .inl mlk)), (e7, .inl (cZ, 3721, .inl mdn)), (e8, .inl (cI, 300, .inl mfl)), (e9, .inl (cJ, 4, .inr (.inl mw)))] t.heap ∧ va_K (dC, dI) vwC2 [(cI, .int), (cZ, .boolean), (cJ, .long)] t ∧ va_D (va_A [(g0, .inr (3, [.int mth, .int (nI mN), .int (nI mty), .ref e1, .ref e2, .int (nI mcl), .ref e3, .ref e4, .int (nI mrc), .ref e5, .ref e6, .ref e7, .ref e8, .int (nI mfc), .int (nI mlr), .int mld, .ref e9, .long mcv, .int mlo])), (e1, .inl (cI, 21, .inl mp)), (e2, .inl (cZ, 21, .inl msf)), (e3, .inl (cI, 61, .inl (fun q => nI (mtn q)))), (e4, .inl (cJ, 61, .inr (.inl mce))), (e5, .inl (cJ, 244, .inr (.inl mfi))), (e6, .inl (cZ, 61, .inl mlk)), (e7, .inl (cZ, 3721, .inl mdn)), (e8, .inl (cI, 300, .inl mfl)), (e9, .inl (cJ, 4, .inr (.inl mw)))] sz) [(g0, .inr (3, [.int mth, .int (nI mN), .int (nI mty), .ref e1, .ref e2, .int (nI mcl), .ref e3, .ref e4, .int (nI mrc), .ref e5, .ref e6, .ref e7, .ref e8, .int (nI mfc), .int (nI mlr), .int mld, .ref e9, .long mcv, .int mlo])), (e1, .inl (cI, 21, .inl mp)), (e2, .inl (cZ, 21, .inl msf)), (e3, .inl (cI, 61, .inl (fun q => nI (mtn q)))), (e4, .inl (cJ, 61, .inr (.inl mce))), (e5, .inl (cJ, 244, .inr (.inl mfi))), (e6, .inl (cZ, 61, .inl mlk)), (e7, .inl (cZ, 3721, .inl mdn)), (e8, .inl (cI, 300, .inl mfl)), (e9, .inl (cJ, 4, .inr (.inl mw)))]) (va_A [(g0, .inr (3, [.int mth, .int (nI mN), .int (nI mty), .ref e1, .ref e2, .int (nI mcl), .ref e3, .ref e4, .int (nI mrc), .ref e5, .ref e6, .ref e7, .ref e8, .int (nI mfc), .int (nI mlr), .int mld, .ref e9, .long mcv, .int mlo])), (e1, .inl (cI, 21, .inl mp)), (e2, .inl (cZ, 21, .inl msf)), (e3, .inl (cI, 61, .inl (fun q => nI (mtn q)))), (e4, .inl (cJ, 61, .inr (.inl mce))), (e5, .inl (cJ, 244, .inr (.inl mfi))), (e6, .inl (cZ, 61, .inl mlk)), (e7, .inl (cZ, 3721, .inl mdn)), (e8, .inl (cI, 300, .inl mfl)), (e9, .inl (cJ, 4, .inr (.inl mw)))] sz)) 0 0 (va_A [(g0, .inr (3, [.int mth, .int (nI mN), .int (nI mty), .ref e1, .ref e2, .int (nI mcl), .ref e3, .ref e4, .int (nI mrc), .ref e5, .ref e6, .ref e7, .ref e8, .int (nI mfc), .int (nI mlr), .int mld, .ref e9, .long mcv, .int mlo])), (e1, .inl (cI, 21, .inl mp)), (e2, .inl (cZ, 21, .inl msf)), (e3, .inl (cI, 61, .inl (fun q => nI (mtn q)))), (e4, .inl (cJ, 61, .inr (.inl mce))), (e5, .inl (cJ, 244, .inr (.inl mfi))), (e6, .inl (cZ, 61, .inl mlk)), (e7, .inl (cZ, 3721, .inl mdn)), (e8, .inl (cI, 300, .inl mfl)), (e9, .inl (cJ, 4, .inr (.inl mw)))] sz) := by
  refine Met.ofW (cc := cXM_thrown) (maxL := 1) (ret := (some .int)) (by decide) rfl ?_
  intro p e s m args below meth c s₁ B hml hv
  obtain ⟨rfl, hsz, hP, hK, hD0⟩ := hv
  have hx := B.exec
  have hb := B.bytes
  have hr := B.returns
  have hts := atoms_spec (ws := wsXM_thrown) B.pre
  have hown : s.vm.findClass RXM = some m.cls := findClass_of_methodNamed B.named
  have hlocks := B.notSynchronized
  subst hsz
  have hD := hD0.self (sz := s.heap.size)
  generalize hAe : va_A [(g0, .inr (3, [.int mth, .int (nI mN), .int (nI mty), .ref e1, .ref e2, .int (nI mcl), .ref e3, .ref e4, .int (nI mrc), .ref e5, .ref e6, .ref e7, .ref e8, .int (nI mfc), .int (nI mlr), .int mld, .ref e9, .long mcv, .int mlo])), (e1, .inl (cI, 21, .inl mp)), (e2, .inl (cZ, 21, .inl msf)), (e3, .inl (cI, 61, .inl (fun q => nI (mtn q)))), (e4, .inl (cJ, 61, .inr (.inl mce))), (e5, .inl (cJ, 244, .inr (.inl mfi))), (e6, .inl (cZ, 61, .inl mlk)), (e7, .inl (cZ, 3721, .inl mdn)), (e8, .inl (cI, 300, .inl mfl)), (e9, .inl (cJ, 4, .inr (.inl mw)))] s.heap.size = A at hD ⊢
  have hA : ∀ q : Nat, s.heap.size ≤ q → A q := fun q h => by rw [← hAe]; exact Or.inr h
  have hS : va_S A s.heap s.heap [] := va_S.rf
  have hP : va_P (dC, dI) vwC2 [(g0, .inr (3, [.int mth, .int (nI mN), .int (nI mty), .ref e1, .ref e2, .int (nI mcl), .ref e3, .ref e4, .int (nI mrc), .ref e5, .ref e6, .ref e7, .ref e8, .int (nI mfc), .int (nI mlr), .int mld, .ref e9, .long mcv, .int mlo])), (e1, .inl (cI, 21, .inl mp)), (e2, .inl (cZ, 21, .inl msf)), (e3, .inl (cI, 61, .inl (fun q => nI (mtn q)))), (e4, .inl (cJ, 61, .inr (.inl mce))), (e5, .inl (cJ, 244, .inr (.inl mfi))), (e6, .inl (cZ, 61, .inl mlk)), (e7, .inl (cZ, 3721, .inl mdn)), (e8, .inl (cI, 300, .inl mfl)), (e9, .inl (cJ, 4, .inr (.inl mw)))] s.heap := hP
  have hl := lv_entry ([.ref g0]) (n := 1) (Nat.le_of_ble_eq_true rfl)
  rw [lg_entry_eq]
  generalize (lg_sl ([.ref g0]) ++ List.replicate (1 - (lg_sl ([.ref g0])).length) Slot.unset).toArray = ls at hl ⊢
  have hl : lv_has ls 1 [(0, .ref g0)] := hl
  refine lv_aload_n hx hb dXM_thrown_0 rfl (lv_at hl 0 rfl) ?_
  refine va_get (D := (dC, dI)) (ci := 3) (v := .int mth) (C := RXM) (T := TXM) (N := 19) hx hb hts (by decide +kernel) hown hK hP 0 rfl rfl 0 (by decide) (hts (.fieldLink RXM 43 "BatchClassesModel" "thrown" "I") (by decide +kernel)) (fun _ h9 => h9) rfl dXM_thrown_1 ?_
  exact W.iret (v := mth) hx hb hr (fun t ht hW => ⟨⟨mth, (), rfl, by first | (simp only [pM_thrown]; done) | (simp only [pM_thrown]; rfl) | rfl, by rw [ht]; exact hP, va_K.moved hW.alike hK, hD⟩, hS.F ht⟩) hS.2.2 dXM_thrown_4
def pM_reckon (mcv : Int64) (mw : Nat → Int64) (ac : (Nat)) : Int64 × (Nat → Int64) :=
  match ac with
  | 1 =>
    (mcv, (vp_updL mw 0 ((mw 0) + 1)))
  | 2 =>
    (mcv, (vp_updL mw 0 ((mw 0) + (mw 0))))
  | 3 =>
    (mcv, (vp_updL mw 1 (mw 0)))
  | 4 =>
    (mcv, (vp_updL mw 0 ((mw 0) / (mw 1))))
  | 5 =>
    (mcv, (vp_updL (vp_updL mw 0 (mw 1)) 1 (mw 0)))
  | 8 =>
    ((mcv + (mw 0)), mw)
  | 9 =>
    (mcv, (vp_updL mw 0 mcv))
  | 11 =>
    (mcv, (vp_updL mw 2 (mw 3)))
  | 12 =>
    (mcv, (vp_updL mw 3 ((mw 0) - (mw 2))))
  | _ =>
    (mcv, mw)
set_option maxHeartbeats 4000000 in
set_option maxRecDepth 100000 in
theorem k_XM_reckon (l : Launch) (dC : Nat → ClassId) (dI : Nat → Nat → Nat) (cI cZ cJ : ClassId) (sz : Nat) (g0 e1 e2 e3 e4 e5 e6 e7 e8 e9 : Nat) (mth : Int32) (mN mty mcl mrc mfc mlr : (Nat)) (mld : Int32) (mcv : Int64) (mlo : Int32) (mw : Nat → Int64) (ac : (Nat)) (hac : ac < 16) (h4 : ac = 4 → ¬ mw 1 = 0) : Met l yXM_reckon wsXM_reckon ({ frames := 0, cells := 0, slots := 0, locals := 0 }) (va_Pc [.ref g0, .int (nI ac)] (fun U => U.heap.size = sz ∧ va_P (dC, dI) vwC2 [(g0, .inr (3, [.int mth, .int (nI mN), .int (nI mty), .ref e1, .ref e2, .int (nI mcl), .ref e3, .ref e4, .int (nI mrc), .ref e5, .ref e6, .ref e7, .ref e8, .int (nI mfc), .int (nI mlr), .int mld, .ref e9, .long mcv, .int mlo])), (e9, .inl (cJ, 4, .inr (.inl mw)))] U.heap ∧ va_K (dC, dI) vwC2 [(cI, .int), (cZ, .boolean), (cJ, .long)] U ∧ va_D (fun _ => True) [(g0, .inr (3, [.int mth, .int (nI mN), .int (nI mty), .ref e1, .ref e2, .int (nI mcl), .ref e3, .ref e4, .int (nI mrc), .ref e5, .ref e6, .ref e7, .ref e8, .int (nI mfc), .int (nI mlr), .int mld, .ref e9, .long mcv, .int mlo])), (e9, .inl (cJ, 4, .inr (.inl mw)))])) (va_Qv (fun (u : Int64 × (Nat → Int64)) => u = pM_reckon mcv mw ac) (fun (u : Int64 × (Nat → Int64)) (t : State) => match u with | (mcv', mw') => va_P (dC, dI) vwC2 [(g0, .inr (3, [.int mth, .int (nI mN), .int (nI mty), .ref e1, .ref e2, .int (nI mcl), .ref e3, .ref e4, .int (nI mrc), .ref e5, .ref e6, .ref e7, .ref e8, .int (nI mfc), .int (nI mlr), .int mld, .ref e9, .long mcv', .int mlo])), (e9, .inl (cJ, 4, .inr (.inl mw')))] t.heap ∧ va_K (dC, dI) vwC2 [(cI, .int), (cZ, .boolean), (cJ, .long)] t ∧ va_D (va_A [(g0, .inr (3, [.int mth, .int (nI mN), .int (nI mty), .ref e1, .ref e2, .int (nI mcl), .ref e3, .ref e4, .int (nI mrc), .ref e5, .ref e6, .ref e7, .ref e8, .int (nI mfc), .int (nI mlr), .int mld, .ref e9, .long mcv, .int mlo])), (e9, .inl (cJ, 4, .inr (.inl mw)))] sz) [(g0, .inr (3, [.int mth, .int (nI mN), .int (nI mty), .ref e1, .ref e2, .int (nI mcl), .ref e3, .ref e4, .int (nI mrc), .ref e5, .ref e6, .ref e7, .ref e8, .int (nI mfc), .int (nI mlr), .int mld, .ref e9, .long mcv', .int mlo])), (e9, .inl (cJ, 4, .inr (.inl mw')))]) (va_A [(g0, .inr (3, [.int mth, .int (nI mN), .int (nI mty), .ref e1, .ref e2, .int (nI mcl), .ref e3, .ref e4, .int (nI mrc), .ref e5, .ref e6, .ref e7, .ref e8, .int (nI mfc), .int (nI mlr), .int mld, .ref e9, .long mcv, .int mlo])), (e9, .inl (cJ, 4, .inr (.inl mw)))] sz)) 0 0 (va_A [(g0, .inr (3, [.int mth, .int (nI mN), .int (nI mty), .ref e1, .ref e2, .int (nI mcl), .ref e3, .ref e4, .int (nI mrc), .ref e5, .ref e6, .ref e7, .ref e8, .int (nI mfc), .int (nI mlr), .int mld, .ref e9, .long mcv, .int mlo])), (e9, .inl (cJ, 4, .inr (.inl mw)))] sz) := by
  refine Met.ofW (cc := cXM_reckon) (maxL := 4) (ret := none) (by decide) rfl ?_
  intro p e s m args below meth c s₁ B hml hv
  obtain ⟨rfl, hsz, hP, hK, hD0⟩ := hv
  have hx := B.exec
  have hb := B.bytes
  have hr := B.returns
  have hts := atoms_spec (ws := wsXM_reckon) B.pre
  have hown : s.vm.findClass RXM = some m.cls := findClass_of_methodNamed B.named
  have hlocks := B.notSynchronized
  subst hsz
  have hD := hD0.self (sz := s.heap.size)
  generalize hAe : va_A [(g0, .inr (3, [.int mth, .int (nI mN), .int (nI mty), .ref e1, .ref e2, .int (nI mcl), .ref e3, .ref e4, .int (nI mrc), .ref e5, .ref e6, .ref e7, .ref e8, .int (nI mfc), .int (nI mlr), .int mld, .ref e9, .long mcv, .int mlo])), (e9, .inl (cJ, 4, .inr (.inl mw)))] s.heap.size = A at hD ⊢
  have hA : ∀ q : Nat, s.heap.size ≤ q → A q := fun q h => by rw [← hAe]; exact Or.inr h
  have hS : va_S A s.heap s.heap [] := va_S.rf
  have hP : va_P (dC, dI) vwC2 [(g0, .inr (3, [.int mth, .int (nI mN), .int (nI mty), .ref e1, .ref e2, .int (nI mcl), .ref e3, .ref e4, .int (nI mrc), .ref e5, .ref e6, .ref e7, .ref e8, .int (nI mfc), .int (nI mlr), .int mld, .ref e9, .long mcv, .int mlo])), (e9, .inl (cJ, 4, .inr (.inl mw)))] s.heap := hP
  have hl := lv_entry ([.ref g0, .int (nI ac)]) (n := 4) (Nat.le_of_ble_eq_true rfl)
  rw [lg_entry_eq]
  generalize (lg_sl ([.ref g0, .int (nI ac)]) ++ List.replicate (4 - (lg_sl ([.ref g0, .int (nI ac)])).length) Slot.unset).toArray = ls at hl ⊢
  have hl : lv_has ls 4 [(0, .ref g0), (1, .int (nI ac))] := hl
  refine lv_aload_n hx hb dXM_reckon_0 rfl (lv_at hl 0 rfl) ?_
  refine va_get (D := (dC, dI)) (ci := 3) (v := .ref e9) (C := RXM) (T := TXM) (N := 19) hx hb hts (by decide +kernel) hown hK hP 0 rfl rfl 16 (by decide) (hts (.fieldLink RXM 36 "BatchClassesModel" "now" "[J") (by decide +kernel)) (fun _ h9 => h9) rfl dXM_reckon_1 ?_
  refine lv_iconst (v := 0) hx hb dXM_reckon_4 (by decide) ?_
  refine va_lald hx hb hK hP 1 2 rfl rfl (vp_in_nI (n := 0) (by omega) (by omega)) dXM_reckon_5 ?_
  refine lv_topl (fun z_5 ez_5 => ?_)
  obtain rfl : z_5 = mw 0 := ez_5
  refine lv_lstore_n (lv' := [(2, .long (mw 0)), (0, .ref g0), (1, .int (nI ac))]) hx hb dXM_reckon_6 rfl hl (by decide) rfl (fun ls hl => ?_)
  refine lv_iload_n hx hb dXM_reckon_7 rfl (lv_at hl 2 rfl) ?_
  rcases (show ac = 0 ∨ ac = 1 ∨ ac = 2 ∨ ac = 3 ∨ ac = 4 ∨ ac = 5 ∨ ac = 6 ∨ ac = 7 ∨ ac = 8 ∨ ac = 9 ∨ ac = 10 ∨ ac = 11 ∨ ac = 12 ∨ ac = 13 ∨ ac = 14 ∨ ac = 15 by omega) with rfl | rfl | rfl | rfl | rfl | rfl | rfl | rfl | rfl | rfl | rfl | rfl | rfl | rfl | rfl | rfl
  · refine lv_tableOut (x := nI 0) (tgt := 203) hx hb dXM_reckon_8 (by decide +kernel) (by decide) ?_
    exact W.vret hx hb hr (fun t ht hW => ⟨⟨(mcv, mw), rfl, by first | (simp only [pM_reckon]; done) | (simp only [pM_reckon]; rfl) | rfl, by rw [ht]; exact hP, va_K.moved hW.alike hK, hD⟩, hS.F ht⟩) hS.2.2 dXM_reckon_203
  · refine lv_tableIn (x := nI 1) (tgt := 72) hx hb dXM_reckon_8 (by decide +kernel) (by decide +kernel) rfl (by decide) ?_
    refine lv_aload_n hx hb dXM_reckon_72 rfl (lv_at hl 1 rfl) ?_
    refine va_get (D := (dC, dI)) (ci := 3) (v := .ref e9) (C := RXM) (T := TXM) (N := 19) hx hb hts (by decide +kernel) hown hK hP 0 rfl rfl 16 (by decide) (hts (.fieldLink RXM 36 "BatchClassesModel" "now" "[J") (by decide +kernel)) (fun _ h9 => h9) rfl dXM_reckon_73 ?_
    refine lv_iconst (v := 0) hx hb dXM_reckon_76 (by decide) ?_
    refine lv_lload_n hx hb dXM_reckon_77 rfl (lv_at hl 0 rfl) ?_
    refine lv_lconst (v := 1) hx hb dXM_reckon_78 (by decide) ?_
    refine lv_ladd hx hb dXM_reckon_79 ?_
    refine va_last hx hb hK hP hD hS 1 2 rfl rfl (vp_in_nI (n := 0) (by omega) (by omega)) dXM_reckon_80 (fun H locs hP hD hS => ?_)
    have hP : va_P (dC, dI) vwC2 [(g0, .inr (3, [.int mth, .int (nI mN), .int (nI mty), .ref e1, .ref e2, .int (nI mcl), .ref e3, .ref e4, .int (nI mrc), .ref e5, .ref e6, .ref e7, .ref e8, .int (nI mfc), .int (nI mlr), .int mld, .ref e9, .long mcv, .int mlo])), (e9, .inl (cJ, 4, .inr (.inl (vp_updL mw 0 ((mw 0) + 1)))))] H := hP
    have hD : va_D A [(g0, .inr (3, [.int mth, .int (nI mN), .int (nI mty), .ref e1, .ref e2, .int (nI mcl), .ref e3, .ref e4, .int (nI mrc), .ref e5, .ref e6, .ref e7, .ref e8, .int (nI mfc), .int (nI mlr), .int mld, .ref e9, .long mcv, .int mlo])), (e9, .inl (cJ, 4, .inr (.inl (vp_updL mw 0 ((mw 0) + 1)))))] := hD
    refine lv_goto (tgt := 203) hx hb dXM_reckon_81 (by decide) ?_
    exact W.vret hx hb hr (fun t ht hW => ⟨⟨(mcv, (vp_updL mw 0 ((mw 0) + 1))), rfl, by first | (simp only [pM_reckon]; done) | (simp only [pM_reckon]; rfl) | rfl, by rw [ht]; exact hP, va_K.moved hW.alike hK, hD⟩, hS.F ht⟩) hS.2.2 dXM_reckon_203
  · refine lv_tableIn (x := nI 2) (tgt := 84) hx hb dXM_reckon_8 (by decide +kernel) (by decide +kernel) rfl (by decide) ?_
    refine lv_aload_n hx hb dXM_reckon_84 rfl (lv_at hl 1 rfl) ?_
    refine va_get (D := (dC, dI)) (ci := 3) (v := .ref e9) (C := RXM) (T := TXM) (N := 19) hx hb hts (by decide +kernel) hown hK hP 0 rfl rfl 16 (by decide) (hts (.fieldLink RXM 36 "BatchClassesModel" "now" "[J") (by decide +kernel)) (fun _ h9 => h9) rfl dXM_reckon_85 ?_
    refine lv_iconst (v := 0) hx hb dXM_reckon_88 (by decide) ?_
    refine lv_lload_n hx hb dXM_reckon_89 rfl (lv_at hl 0 rfl) ?_
    refine lv_lload_n hx hb dXM_reckon_90 rfl (lv_at hl 0 rfl) ?_
    refine lv_ladd hx hb dXM_reckon_91 ?_
    refine va_last hx hb hK hP hD hS 1 2 rfl rfl (vp_in_nI (n := 0) (by omega) (by omega)) dXM_reckon_92 (fun H locs hP hD hS => ?_)
    have hP : va_P (dC, dI) vwC2 [(g0, .inr (3, [.int mth, .int (nI mN), .int (nI mty), .ref e1, .ref e2, .int (nI mcl), .ref e3, .ref e4, .int (nI mrc), .ref e5, .ref e6, .ref e7, .ref e8, .int (nI mfc), .int (nI mlr), .int mld, .ref e9, .long mcv, .int mlo])), (e9, .inl (cJ, 4, .inr (.inl (vp_updL mw 0 ((mw 0) + (mw 0))))))] H := hP
    have hD : va_D A [(g0, .inr (3, [.int mth, .int (nI mN), .int (nI mty), .ref e1, .ref e2, .int (nI mcl), .ref e3, .ref e4, .int (nI mrc), .ref e5, .ref e6, .ref e7, .ref e8, .int (nI mfc), .int (nI mlr), .int mld, .ref e9, .long mcv, .int mlo])), (e9, .inl (cJ, 4, .inr (.inl (vp_updL mw 0 ((mw 0) + (mw 0))))))] := hD
    refine lv_goto (tgt := 203) hx hb dXM_reckon_93 (by decide) ?_
    exact W.vret hx hb hr (fun t ht hW => ⟨⟨(mcv, (vp_updL mw 0 ((mw 0) + (mw 0)))), rfl, by first | (simp only [pM_reckon]; done) | (simp only [pM_reckon]; rfl) | rfl, by rw [ht]; exact hP, va_K.moved hW.alike hK, hD⟩, hS.F ht⟩) hS.2.2 dXM_reckon_203
  · refine lv_tableIn (x := nI 3) (tgt := 96) hx hb dXM_reckon_8 (by decide +kernel) (by decide +kernel) rfl (by decide) ?_
    refine lv_aload_n hx hb dXM_reckon_96 rfl (lv_at hl 1 rfl) ?_
    refine va_get (D := (dC, dI)) (ci := 3) (v := .ref e9) (C := RXM) (T := TXM) (N := 19) hx hb hts (by decide +kernel) hown hK hP 0 rfl rfl 16 (by decide) (hts (.fieldLink RXM 36 "BatchClassesModel" "now" "[J") (by decide +kernel)) (fun _ h9 => h9) rfl dXM_reckon_97 ?_
    refine lv_iconst (v := 1) hx hb dXM_reckon_100 (by decide) ?_
    refine lv_lload_n hx hb dXM_reckon_101 rfl (lv_at hl 0 rfl) ?_
    refine va_last hx hb hK hP hD hS 1 2 rfl rfl (vp_in_nI (n := 1) (by omega) (by omega)) dXM_reckon_102 (fun H locs hP hD hS => ?_)
    have hP : va_P (dC, dI) vwC2 [(g0, .inr (3, [.int mth, .int (nI mN), .int (nI mty), .ref e1, .ref e2, .int (nI mcl), .ref e3, .ref e4, .int (nI mrc), .ref e5, .ref e6, .ref e7, .ref e8, .int (nI mfc), .int (nI mlr), .int mld, .ref e9, .long mcv, .int mlo])), (e9, .inl (cJ, 4, .inr (.inl (vp_updL mw 1 (mw 0)))))] H := hP
    have hD : va_D A [(g0, .inr (3, [.int mth, .int (nI mN), .int (nI mty), .ref e1, .ref e2, .int (nI mcl), .ref e3, .ref e4, .int (nI mrc), .ref e5, .ref e6, .ref e7, .ref e8, .int (nI mfc), .int (nI mlr), .int mld, .ref e9, .long mcv, .int mlo])), (e9, .inl (cJ, 4, .inr (.inl (vp_updL mw 1 (mw 0)))))] := hD
    refine lv_goto (tgt := 203) hx hb dXM_reckon_103 (by decide) ?_
    exact W.vret hx hb hr (fun t ht hW => ⟨⟨(mcv, (vp_updL mw 1 (mw 0))), rfl, by first | (simp only [pM_reckon]; done) | (simp only [pM_reckon]; rfl) | rfl, by rw [ht]; exact hP, va_K.moved hW.alike hK, hD⟩, hS.F ht⟩) hS.2.2 dXM_reckon_203
  · refine lv_tableIn (x := nI 4) (tgt := 106) hx hb dXM_reckon_8 (by decide +kernel) (by decide +kernel) rfl (by decide) ?_
    refine lv_aload_n hx hb dXM_reckon_106 rfl (lv_at hl 1 rfl) ?_
    refine va_get (D := (dC, dI)) (ci := 3) (v := .ref e9) (C := RXM) (T := TXM) (N := 19) hx hb hts (by decide +kernel) hown hK hP 0 rfl rfl 16 (by decide) (hts (.fieldLink RXM 36 "BatchClassesModel" "now" "[J") (by decide +kernel)) (fun _ h9 => h9) rfl dXM_reckon_107 ?_
    refine lv_iconst (v := 0) hx hb dXM_reckon_110 (by decide) ?_
    refine lv_lload_n hx hb dXM_reckon_111 rfl (lv_at hl 0 rfl) ?_
    refine lv_aload_n hx hb dXM_reckon_112 rfl (lv_at hl 1 rfl) ?_
    refine va_get (D := (dC, dI)) (ci := 3) (v := .ref e9) (C := RXM) (T := TXM) (N := 19) hx hb hts (by decide +kernel) hown hK hP 0 rfl rfl 16 (by decide) (hts (.fieldLink RXM 36 "BatchClassesModel" "now" "[J") (by decide +kernel)) (fun _ h9 => h9) rfl dXM_reckon_113 ?_
    refine lv_iconst (v := 1) hx hb dXM_reckon_116 (by decide) ?_
    refine va_lald hx hb hK hP 1 2 rfl rfl (vp_in_nI (n := 1) (by omega) (by omega)) dXM_reckon_117 ?_
    refine lv_topl (fun z_117 ez_117 => ?_)
    obtain rfl : z_117 = mw 1 := ez_117
    refine lv_ldiv hx hb dXM_reckon_118 (h4 rfl) ?_
    refine va_last hx hb hK hP hD hS 1 2 rfl rfl (vp_in_nI (n := 0) (by omega) (by omega)) dXM_reckon_119 (fun H locs hP hD hS => ?_)
    have hP : va_P (dC, dI) vwC2 [(g0, .inr (3, [.int mth, .int (nI mN), .int (nI mty), .ref e1, .ref e2, .int (nI mcl), .ref e3, .ref e4, .int (nI mrc), .ref e5, .ref e6, .ref e7, .ref e8, .int (nI mfc), .int (nI mlr), .int mld, .ref e9, .long mcv, .int mlo])), (e9, .inl (cJ, 4, .inr (.inl (vp_updL mw 0 ((mw 0) / (mw 1))))))] H := hP
    have hD : va_D A [(g0, .inr (3, [.int mth, .int (nI mN), .int (nI mty), .ref e1, .ref e2, .int (nI mcl), .ref e3, .ref e4, .int (nI mrc), .ref e5, .ref e6, .ref e7, .ref e8, .int (nI mfc), .int (nI mlr), .int mld, .ref e9, .long mcv, .int mlo])), (e9, .inl (cJ, 4, .inr (.inl (vp_updL mw 0 ((mw 0) / (mw 1))))))] := hD
    refine lv_goto (tgt := 203) hx hb dXM_reckon_120 (by decide) ?_
    exact W.vret hx hb hr (fun t ht hW => ⟨⟨(mcv, (vp_updL mw 0 ((mw 0) / (mw 1)))), rfl, by first | (simp only [pM_reckon]; done) | (simp only [pM_reckon]; rfl) | rfl, by rw [ht]; exact hP, va_K.moved hW.alike hK, hD⟩, hS.F ht⟩) hS.2.2 dXM_reckon_203
  · refine lv_tableIn (x := nI 5) (tgt := 123) hx hb dXM_reckon_8 (by decide +kernel) (by decide +kernel) rfl (by decide) ?_
    refine lv_aload_n hx hb dXM_reckon_123 rfl (lv_at hl 1 rfl) ?_
    refine va_get (D := (dC, dI)) (ci := 3) (v := .ref e9) (C := RXM) (T := TXM) (N := 19) hx hb hts (by decide +kernel) hown hK hP 0 rfl rfl 16 (by decide) (hts (.fieldLink RXM 36 "BatchClassesModel" "now" "[J") (by decide +kernel)) (fun _ h9 => h9) rfl dXM_reckon_124 ?_
    refine lv_iconst (v := 0) hx hb dXM_reckon_127 (by decide) ?_
    refine lv_aload_n hx hb dXM_reckon_128 rfl (lv_at hl 1 rfl) ?_
    refine va_get (D := (dC, dI)) (ci := 3) (v := .ref e9) (C := RXM) (T := TXM) (N := 19) hx hb hts (by decide +kernel) hown hK hP 0 rfl rfl 16 (by decide) (hts (.fieldLink RXM 36 "BatchClassesModel" "now" "[J") (by decide +kernel)) (fun _ h9 => h9) rfl dXM_reckon_129 ?_
    refine lv_iconst (v := 1) hx hb dXM_reckon_132 (by decide) ?_
    refine va_lald hx hb hK hP 1 2 rfl rfl (vp_in_nI (n := 1) (by omega) (by omega)) dXM_reckon_133 ?_
    refine lv_topl (fun z_133 ez_133 => ?_)
    obtain rfl : z_133 = mw 1 := ez_133
    refine va_last hx hb hK hP hD hS 1 2 rfl rfl (vp_in_nI (n := 0) (by omega) (by omega)) dXM_reckon_134 (fun H locs hP hD hS => ?_)
    have hP : va_P (dC, dI) vwC2 [(g0, .inr (3, [.int mth, .int (nI mN), .int (nI mty), .ref e1, .ref e2, .int (nI mcl), .ref e3, .ref e4, .int (nI mrc), .ref e5, .ref e6, .ref e7, .ref e8, .int (nI mfc), .int (nI mlr), .int mld, .ref e9, .long mcv, .int mlo])), (e9, .inl (cJ, 4, .inr (.inl (vp_updL mw 0 (mw 1)))))] H := hP
    have hD : va_D A [(g0, .inr (3, [.int mth, .int (nI mN), .int (nI mty), .ref e1, .ref e2, .int (nI mcl), .ref e3, .ref e4, .int (nI mrc), .ref e5, .ref e6, .ref e7, .ref e8, .int (nI mfc), .int (nI mlr), .int mld, .ref e9, .long mcv, .int mlo])), (e9, .inl (cJ, 4, .inr (.inl (vp_updL mw 0 (mw 1)))))] := hD
    refine lv_aload_n hx hb dXM_reckon_135 rfl (lv_at hl 1 rfl) ?_
    refine va_get (D := (dC, dI)) (ci := 3) (v := .ref e9) (C := RXM) (T := TXM) (N := 19) hx hb hts (by decide +kernel) hown hK hP 0 rfl rfl 16 (by decide) (hts (.fieldLink RXM 36 "BatchClassesModel" "now" "[J") (by decide +kernel)) (fun _ h9 => h9) rfl dXM_reckon_136 ?_
    refine lv_iconst (v := 1) hx hb dXM_reckon_139 (by decide) ?_
    refine lv_lload_n hx hb dXM_reckon_140 rfl (lv_at hl 0 rfl) ?_
    refine va_last hx hb hK hP hD hS 1 2 rfl rfl (vp_in_nI (n := 1) (by omega) (by omega)) dXM_reckon_141 (fun H locs hP hD hS => ?_)
    have hP : va_P (dC, dI) vwC2 [(g0, .inr (3, [.int mth, .int (nI mN), .int (nI mty), .ref e1, .ref e2, .int (nI mcl), .ref e3, .ref e4, .int (nI mrc), .ref e5, .ref e6, .ref e7, .ref e8, .int (nI mfc), .int (nI mlr), .int mld, .ref e9, .long mcv, .int mlo])), (e9, .inl (cJ, 4, .inr (.inl (vp_updL (vp_updL mw 0 (mw 1)) 1 (mw 0)))))] H := hP
    have hD : va_D A [(g0, .inr (3, [.int mth, .int (nI mN), .int (nI mty), .ref e1, .ref e2, .int (nI mcl), .ref e3, .ref e4, .int (nI mrc), .ref e5, .ref e6, .ref e7, .ref e8, .int (nI mfc), .int (nI mlr), .int mld, .ref e9, .long mcv, .int mlo])), (e9, .inl (cJ, 4, .inr (.inl (vp_updL (vp_updL mw 0 (mw 1)) 1 (mw 0)))))] := hD
    refine lv_goto (tgt := 203) hx hb dXM_reckon_142 (by decide) ?_
    exact W.vret hx hb hr (fun t ht hW => ⟨⟨(mcv, (vp_updL (vp_updL mw 0 (mw 1)) 1 (mw 0))), rfl, by first | (simp only [pM_reckon]; done) | (simp only [pM_reckon]; rfl) | rfl, by rw [ht]; exact hP, va_K.moved hW.alike hK, hD⟩, hS.F ht⟩) hS.2.2 dXM_reckon_203
  · refine lv_tableIn (x := nI 6) (tgt := 203) hx hb dXM_reckon_8 (by decide +kernel) (by decide +kernel) rfl (by decide) ?_
    exact W.vret hx hb hr (fun t ht hW => ⟨⟨(mcv, mw), rfl, by first | (simp only [pM_reckon]; done) | (simp only [pM_reckon]; rfl) | rfl, by rw [ht]; exact hP, va_K.moved hW.alike hK, hD⟩, hS.F ht⟩) hS.2.2 dXM_reckon_203
  · refine lv_tableIn (x := nI 7) (tgt := 203) hx hb dXM_reckon_8 (by decide +kernel) (by decide +kernel) rfl (by decide) ?_
    exact W.vret hx hb hr (fun t ht hW => ⟨⟨(mcv, mw), rfl, by first | (simp only [pM_reckon]; done) | (simp only [pM_reckon]; rfl) | rfl, by rw [ht]; exact hP, va_K.moved hW.alike hK, hD⟩, hS.F ht⟩) hS.2.2 dXM_reckon_203
  · refine lv_tableIn (x := nI 8) (tgt := 145) hx hb dXM_reckon_8 (by decide +kernel) (by decide +kernel) rfl (by decide) ?_
    refine lv_aload_n hx hb dXM_reckon_145 rfl (lv_at hl 1 rfl) ?_
    refine lv_dup hx hb dXM_reckon_146 rfl ?_
    refine va_get (D := (dC, dI)) (ci := 3) (v := .long mcv) (C := RXM) (T := TXM) (N := 19) hx hb hts (by decide +kernel) hown hK hP 0 rfl rfl 17 (by decide) (hts (.fieldLink RXM 55 "BatchClassesModel" "cell" "J") (by decide +kernel)) (fun _ h9 => h9) rfl dXM_reckon_147 ?_
    refine lv_lload_n hx hb dXM_reckon_150 rfl (lv_at hl 0 rfl) ?_
    refine lv_ladd hx hb dXM_reckon_151 ?_
    refine va_put (D := (dC, dI)) (ci := 3) (v := .long (mcv + (mw 0))) (ty := .long) (C := RXM) (T := TXM) (N := 19) hx hb hts (by decide +kernel) tyXM tyXM_ok nmXM hown hK hP hD hS 0 rfl rfl 17 (by decide) (hts (.fieldLink RXM 55 "BatchClassesModel" "cell" "J") (by decide +kernel)) (fun _ h9 => h9) rfl (by decide +kernel) rfl rfl (Nat.le_of_ble_eq_true rfl) dXM_reckon_152 (fun H locs hP hD hS => ?_)
    have hP : va_P (dC, dI) vwC2 [(g0, .inr (3, [.int mth, .int (nI mN), .int (nI mty), .ref e1, .ref e2, .int (nI mcl), .ref e3, .ref e4, .int (nI mrc), .ref e5, .ref e6, .ref e7, .ref e8, .int (nI mfc), .int (nI mlr), .int mld, .ref e9, .long (mcv + (mw 0)), .int mlo])), (e9, .inl (cJ, 4, .inr (.inl mw)))] H := hP
    have hD : va_D A [(g0, .inr (3, [.int mth, .int (nI mN), .int (nI mty), .ref e1, .ref e2, .int (nI mcl), .ref e3, .ref e4, .int (nI mrc), .ref e5, .ref e6, .ref e7, .ref e8, .int (nI mfc), .int (nI mlr), .int mld, .ref e9, .long (mcv + (mw 0)), .int mlo])), (e9, .inl (cJ, 4, .inr (.inl mw)))] := hD
    refine lv_goto (tgt := 203) hx hb dXM_reckon_155 (by decide) ?_
    exact W.vret hx hb hr (fun t ht hW => ⟨⟨((mcv + (mw 0)), mw), rfl, by first | (simp only [pM_reckon]; done) | (simp only [pM_reckon]; rfl) | rfl, by rw [ht]; exact hP, va_K.moved hW.alike hK, hD⟩, hS.F ht⟩) hS.2.2 dXM_reckon_203
  · refine lv_tableIn (x := nI 9) (tgt := 158) hx hb dXM_reckon_8 (by decide +kernel) (by decide +kernel) rfl (by decide) ?_
    refine lv_aload_n hx hb dXM_reckon_158 rfl (lv_at hl 1 rfl) ?_
    refine va_get (D := (dC, dI)) (ci := 3) (v := .ref e9) (C := RXM) (T := TXM) (N := 19) hx hb hts (by decide +kernel) hown hK hP 0 rfl rfl 16 (by decide) (hts (.fieldLink RXM 36 "BatchClassesModel" "now" "[J") (by decide +kernel)) (fun _ h9 => h9) rfl dXM_reckon_159 ?_
    refine lv_iconst (v := 0) hx hb dXM_reckon_162 (by decide) ?_
    refine lv_aload_n hx hb dXM_reckon_163 rfl (lv_at hl 1 rfl) ?_
    refine va_get (D := (dC, dI)) (ci := 3) (v := .long mcv) (C := RXM) (T := TXM) (N := 19) hx hb hts (by decide +kernel) hown hK hP 0 rfl rfl 17 (by decide) (hts (.fieldLink RXM 55 "BatchClassesModel" "cell" "J") (by decide +kernel)) (fun _ h9 => h9) rfl dXM_reckon_164 ?_
    refine va_last hx hb hK hP hD hS 1 2 rfl rfl (vp_in_nI (n := 0) (by omega) (by omega)) dXM_reckon_167 (fun H locs hP hD hS => ?_)
    have hP : va_P (dC, dI) vwC2 [(g0, .inr (3, [.int mth, .int (nI mN), .int (nI mty), .ref e1, .ref e2, .int (nI mcl), .ref e3, .ref e4, .int (nI mrc), .ref e5, .ref e6, .ref e7, .ref e8, .int (nI mfc), .int (nI mlr), .int mld, .ref e9, .long mcv, .int mlo])), (e9, .inl (cJ, 4, .inr (.inl (vp_updL mw 0 mcv))))] H := hP
    have hD : va_D A [(g0, .inr (3, [.int mth, .int (nI mN), .int (nI mty), .ref e1, .ref e2, .int (nI mcl), .ref e3, .ref e4, .int (nI mrc), .ref e5, .ref e6, .ref e7, .ref e8, .int (nI mfc), .int (nI mlr), .int mld, .ref e9, .long mcv, .int mlo])), (e9, .inl (cJ, 4, .inr (.inl (vp_updL mw 0 mcv))))] := hD
    refine lv_goto (tgt := 203) hx hb dXM_reckon_168 (by decide) ?_
    exact W.vret hx hb hr (fun t ht hW => ⟨⟨(mcv, (vp_updL mw 0 mcv)), rfl, by first | (simp only [pM_reckon]; done) | (simp only [pM_reckon]; rfl) | rfl, by rw [ht]; exact hP, va_K.moved hW.alike hK, hD⟩, hS.F ht⟩) hS.2.2 dXM_reckon_203
  · refine lv_tableIn (x := nI 10) (tgt := 203) hx hb dXM_reckon_8 (by decide +kernel) (by decide +kernel) rfl (by decide) ?_
    exact W.vret hx hb hr (fun t ht hW => ⟨⟨(mcv, mw), rfl, by first | (simp only [pM_reckon]; done) | (simp only [pM_reckon]; rfl) | rfl, by rw [ht]; exact hP, va_K.moved hW.alike hK, hD⟩, hS.F ht⟩) hS.2.2 dXM_reckon_203
  · refine lv_tableIn (x := nI 11) (tgt := 171) hx hb dXM_reckon_8 (by decide +kernel) (by decide +kernel) rfl (by decide) ?_
    refine lv_aload_n hx hb dXM_reckon_171 rfl (lv_at hl 1 rfl) ?_
    refine va_get (D := (dC, dI)) (ci := 3) (v := .ref e9) (C := RXM) (T := TXM) (N := 19) hx hb hts (by decide +kernel) hown hK hP 0 rfl rfl 16 (by decide) (hts (.fieldLink RXM 36 "BatchClassesModel" "now" "[J") (by decide +kernel)) (fun _ h9 => h9) rfl dXM_reckon_172 ?_
    refine lv_iconst (v := 2) hx hb dXM_reckon_175 (by decide) ?_
    refine lv_aload_n hx hb dXM_reckon_176 rfl (lv_at hl 1 rfl) ?_
    refine va_get (D := (dC, dI)) (ci := 3) (v := .ref e9) (C := RXM) (T := TXM) (N := 19) hx hb hts (by decide +kernel) hown hK hP 0 rfl rfl 16 (by decide) (hts (.fieldLink RXM 36 "BatchClassesModel" "now" "[J") (by decide +kernel)) (fun _ h9 => h9) rfl dXM_reckon_177 ?_
    refine lv_iconst (v := 3) hx hb dXM_reckon_180 (by decide) ?_
    refine va_lald hx hb hK hP 1 2 rfl rfl (vp_in_nI (n := 3) (by omega) (by omega)) dXM_reckon_181 ?_
    refine lv_topl (fun z_181 ez_181 => ?_)
    obtain rfl : z_181 = mw 3 := ez_181
    refine va_last hx hb hK hP hD hS 1 2 rfl rfl (vp_in_nI (n := 2) (by omega) (by omega)) dXM_reckon_182 (fun H locs hP hD hS => ?_)
    have hP : va_P (dC, dI) vwC2 [(g0, .inr (3, [.int mth, .int (nI mN), .int (nI mty), .ref e1, .ref e2, .int (nI mcl), .ref e3, .ref e4, .int (nI mrc), .ref e5, .ref e6, .ref e7, .ref e8, .int (nI mfc), .int (nI mlr), .int mld, .ref e9, .long mcv, .int mlo])), (e9, .inl (cJ, 4, .inr (.inl (vp_updL mw 2 (mw 3)))))] H := hP
    have hD : va_D A [(g0, .inr (3, [.int mth, .int (nI mN), .int (nI mty), .ref e1, .ref e2, .int (nI mcl), .ref e3, .ref e4, .int (nI mrc), .ref e5, .ref e6, .ref e7, .ref e8, .int (nI mfc), .int (nI mlr), .int mld, .ref e9, .long mcv, .int mlo])), (e9, .inl (cJ, 4, .inr (.inl (vp_updL mw 2 (mw 3)))))] := hD
    refine lv_goto (tgt := 203) hx hb dXM_reckon_183 (by decide) ?_
    exact W.vret hx hb hr (fun t ht hW => ⟨⟨(mcv, (vp_updL mw 2 (mw 3))), rfl, by first | (simp only [pM_reckon]; done) | (simp only [pM_reckon]; rfl) | rfl, by rw [ht]; exact hP, va_K.moved hW.alike hK, hD⟩, hS.F ht⟩) hS.2.2 dXM_reckon_203
  · refine lv_tableIn (x := nI 12) (tgt := 186) hx hb dXM_reckon_8 (by decide +kernel) (by decide +kernel) rfl (by decide) ?_
    refine lv_aload_n hx hb dXM_reckon_186 rfl (lv_at hl 1 rfl) ?_
    refine va_get (D := (dC, dI)) (ci := 3) (v := .ref e9) (C := RXM) (T := TXM) (N := 19) hx hb hts (by decide +kernel) hown hK hP 0 rfl rfl 16 (by decide) (hts (.fieldLink RXM 36 "BatchClassesModel" "now" "[J") (by decide +kernel)) (fun _ h9 => h9) rfl dXM_reckon_187 ?_
    refine lv_iconst (v := 3) hx hb dXM_reckon_190 (by decide) ?_
    refine lv_lload_n hx hb dXM_reckon_191 rfl (lv_at hl 0 rfl) ?_
    refine lv_aload_n hx hb dXM_reckon_192 rfl (lv_at hl 1 rfl) ?_
    refine va_get (D := (dC, dI)) (ci := 3) (v := .ref e9) (C := RXM) (T := TXM) (N := 19) hx hb hts (by decide +kernel) hown hK hP 0 rfl rfl 16 (by decide) (hts (.fieldLink RXM 36 "BatchClassesModel" "now" "[J") (by decide +kernel)) (fun _ h9 => h9) rfl dXM_reckon_193 ?_
    refine lv_iconst (v := 2) hx hb dXM_reckon_196 (by decide) ?_
    refine va_lald hx hb hK hP 1 2 rfl rfl (vp_in_nI (n := 2) (by omega) (by omega)) dXM_reckon_197 ?_
    refine lv_topl (fun z_197 ez_197 => ?_)
    obtain rfl : z_197 = mw 2 := ez_197
    refine lv_lsub hx hb dXM_reckon_198 ?_
    refine va_last hx hb hK hP hD hS 1 2 rfl rfl (vp_in_nI (n := 3) (by omega) (by omega)) dXM_reckon_199 (fun H locs hP hD hS => ?_)
    have hP : va_P (dC, dI) vwC2 [(g0, .inr (3, [.int mth, .int (nI mN), .int (nI mty), .ref e1, .ref e2, .int (nI mcl), .ref e3, .ref e4, .int (nI mrc), .ref e5, .ref e6, .ref e7, .ref e8, .int (nI mfc), .int (nI mlr), .int mld, .ref e9, .long mcv, .int mlo])), (e9, .inl (cJ, 4, .inr (.inl (vp_updL mw 3 ((mw 0) - (mw 2))))))] H := hP
    have hD : va_D A [(g0, .inr (3, [.int mth, .int (nI mN), .int (nI mty), .ref e1, .ref e2, .int (nI mcl), .ref e3, .ref e4, .int (nI mrc), .ref e5, .ref e6, .ref e7, .ref e8, .int (nI mfc), .int (nI mlr), .int mld, .ref e9, .long mcv, .int mlo])), (e9, .inl (cJ, 4, .inr (.inl (vp_updL mw 3 ((mw 0) - (mw 2))))))] := hD
    refine lv_goto (tgt := 203) hx hb dXM_reckon_200 (by decide) ?_
    exact W.vret hx hb hr (fun t ht hW => ⟨⟨(mcv, (vp_updL mw 3 ((mw 0) - (mw 2)))), rfl, by first | (simp only [pM_reckon]; done) | (simp only [pM_reckon]; rfl) | rfl, by rw [ht]; exact hP, va_K.moved hW.alike hK, hD⟩, hS.F ht⟩) hS.2.2 dXM_reckon_203
  · refine lv_tableOut (x := nI 13) (tgt := 203) hx hb dXM_reckon_8 (by decide +kernel) (by decide) ?_
    exact W.vret hx hb hr (fun t ht hW => ⟨⟨(mcv, mw), rfl, by first | (simp only [pM_reckon]; done) | (simp only [pM_reckon]; rfl) | rfl, by rw [ht]; exact hP, va_K.moved hW.alike hK, hD⟩, hS.F ht⟩) hS.2.2 dXM_reckon_203
  · refine lv_tableOut (x := nI 14) (tgt := 203) hx hb dXM_reckon_8 (by decide +kernel) (by decide) ?_
    exact W.vret hx hb hr (fun t ht hW => ⟨⟨(mcv, mw), rfl, by first | (simp only [pM_reckon]; done) | (simp only [pM_reckon]; rfl) | rfl, by rw [ht]; exact hP, va_K.moved hW.alike hK, hD⟩, hS.F ht⟩) hS.2.2 dXM_reckon_203
  · refine lv_tableOut (x := nI 15) (tgt := 203) hx hb dXM_reckon_8 (by decide +kernel) (by decide) ?_
    exact W.vret hx hb hr (fun t ht hW => ⟨⟨(mcv, mw), rfl, by first | (simp only [pM_reckon]; done) | (simp only [pM_reckon]; rfl) | rfl, by rw [ht]; exact hP, va_K.moved hW.alike hK, hD⟩, hS.F ht⟩) hS.2.2 dXM_reckon_203
set_option maxHeartbeats 4000000 in
set_option maxRecDepth 100000 in
theorem k_XM_init (l : Launch) (dC : Nat → ClassId) (dI : Nat → Nat → Nat) (cI cZ cJ : ClassId) (sz : Nat) (g0 : Nat) (x : Int32) : Met l yXM_init wsXM_init ({ frames := 1, cells := 9, slots := 4494, locals := 12 }) (va_Pc [.ref g0, .int x] (fun U => U.heap.size = sz ∧ va_P (dC, dI) vwC2 [(g0, .inr (3, [.int 0, .int 0, .int 0, .null, .null, .int 0, .null, .null, .int 0, .null, .null, .null, .null, .int 0, .int 0, .int 0, .null, .long 0, .int 0]))] U.heap ∧ va_K (dC, dI) vwC2 [(cI, .int), (cZ, .boolean), (cJ, .long)] U ∧ va_D (fun _ => True) [(g0, .inr (3, [.int 0, .int 0, .int 0, .null, .null, .int 0, .null, .null, .int 0, .null, .null, .null, .null, .int 0, .int 0, .int 0, .null, .long 0, .int 0]))])) (va_Qv (fun (u : Unit) => True) (fun (_ : Unit) (t : State) => ∃ (e1 e2 e3 e4 e5 e6 e7 e8 e9 : Nat), va_P (dC, dI) vwC2 [(g0, .inr (3, [.int 0, .int (nI (stN x)), .int 0, .ref e1, .ref e2, .int 0, .ref e3, .ref e4, .int 0, .ref e5, .ref e6, .ref e7, .ref e8, .int 0, .int 0, .int 0, .ref e9, .long 0, .int 0])), (e1, .inl (cI, 21, .inl (fun _ => 0))), (e2, .inl (cZ, 21, .inl (fun _ => 0))), (e3, .inl (cI, 61, .inl (fun _ => 0))), (e4, .inl (cJ, 61, .inr (.inl (fun _ => 0)))), (e5, .inl (cJ, 244, .inr (.inl (fun _ => 0)))), (e6, .inl (cZ, 61, .inl (fun _ => 0))), (e7, .inl (cZ, 3721, .inl (fun _ => 0))), (e8, .inl (cI, 300, .inl (fun _ => 0))), (e9, .inl (cJ, 4, .inr (.inl (fun _ => 0))))] t.heap ∧ va_K (dC, dI) vwC2 [(cI, .int), (cZ, .boolean), (cJ, .long)] t ∧ va_D (va_A [(g0, .inr (3, [.int 0, .int 0, .int 0, .null, .null, .int 0, .null, .null, .int 0, .null, .null, .null, .null, .int 0, .int 0, .int 0, .null, .long 0, .int 0]))] sz) [(g0, .inr (3, [.int 0, .int (nI (stN x)), .int 0, .ref e1, .ref e2, .int 0, .ref e3, .ref e4, .int 0, .ref e5, .ref e6, .ref e7, .ref e8, .int 0, .int 0, .int 0, .ref e9, .long 0, .int 0])), (e1, .inl (cI, 21, .inl (fun _ => 0))), (e2, .inl (cZ, 21, .inl (fun _ => 0))), (e3, .inl (cI, 61, .inl (fun _ => 0))), (e4, .inl (cJ, 61, .inr (.inl (fun _ => 0)))), (e5, .inl (cJ, 244, .inr (.inl (fun _ => 0)))), (e6, .inl (cZ, 61, .inl (fun _ => 0))), (e7, .inl (cZ, 3721, .inl (fun _ => 0))), (e8, .inl (cI, 300, .inl (fun _ => 0))), (e9, .inl (cJ, 4, .inr (.inl (fun _ => 0))))]) (va_A [(g0, .inr (3, [.int 0, .int 0, .int 0, .null, .null, .int 0, .null, .null, .int 0, .null, .null, .null, .null, .int 0, .int 0, .int 0, .null, .long 0, .int 0]))] sz)) 9 4494 (va_A [(g0, .inr (3, [.int 0, .int 0, .int 0, .null, .null, .int 0, .null, .null, .int 0, .null, .null, .null, .null, .int 0, .int 0, .int 0, .null, .long 0, .int 0]))] sz) := by
  refine Met.ofW (cc := cXM_init) (maxL := 2) (ret := none) (by decide) rfl ?_
  intro p e s m args below meth c s₁ B hml hv
  obtain ⟨rfl, hsz, hP, hK, hD0⟩ := hv
  have hx := B.exec
  have hb := B.bytes
  have hr := B.returns
  have hts := atoms_spec (ws := wsXM_init) B.pre
  have hown : s.vm.findClass RXM = some m.cls := findClass_of_methodNamed B.named
  have hlocks := B.notSynchronized
  have hin : meth.name = "<init>" := (name_of_methodNamed B.named B.method).1
  subst hsz
  have hD := hD0.self (sz := s.heap.size)
  generalize hAe : va_A [(g0, .inr (3, [.int 0, .int 0, .int 0, .null, .null, .int 0, .null, .null, .int 0, .null, .null, .null, .null, .int 0, .int 0, .int 0, .null, .long 0, .int 0]))] s.heap.size = A at hD ⊢
  have hA : ∀ q : Nat, s.heap.size ≤ q → A q := fun q h => by rw [← hAe]; exact Or.inr h
  have hS : va_S A s.heap s.heap [] := va_S.rf
  have hP : va_P (dC, dI) vwC2 [(g0, .inr (3, [.int 0, .int 0, .int 0, .null, .null, .int 0, .null, .null, .int 0, .null, .null, .null, .null, .int 0, .int 0, .int 0, .null, .long 0, .int 0]))] s.heap := hP
  have hl := lv_entry ([.ref g0, .int x]) (n := 2) (Nat.le_of_ble_eq_true rfl)
  rw [lg_entry_eq]
  generalize (lg_sl ([.ref g0, .int x]) ++ List.replicate (2 - (lg_sl ([.ref g0, .int x])).length) Slot.unset).toArray = ls at hl ⊢
  have hl : lv_has ls 2 [(0, .ref g0), (1, .int x)] := hl
  refine lv_aload_n hx hb dXM_init_0 rfl (lv_at hl 0 rfl) ?_
  refine W.objInit hx hb hown (hts (.methodLink RXM 1 objectInit) (by decide +kernel)) (hts (.instanceMethod objectInit) (by decide +kernel)) (hts _ (List.mem_of_getElem? (i := 3) rfl)) rfl (by rw [hml]; exact hl.1) rfl dXM_init_1 (Nat.le_of_ble_eq_true rfl) (Nat.le_of_ble_eq_true rfl) ?_
  refine W.eq (g2 := F0 m 4 ls []) rfl ?_
  refine lv_aload_n hx hb dXM_init_4 rfl (lv_at hl 0 rfl) ?_
  refine lv_bipush (v := 21) hx hb dXM_init_5 (by decide) ?_
  refine hn_newa (atype := .int) (cA0 := cI) (ty := .int) (a0 := (21, .inl (fun _ => 0))) (t0 := 0) hx hb (hts (.arrayClass .int) (by decide +kernel)) rfl (fun _ h => h) hK hP hD hS hA rfl (fun cA => hn_i cA 21) (by decide) (N' := 21) (by decide) (by decide) (Nat.le_of_ble_eq_true rfl) (Nat.le_of_ble_eq_true rfl) dXM_init_7 (fun q7 H hP hD hS => ?_)
  have hP : va_P (dC, dI) vwC2 [(g0, .inr (3, [.int 0, .int 0, .int 0, .null, .null, .int 0, .null, .null, .int 0, .null, .null, .null, .null, .int 0, .int 0, .int 0, .null, .long 0, .int 0])), (q7, .inl (cI, 21, .inl (fun _ => 0)))] H := hP
  have hD : va_D A [(g0, .inr (3, [.int 0, .int 0, .int 0, .null, .null, .int 0, .null, .null, .int 0, .null, .null, .null, .null, .int 0, .int 0, .int 0, .null, .long 0, .int 0])), (q7, .inl (cI, 21, .inl (fun _ => 0)))] := hD
  refine W.widen (k := 1) (n := 21) (by omega) (by omega) ?_
  refine va_putF (D := (dC, dI)) (ci := 3) (v := .ref q7) (ty := .array .int) (C := RXM) (T := TXM) (N := 19) hx hb hts (by decide +kernel) tyXM tyXM_ok nmXM hown hK hP hD hS 0 rfl rfl 3 (by decide) (hts (.fieldLink RXM 7 "BatchClassesModel" "does" "[I") (by decide +kernel)) (fun _ h9 => h9) rfl hin rfl (by decide +kernel) rfl rfl (Nat.le_of_ble_eq_true rfl) dXM_init_9 (fun H locs hP hD hS => ?_)
  have hP : va_P (dC, dI) vwC2 [(g0, .inr (3, [.int 0, .int 0, .int 0, .ref q7, .null, .int 0, .null, .null, .int 0, .null, .null, .null, .null, .int 0, .int 0, .int 0, .null, .long 0, .int 0])), (q7, .inl (cI, 21, .inl (fun _ => 0)))] H := hP
  have hD : va_D A [(g0, .inr (3, [.int 0, .int 0, .int 0, .ref q7, .null, .int 0, .null, .null, .int 0, .null, .null, .null, .null, .int 0, .int 0, .int 0, .null, .long 0, .int 0])), (q7, .inl (cI, 21, .inl (fun _ => 0)))] := hD
  refine lv_aload_n hx hb dXM_init_12 rfl (lv_at hl 0 rfl) ?_
  refine lv_bipush (v := 21) hx hb dXM_init_13 (by decide) ?_
  refine hn_newa (atype := .boolean) (cA0 := cZ) (ty := .boolean) (a0 := (21, .inl (fun _ => 0))) (t0 := 1) hx hb (hts (.arrayClass .boolean) (by decide +kernel)) rfl (fun _ h => h) hK hP hD hS hA rfl (fun cA => hn_z cA 21) (by decide) (N' := 21) (by decide) (by decide) (Nat.le_of_ble_eq_true rfl) (Nat.le_of_ble_eq_true rfl) dXM_init_15 (fun q15 H hP hD hS => ?_)
  have hP : va_P (dC, dI) vwC2 [(g0, .inr (3, [.int 0, .int 0, .int 0, .ref q7, .null, .int 0, .null, .null, .int 0, .null, .null, .null, .null, .int 0, .int 0, .int 0, .null, .long 0, .int 0])), (q7, .inl (cI, 21, .inl (fun _ => 0))), (q15, .inl (cZ, 21, .inl (fun _ => 0)))] H := hP
  have hD : va_D A [(g0, .inr (3, [.int 0, .int 0, .int 0, .ref q7, .null, .int 0, .null, .null, .int 0, .null, .null, .null, .null, .int 0, .int 0, .int 0, .null, .long 0, .int 0])), (q7, .inl (cI, 21, .inl (fun _ => 0))), (q15, .inl (cZ, 21, .inl (fun _ => 0)))] := hD
  refine W.widen (k := 2) (n := 42) (by omega) (by omega) ?_
  refine va_putF (D := (dC, dI)) (ci := 3) (v := .ref q15) (ty := .array .boolean) (C := RXM) (T := TXM) (N := 19) hx hb hts (by decide +kernel) tyXM tyXM_ok nmXM hown hK hP hD hS 0 rfl rfl 4 (by decide) (hts (.fieldLink RXM 13 "BatchClassesModel" "startFails" "[Z") (by decide +kernel)) (fun _ h9 => h9) rfl hin rfl (by decide +kernel) rfl rfl (Nat.le_of_ble_eq_true rfl) dXM_init_17 (fun H locs hP hD hS => ?_)
  have hP : va_P (dC, dI) vwC2 [(g0, .inr (3, [.int 0, .int 0, .int 0, .ref q7, .ref q15, .int 0, .null, .null, .int 0, .null, .null, .null, .null, .int 0, .int 0, .int 0, .null, .long 0, .int 0])), (q7, .inl (cI, 21, .inl (fun _ => 0))), (q15, .inl (cZ, 21, .inl (fun _ => 0)))] H := hP
  have hD : va_D A [(g0, .inr (3, [.int 0, .int 0, .int 0, .ref q7, .ref q15, .int 0, .null, .null, .int 0, .null, .null, .null, .null, .int 0, .int 0, .int 0, .null, .long 0, .int 0])), (q7, .inl (cI, 21, .inl (fun _ => 0))), (q15, .inl (cZ, 21, .inl (fun _ => 0)))] := hD
  refine lv_aload_n hx hb dXM_init_20 rfl (lv_at hl 0 rfl) ?_
  refine lv_bipush (v := 61) hx hb dXM_init_21 (by decide) ?_
  refine hn_newa (atype := .int) (cA0 := cI) (ty := .int) (a0 := (61, .inl (fun _ => 0))) (t0 := 0) hx hb (hts (.arrayClass .int) (by decide +kernel)) rfl (fun _ h => h) hK hP hD hS hA rfl (fun cA => hn_i cA 61) (by decide) (N' := 61) (by decide) (by decide) (Nat.le_of_ble_eq_true rfl) (Nat.le_of_ble_eq_true rfl) dXM_init_23 (fun q23 H hP hD hS => ?_)
  have hP : va_P (dC, dI) vwC2 [(g0, .inr (3, [.int 0, .int 0, .int 0, .ref q7, .ref q15, .int 0, .null, .null, .int 0, .null, .null, .null, .null, .int 0, .int 0, .int 0, .null, .long 0, .int 0])), (q7, .inl (cI, 21, .inl (fun _ => 0))), (q15, .inl (cZ, 21, .inl (fun _ => 0))), (q23, .inl (cI, 61, .inl (fun _ => 0)))] H := hP
  have hD : va_D A [(g0, .inr (3, [.int 0, .int 0, .int 0, .ref q7, .ref q15, .int 0, .null, .null, .int 0, .null, .null, .null, .null, .int 0, .int 0, .int 0, .null, .long 0, .int 0])), (q7, .inl (cI, 21, .inl (fun _ => 0))), (q15, .inl (cZ, 21, .inl (fun _ => 0))), (q23, .inl (cI, 61, .inl (fun _ => 0)))] := hD
  refine W.widen (k := 3) (n := 103) (by omega) (by omega) ?_
  refine va_putF (D := (dC, dI)) (ci := 3) (v := .ref q23) (ty := .array .int) (C := RXM) (T := TXM) (N := 19) hx hb hts (by decide +kernel) tyXM tyXM_ok nmXM hown hK hP hD hS 0 rfl rfl 6 (by decide) (hts (.fieldLink RXM 17 "BatchClassesModel" "typeOf" "[I") (by decide +kernel)) (fun _ h9 => h9) rfl hin rfl (by decide +kernel) rfl rfl (Nat.le_of_ble_eq_true rfl) dXM_init_25 (fun H locs hP hD hS => ?_)
  have hP : va_P (dC, dI) vwC2 [(g0, .inr (3, [.int 0, .int 0, .int 0, .ref q7, .ref q15, .int 0, .ref q23, .null, .int 0, .null, .null, .null, .null, .int 0, .int 0, .int 0, .null, .long 0, .int 0])), (q7, .inl (cI, 21, .inl (fun _ => 0))), (q15, .inl (cZ, 21, .inl (fun _ => 0))), (q23, .inl (cI, 61, .inl (fun _ => 0)))] H := hP
  have hD : va_D A [(g0, .inr (3, [.int 0, .int 0, .int 0, .ref q7, .ref q15, .int 0, .ref q23, .null, .int 0, .null, .null, .null, .null, .int 0, .int 0, .int 0, .null, .long 0, .int 0])), (q7, .inl (cI, 21, .inl (fun _ => 0))), (q15, .inl (cZ, 21, .inl (fun _ => 0))), (q23, .inl (cI, 61, .inl (fun _ => 0)))] := hD
  refine lv_aload_n hx hb dXM_init_28 rfl (lv_at hl 0 rfl) ?_
  refine lv_bipush (v := 61) hx hb dXM_init_29 (by decide) ?_
  refine hn_newa (atype := .long) (cA0 := cJ) (ty := .long) (a0 := (61, .inr (.inl (fun _ => 0)))) (t0 := 2) hx hb (hts (.arrayClass .long) (by decide +kernel)) rfl (fun _ h => h) hK hP hD hS hA rfl (fun cA => hn_l cA 61) (by decide) (N' := 61) (by decide) (by decide) (Nat.le_of_ble_eq_true rfl) (Nat.le_of_ble_eq_true rfl) dXM_init_31 (fun q31 H hP hD hS => ?_)
  have hP : va_P (dC, dI) vwC2 [(g0, .inr (3, [.int 0, .int 0, .int 0, .ref q7, .ref q15, .int 0, .ref q23, .null, .int 0, .null, .null, .null, .null, .int 0, .int 0, .int 0, .null, .long 0, .int 0])), (q7, .inl (cI, 21, .inl (fun _ => 0))), (q15, .inl (cZ, 21, .inl (fun _ => 0))), (q23, .inl (cI, 61, .inl (fun _ => 0))), (q31, .inl (cJ, 61, .inr (.inl (fun _ => 0))))] H := hP
  have hD : va_D A [(g0, .inr (3, [.int 0, .int 0, .int 0, .ref q7, .ref q15, .int 0, .ref q23, .null, .int 0, .null, .null, .null, .null, .int 0, .int 0, .int 0, .null, .long 0, .int 0])), (q7, .inl (cI, 21, .inl (fun _ => 0))), (q15, .inl (cZ, 21, .inl (fun _ => 0))), (q23, .inl (cI, 61, .inl (fun _ => 0))), (q31, .inl (cJ, 61, .inr (.inl (fun _ => 0))))] := hD
  refine W.widen (k := 4) (n := 164) (by omega) (by omega) ?_
  refine va_putF (D := (dC, dI)) (ci := 3) (v := .ref q31) (ty := .array .long) (C := RXM) (T := TXM) (N := 19) hx hb hts (by decide +kernel) tyXM tyXM_ok nmXM hown hK hP hD hS 0 rfl rfl 7 (by decide) (hts (.fieldLink RXM 20 "BatchClassesModel" "cells" "[J") (by decide +kernel)) (fun _ h9 => h9) rfl hin rfl (by decide +kernel) rfl rfl (Nat.le_of_ble_eq_true rfl) dXM_init_33 (fun H locs hP hD hS => ?_)
  have hP : va_P (dC, dI) vwC2 [(g0, .inr (3, [.int 0, .int 0, .int 0, .ref q7, .ref q15, .int 0, .ref q23, .ref q31, .int 0, .null, .null, .null, .null, .int 0, .int 0, .int 0, .null, .long 0, .int 0])), (q7, .inl (cI, 21, .inl (fun _ => 0))), (q15, .inl (cZ, 21, .inl (fun _ => 0))), (q23, .inl (cI, 61, .inl (fun _ => 0))), (q31, .inl (cJ, 61, .inr (.inl (fun _ => 0))))] H := hP
  have hD : va_D A [(g0, .inr (3, [.int 0, .int 0, .int 0, .ref q7, .ref q15, .int 0, .ref q23, .ref q31, .int 0, .null, .null, .null, .null, .int 0, .int 0, .int 0, .null, .long 0, .int 0])), (q7, .inl (cI, 21, .inl (fun _ => 0))), (q15, .inl (cZ, 21, .inl (fun _ => 0))), (q23, .inl (cI, 61, .inl (fun _ => 0))), (q31, .inl (cJ, 61, .inr (.inl (fun _ => 0))))] := hD
  refine lv_aload_n hx hb dXM_init_36 rfl (lv_at hl 0 rfl) ?_
  refine lv_sipush (v := 244) hx hb dXM_init_37 (by decide) ?_
  refine hn_newa (atype := .long) (cA0 := cJ) (ty := .long) (a0 := (244, .inr (.inl (fun _ => 0)))) (t0 := 2) hx hb (hts (.arrayClass .long) (by decide +kernel)) rfl (fun _ h => h) hK hP hD hS hA rfl (fun cA => hn_l cA 244) (by decide) (N' := 244) (by decide) (by decide) (Nat.le_of_ble_eq_true rfl) (Nat.le_of_ble_eq_true rfl) dXM_init_40 (fun q40 H hP hD hS => ?_)
  have hP : va_P (dC, dI) vwC2 [(g0, .inr (3, [.int 0, .int 0, .int 0, .ref q7, .ref q15, .int 0, .ref q23, .ref q31, .int 0, .null, .null, .null, .null, .int 0, .int 0, .int 0, .null, .long 0, .int 0])), (q7, .inl (cI, 21, .inl (fun _ => 0))), (q15, .inl (cZ, 21, .inl (fun _ => 0))), (q23, .inl (cI, 61, .inl (fun _ => 0))), (q31, .inl (cJ, 61, .inr (.inl (fun _ => 0)))), (q40, .inl (cJ, 244, .inr (.inl (fun _ => 0))))] H := hP
  have hD : va_D A [(g0, .inr (3, [.int 0, .int 0, .int 0, .ref q7, .ref q15, .int 0, .ref q23, .ref q31, .int 0, .null, .null, .null, .null, .int 0, .int 0, .int 0, .null, .long 0, .int 0])), (q7, .inl (cI, 21, .inl (fun _ => 0))), (q15, .inl (cZ, 21, .inl (fun _ => 0))), (q23, .inl (cI, 61, .inl (fun _ => 0))), (q31, .inl (cJ, 61, .inr (.inl (fun _ => 0)))), (q40, .inl (cJ, 244, .inr (.inl (fun _ => 0))))] := hD
  refine W.widen (k := 5) (n := 408) (by omega) (by omega) ?_
  refine va_putF (D := (dC, dI)) (ci := 3) (v := .ref q40) (ty := .array .long) (C := RXM) (T := TXM) (N := 19) hx hb hts (by decide +kernel) tyXM tyXM_ok nmXM hown hK hP hD hS 0 rfl rfl 9 (by decide) (hts (.fieldLink RXM 24 "BatchClassesModel" "fields" "[J") (by decide +kernel)) (fun _ h9 => h9) rfl hin rfl (by decide +kernel) rfl rfl (Nat.le_of_ble_eq_true rfl) dXM_init_42 (fun H locs hP hD hS => ?_)
  have hP : va_P (dC, dI) vwC2 [(g0, .inr (3, [.int 0, .int 0, .int 0, .ref q7, .ref q15, .int 0, .ref q23, .ref q31, .int 0, .ref q40, .null, .null, .null, .int 0, .int 0, .int 0, .null, .long 0, .int 0])), (q7, .inl (cI, 21, .inl (fun _ => 0))), (q15, .inl (cZ, 21, .inl (fun _ => 0))), (q23, .inl (cI, 61, .inl (fun _ => 0))), (q31, .inl (cJ, 61, .inr (.inl (fun _ => 0)))), (q40, .inl (cJ, 244, .inr (.inl (fun _ => 0))))] H := hP
  have hD : va_D A [(g0, .inr (3, [.int 0, .int 0, .int 0, .ref q7, .ref q15, .int 0, .ref q23, .ref q31, .int 0, .ref q40, .null, .null, .null, .int 0, .int 0, .int 0, .null, .long 0, .int 0])), (q7, .inl (cI, 21, .inl (fun _ => 0))), (q15, .inl (cZ, 21, .inl (fun _ => 0))), (q23, .inl (cI, 61, .inl (fun _ => 0))), (q31, .inl (cJ, 61, .inr (.inl (fun _ => 0)))), (q40, .inl (cJ, 244, .inr (.inl (fun _ => 0))))] := hD
  refine lv_aload_n hx hb dXM_init_45 rfl (lv_at hl 0 rfl) ?_
  refine lv_bipush (v := 61) hx hb dXM_init_46 (by decide) ?_
  refine hn_newa (atype := .boolean) (cA0 := cZ) (ty := .boolean) (a0 := (61, .inl (fun _ => 0))) (t0 := 1) hx hb (hts (.arrayClass .boolean) (by decide +kernel)) rfl (fun _ h => h) hK hP hD hS hA rfl (fun cA => hn_z cA 61) (by decide) (N' := 61) (by decide) (by decide) (Nat.le_of_ble_eq_true rfl) (Nat.le_of_ble_eq_true rfl) dXM_init_48 (fun q48 H hP hD hS => ?_)
  have hP : va_P (dC, dI) vwC2 [(g0, .inr (3, [.int 0, .int 0, .int 0, .ref q7, .ref q15, .int 0, .ref q23, .ref q31, .int 0, .ref q40, .null, .null, .null, .int 0, .int 0, .int 0, .null, .long 0, .int 0])), (q7, .inl (cI, 21, .inl (fun _ => 0))), (q15, .inl (cZ, 21, .inl (fun _ => 0))), (q23, .inl (cI, 61, .inl (fun _ => 0))), (q31, .inl (cJ, 61, .inr (.inl (fun _ => 0)))), (q40, .inl (cJ, 244, .inr (.inl (fun _ => 0)))), (q48, .inl (cZ, 61, .inl (fun _ => 0)))] H := hP
  have hD : va_D A [(g0, .inr (3, [.int 0, .int 0, .int 0, .ref q7, .ref q15, .int 0, .ref q23, .ref q31, .int 0, .ref q40, .null, .null, .null, .int 0, .int 0, .int 0, .null, .long 0, .int 0])), (q7, .inl (cI, 21, .inl (fun _ => 0))), (q15, .inl (cZ, 21, .inl (fun _ => 0))), (q23, .inl (cI, 61, .inl (fun _ => 0))), (q31, .inl (cJ, 61, .inr (.inl (fun _ => 0)))), (q40, .inl (cJ, 244, .inr (.inl (fun _ => 0)))), (q48, .inl (cZ, 61, .inl (fun _ => 0)))] := hD
  refine W.widen (k := 6) (n := 469) (by omega) (by omega) ?_
  refine va_putF (D := (dC, dI)) (ci := 3) (v := .ref q48) (ty := .array .boolean) (C := RXM) (T := TXM) (N := 19) hx hb hts (by decide +kernel) tyXM tyXM_ok nmXM hown hK hP hD hS 0 rfl rfl 10 (by decide) (hts (.fieldLink RXM 27 "BatchClassesModel" "locked" "[Z") (by decide +kernel)) (fun _ h9 => h9) rfl hin rfl (by decide +kernel) rfl rfl (Nat.le_of_ble_eq_true rfl) dXM_init_50 (fun H locs hP hD hS => ?_)
  have hP : va_P (dC, dI) vwC2 [(g0, .inr (3, [.int 0, .int 0, .int 0, .ref q7, .ref q15, .int 0, .ref q23, .ref q31, .int 0, .ref q40, .ref q48, .null, .null, .int 0, .int 0, .int 0, .null, .long 0, .int 0])), (q7, .inl (cI, 21, .inl (fun _ => 0))), (q15, .inl (cZ, 21, .inl (fun _ => 0))), (q23, .inl (cI, 61, .inl (fun _ => 0))), (q31, .inl (cJ, 61, .inr (.inl (fun _ => 0)))), (q40, .inl (cJ, 244, .inr (.inl (fun _ => 0)))), (q48, .inl (cZ, 61, .inl (fun _ => 0)))] H := hP
  have hD : va_D A [(g0, .inr (3, [.int 0, .int 0, .int 0, .ref q7, .ref q15, .int 0, .ref q23, .ref q31, .int 0, .ref q40, .ref q48, .null, .null, .int 0, .int 0, .int 0, .null, .long 0, .int 0])), (q7, .inl (cI, 21, .inl (fun _ => 0))), (q15, .inl (cZ, 21, .inl (fun _ => 0))), (q23, .inl (cI, 61, .inl (fun _ => 0))), (q31, .inl (cJ, 61, .inr (.inl (fun _ => 0)))), (q40, .inl (cJ, 244, .inr (.inl (fun _ => 0)))), (q48, .inl (cZ, 61, .inl (fun _ => 0)))] := hD
  refine lv_aload_n hx hb dXM_init_53 rfl (lv_at hl 0 rfl) ?_
  refine lv_sipush (v := 3721) hx hb dXM_init_54 (by decide) ?_
  refine hn_newa (atype := .boolean) (cA0 := cZ) (ty := .boolean) (a0 := (3721, .inl (fun _ => 0))) (t0 := 1) hx hb (hts (.arrayClass .boolean) (by decide +kernel)) rfl (fun _ h => h) hK hP hD hS hA rfl (fun cA => hn_z cA 3721) (by decide) (N' := 3721) (by decide) (by decide) (Nat.le_of_ble_eq_true rfl) (Nat.le_of_ble_eq_true rfl) dXM_init_57 (fun q57 H hP hD hS => ?_)
  have hP : va_P (dC, dI) vwC2 [(g0, .inr (3, [.int 0, .int 0, .int 0, .ref q7, .ref q15, .int 0, .ref q23, .ref q31, .int 0, .ref q40, .ref q48, .null, .null, .int 0, .int 0, .int 0, .null, .long 0, .int 0])), (q7, .inl (cI, 21, .inl (fun _ => 0))), (q15, .inl (cZ, 21, .inl (fun _ => 0))), (q23, .inl (cI, 61, .inl (fun _ => 0))), (q31, .inl (cJ, 61, .inr (.inl (fun _ => 0)))), (q40, .inl (cJ, 244, .inr (.inl (fun _ => 0)))), (q48, .inl (cZ, 61, .inl (fun _ => 0))), (q57, .inl (cZ, 3721, .inl (fun _ => 0)))] H := hP
  have hD : va_D A [(g0, .inr (3, [.int 0, .int 0, .int 0, .ref q7, .ref q15, .int 0, .ref q23, .ref q31, .int 0, .ref q40, .ref q48, .null, .null, .int 0, .int 0, .int 0, .null, .long 0, .int 0])), (q7, .inl (cI, 21, .inl (fun _ => 0))), (q15, .inl (cZ, 21, .inl (fun _ => 0))), (q23, .inl (cI, 61, .inl (fun _ => 0))), (q31, .inl (cJ, 61, .inr (.inl (fun _ => 0)))), (q40, .inl (cJ, 244, .inr (.inl (fun _ => 0)))), (q48, .inl (cZ, 61, .inl (fun _ => 0))), (q57, .inl (cZ, 3721, .inl (fun _ => 0)))] := hD
  refine W.widen (k := 7) (n := 4190) (by omega) (by omega) ?_
  refine va_putF (D := (dC, dI)) (ci := 3) (v := .ref q57) (ty := .array .boolean) (C := RXM) (T := TXM) (N := 19) hx hb hts (by decide +kernel) tyXM tyXM_ok nmXM hown hK hP hD hS 0 rfl rfl 11 (by decide) (hts (.fieldLink RXM 30 "BatchClassesModel" "done" "[Z") (by decide +kernel)) (fun _ h9 => h9) rfl hin rfl (by decide +kernel) rfl rfl (Nat.le_of_ble_eq_true rfl) dXM_init_59 (fun H locs hP hD hS => ?_)
  have hP : va_P (dC, dI) vwC2 [(g0, .inr (3, [.int 0, .int 0, .int 0, .ref q7, .ref q15, .int 0, .ref q23, .ref q31, .int 0, .ref q40, .ref q48, .ref q57, .null, .int 0, .int 0, .int 0, .null, .long 0, .int 0])), (q7, .inl (cI, 21, .inl (fun _ => 0))), (q15, .inl (cZ, 21, .inl (fun _ => 0))), (q23, .inl (cI, 61, .inl (fun _ => 0))), (q31, .inl (cJ, 61, .inr (.inl (fun _ => 0)))), (q40, .inl (cJ, 244, .inr (.inl (fun _ => 0)))), (q48, .inl (cZ, 61, .inl (fun _ => 0))), (q57, .inl (cZ, 3721, .inl (fun _ => 0)))] H := hP
  have hD : va_D A [(g0, .inr (3, [.int 0, .int 0, .int 0, .ref q7, .ref q15, .int 0, .ref q23, .ref q31, .int 0, .ref q40, .ref q48, .ref q57, .null, .int 0, .int 0, .int 0, .null, .long 0, .int 0])), (q7, .inl (cI, 21, .inl (fun _ => 0))), (q15, .inl (cZ, 21, .inl (fun _ => 0))), (q23, .inl (cI, 61, .inl (fun _ => 0))), (q31, .inl (cJ, 61, .inr (.inl (fun _ => 0)))), (q40, .inl (cJ, 244, .inr (.inl (fun _ => 0)))), (q48, .inl (cZ, 61, .inl (fun _ => 0))), (q57, .inl (cZ, 3721, .inl (fun _ => 0)))] := hD
  refine lv_aload_n hx hb dXM_init_62 rfl (lv_at hl 0 rfl) ?_
  refine lv_sipush (v := 300) hx hb dXM_init_63 (by decide) ?_
  refine hn_newa (atype := .int) (cA0 := cI) (ty := .int) (a0 := (300, .inl (fun _ => 0))) (t0 := 0) hx hb (hts (.arrayClass .int) (by decide +kernel)) rfl (fun _ h => h) hK hP hD hS hA rfl (fun cA => hn_i cA 300) (by decide) (N' := 300) (by decide) (by decide) (Nat.le_of_ble_eq_true rfl) (Nat.le_of_ble_eq_true rfl) dXM_init_66 (fun q66 H hP hD hS => ?_)
  have hP : va_P (dC, dI) vwC2 [(g0, .inr (3, [.int 0, .int 0, .int 0, .ref q7, .ref q15, .int 0, .ref q23, .ref q31, .int 0, .ref q40, .ref q48, .ref q57, .null, .int 0, .int 0, .int 0, .null, .long 0, .int 0])), (q7, .inl (cI, 21, .inl (fun _ => 0))), (q15, .inl (cZ, 21, .inl (fun _ => 0))), (q23, .inl (cI, 61, .inl (fun _ => 0))), (q31, .inl (cJ, 61, .inr (.inl (fun _ => 0)))), (q40, .inl (cJ, 244, .inr (.inl (fun _ => 0)))), (q48, .inl (cZ, 61, .inl (fun _ => 0))), (q57, .inl (cZ, 3721, .inl (fun _ => 0))), (q66, .inl (cI, 300, .inl (fun _ => 0)))] H := hP
  have hD : va_D A [(g0, .inr (3, [.int 0, .int 0, .int 0, .ref q7, .ref q15, .int 0, .ref q23, .ref q31, .int 0, .ref q40, .ref q48, .ref q57, .null, .int 0, .int 0, .int 0, .null, .long 0, .int 0])), (q7, .inl (cI, 21, .inl (fun _ => 0))), (q15, .inl (cZ, 21, .inl (fun _ => 0))), (q23, .inl (cI, 61, .inl (fun _ => 0))), (q31, .inl (cJ, 61, .inr (.inl (fun _ => 0)))), (q40, .inl (cJ, 244, .inr (.inl (fun _ => 0)))), (q48, .inl (cZ, 61, .inl (fun _ => 0))), (q57, .inl (cZ, 3721, .inl (fun _ => 0))), (q66, .inl (cI, 300, .inl (fun _ => 0)))] := hD
  refine W.widen (k := 8) (n := 4490) (by omega) (by omega) ?_
  refine va_putF (D := (dC, dI)) (ci := 3) (v := .ref q66) (ty := .array .int) (C := RXM) (T := TXM) (N := 19) hx hb hts (by decide +kernel) tyXM tyXM_ok nmXM hown hK hP hD hS 0 rfl rfl 12 (by decide) (hts (.fieldLink RXM 33 "BatchClassesModel" "failures" "[I") (by decide +kernel)) (fun _ h9 => h9) rfl hin rfl (by decide +kernel) rfl rfl (Nat.le_of_ble_eq_true rfl) dXM_init_68 (fun H locs hP hD hS => ?_)
  have hP : va_P (dC, dI) vwC2 [(g0, .inr (3, [.int 0, .int 0, .int 0, .ref q7, .ref q15, .int 0, .ref q23, .ref q31, .int 0, .ref q40, .ref q48, .ref q57, .ref q66, .int 0, .int 0, .int 0, .null, .long 0, .int 0])), (q7, .inl (cI, 21, .inl (fun _ => 0))), (q15, .inl (cZ, 21, .inl (fun _ => 0))), (q23, .inl (cI, 61, .inl (fun _ => 0))), (q31, .inl (cJ, 61, .inr (.inl (fun _ => 0)))), (q40, .inl (cJ, 244, .inr (.inl (fun _ => 0)))), (q48, .inl (cZ, 61, .inl (fun _ => 0))), (q57, .inl (cZ, 3721, .inl (fun _ => 0))), (q66, .inl (cI, 300, .inl (fun _ => 0)))] H := hP
  have hD : va_D A [(g0, .inr (3, [.int 0, .int 0, .int 0, .ref q7, .ref q15, .int 0, .ref q23, .ref q31, .int 0, .ref q40, .ref q48, .ref q57, .ref q66, .int 0, .int 0, .int 0, .null, .long 0, .int 0])), (q7, .inl (cI, 21, .inl (fun _ => 0))), (q15, .inl (cZ, 21, .inl (fun _ => 0))), (q23, .inl (cI, 61, .inl (fun _ => 0))), (q31, .inl (cJ, 61, .inr (.inl (fun _ => 0)))), (q40, .inl (cJ, 244, .inr (.inl (fun _ => 0)))), (q48, .inl (cZ, 61, .inl (fun _ => 0))), (q57, .inl (cZ, 3721, .inl (fun _ => 0))), (q66, .inl (cI, 300, .inl (fun _ => 0)))] := hD
  refine lv_aload_n hx hb dXM_init_71 rfl (lv_at hl 0 rfl) ?_
  refine lv_iconst (v := 4) hx hb dXM_init_72 (by decide) ?_
  refine hn_newa (atype := .long) (cA0 := cJ) (ty := .long) (a0 := (4, .inr (.inl (fun _ => 0)))) (t0 := 2) hx hb (hts (.arrayClass .long) (by decide +kernel)) rfl (fun _ h => h) hK hP hD hS hA rfl (fun cA => hn_l cA 4) (by decide) (N' := 4) (by decide) (by decide) (Nat.le_of_ble_eq_true rfl) (Nat.le_of_ble_eq_true rfl) dXM_init_73 (fun q73 H hP hD hS => ?_)
  have hP : va_P (dC, dI) vwC2 [(g0, .inr (3, [.int 0, .int 0, .int 0, .ref q7, .ref q15, .int 0, .ref q23, .ref q31, .int 0, .ref q40, .ref q48, .ref q57, .ref q66, .int 0, .int 0, .int 0, .null, .long 0, .int 0])), (q7, .inl (cI, 21, .inl (fun _ => 0))), (q15, .inl (cZ, 21, .inl (fun _ => 0))), (q23, .inl (cI, 61, .inl (fun _ => 0))), (q31, .inl (cJ, 61, .inr (.inl (fun _ => 0)))), (q40, .inl (cJ, 244, .inr (.inl (fun _ => 0)))), (q48, .inl (cZ, 61, .inl (fun _ => 0))), (q57, .inl (cZ, 3721, .inl (fun _ => 0))), (q66, .inl (cI, 300, .inl (fun _ => 0))), (q73, .inl (cJ, 4, .inr (.inl (fun _ => 0))))] H := hP
  have hD : va_D A [(g0, .inr (3, [.int 0, .int 0, .int 0, .ref q7, .ref q15, .int 0, .ref q23, .ref q31, .int 0, .ref q40, .ref q48, .ref q57, .ref q66, .int 0, .int 0, .int 0, .null, .long 0, .int 0])), (q7, .inl (cI, 21, .inl (fun _ => 0))), (q15, .inl (cZ, 21, .inl (fun _ => 0))), (q23, .inl (cI, 61, .inl (fun _ => 0))), (q31, .inl (cJ, 61, .inr (.inl (fun _ => 0)))), (q40, .inl (cJ, 244, .inr (.inl (fun _ => 0)))), (q48, .inl (cZ, 61, .inl (fun _ => 0))), (q57, .inl (cZ, 3721, .inl (fun _ => 0))), (q66, .inl (cI, 300, .inl (fun _ => 0))), (q73, .inl (cJ, 4, .inr (.inl (fun _ => 0))))] := hD
  refine W.widen (k := 9) (n := 4494) (by omega) (by omega) ?_
  refine va_putF (D := (dC, dI)) (ci := 3) (v := .ref q73) (ty := .array .long) (C := RXM) (T := TXM) (N := 19) hx hb hts (by decide +kernel) tyXM tyXM_ok nmXM hown hK hP hD hS 0 rfl rfl 16 (by decide) (hts (.fieldLink RXM 36 "BatchClassesModel" "now" "[J") (by decide +kernel)) (fun _ h9 => h9) rfl hin rfl (by decide +kernel) rfl rfl (Nat.le_of_ble_eq_true rfl) dXM_init_75 (fun H locs hP hD hS => ?_)
  have hP : va_P (dC, dI) vwC2 [(g0, .inr (3, [.int 0, .int 0, .int 0, .ref q7, .ref q15, .int 0, .ref q23, .ref q31, .int 0, .ref q40, .ref q48, .ref q57, .ref q66, .int 0, .int 0, .int 0, .ref q73, .long 0, .int 0])), (q7, .inl (cI, 21, .inl (fun _ => 0))), (q15, .inl (cZ, 21, .inl (fun _ => 0))), (q23, .inl (cI, 61, .inl (fun _ => 0))), (q31, .inl (cJ, 61, .inr (.inl (fun _ => 0)))), (q40, .inl (cJ, 244, .inr (.inl (fun _ => 0)))), (q48, .inl (cZ, 61, .inl (fun _ => 0))), (q57, .inl (cZ, 3721, .inl (fun _ => 0))), (q66, .inl (cI, 300, .inl (fun _ => 0))), (q73, .inl (cJ, 4, .inr (.inl (fun _ => 0))))] H := hP
  have hD : va_D A [(g0, .inr (3, [.int 0, .int 0, .int 0, .ref q7, .ref q15, .int 0, .ref q23, .ref q31, .int 0, .ref q40, .ref q48, .ref q57, .ref q66, .int 0, .int 0, .int 0, .ref q73, .long 0, .int 0])), (q7, .inl (cI, 21, .inl (fun _ => 0))), (q15, .inl (cZ, 21, .inl (fun _ => 0))), (q23, .inl (cI, 61, .inl (fun _ => 0))), (q31, .inl (cJ, 61, .inr (.inl (fun _ => 0)))), (q40, .inl (cJ, 244, .inr (.inl (fun _ => 0)))), (q48, .inl (cZ, 61, .inl (fun _ => 0))), (q57, .inl (cZ, 3721, .inl (fun _ => 0))), (q66, .inl (cI, 300, .inl (fun _ => 0))), (q73, .inl (cJ, 4, .inr (.inl (fun _ => 0))))] := hD
  refine lv_aload_n hx hb dXM_init_78 rfl (lv_at hl 0 rfl) ?_
  refine lv_iload_n hx hb dXM_init_79 rfl (lv_at hl 1 rfl) ?_
  refine lv_iconst (v := 1) hx hb dXM_init_80 (by decide) ?_
  refine lv_icmp_ge (tgt := 88) hx hb dXM_init_81 (by decide) (fun c_81 => ?_) (fun c_81 => ?_)
  · refine lv_iload_n hx hb dXM_init_88 rfl (lv_at hl 1 rfl) ?_
    refine lv_sipush (v := 200) hx hb dXM_init_89 (by decide) ?_
    refine lv_icmp_le (tgt := 101) hx hb dXM_init_92 (by decide) (fun c_92 => ?_) (fun c_92 => ?_)
    · refine lv_iload_n hx hb dXM_init_101 rfl (lv_at hl 1 rfl) ?_
      refine lv_topi (fun z_102 ez_102 => ?_)
      obtain rfl : z_102 = nI (stN x) := ez_102.trans (stN_3 c_81 c_92)
      refine va_putF (D := (dC, dI)) (ci := 3) (v := .int (nI (stN x))) (ty := .int) (C := RXM) (T := TXM) (N := 19) hx hb hts (by decide +kernel) tyXM tyXM_ok nmXM hown hK hP hD hS 0 rfl rfl 1 (by decide) (hts (.fieldLink RXM 39 "BatchClassesModel" "most" "I") (by decide +kernel)) (fun _ h9 => h9) rfl hin rfl (by decide +kernel) rfl rfl (Nat.le_of_ble_eq_true rfl) dXM_init_102 (fun H locs hP hD hS => ?_)
      have hP : va_P (dC, dI) vwC2 [(g0, .inr (3, [.int 0, .int (nI (stN x)), .int 0, .ref q7, .ref q15, .int 0, .ref q23, .ref q31, .int 0, .ref q40, .ref q48, .ref q57, .ref q66, .int 0, .int 0, .int 0, .ref q73, .long 0, .int 0])), (q7, .inl (cI, 21, .inl (fun _ => 0))), (q15, .inl (cZ, 21, .inl (fun _ => 0))), (q23, .inl (cI, 61, .inl (fun _ => 0))), (q31, .inl (cJ, 61, .inr (.inl (fun _ => 0)))), (q40, .inl (cJ, 244, .inr (.inl (fun _ => 0)))), (q48, .inl (cZ, 61, .inl (fun _ => 0))), (q57, .inl (cZ, 3721, .inl (fun _ => 0))), (q66, .inl (cI, 300, .inl (fun _ => 0))), (q73, .inl (cJ, 4, .inr (.inl (fun _ => 0))))] H := hP
      have hD : va_D A [(g0, .inr (3, [.int 0, .int (nI (stN x)), .int 0, .ref q7, .ref q15, .int 0, .ref q23, .ref q31, .int 0, .ref q40, .ref q48, .ref q57, .ref q66, .int 0, .int 0, .int 0, .ref q73, .long 0, .int 0])), (q7, .inl (cI, 21, .inl (fun _ => 0))), (q15, .inl (cZ, 21, .inl (fun _ => 0))), (q23, .inl (cI, 61, .inl (fun _ => 0))), (q31, .inl (cJ, 61, .inr (.inl (fun _ => 0)))), (q40, .inl (cJ, 244, .inr (.inl (fun _ => 0)))), (q48, .inl (cZ, 61, .inl (fun _ => 0))), (q57, .inl (cZ, 3721, .inl (fun _ => 0))), (q66, .inl (cI, 300, .inl (fun _ => 0))), (q73, .inl (cJ, 4, .inr (.inl (fun _ => 0))))] := hD
      refine W.widen (k := 9) (n := 4494) (by omega) (by omega) ?_
      exact W.vret hx hb hr (fun t ht hW => ⟨⟨(), rfl, trivial, q7, q15, q23, q31, q40, q48, q57, q66, q73, by rw [ht]; exact hP, va_K.moved hW.alike hK, hD⟩, hS.F ht⟩) hS.2.2 dXM_init_105
    · refine lv_sipush (v := 200) hx hb dXM_init_95 (by decide) ?_
      refine lv_goto (tgt := 102) hx hb dXM_init_98 (by decide) ?_
      refine lv_topi (fun z_102 ez_102 => ?_)
      obtain rfl : z_102 = nI (stN x) := ez_102.trans (stN_2 c_81 c_92)
      refine va_putF (D := (dC, dI)) (ci := 3) (v := .int (nI (stN x))) (ty := .int) (C := RXM) (T := TXM) (N := 19) hx hb hts (by decide +kernel) tyXM tyXM_ok nmXM hown hK hP hD hS 0 rfl rfl 1 (by decide) (hts (.fieldLink RXM 39 "BatchClassesModel" "most" "I") (by decide +kernel)) (fun _ h9 => h9) rfl hin rfl (by decide +kernel) rfl rfl (Nat.le_of_ble_eq_true rfl) dXM_init_102 (fun H locs hP hD hS => ?_)
      have hP : va_P (dC, dI) vwC2 [(g0, .inr (3, [.int 0, .int (nI (stN x)), .int 0, .ref q7, .ref q15, .int 0, .ref q23, .ref q31, .int 0, .ref q40, .ref q48, .ref q57, .ref q66, .int 0, .int 0, .int 0, .ref q73, .long 0, .int 0])), (q7, .inl (cI, 21, .inl (fun _ => 0))), (q15, .inl (cZ, 21, .inl (fun _ => 0))), (q23, .inl (cI, 61, .inl (fun _ => 0))), (q31, .inl (cJ, 61, .inr (.inl (fun _ => 0)))), (q40, .inl (cJ, 244, .inr (.inl (fun _ => 0)))), (q48, .inl (cZ, 61, .inl (fun _ => 0))), (q57, .inl (cZ, 3721, .inl (fun _ => 0))), (q66, .inl (cI, 300, .inl (fun _ => 0))), (q73, .inl (cJ, 4, .inr (.inl (fun _ => 0))))] H := hP
      have hD : va_D A [(g0, .inr (3, [.int 0, .int (nI (stN x)), .int 0, .ref q7, .ref q15, .int 0, .ref q23, .ref q31, .int 0, .ref q40, .ref q48, .ref q57, .ref q66, .int 0, .int 0, .int 0, .ref q73, .long 0, .int 0])), (q7, .inl (cI, 21, .inl (fun _ => 0))), (q15, .inl (cZ, 21, .inl (fun _ => 0))), (q23, .inl (cI, 61, .inl (fun _ => 0))), (q31, .inl (cJ, 61, .inr (.inl (fun _ => 0)))), (q40, .inl (cJ, 244, .inr (.inl (fun _ => 0)))), (q48, .inl (cZ, 61, .inl (fun _ => 0))), (q57, .inl (cZ, 3721, .inl (fun _ => 0))), (q66, .inl (cI, 300, .inl (fun _ => 0))), (q73, .inl (cJ, 4, .inr (.inl (fun _ => 0))))] := hD
      refine W.widen (k := 9) (n := 4494) (by omega) (by omega) ?_
      exact W.vret hx hb hr (fun t ht hW => ⟨⟨(), rfl, trivial, q7, q15, q23, q31, q40, q48, q57, q66, q73, by rw [ht]; exact hP, va_K.moved hW.alike hK, hD⟩, hS.F ht⟩) hS.2.2 dXM_init_105
  · refine lv_iconst (v := 1) hx hb dXM_init_84 (by decide) ?_
    refine lv_goto (tgt := 102) hx hb dXM_init_85 (by decide) ?_
    refine lv_topi (fun z_102 ez_102 => ?_)
    obtain rfl : z_102 = nI (stN x) := ez_102.trans (stN_1 c_81)
    refine va_putF (D := (dC, dI)) (ci := 3) (v := .int (nI (stN x))) (ty := .int) (C := RXM) (T := TXM) (N := 19) hx hb hts (by decide +kernel) tyXM tyXM_ok nmXM hown hK hP hD hS 0 rfl rfl 1 (by decide) (hts (.fieldLink RXM 39 "BatchClassesModel" "most" "I") (by decide +kernel)) (fun _ h9 => h9) rfl hin rfl (by decide +kernel) rfl rfl (Nat.le_of_ble_eq_true rfl) dXM_init_102 (fun H locs hP hD hS => ?_)
    have hP : va_P (dC, dI) vwC2 [(g0, .inr (3, [.int 0, .int (nI (stN x)), .int 0, .ref q7, .ref q15, .int 0, .ref q23, .ref q31, .int 0, .ref q40, .ref q48, .ref q57, .ref q66, .int 0, .int 0, .int 0, .ref q73, .long 0, .int 0])), (q7, .inl (cI, 21, .inl (fun _ => 0))), (q15, .inl (cZ, 21, .inl (fun _ => 0))), (q23, .inl (cI, 61, .inl (fun _ => 0))), (q31, .inl (cJ, 61, .inr (.inl (fun _ => 0)))), (q40, .inl (cJ, 244, .inr (.inl (fun _ => 0)))), (q48, .inl (cZ, 61, .inl (fun _ => 0))), (q57, .inl (cZ, 3721, .inl (fun _ => 0))), (q66, .inl (cI, 300, .inl (fun _ => 0))), (q73, .inl (cJ, 4, .inr (.inl (fun _ => 0))))] H := hP
    have hD : va_D A [(g0, .inr (3, [.int 0, .int (nI (stN x)), .int 0, .ref q7, .ref q15, .int 0, .ref q23, .ref q31, .int 0, .ref q40, .ref q48, .ref q57, .ref q66, .int 0, .int 0, .int 0, .ref q73, .long 0, .int 0])), (q7, .inl (cI, 21, .inl (fun _ => 0))), (q15, .inl (cZ, 21, .inl (fun _ => 0))), (q23, .inl (cI, 61, .inl (fun _ => 0))), (q31, .inl (cJ, 61, .inr (.inl (fun _ => 0)))), (q40, .inl (cJ, 244, .inr (.inl (fun _ => 0)))), (q48, .inl (cZ, 61, .inl (fun _ => 0))), (q57, .inl (cZ, 3721, .inl (fun _ => 0))), (q66, .inl (cI, 300, .inl (fun _ => 0))), (q73, .inl (cJ, 4, .inr (.inl (fun _ => 0))))] := hD
    refine W.widen (k := 9) (n := 4494) (by omega) (by omega) ?_
    exact W.vret hx hb hr (fun t ht hW => ⟨⟨(), rfl, trivial, q7, q15, q23, q31, q40, q48, q57, q66, q73, by rw [ht]; exact hP, va_K.moved hW.alike hK, hD⟩, hS.F ht⟩) hS.2.2 dXM_init_105
theorem misC_nat {mcl : Nat} {x : Int32} (h : ¬ pM_isC mcl x = 0) (hc : mcl < 2 ^ 31) : ∃ j : Nat, 1 ≤ j ∧ j ≤ mcl ∧ x = nI j := by
  unfold pM_isC at h
  by_cases h1 : x ≤ 0
  · rw [if_pos h1] at h
    exact absurd rfl h
  · rw [if_neg h1] at h
    by_cases h2 : nI mcl < x
    · rw [if_pos h2] at h
      exact absurd rfl h
    · exact nat_of0 h1 h2 hc
theorem misR_nat {mrc : Nat} {x : Int32} (h : ¬ pM_isR mrc x = 0) (hc : mrc < 2 ^ 31) : ∃ j : Nat, 1 ≤ j ∧ j ≤ mrc ∧ x = nI j := by
  unfold pM_isR at h
  by_cases h1 : x ≤ 0
  · rw [if_pos h1] at h
    exact absurd rfl h
  · rw [if_neg h1] at h
    by_cases h2 : nI mrc < x
    · rw [if_pos h2] at h
      exact absurd rfl h
    · exact nat_of0 h1 h2 hc
theorem misC_ok {i mcl : Nat} (h1 : 1 ≤ i) (h2 : i ≤ mcl) (hc : mcl < 2 ^ 31) : ¬ pM_isC mcl (nI i) = 0 := by
  unfold pM_isC
  rw [if_neg (nI_nle (by omega) (by omega)), if_neg (nI_nlt h2 hc)]
  decide
theorem misR_ok {j mrc : Nat} (h1 : 1 ≤ j) (h2 : j ≤ mrc) (hc : mrc < 2 ^ 31) : ¬ pM_isR mrc (nI j) = 0 := by
  unfold pM_isR
  rw [if_neg (nI_nle (by omega) (by omega)), if_neg (nI_nlt h2 hc)]
  decide
