def pW_cell (L : (Nat)) (xs : Nat → Int32) : Int32 :=
  if L ≤ 0 then
    0
  else
    (xs 0)
set_option maxHeartbeats 4000000 in
set_option maxRecDepth 100000 in
theorem k_L_cell (l : Launch) (dC : Nat → ClassId) (dI : Nat → Nat → Nat) (cI cZ cJ : ClassId) (sz : Nat) (b : Nat) (L : (Nat)) (xs : Nat → Int32) (hL : L ≤ 3073) : Met l yL_cell wsL_cell ({ frames := 0, cells := 0, slots := 0, locals := 0 }) (va_Pc [.ref b, .int 0] (fun U => U.heap.size = sz ∧ va_P (dC, dI) vwC2 [] U.heap ∧ va_K (dC, dI) vwC2 [(cI, .int), (cZ, .boolean), (cJ, .long)] U ∧ va_D (fun _ => True) [] ∧ va_X b L xs U U.heap ∧ b < U.heap.size)) (va_Qi (fun (r : Int32) (_ : Unit) => r = pW_cell L xs) (fun (_ : Unit) (t : State) => va_P (dC, dI) vwC2 [] t.heap ∧ va_K (dC, dI) vwC2 [(cI, .int), (cZ, .boolean), (cJ, .long)] t ∧ va_D (va_A [] sz) []) (va_A [] sz)) 0 0 (va_A [] sz) := by
  refine Met.ofW (cc := cL_cell) (maxL := 2) (ret := (some .int)) (by decide) rfl ?_
  intro p e s m args below meth c s₁ B hml hv
  obtain ⟨rfl, hsz, hP, hK, hD0, hX, hbl⟩ := hv
  have hx := B.exec
  have hb := B.bytes
  have hr := B.returns
  have hts := atoms_spec (ws := wsL_cell) B.pre
  have hown : s.vm.findClass RL = some m.cls := findClass_of_methodNamed B.named
  have hlocks := B.notSynchronized
  subst hsz
  have hD := hD0.self (sz := s.heap.size)
  generalize hAe : va_A [] s.heap.size = A at hD ⊢
  have hA : ∀ q : Nat, s.heap.size ≤ q → A q := fun q h => by rw [← hAe]; exact Or.inr h
  have hS : va_S A s.heap s.heap [] := va_S.rf
  have hP : va_P (dC, dI) vwC2 [] s.heap := hP
  have hl := lv_entry ([.ref b, .int 0]) (n := 2) (Nat.le_of_ble_eq_true rfl)
  rw [lg_entry_eq]
  generalize (lg_sl ([.ref b, .int 0]) ++ List.replicate (2 - (lg_sl ([.ref b, .int 0])).length) Slot.unset).toArray = ls at hl ⊢
  have hl : lv_has ls 2 [(0, .ref b), (1, .int 0)] := hl
  have hbA : ¬ A b := by
    rw [← hAe]
    rintro (h | h)
    · simp at h
    · exact absurd h (Nat.not_le.mpr hbl)
  refine lv_iload_n hx hb dL_cell_0 rfl (lv_at hl 1 rfl) ?_
  refine lv_aload_n hx hb dL_cell_1 rfl (lv_at hl 0 rfl) ?_
  refine va_slen hx hb hX hbl hbA hS dL_cell_2 ?_
  refine lv_topi (fun z_2 ez_2 => ?_)
  obtain rfl : z_2 = nI L := ez_2
  refine lv_icmp_ge (tgt := 12) hx hb dL_cell_3 (by decide) (fun c_3 => ?_) (fun c_3 => ?_)
  · have c_3 : L ≤ 0 := (@nI_leI L 0 (by omega) (by omega)  ).mp c_3
    refine lv_iconst (v := 0) hx hb dL_cell_12 (by decide) ?_
    exact W.iret (v := 0) hx hb hr (fun t ht hW => ⟨⟨0, (), rfl, by first | (simp only [pW_cell, if_pos c_3]; done) | (simp only [pW_cell, if_pos c_3]; rfl) | rfl, by rw [ht]; exact hP, va_K.moved hW.alike hK, hD⟩, hS.F ht⟩) hS.2.2 dL_cell_13
  · have c_3 : ¬ (L ≤ 0) := mt (@nI_leI L 0 (by omega) (by omega)  ).mpr c_3
    refine lv_aload_n hx hb dL_cell_6 rfl (lv_at hl 0 rfl) ?_
    refine lv_iload_n hx hb dL_cell_7 rfl (lv_at hl 1 rfl) ?_
    refine va_sld hx hb hX hbl hbA hS (vp_in_nI (n := 0) (by omega) (by omega)) dL_cell_8 ?_
    refine lv_topi (fun z_8 ez_8 => ?_)
    obtain rfl : z_8 = xs 0 := ez_8
    refine lv_goto (tgt := 13) hx hb dL_cell_9 (by decide) ?_
    exact W.iret (v := (xs 0)) hx hb hr (fun t ht hW => ⟨⟨(xs 0), (), rfl, by first | (simp only [pW_cell, if_neg c_3]; done) | (simp only [pW_cell, if_neg c_3]; rfl) | rfl, by rw [ht]; exact hP, va_K.moved hW.alike hK, hD⟩, hS.F ht⟩) hS.2.2 dL_cell_13
