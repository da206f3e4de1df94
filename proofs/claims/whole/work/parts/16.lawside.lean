def pW_div (cl : Nat) (ou : Nat → Int64) (xo : Int32) (xa xb : Int64) : Int32 × (Nat → Int64) := if pB_isC cl xo = 0 then (0, vp_updL ou 0 0) else if xb = 0 then (1, ou) else (0, vp_updL ou 0 (xa / xb))
theorem pW_div_ok {cl : Nat} {ou : Nat → Int64} {xo : Int32} {xa xb r : Int64} (h : r = pB_div cl xo xa xb ∧ (pB_isC cl xo = 0 ∨ ¬ xb = 0)) : ((0 : Int32), vp_updL ou 0 r) = pW_div cl ou xo xa xb := by
  obtain ⟨rfl, h⟩ := h
  unfold pW_div pB_div
  by_cases h1 : pB_isC cl xo = 0
  · rw [if_pos h1, if_pos h1]
  · rw [if_neg h1, if_neg h1, if_neg (h.resolve_left h1)]
theorem pW_div_thr {cl : Nat} {ou : Nat → Int64} {xo : Int32} {xa xb : Int64} (h : ¬ pB_isC cl xo = 0 ∧ xb = 0) : ((1 : Int32), ou) = pW_div cl ou xo xa xb := by
  rw [pW_div, if_neg h.1, if_pos h.2]
set_option maxHeartbeats 4000000 in
set_option maxRecDepth 100000 in
theorem k_L_divide (l : Launch) (dC : Nat → ClassId) (dI : Nat → Nat → Nat) (cI cZ cJ : ClassId) (sz : Nat) (h0 h1 h2 a1 a2 a3 a4 a5 a6 a7 a8 sa sb oa : Nat) (N0 ty cl rc lr : (Nat)) (ld : Int32) (ou : Nat → Int64) (xo : Int32) (xa xb : Int64) (hlt : l.stackTraces = false) : Met l yL_divide wsL_divide ({ frames := 7, cells := 1, slots := 6, locals := 107 }) (va_Pc [.ref h0, .int xo, .long xa, .long xb, .ref oa] (fun U => U.heap.size = sz ∧ va_P (dC, dI) vwC2 [(h0, .inr (2, [.int (nI N0), .ref h1, .ref h2, .int (nI ty), .ref a1, .ref a2, .int (nI cl), .ref a3, .ref a4, .ref a5, .int (nI rc), .ref a6, .ref a7, .ref a8, .int (nI lr), .int ld])), (oa, .inl (cJ, 1, .inr (.inl ou)))] U.heap ∧ va_K (dC, dI) vwC2 [(cI, .int), (cZ, .boolean), (cJ, .long)] U ∧ va_D (fun _ => True) [(h0, .inr (2, [.int (nI N0), .ref h1, .ref h2, .int (nI ty), .ref a1, .ref a2, .int (nI cl), .ref a3, .ref a4, .ref a5, .int (nI rc), .ref a6, .ref a7, .ref a8, .int (nI lr), .int ld])), (oa, .inl (cJ, 1, .inr (.inl ou)))] ∧ thX sa sb U ∧ vx_Zq Bundle.tN "UNASSIGNED_STACK" Bundle.steD (va_A [(h0, .inr (2, [.int (nI N0), .ref h1, .ref h2, .int (nI ty), .ref a1, .ref a2, .int (nI cl), .ref a3, .ref a4, .ref a5, .int (nI rc), .ref a6, .ref a7, .ref a8, .int (nI lr), .int ld])), (oa, .inl (cJ, 1, .inr (.inl ou)))] sz) U U.heap ∧ vx_Zq Bundle.tN "SUPPRESSED_SENTINEL" Bundle.listD (va_A [(h0, .inr (2, [.int (nI N0), .ref h1, .ref h2, .int (nI ty), .ref a1, .ref a2, .int (nI cl), .ref a3, .ref a4, .ref a5, .int (nI rc), .ref a6, .ref a7, .ref a8, .int (nI lr), .int ld])), (oa, .inl (cJ, 1, .inr (.inl ou)))] sz) U U.heap)) (va_Qi (fun (r : Int32) (u : (Nat → Int64)) => (r, u) = pW_div cl ou xo xa xb) (fun (u : (Nat → Int64)) (t : State) => match u with | ou' => va_P (dC, dI) vwC2 [(h0, .inr (2, [.int (nI N0), .ref h1, .ref h2, .int (nI ty), .ref a1, .ref a2, .int (nI cl), .ref a3, .ref a4, .ref a5, .int (nI rc), .ref a6, .ref a7, .ref a8, .int (nI lr), .int ld])), (oa, .inl (cJ, 1, .inr (.inl ou')))] t.heap ∧ va_K (dC, dI) vwC2 [(cI, .int), (cZ, .boolean), (cJ, .long)] t ∧ va_D (va_A [(h0, .inr (2, [.int (nI N0), .ref h1, .ref h2, .int (nI ty), .ref a1, .ref a2, .int (nI cl), .ref a3, .ref a4, .ref a5, .int (nI rc), .ref a6, .ref a7, .ref a8, .int (nI lr), .int ld])), (oa, .inl (cJ, 1, .inr (.inl ou)))] sz) [(h0, .inr (2, [.int (nI N0), .ref h1, .ref h2, .int (nI ty), .ref a1, .ref a2, .int (nI cl), .ref a3, .ref a4, .ref a5, .int (nI rc), .ref a6, .ref a7, .ref a8, .int (nI lr), .int ld])), (oa, .inl (cJ, 1, .inr (.inl ou')))]) (va_A [(h0, .inr (2, [.int (nI N0), .ref h1, .ref h2, .int (nI ty), .ref a1, .ref a2, .int (nI cl), .ref a3, .ref a4, .ref a5, .int (nI rc), .ref a6, .ref a7, .ref a8, .int (nI lr), .int ld])), (oa, .inl (cJ, 1, .inr (.inl ou)))] sz)) 1 6 (va_A [(h0, .inr (2, [.int (nI N0), .ref h1, .ref h2, .int (nI ty), .ref a1, .ref a2, .int (nI cl), .ref a3, .ref a4, .ref a5, .int (nI rc), .ref a6, .ref a7, .ref a8, .int (nI lr), .int ld])), (oa, .inl (cJ, 1, .inr (.inl ou)))] sz) := by
  refine va_MetW (cc := cL_divide) (maxL := 8) (ret := (some .int)) (hh := [(0, 12, 15, 13)]) (by decide) rfl ?_
  intro p e s m args below meth c s₁ B hml hv
  obtain ⟨rfl, hsz, hP, hK, hD0, hT, hSU, hSV⟩ := hv
  have hx := B.exec
  have hb := B.bytes
  have hr := B.returns
  have hts := atoms_spec (ws := wsL_divide) B.pre
  have hown : s.vm.findClass RL = some m.cls := findClass_of_methodNamed B.named
  have hlocks := B.notSynchronized
  subst hsz
  have hD := hD0.self (sz := s.heap.size)
  generalize hAe : va_A [(h0, .inr (2, [.int (nI N0), .ref h1, .ref h2, .int (nI ty), .ref a1, .ref a2, .int (nI cl), .ref a3, .ref a4, .ref a5, .int (nI rc), .ref a6, .ref a7, .ref a8, .int (nI lr), .int ld])), (oa, .inl (cJ, 1, .inr (.inl ou)))] s.heap.size = A at hD ⊢
  have hA : ∀ q : Nat, s.heap.size ≤ q → A q := fun q h => by rw [← hAe]; exact Or.inr h
  rw [hAe] at hSU
  rw [hAe] at hSV
  have hS : va_S A s.heap s.heap [] := va_S.rf
  have hP : va_P (dC, dI) vwC2 [(h0, .inr (2, [.int (nI N0), .ref h1, .ref h2, .int (nI ty), .ref a1, .ref a2, .int (nI cl), .ref a3, .ref a4, .ref a5, .int (nI rc), .ref a6, .ref a7, .ref a8, .int (nI lr), .int ld])), (oa, .inl (cJ, 1, .inr (.inl ou)))] s.heap := hP
  have hl := lv_entry ([.ref h0, .int xo, .long xa, .long xb, .ref oa]) (n := 8) (Nat.le_of_ble_eq_true rfl)
  rw [lg_entry_eq]
  generalize (lg_sl ([.ref h0, .int xo, .long xa, .long xb, .ref oa]) ++ List.replicate (8 - (lg_sl ([.ref h0, .int xo, .long xa, .long xb, .ref oa])).length) Slot.unset).toArray = ls at hl ⊢
  have hl : lv_has ls 8 [(0, .ref h0), (1, .int xo), (2, .long xa), (4, .long xb), (6, .ref oa)] := hl
  have htab := vx_table (x := yL_divide) B (hts _ (show (Cond.codeWith yL_divide cL_divide 8 (some .int) [(0, 12, 15, 13)]) ∈ wsL_divide from List.mem_cons_self))
  refine lv_aload hx hb dL_divide_0 (lv_at hl 4 rfl) ?_
  refine lv_iconst (v := 0) hx hb dL_divide_2 (by decide) ?_
  refine lv_aload_n hx hb dL_divide_3 rfl (lv_at hl 0 rfl) ?_
  refine lv_iload_n hx hb dL_divide_4 rfl (lv_at hl 1 rfl) ?_
  refine lv_lload_n hx hb dL_divide_5 rfl (lv_at hl 2 rfl) ?_
  refine lv_lload hx hb dL_divide_6 (lv_at hl 3 rfl) ?_
  have hPc := hP.sub (ws' := [(h0, .inr (2, [.int (nI N0), .ref h1, .ref h2, .int (nI ty), .ref a1, .ref a2, .int (nI cl), .ref a3, .ref a4, .ref a5, .int (nI rc), .ref a6, .ref a7, .ref a8, .int (nI lr), .int ld]))]) [0] rfl
  have hDc := hD.sub (ws' := [(h0, .inr (2, [.int (nI N0), .ref h1, .ref h2, .int (nI ty), .ref a1, .ref a2, .int (nI cl), .ref a3, .ref a4, .ref a5, .int (nI rc), .ref a6, .ref a7, .ref a8, .int (nI lr), .int ld]))]) [0] (by decide) rfl
  have hFc := va_free (wc := [(h0, .inr (2, [.int (nI N0), .ref h1, .ref h2, .int (nI ty), .ref a1, .ref a2, .int (nI cl), .ref a3, .ref a4, .ref a5, .int (nI rc), .ref a6, .ref a7, .ref a8, .int (nI lr), .int ld]))]) hD hS hA [0] rfl
  refine vx_calll (vx_runV (As := [.int xo, .long xa, .long xb]) (rest := [.int 0, .ref oa]) ⟨hx, hb, hml, hown, hts⟩ (k_X2_divide l dC dI cI cZ cJ s.heap.size h0 h1 h2 a1 a2 a3 a4 a5 a6 a7 a8 sa sb N0 ty cl rc lr ld xo xa xb hlt) (cwV 3 hts gL_divide_X2_divide rfl rfl rfl (by decide +kernel) ⟨Nat.le_of_ble_eq_true rfl, Nat.le_of_ble_eq_true rfl⟩) ⟨fun a U g mk q => by obtain ⟨q0, q1, qP, qK, qD, qX0, qX1, qX2⟩ := q; exact ⟨q0, q1, qP, va_K.moved (u := U) (U := U.calling g mk a) (Vm.Alike.refl U.vm) qK, qD, thX.blind qX0, (vx_Zq.moved (u := U) (U := U.calling g mk a) (Vm.Alike.refl U.vm) qX1), (vx_Zq.moved (u := U) (U := U.calling g mk a) (Vm.Alike.refl U.vm) qX2)⟩, va_recv hK hPc (ci := 2) (q0 := 0) rfl rfl, fun U hU hW => ⟨rfl, by rw [hU], by rw [hU]; exact hPc, va_K.moved hW.alike hK, hDc.weaken (fun _ _ _ _ => trivial), thX.warm hW hT, (by rw [hU]; exact vx_Zq.moved hW.alike ((hSU.kept (fun a h1 h2 => hS.2.1 a h1 h2)).narrow hFc)), (by rw [hU]; exact vx_Zq.moved hW.alike ((hSV.kept (fun a h1 h2 => hS.2.1 a h1 h2)).narrow hFc))⟩⟩ rfl rfl hl.1 rfl (lv_room (Nat.le_of_ble_eq_true rfl)) dL_divide_8 ⟨Nat.le_of_ble_eq_true rfl, Nat.le_of_ble_eq_true rfl⟩) hS (fun q _ h => hFc q h) hFc (fun q _ h => hFc q h) (fun E ce q9 u t H1 locs ht hvm hpx hBX hz1 hk1 hS hce hcv hcl => ?_) (fun r_8 u t H1 locs ht hvm hw_8 hB hz1 hk1 hS => ?_)
  · obtain ⟨rfl, hP1, hK1, hD1⟩ := hBX
    rw [ht] at hP1
    obtain ⟨hP, hD⟩ := va_join (wr := [(oa, .inl (cJ, 1, .inr (.inl ou)))]) (w1 := [(h0, .inr (2, [.int (nI N0), .ref h1, .ref h2, .int (nI ty), .ref a1, .ref a2, .int (nI cl), .ref a3, .ref a4, .ref a5, .int (nI rc), .ref a6, .ref a7, .ref a8, .int (nI lr), .int ld]))]) hP hD [0] [1] rfl rfl (by decide) (by decide) hk1 hFc hP1 hD1
    generalize H1 = H at hP hS hce ⊢
    have hP : va_P (dC, dI) vwC2 [(h0, .inr (2, [.int (nI N0), .ref h1, .ref h2, .int (nI ty), .ref a1, .ref a2, .int (nI cl), .ref a3, .ref a4, .ref a5, .int (nI rc), .ref a6, .ref a7, .ref a8, .int (nI lr), .int ld])), (oa, .inl (cJ, 1, .inr (.inl ou)))] H := hP.sub [1, 0] rfl
    have hD : va_D A [(h0, .inr (2, [.int (nI N0), .ref h1, .ref h2, .int (nI ty), .ref a1, .ref a2, .int (nI cl), .ref a3, .ref a4, .ref a5, .int (nI rc), .ref a6, .ref a7, .ref a8, .int (nI lr), .int ld])), (oa, .inl (cJ, 1, .inr (.inl ou)))] := hD.sub [1, 0] (by decide) rfl
    refine vx_catch (name := "java/lang/ArithmeticException") hown [] ⟨0, 12, 15, 13⟩ [] htab (fun z h => by cases h) (by decide) (by decide) (hts (.classLink RL 13 "java/lang/ArithmeticException") (by decide +kernel)) (va_Nw.use rfl (hT.1 (.castable "java/lang/ArithmeticException" "java/lang/ArithmeticException") (by decide +kernel))) hce hcv hcl ?_
    refine W.eq (g2 := F0 m 15 ls [.ref q9]) rfl ?_
    refine lv_astore (lv' := [(7, .ref q9), (0, .ref h0), (1, .int xo), (2, .long xa), (4, .long xb), (6, .ref oa)]) hx hb dL_divide_15 hl (by decide) rfl (fun ls hl => ?_)
    refine lv_iconst (v := 1) hx hb dL_divide_17 (by decide) ?_
    refine W.widen (k := 1) (n := 6) (by omega) (by omega) ?_
    exact W.iret (v := 1) hx hb hr (fun t ht hW => ⟨⟨1, (ou), rfl, pW_div_thr hpx, by rw [ht]; exact hP, va_K.moved hW.alike hK, hD⟩, hS.F ht⟩) hS.2.2 dL_divide_18
  obtain ⟨hP1, hK1, hD1⟩ := hB
  rw [ht] at hP1
  try dsimp only at hw_8
  obtain ⟨hP, hD⟩ := va_join (wr := [(oa, .inl (cJ, 1, .inr (.inl ou)))]) (w1 := [(h0, .inr (2, [.int (nI N0), .ref h1, .ref h2, .int (nI ty), .ref a1, .ref a2, .int (nI cl), .ref a3, .ref a4, .ref a5, .int (nI rc), .ref a6, .ref a7, .ref a8, .int (nI lr), .int ld]))]) hP hD [0] [1] rfl rfl (by decide) (by decide) hk1 hFc hP1 hD1
  generalize H1 = H at hP hS ⊢
  have hP : va_P (dC, dI) vwC2 [(h0, .inr (2, [.int (nI N0), .ref h1, .ref h2, .int (nI ty), .ref a1, .ref a2, .int (nI cl), .ref a3, .ref a4, .ref a5, .int (nI rc), .ref a6, .ref a7, .ref a8, .int (nI lr), .int ld])), (oa, .inl (cJ, 1, .inr (.inl ou)))] H := hP.sub [1, 0] rfl
  have hD : va_D A [(h0, .inr (2, [.int (nI N0), .ref h1, .ref h2, .int (nI ty), .ref a1, .ref a2, .int (nI cl), .ref a3, .ref a4, .ref a5, .int (nI rc), .ref a6, .ref a7, .ref a8, .int (nI lr), .int ld])), (oa, .inl (cJ, 1, .inr (.inl ou)))] := hD.sub [1, 0] (by decide) rfl
  refine va_last hx hb hK hP hD hS 1 2 rfl rfl (vp_in_nI (n := 0) (by omega) (by omega)) dL_divide_11 (fun H locs hP hD hS => ?_)
  have hP : va_P (dC, dI) vwC2 [(h0, .inr (2, [.int (nI N0), .ref h1, .ref h2, .int (nI ty), .ref a1, .ref a2, .int (nI cl), .ref a3, .ref a4, .ref a5, .int (nI rc), .ref a6, .ref a7, .ref a8, .int (nI lr), .int ld])), (oa, .inl (cJ, 1, .inr (.inl (vp_updL ou 0 r_8))))] H := hP
  have hD : va_D A [(h0, .inr (2, [.int (nI N0), .ref h1, .ref h2, .int (nI ty), .ref a1, .ref a2, .int (nI cl), .ref a3, .ref a4, .ref a5, .int (nI rc), .ref a6, .ref a7, .ref a8, .int (nI lr), .int ld])), (oa, .inl (cJ, 1, .inr (.inl (vp_updL ou 0 r_8))))] := hD
  refine lv_goto (tgt := 19) hx hb dL_divide_12 (by decide) ?_
  refine lv_iconst (v := 0) hx hb dL_divide_19 (by decide) ?_
  refine W.widen (k := 1) (n := 6) (by omega) (by omega) ?_
  exact W.iret (v := 0) hx hb hr (fun t ht hW => ⟨⟨0, ((vp_updL ou 0 r_8)), rfl, pW_div_ok hw_8, by rw [ht]; exact hP, va_K.moved hW.alike hK, hD⟩, hS.F ht⟩) hS.2.2 dL_divide_20
def pW_han (rc lr : Nat) (ld : Int32) (db ou : Nat → Int64) (xr : Int32) : Int32 × (Nat → Int64) := if pB_isR rc xr = 0 ∨ ¬ xr = nI lr ∨ ld = 0 then (1, ou) else (0, vp_updL ou 0 (pB_han db lr).toInt64)
theorem pW_han_ok {rc lr : Nat} {ld : Int32} {db ou : Nat → Int64} {xr r : Int32} (h : r = pB_han db lr ∧ ¬ (pB_isR rc xr = 0 ∨ ¬ xr = nI lr ∨ ld = 0)) : ((0 : Int32), vp_updL ou 0 r.toInt64) = pW_han rc lr ld db ou xr := by
  obtain ⟨rfl, h⟩ := h
  rw [pW_han, if_neg h]
theorem pW_han_thr {rc lr : Nat} {ld : Int32} {db ou : Nat → Int64} {xr : Int32} (h : pB_isR rc xr = 0 ∨ ¬ xr = nI lr ∨ ld = 0) : ((1 : Int32), ou) = pW_han rc lr ld db ou xr := by
  rw [pW_han, if_pos h]
set_option maxHeartbeats 4000000 in
set_option maxRecDepth 100000 in
theorem k_L_handle (l : Launch) (dC : Nat → ClassId) (dI : Nat → Nat → Nat) (cI cZ cJ : ClassId) (sz : Nat) (h0 h1 h2 a1 a2 a3 a4 a5 a6 a7 a8 sa sb oa : Nat) (N0 ty cl rc lr : (Nat)) (ld : Int32) (db ou : Nat → Int64) (xr : Int32) (hlr : lr ≤ rc) (hrc : rc ≤ 60) (hlt : l.stackTraces = false) : Met l yL_handle wsL_handle ({ frames := 7, cells := 1, slots := 6, locals := 103 }) (va_Pc [.ref h0, .int xr, .ref oa] (fun U => U.heap.size = sz ∧ va_P (dC, dI) vwC2 [(h0, .inr (2, [.int (nI N0), .ref h1, .ref h2, .int (nI ty), .ref a1, .ref a2, .int (nI cl), .ref a3, .ref a4, .ref a5, .int (nI rc), .ref a6, .ref a7, .ref a8, .int (nI lr), .int ld])), (a8, .inl (cJ, 60, .inr (.inl db))), (oa, .inl (cJ, 1, .inr (.inl ou)))] U.heap ∧ va_K (dC, dI) vwC2 [(cI, .int), (cZ, .boolean), (cJ, .long)] U ∧ va_D (fun _ => True) [(h0, .inr (2, [.int (nI N0), .ref h1, .ref h2, .int (nI ty), .ref a1, .ref a2, .int (nI cl), .ref a3, .ref a4, .ref a5, .int (nI rc), .ref a6, .ref a7, .ref a8, .int (nI lr), .int ld])), (a8, .inl (cJ, 60, .inr (.inl db))), (oa, .inl (cJ, 1, .inr (.inl ou)))] ∧ thX sa sb U ∧ vx_Zq Bundle.tN "UNASSIGNED_STACK" Bundle.steD (va_A [(h0, .inr (2, [.int (nI N0), .ref h1, .ref h2, .int (nI ty), .ref a1, .ref a2, .int (nI cl), .ref a3, .ref a4, .ref a5, .int (nI rc), .ref a6, .ref a7, .ref a8, .int (nI lr), .int ld])), (a8, .inl (cJ, 60, .inr (.inl db))), (oa, .inl (cJ, 1, .inr (.inl ou)))] sz) U U.heap ∧ vx_Zq Bundle.tN "SUPPRESSED_SENTINEL" Bundle.listD (va_A [(h0, .inr (2, [.int (nI N0), .ref h1, .ref h2, .int (nI ty), .ref a1, .ref a2, .int (nI cl), .ref a3, .ref a4, .ref a5, .int (nI rc), .ref a6, .ref a7, .ref a8, .int (nI lr), .int ld])), (a8, .inl (cJ, 60, .inr (.inl db))), (oa, .inl (cJ, 1, .inr (.inl ou)))] sz) U U.heap)) (va_Qi (fun (r : Int32) (u : (Nat → Int64)) => (r, u) = pW_han rc lr ld db ou xr) (fun (u : (Nat → Int64)) (t : State) => match u with | ou' => va_P (dC, dI) vwC2 [(h0, .inr (2, [.int (nI N0), .ref h1, .ref h2, .int (nI ty), .ref a1, .ref a2, .int (nI cl), .ref a3, .ref a4, .ref a5, .int (nI rc), .ref a6, .ref a7, .ref a8, .int (nI lr), .int ld])), (a8, .inl (cJ, 60, .inr (.inl db))), (oa, .inl (cJ, 1, .inr (.inl ou')))] t.heap ∧ va_K (dC, dI) vwC2 [(cI, .int), (cZ, .boolean), (cJ, .long)] t ∧ va_D (va_A [(h0, .inr (2, [.int (nI N0), .ref h1, .ref h2, .int (nI ty), .ref a1, .ref a2, .int (nI cl), .ref a3, .ref a4, .ref a5, .int (nI rc), .ref a6, .ref a7, .ref a8, .int (nI lr), .int ld])), (a8, .inl (cJ, 60, .inr (.inl db))), (oa, .inl (cJ, 1, .inr (.inl ou)))] sz) [(h0, .inr (2, [.int (nI N0), .ref h1, .ref h2, .int (nI ty), .ref a1, .ref a2, .int (nI cl), .ref a3, .ref a4, .ref a5, .int (nI rc), .ref a6, .ref a7, .ref a8, .int (nI lr), .int ld])), (a8, .inl (cJ, 60, .inr (.inl db))), (oa, .inl (cJ, 1, .inr (.inl ou')))]) (va_A [(h0, .inr (2, [.int (nI N0), .ref h1, .ref h2, .int (nI ty), .ref a1, .ref a2, .int (nI cl), .ref a3, .ref a4, .ref a5, .int (nI rc), .ref a6, .ref a7, .ref a8, .int (nI lr), .int ld])), (a8, .inl (cJ, 60, .inr (.inl db))), (oa, .inl (cJ, 1, .inr (.inl ou)))] sz)) 1 6 (va_A [(h0, .inr (2, [.int (nI N0), .ref h1, .ref h2, .int (nI ty), .ref a1, .ref a2, .int (nI cl), .ref a3, .ref a4, .ref a5, .int (nI rc), .ref a6, .ref a7, .ref a8, .int (nI lr), .int ld])), (a8, .inl (cJ, 60, .inr (.inl db))), (oa, .inl (cJ, 1, .inr (.inl ou)))] sz) := by
  refine va_MetW (cc := cL_handle) (maxL := 4) (ret := (some .int)) (hh := [(0, 9, 12, 19)]) (by decide) rfl ?_
  intro p e s m args below meth c s₁ B hml hv
  obtain ⟨rfl, hsz, hP, hK, hD0, hT, hSU, hSV⟩ := hv
  have hx := B.exec
  have hb := B.bytes
  have hr := B.returns
  have hts := atoms_spec (ws := wsL_handle) B.pre
  have hown : s.vm.findClass RL = some m.cls := findClass_of_methodNamed B.named
  have hlocks := B.notSynchronized
  subst hsz
  have hD := hD0.self (sz := s.heap.size)
  generalize hAe : va_A [(h0, .inr (2, [.int (nI N0), .ref h1, .ref h2, .int (nI ty), .ref a1, .ref a2, .int (nI cl), .ref a3, .ref a4, .ref a5, .int (nI rc), .ref a6, .ref a7, .ref a8, .int (nI lr), .int ld])), (a8, .inl (cJ, 60, .inr (.inl db))), (oa, .inl (cJ, 1, .inr (.inl ou)))] s.heap.size = A at hD ⊢
  have hA : ∀ q : Nat, s.heap.size ≤ q → A q := fun q h => by rw [← hAe]; exact Or.inr h
  rw [hAe] at hSU
  rw [hAe] at hSV
  have hS : va_S A s.heap s.heap [] := va_S.rf
  have hP : va_P (dC, dI) vwC2 [(h0, .inr (2, [.int (nI N0), .ref h1, .ref h2, .int (nI ty), .ref a1, .ref a2, .int (nI cl), .ref a3, .ref a4, .ref a5, .int (nI rc), .ref a6, .ref a7, .ref a8, .int (nI lr), .int ld])), (a8, .inl (cJ, 60, .inr (.inl db))), (oa, .inl (cJ, 1, .inr (.inl ou)))] s.heap := hP
  have hl := lv_entry ([.ref h0, .int xr, .ref oa]) (n := 4) (Nat.le_of_ble_eq_true rfl)
  rw [lg_entry_eq]
  generalize (lg_sl ([.ref h0, .int xr, .ref oa]) ++ List.replicate (4 - (lg_sl ([.ref h0, .int xr, .ref oa])).length) Slot.unset).toArray = ls at hl ⊢
  have hl : lv_has ls 4 [(0, .ref h0), (1, .int xr), (2, .ref oa)] := hl
  have htab := vx_table (x := yL_handle) B (hts _ (show (Cond.codeWith yL_handle cL_handle 4 (some .int) [(0, 9, 12, 19)]) ∈ wsL_handle from List.mem_cons_self))
  refine lv_aload_n hx hb dL_handle_0 rfl (lv_at hl 2 rfl) ?_
  refine lv_iconst (v := 0) hx hb dL_handle_1 (by decide) ?_
  refine lv_aload_n hx hb dL_handle_2 rfl (lv_at hl 0 rfl) ?_
  refine lv_iload_n hx hb dL_handle_3 rfl (lv_at hl 1 rfl) ?_
  have hPc := hP.sub (ws' := [(h0, .inr (2, [.int (nI N0), .ref h1, .ref h2, .int (nI ty), .ref a1, .ref a2, .int (nI cl), .ref a3, .ref a4, .ref a5, .int (nI rc), .ref a6, .ref a7, .ref a8, .int (nI lr), .int ld])), (a8, .inl (cJ, 60, .inr (.inl db)))]) [0, 1] rfl
  have hDc := hD.sub (ws' := [(h0, .inr (2, [.int (nI N0), .ref h1, .ref h2, .int (nI ty), .ref a1, .ref a2, .int (nI cl), .ref a3, .ref a4, .ref a5, .int (nI rc), .ref a6, .ref a7, .ref a8, .int (nI lr), .int ld])), (a8, .inl (cJ, 60, .inr (.inl db)))]) [0, 1] (by decide) rfl
  have hFc := va_free (wc := [(h0, .inr (2, [.int (nI N0), .ref h1, .ref h2, .int (nI ty), .ref a1, .ref a2, .int (nI cl), .ref a3, .ref a4, .ref a5, .int (nI rc), .ref a6, .ref a7, .ref a8, .int (nI lr), .int ld])), (a8, .inl (cJ, 60, .inr (.inl db)))]) hD hS hA [0, 1] rfl
  refine vx_calli (vx_runV (As := [.int xr]) (rest := [.int 0, .ref oa]) ⟨hx, hb, hml, hown, hts⟩ (k_X2_handle l dC dI cI cZ cJ s.heap.size h0 h1 h2 a1 a2 a3 a4 a5 a6 a7 a8 sa sb N0 ty cl rc lr ld db xr hlr hrc hlt) (cwV 1 hts gL_handle_X2_handle rfl rfl rfl (by decide +kernel) ⟨Nat.le_of_ble_eq_true rfl, Nat.le_of_ble_eq_true rfl⟩) ⟨fun a U g mk q => by obtain ⟨q0, q1, qP, qK, qD, qX0, qX1, qX2⟩ := q; exact ⟨q0, q1, qP, va_K.moved (u := U) (U := U.calling g mk a) (Vm.Alike.refl U.vm) qK, qD, thX.blind qX0, (vx_Zq.moved (u := U) (U := U.calling g mk a) (Vm.Alike.refl U.vm) qX1), (vx_Zq.moved (u := U) (U := U.calling g mk a) (Vm.Alike.refl U.vm) qX2)⟩, va_recv hK hPc (ci := 2) (q0 := 0) rfl rfl, fun U hU hW => ⟨rfl, by rw [hU], by rw [hU]; exact hPc, va_K.moved hW.alike hK, hDc.weaken (fun _ _ _ _ => trivial), thX.warm hW hT, (by rw [hU]; exact vx_Zq.moved hW.alike ((hSU.kept (fun a h1 h2 => hS.2.1 a h1 h2)).narrow hFc)), (by rw [hU]; exact vx_Zq.moved hW.alike ((hSV.kept (fun a h1 h2 => hS.2.1 a h1 h2)).narrow hFc))⟩⟩ rfl rfl hl.1 rfl (lv_room (Nat.le_of_ble_eq_true rfl)) dL_handle_4 ⟨Nat.le_of_ble_eq_true rfl, Nat.le_of_ble_eq_true rfl⟩) hS (fun q _ h => hFc q h) hFc (fun q _ h => hFc q h) (fun E ce q9 u t H1 locs ht hvm hpx hBX hz1 hk1 hS hce hcv hcl => ?_) (fun r_4 u t H1 locs ht hvm hw_4 hB hz1 hk1 hS => ?_)
  · obtain ⟨rfl, hP1, hK1, hD1⟩ := hBX
    rw [ht] at hP1
    obtain ⟨hP, hD⟩ := va_join (wr := [(oa, .inl (cJ, 1, .inr (.inl ou)))]) (w1 := [(h0, .inr (2, [.int (nI N0), .ref h1, .ref h2, .int (nI ty), .ref a1, .ref a2, .int (nI cl), .ref a3, .ref a4, .ref a5, .int (nI rc), .ref a6, .ref a7, .ref a8, .int (nI lr), .int ld])), (a8, .inl (cJ, 60, .inr (.inl db)))]) hP hD [0, 1] [2] rfl rfl (by decide) (by decide) hk1 hFc hP1 hD1
    generalize H1 = H at hP hS hce ⊢
    have hP : va_P (dC, dI) vwC2 [(h0, .inr (2, [.int (nI N0), .ref h1, .ref h2, .int (nI ty), .ref a1, .ref a2, .int (nI cl), .ref a3, .ref a4, .ref a5, .int (nI rc), .ref a6, .ref a7, .ref a8, .int (nI lr), .int ld])), (a8, .inl (cJ, 60, .inr (.inl db))), (oa, .inl (cJ, 1, .inr (.inl ou)))] H := hP.sub [1, 2, 0] rfl
    have hD : va_D A [(h0, .inr (2, [.int (nI N0), .ref h1, .ref h2, .int (nI ty), .ref a1, .ref a2, .int (nI cl), .ref a3, .ref a4, .ref a5, .int (nI rc), .ref a6, .ref a7, .ref a8, .int (nI lr), .int ld])), (a8, .inl (cJ, 60, .inr (.inl db))), (oa, .inl (cJ, 1, .inr (.inl ou)))] := hD.sub [1, 2, 0] (by decide) rfl
    refine vx_catch (name := "java/lang/IllegalStateException") hown [] ⟨0, 9, 12, 19⟩ [] htab (fun z h => by cases h) (by decide) (by decide) (hts (.classLink RL 19 "java/lang/IllegalStateException") (by decide +kernel)) (va_Nw.use rfl (hT.1 (.castable "java/lang/IllegalStateException" "java/lang/IllegalStateException") (by decide +kernel))) hce hcv hcl ?_
    refine W.eq (g2 := F0 m 12 ls [.ref q9]) rfl ?_
    refine lv_astore_n (lv' := [(3, .ref q9), (0, .ref h0), (1, .int xr), (2, .ref oa)]) hx hb dL_handle_12 rfl hl (by decide) rfl (fun ls hl => ?_)
    refine lv_iconst (v := 1) hx hb dL_handle_13 (by decide) ?_
    refine W.widen (k := 1) (n := 6) (by omega) (by omega) ?_
    exact W.iret (v := 1) hx hb hr (fun t ht hW => ⟨⟨1, (ou), rfl, pW_han_thr hpx, by rw [ht]; exact hP, va_K.moved hW.alike hK, hD⟩, hS.F ht⟩) hS.2.2 dL_handle_14
  obtain ⟨hP1, hK1, hD1⟩ := hB
  rw [ht] at hP1
  try dsimp only at hw_4
  obtain ⟨hP, hD⟩ := va_join (wr := [(oa, .inl (cJ, 1, .inr (.inl ou)))]) (w1 := [(h0, .inr (2, [.int (nI N0), .ref h1, .ref h2, .int (nI ty), .ref a1, .ref a2, .int (nI cl), .ref a3, .ref a4, .ref a5, .int (nI rc), .ref a6, .ref a7, .ref a8, .int (nI lr), .int ld])), (a8, .inl (cJ, 60, .inr (.inl db)))]) hP hD [0, 1] [2] rfl rfl (by decide) (by decide) hk1 hFc hP1 hD1
  generalize H1 = H at hP hS ⊢
  have hP : va_P (dC, dI) vwC2 [(h0, .inr (2, [.int (nI N0), .ref h1, .ref h2, .int (nI ty), .ref a1, .ref a2, .int (nI cl), .ref a3, .ref a4, .ref a5, .int (nI rc), .ref a6, .ref a7, .ref a8, .int (nI lr), .int ld])), (a8, .inl (cJ, 60, .inr (.inl db))), (oa, .inl (cJ, 1, .inr (.inl ou)))] H := hP.sub [1, 2, 0] rfl
  have hD : va_D A [(h0, .inr (2, [.int (nI N0), .ref h1, .ref h2, .int (nI ty), .ref a1, .ref a2, .int (nI cl), .ref a3, .ref a4, .ref a5, .int (nI rc), .ref a6, .ref a7, .ref a8, .int (nI lr), .int ld])), (a8, .inl (cJ, 60, .inr (.inl db))), (oa, .inl (cJ, 1, .inr (.inl ou)))] := hD.sub [1, 2, 0] (by decide) rfl
  refine lv_i2l (v := r_4.toInt64) hx hb dL_handle_7 rfl ?_
  refine va_last hx hb hK hP hD hS 2 2 rfl rfl (vp_in_nI (n := 0) (by omega) (by omega)) dL_handle_8 (fun H locs hP hD hS => ?_)
  have hP : va_P (dC, dI) vwC2 [(h0, .inr (2, [.int (nI N0), .ref h1, .ref h2, .int (nI ty), .ref a1, .ref a2, .int (nI cl), .ref a3, .ref a4, .ref a5, .int (nI rc), .ref a6, .ref a7, .ref a8, .int (nI lr), .int ld])), (a8, .inl (cJ, 60, .inr (.inl db))), (oa, .inl (cJ, 1, .inr (.inl (vp_updL ou 0 r_4.toInt64))))] H := hP
  have hD : va_D A [(h0, .inr (2, [.int (nI N0), .ref h1, .ref h2, .int (nI ty), .ref a1, .ref a2, .int (nI cl), .ref a3, .ref a4, .ref a5, .int (nI rc), .ref a6, .ref a7, .ref a8, .int (nI lr), .int ld])), (a8, .inl (cJ, 60, .inr (.inl db))), (oa, .inl (cJ, 1, .inr (.inl (vp_updL ou 0 r_4.toInt64))))] := hD
  refine lv_goto (tgt := 15) hx hb dL_handle_9 (by decide) ?_
  refine lv_iconst (v := 0) hx hb dL_handle_15 (by decide) ?_
  refine W.widen (k := 1) (n := 6) (by omega) (by omega) ?_
  exact W.iret (v := 0) hx hb hr (fun t ht hW => ⟨⟨0, ((vp_updL ou 0 r_4.toInt64)), rfl, pW_han_ok hw_4, by rw [ht]; exact hP, va_K.moved hW.alike hK, hD⟩, hS.F ht⟩) hS.2.2 dL_handle_16
