def pM_run0  : Int32 × Int32 :=
  (pM_goes0, 0)
set_option maxHeartbeats 4000000 in
set_option maxRecDepth 100000 in
theorem k_XM_run0 (l : Launch) (dC : Nat → ClassId) (dI : Nat → Nat → Nat) (cI cZ cJ : ClassId) (sz : Nat) (g0 e1 e2 e3 e4 e5 e6 e7 e8 e9 : Nat) (mth : Int32) (mN mty mcl mrc mfc mlr : (Nat)) (mld : Int32) (mcv : Int64) (mlo : Int32) (mp msf : Nat → Int32) (mtn : Nat → Nat) (mce mfi : Nat → Int64) (mlk mdn mfl : Nat → Int32) (mw : Nat → Int64) (xo xr : Int32) (hbad : pM_isC mcl xo = 0 ∨ pM_isR mrc xr = 0) : Met l yXM_run wsXM_run ({ frames := 2, cells := 0, slots := 0, locals := 47 }) (va_Pc [.ref g0, .int xo, .int xr] (fun U => U.heap.size = sz ∧ va_P (dC, dI) vwC2 [(g0, .inr (3, [.int mth, .int (nI mN), .int (nI mty), .ref e1, .ref e2, .int (nI mcl), .ref e3, .ref e4, .int (nI mrc), .ref e5, .ref e6, .ref e7, .ref e8, .int (nI mfc), .int (nI mlr), .int mld, .ref e9, .long mcv, .int mlo])), (e1, .inl (cI, 21, .inl mp)), (e2, .inl (cZ, 21, .inl msf)), (e3, .inl (cI, 61, .inl (fun q => nI (mtn q)))), (e4, .inl (cJ, 61, .inr (.inl mce))), (e5, .inl (cJ, 244, .inr (.inl mfi))), (e6, .inl (cZ, 61, .inl mlk)), (e7, .inl (cZ, 3721, .inl mdn)), (e8, .inl (cI, 300, .inl mfl)), (e9, .inl (cJ, 4, .inr (.inl mw)))] U.heap ∧ va_K (dC, dI) vwC2 [(cI, .int), (cZ, .boolean), (cJ, .long)] U ∧ va_D (fun _ => True) [(g0, .inr (3, [.int mth, .int (nI mN), .int (nI mty), .ref e1, .ref e2, .int (nI mcl), .ref e3, .ref e4, .int (nI mrc), .ref e5, .ref e6, .ref e7, .ref e8, .int (nI mfc), .int (nI mlr), .int mld, .ref e9, .long mcv, .int mlo])), (e1, .inl (cI, 21, .inl mp)), (e2, .inl (cZ, 21, .inl msf)), (e3, .inl (cI, 61, .inl (fun q => nI (mtn q)))), (e4, .inl (cJ, 61, .inr (.inl mce))), (e5, .inl (cJ, 244, .inr (.inl mfi))), (e6, .inl (cZ, 61, .inl mlk)), (e7, .inl (cZ, 3721, .inl mdn)), (e8, .inl (cI, 300, .inl mfl)), (e9, .inl (cJ, 4, .inr (.inl mw)))])) (va_Qi (fun (r : Int32) (u : Int32) => (r, u) = pM_run0) (fun (u : Int32) (t : State) => match u with | mth' => va_P (dC, dI) vwC2 [(g0, .inr (3, [.int mth', .int (nI mN), .int (nI mty), .ref e1, .ref e2, .int (nI mcl), .ref e3, .ref e4, .int (nI mrc), .ref e5, .ref e6, .ref e7, .ref e8, .int (nI mfc), .int (nI mlr), .int mld, .ref e9, .long mcv, .int mlo])), (e1, .inl (cI, 21, .inl mp)), (e2, .inl (cZ, 21, .inl msf)), (e3, .inl (cI, 61, .inl (fun q => nI (mtn q)))), (e4, .inl (cJ, 61, .inr (.inl mce))), (e5, .inl (cJ, 244, .inr (.inl mfi))), (e6, .inl (cZ, 61, .inl mlk)), (e7, .inl (cZ, 3721, .inl mdn)), (e8, .inl (cI, 300, .inl mfl)), (e9, .inl (cJ, 4, .inr (.inl mw)))] t.heap ∧ va_K (dC, dI) vwC2 [(cI, .int), (cZ, .boolean), (cJ, .long)] t ∧ va_D (va_A [(g0, .inr (3, [.int mth, .int (nI mN), .int (nI mty), .ref e1, .ref e2, .int (nI mcl), .ref e3, .ref e4, .int (nI mrc), .ref e5, .ref e6, .ref e7, .ref e8, .int (nI mfc), .int (nI mlr), .int mld, .ref e9, .long mcv, .int mlo])), (e1, .inl (cI, 21, .inl mp)), (e2, .inl (cZ, 21, .inl msf)), (e3, .inl (cI, 61, .inl (fun q => nI (mtn q)))), (e4, .inl (cJ, 61, .inr (.inl mce))), (e5, .inl (cJ, 244, .inr (.inl mfi))), (e6, .inl (cZ, 61, .inl mlk)), (e7, .inl (cZ, 3721, .inl mdn)), (e8, .inl (cI, 300, .inl mfl)), (e9, .inl (cJ, 4, .inr (.inl mw)))] sz) [(g0, .inr (3, [.int mth', .int (nI mN), .int (nI mty), .ref e1, .ref e2, .int (nI mcl), .ref e3, .ref e4, .int (nI mrc), .ref e5, .ref e6, .ref e7, .ref e8, .int (nI mfc), .int (nI mlr), .int mld, .ref e9, .long mcv, .int mlo])), (e1, .inl (cI, 21, .inl mp)), (e2, .inl (cZ, 21, .inl msf)), (e3, .inl (cI, 61, .inl (fun q => nI (mtn q)))), (e4, .inl (cJ, 61, .inr (.inl mce))), (e5, .inl (cJ, 244, .inr (.inl mfi))), (e6, .inl (cZ, 61, .inl mlk)), (e7, .inl (cZ, 3721, .inl mdn)), (e8, .inl (cI, 300, .inl mfl)), (e9, .inl (cJ, 4, .inr (.inl mw)))]) (va_A [(g0, .inr (3, [.int mth, .int (nI mN), .int (nI mty), .ref e1, .ref e2, .int (nI mcl), .ref e3, .ref e4, .int (nI mrc), .ref e5, .ref e6, .ref e7, .ref e8, .int (nI mfc), .int (nI mlr), .int mld, .ref e9, .long mcv, .int mlo])), (e1, .inl (cI, 21, .inl mp)), (e2, .inl (cZ, 21, .inl msf)), (e3, .inl (cI, 61, .inl (fun q => nI (mtn q)))), (e4, .inl (cJ, 61, .inr (.inl mce))), (e5, .inl (cJ, 244, .inr (.inl mfi))), (e6, .inl (cZ, 61, .inl mlk)), (e7, .inl (cZ, 3721, .inl mdn)), (e8, .inl (cI, 300, .inl mfl)), (e9, .inl (cJ, 4, .inr (.inl mw)))] sz)) 0 0 (va_A [(g0, .inr (3, [.int mth, .int (nI mN), .int (nI mty), .ref e1, .ref e2, .int (nI mcl), .ref e3, .ref e4, .int (nI mrc), .ref e5, .ref e6, .ref e7, .ref e8, .int (nI mfc), .int (nI mlr), .int mld, .ref e9, .long mcv, .int mlo])), (e1, .inl (cI, 21, .inl mp)), (e2, .inl (cZ, 21, .inl msf)), (e3, .inl (cI, 61, .inl (fun q => nI (mtn q)))), (e4, .inl (cJ, 61, .inr (.inl mce))), (e5, .inl (cJ, 244, .inr (.inl mfi))), (e6, .inl (cZ, 61, .inl mlk)), (e7, .inl (cZ, 3721, .inl mdn)), (e8, .inl (cI, 300, .inl mfl)), (e9, .inl (cJ, 4, .inr (.inl mw)))] sz) := by
  refine Met.ofW (cc := cXM_run) (maxL := 5) (ret := (some .int)) (by decide) rfl ?_
  intro p e s m args below meth c s₁ B hml hv
  obtain ⟨rfl, hsz, hP, hK, hD0⟩ := hv
  have hx := B.exec
  have hb := B.bytes
  have hr := B.returns
  have hts := atoms_spec (ws := wsXM_run) B.pre
  have hown : s.vm.findClass RXM = some m.cls := findClass_of_methodNamed B.named
  have hlocks := B.notSynchronized
  subst hsz
  have hD := hD0.self (sz := s.heap.size)
  generalize hAe : va_A [(g0, .inr (3, [.int mth, .int (nI mN), .int (nI mty), .ref e1, .ref e2, .int (nI mcl), .ref e3, .ref e4, .int (nI mrc), .ref e5, .ref e6, .ref e7, .ref e8, .int (nI mfc), .int (nI mlr), .int mld, .ref e9, .long mcv, .int mlo])), (e1, .inl (cI, 21, .inl mp)), (e2, .inl (cZ, 21, .inl msf)), (e3, .inl (cI, 61, .inl (fun q => nI (mtn q)))), (e4, .inl (cJ, 61, .inr (.inl mce))), (e5, .inl (cJ, 244, .inr (.inl mfi))), (e6, .inl (cZ, 61, .inl mlk)), (e7, .inl (cZ, 3721, .inl mdn)), (e8, .inl (cI, 300, .inl mfl)), (e9, .inl (cJ, 4, .inr (.inl mw)))] s.heap.size = A at hD ⊢
  have hA : ∀ q : Nat, s.heap.size ≤ q → A q := fun q h => by rw [← hAe]; exact Or.inr h
  have hS : va_S A s.heap s.heap [] := va_S.rf
  have hP : va_P (dC, dI) vwC2 [(g0, .inr (3, [.int mth, .int (nI mN), .int (nI mty), .ref e1, .ref e2, .int (nI mcl), .ref e3, .ref e4, .int (nI mrc), .ref e5, .ref e6, .ref e7, .ref e8, .int (nI mfc), .int (nI mlr), .int mld, .ref e9, .long mcv, .int mlo])), (e1, .inl (cI, 21, .inl mp)), (e2, .inl (cZ, 21, .inl msf)), (e3, .inl (cI, 61, .inl (fun q => nI (mtn q)))), (e4, .inl (cJ, 61, .inr (.inl mce))), (e5, .inl (cJ, 244, .inr (.inl mfi))), (e6, .inl (cZ, 61, .inl mlk)), (e7, .inl (cZ, 3721, .inl mdn)), (e8, .inl (cI, 300, .inl mfl)), (e9, .inl (cJ, 4, .inr (.inl mw)))] s.heap := hP
  have hl := lv_entry ([.ref g0, .int xo, .int xr]) (n := 5) (Nat.le_of_ble_eq_true rfl)
  rw [lg_entry_eq]
  generalize (lg_sl ([.ref g0, .int xo, .int xr]) ++ List.replicate (5 - (lg_sl ([.ref g0, .int xo, .int xr])).length) Slot.unset).toArray = ls at hl ⊢
  have hl : lv_has ls 5 [(0, .ref g0), (1, .int xo), (2, .int xr)] := hl
  refine lv_aload_n hx hb dXM_run_0 rfl (lv_at hl 0 rfl) ?_
  refine lv_iconst (v := 0) hx hb dXM_run_1 (by decide) ?_
  refine va_put (D := (dC, dI)) (ci := 3) (v := .int 0) (ty := .int) (C := RXM) (T := TXM) (N := 19) hx hb hts (by decide +kernel) tyXM tyXM_ok nmXM hown hK hP hD hS 0 rfl rfl 0 (by decide) (hts (.fieldLink RXM 43 "BatchClassesModel" "thrown" "I") (by decide +kernel)) (fun _ h9 => h9) rfl (by decide +kernel) rfl rfl (Nat.le_of_ble_eq_true rfl) dXM_run_2 (fun H locs hP hD hS => ?_)
  have hP : va_P (dC, dI) vwC2 [(g0, .inr (3, [.int 0, .int (nI mN), .int (nI mty), .ref e1, .ref e2, .int (nI mcl), .ref e3, .ref e4, .int (nI mrc), .ref e5, .ref e6, .ref e7, .ref e8, .int (nI mfc), .int (nI mlr), .int mld, .ref e9, .long mcv, .int mlo])), (e1, .inl (cI, 21, .inl mp)), (e2, .inl (cZ, 21, .inl msf)), (e3, .inl (cI, 61, .inl (fun q => nI (mtn q)))), (e4, .inl (cJ, 61, .inr (.inl mce))), (e5, .inl (cJ, 244, .inr (.inl mfi))), (e6, .inl (cZ, 61, .inl mlk)), (e7, .inl (cZ, 3721, .inl mdn)), (e8, .inl (cI, 300, .inl mfl)), (e9, .inl (cJ, 4, .inr (.inl mw)))] H := hP
  have hD : va_D A [(g0, .inr (3, [.int 0, .int (nI mN), .int (nI mty), .ref e1, .ref e2, .int (nI mcl), .ref e3, .ref e4, .int (nI mrc), .ref e5, .ref e6, .ref e7, .ref e8, .int (nI mfc), .int (nI mlr), .int mld, .ref e9, .long mcv, .int mlo])), (e1, .inl (cI, 21, .inl mp)), (e2, .inl (cZ, 21, .inl msf)), (e3, .inl (cI, 61, .inl (fun q => nI (mtn q)))), (e4, .inl (cJ, 61, .inr (.inl mce))), (e5, .inl (cJ, 244, .inr (.inl mfi))), (e6, .inl (cZ, 61, .inl mlk)), (e7, .inl (cZ, 3721, .inl mdn)), (e8, .inl (cI, 300, .inl mfl)), (e9, .inl (cJ, 4, .inr (.inl mw)))] := hD
  refine lv_aload_n hx hb dXM_run_5 rfl (lv_at hl 0 rfl) ?_
  refine lv_iload_n hx hb dXM_run_6 rfl (lv_at hl 1 rfl) ?_
  refine lv_iload_n hx hb dXM_run_7 rfl (lv_at hl 2 rfl) ?_
  have hPc := hP.sub (ws' := [(g0, .inr (3, [.int 0, .int (nI mN), .int (nI mty), .ref e1, .ref e2, .int (nI mcl), .ref e3, .ref e4, .int (nI mrc), .ref e5, .ref e6, .ref e7, .ref e8, .int (nI mfc), .int (nI mlr), .int mld, .ref e9, .long mcv, .int mlo])), (e1, .inl (cI, 21, .inl mp)), (e3, .inl (cI, 61, .inl (fun q => nI (mtn q)))), (e4, .inl (cJ, 61, .inr (.inl mce))), (e5, .inl (cJ, 244, .inr (.inl mfi))), (e6, .inl (cZ, 61, .inl mlk)), (e9, .inl (cJ, 4, .inr (.inl mw)))]) [0, 1, 3, 4, 5, 6, 9] rfl
  have hDc := hD.sub (ws' := [(g0, .inr (3, [.int 0, .int (nI mN), .int (nI mty), .ref e1, .ref e2, .int (nI mcl), .ref e3, .ref e4, .int (nI mrc), .ref e5, .ref e6, .ref e7, .ref e8, .int (nI mfc), .int (nI mlr), .int mld, .ref e9, .long mcv, .int mlo])), (e1, .inl (cI, 21, .inl mp)), (e3, .inl (cI, 61, .inl (fun q => nI (mtn q)))), (e4, .inl (cJ, 61, .inr (.inl mce))), (e5, .inl (cJ, 244, .inr (.inl mfi))), (e6, .inl (cZ, 61, .inl mlk)), (e9, .inl (cJ, 4, .inr (.inl mw)))]) [0, 1, 3, 4, 5, 6, 9] (by decide) rfl
  have hFc := va_free (wc := [(g0, .inr (3, [.int 0, .int (nI mN), .int (nI mty), .ref e1, .ref e2, .int (nI mcl), .ref e3, .ref e4, .int (nI mrc), .ref e5, .ref e6, .ref e7, .ref e8, .int (nI mfc), .int (nI mlr), .int mld, .ref e9, .long mcv, .int mlo])), (e1, .inl (cI, 21, .inl mp)), (e3, .inl (cI, 61, .inl (fun q => nI (mtn q)))), (e4, .inl (cJ, 61, .inr (.inl mce))), (e5, .inl (cJ, 244, .inr (.inl mfi))), (e6, .inl (cZ, 61, .inl mlk)), (e9, .inl (cJ, 4, .inr (.inl mw)))]) hD hS hA [0, 1, 3, 4, 5, 6, 9] rfl
  refine va_calli (va_runV (As := [.int xo, .int xr]) (rest := []) ⟨hx, hb, hml, hown, hts⟩ (k_XM_goes0 l dC dI cI cZ cJ H.size g0 e1 e2 e3 e4 e5 e6 e7 e8 e9 0 mN mty mcl mrc mfc mlr mld mcv mlo mp mtn mce mfi mlk mw xo xr hbad) (cwV 2 hts gXM_run_XM_goes rfl rfl rfl (by decide +kernel) ⟨Nat.le_of_ble_eq_true rfl, Nat.le_of_ble_eq_true rfl⟩) ⟨fun a U g mk q => by obtain ⟨q0, q1, qP, qK, qD⟩ := q; exact ⟨q0, q1, qP, va_K.moved (u := U) (U := U.calling g mk a) (Vm.Alike.refl U.vm) qK, qD⟩, va_recv hK hPc (ci := 3) (q0 := 0) rfl rfl, fun U hU hW => ⟨rfl, by rw [hU], by rw [hU]; exact hPc, va_K.moved hW.alike hK, hDc.weaken (fun _ _ _ _ => trivial)⟩⟩ rfl rfl hl.1 rfl (lv_room (Nat.le_of_ble_eq_true rfl)) dXM_run_8 ⟨Nat.zero_le _, Nat.zero_le _⟩) hS (fun q _ h => hFc q h) hFc (fun r_8 u t H1 locs ht hvm hw_8 hB hz1 hk1 hS => ?_)
  obtain ⟨hP1, hK1, hD1⟩ := hB
  rw [ht] at hP1
  try dsimp only at hw_8
  obtain ⟨hP, hD⟩ := va_join (wr := [(e2, .inl (cZ, 21, .inl msf)), (e7, .inl (cZ, 3721, .inl mdn)), (e8, .inl (cI, 300, .inl mfl))]) (w1 := [(g0, .inr (3, [.int 0, .int (nI mN), .int (nI mty), .ref e1, .ref e2, .int (nI mcl), .ref e3, .ref e4, .int (nI mrc), .ref e5, .ref e6, .ref e7, .ref e8, .int (nI mfc), .int (nI mlr), .int mld, .ref e9, .long mcv, .int mlo])), (e1, .inl (cI, 21, .inl mp)), (e3, .inl (cI, 61, .inl (fun q => nI (mtn q)))), (e4, .inl (cJ, 61, .inr (.inl mce))), (e5, .inl (cJ, 244, .inr (.inl mfi))), (e6, .inl (cZ, 61, .inl mlk)), (e9, .inl (cJ, 4, .inr (.inl mw)))]) hP hD [0, 1, 3, 4, 5, 6, 9] [2, 7, 8] rfl rfl (by decide) (by decide) hk1 hFc hP1 hD1
  generalize H1 = H at hP hS ⊢
  have hP : va_P (dC, dI) vwC2 [(g0, .inr (3, [.int 0, .int (nI mN), .int (nI mty), .ref e1, .ref e2, .int (nI mcl), .ref e3, .ref e4, .int (nI mrc), .ref e5, .ref e6, .ref e7, .ref e8, .int (nI mfc), .int (nI mlr), .int mld, .ref e9, .long mcv, .int mlo])), (e1, .inl (cI, 21, .inl mp)), (e2, .inl (cZ, 21, .inl msf)), (e3, .inl (cI, 61, .inl (fun q => nI (mtn q)))), (e4, .inl (cJ, 61, .inr (.inl mce))), (e5, .inl (cJ, 244, .inr (.inl mfi))), (e6, .inl (cZ, 61, .inl mlk)), (e7, .inl (cZ, 3721, .inl mdn)), (e8, .inl (cI, 300, .inl mfl)), (e9, .inl (cJ, 4, .inr (.inl mw)))] H := hP.sub [3, 4, 0, 5, 6, 7, 8, 1, 2, 9] rfl
  have hD : va_D A [(g0, .inr (3, [.int 0, .int (nI mN), .int (nI mty), .ref e1, .ref e2, .int (nI mcl), .ref e3, .ref e4, .int (nI mrc), .ref e5, .ref e6, .ref e7, .ref e8, .int (nI mfc), .int (nI mlr), .int mld, .ref e9, .long mcv, .int mlo])), (e1, .inl (cI, 21, .inl mp)), (e2, .inl (cZ, 21, .inl msf)), (e3, .inl (cI, 61, .inl (fun q => nI (mtn q)))), (e4, .inl (cJ, 61, .inr (.inl mce))), (e5, .inl (cJ, 244, .inr (.inl mfi))), (e6, .inl (cZ, 61, .inl mlk)), (e7, .inl (cZ, 3721, .inl mdn)), (e8, .inl (cI, 300, .inl mfl)), (e9, .inl (cJ, 4, .inr (.inl mw)))] := hD.sub [3, 4, 0, 5, 6, 7, 8, 1, 2, 9] (by decide) rfl
  subst hw_8
  refine lv_istore_n (lv' := [(3, .int pM_goes0), (0, .ref g0), (1, .int xo), (2, .int xr)]) hx hb dXM_run_11 rfl hl (by decide) rfl (fun ls hl => ?_)
  refine lv_iload_n hx hb dXM_run_12 rfl (lv_at hl 0 rfl) ?_
  refine lv_iconst (v := (-1)) hx hb dXM_run_13 (by decide) ?_
  refine lv_icmp_ne (tgt := 19) hx hb dXM_run_14 (by decide) (fun c_14 => absurd (show pM_goes0 = -1 from rfl) c_14) (fun c_14 => ?_)
  refine lv_iload_n hx hb dXM_run_17 rfl (lv_at hl 0 rfl) ?_
  exact W.iret (v := pM_goes0) hx hb hr (fun t ht hW => ⟨⟨pM_goes0, (0), rfl, by first | (simp only [pM_run0]; done) | (simp only [pM_run0]; rfl) | rfl, by rw [ht]; exact hP, va_K.moved hW.alike hK, hD⟩, hS.F ht⟩) hS.2.2 dXM_run_18
def pM_run (mN : (Nat)) (mfc : (Nat)) (mlr : (Nat)) (mld : Int32) (mcv : Int64) (mlo : Int32) (mp : Nat → Int32) (mtn : Nat → Nat) (mce : Nat → Int64) (mfi : Nat → Int64) (mlk : Nat → Int32) (mdn : Nat → Int32) (mfl : Nat → Int32) (mw : Nat → Int64) (i : (Nat)) (j : (Nat)) : Int32 × Int32 × (Nat) × (Nat) × Int32 × Int64 × Int32 × (Nat → Int64) × (Nat → Int64) × (Nat → Int32) × (Nat → Int32) × (Nat → Int32) × (Nat → Int64) :=
  match pM_goes mN mcv mlo mp mtn mce mfi mlk mw i j with
  | (r_8, mcv_8, mlo_8, mw_8) =>
    if r_8 = (-1) then
      (r_8, 0, mfc, mlr, mld, mcv_8, mlo_8, mce, mfi, mlk, mdn, mfl, mw_8)
    else
      if r_8 = 1 then
        (r_8, 0, mfc, j, 1, mcv_8, mlo_8, (vp_updL mce i mcv_8), (vp_updL (vp_updL (vp_updL (vp_updL mfi ((4 * j) + 0) (mw_8 0)) ((4 * j) + 1) (mw_8 1)) ((4 * j) + 2) (mw_8 2)) ((4 * j) + 3) (mw_8 3)), (upd mlk j (vp_nar .boolean mlo_8)), (upd mdn ((61 * i) + j) 1), mfl, mw_8)
      else
        if 100 ≤ mfc then
          (r_8, 0, (mfc + 1), j, 0, mcv_8, mlo_8, mce, mfi, mlk, mdn, mfl, mw_8)
        else
          (r_8, 0, (mfc + 1), j, 0, mcv_8, mlo_8, mce, mfi, mlk, mdn, (upd (upd (upd mfl (3 * mfc) (nI j)) ((3 * mfc) + 1) (-r_8)) ((3 * mfc) + 2) (nI i)), mw_8)
set_option maxHeartbeats 4000000 in
set_option maxRecDepth 100000 in
theorem k_XM_run (l : Launch) (dC : Nat → ClassId) (dI : Nat → Nat → Nat) (cI cZ cJ : ClassId) (sz : Nat) (g0 e1 e2 e3 e4 e5 e6 e7 e8 e9 : Nat) (mth : Int32) (mN mty mcl mrc mfc mlr : (Nat)) (mld : Int32) (mcv : Int64) (mlo : Int32) (mp msf : Nat → Int32) (mtn : Nat → Nat) (mce mfi : Nat → Int64) (mlk mdn mfl : Nat → Int32) (mw : Nat → Int64) (i j : (Nat)) (hi : 1 ≤ i ∧ i ≤ mcl) (hj : 1 ≤ j ∧ j ≤ mrc) (hmN : mN ≤ 200) (hcl : mcl ≤ 60) (hrc : mrc ≤ 60) (htn : 1 ≤ mtn i ∧ mtn i ≤ 20) (hfc : mfc ≤ 100000) : Met l yXM_run wsXM_run ({ frames := 2, cells := 0, slots := 0, locals := 49 }) (va_Pc [.ref g0, .int (nI i), .int (nI j)] (fun U => U.heap.size = sz ∧ va_P (dC, dI) vwC2 [(g0, .inr (3, [.int mth, .int (nI mN), .int (nI mty), .ref e1, .ref e2, .int (nI mcl), .ref e3, .ref e4, .int (nI mrc), .ref e5, .ref e6, .ref e7, .ref e8, .int (nI mfc), .int (nI mlr), .int mld, .ref e9, .long mcv, .int mlo])), (e1, .inl (cI, 21, .inl mp)), (e2, .inl (cZ, 21, .inl msf)), (e3, .inl (cI, 61, .inl (fun q => nI (mtn q)))), (e4, .inl (cJ, 61, .inr (.inl mce))), (e5, .inl (cJ, 244, .inr (.inl mfi))), (e6, .inl (cZ, 61, .inl mlk)), (e7, .inl (cZ, 3721, .inl mdn)), (e8, .inl (cI, 300, .inl mfl)), (e9, .inl (cJ, 4, .inr (.inl mw)))] U.heap ∧ va_K (dC, dI) vwC2 [(cI, .int), (cZ, .boolean), (cJ, .long)] U ∧ va_D (fun _ => True) [(g0, .inr (3, [.int mth, .int (nI mN), .int (nI mty), .ref e1, .ref e2, .int (nI mcl), .ref e3, .ref e4, .int (nI mrc), .ref e5, .ref e6, .ref e7, .ref e8, .int (nI mfc), .int (nI mlr), .int mld, .ref e9, .long mcv, .int mlo])), (e1, .inl (cI, 21, .inl mp)), (e2, .inl (cZ, 21, .inl msf)), (e3, .inl (cI, 61, .inl (fun q => nI (mtn q)))), (e4, .inl (cJ, 61, .inr (.inl mce))), (e5, .inl (cJ, 244, .inr (.inl mfi))), (e6, .inl (cZ, 61, .inl mlk)), (e7, .inl (cZ, 3721, .inl mdn)), (e8, .inl (cI, 300, .inl mfl)), (e9, .inl (cJ, 4, .inr (.inl mw)))])) (va_Qi (fun (r : Int32) (u : Int32 × (Nat) × (Nat) × Int32 × Int64 × Int32 × (Nat → Int64) × (Nat → Int64) × (Nat → Int32) × (Nat → Int32) × (Nat → Int32) × (Nat → Int64)) => (r, u) = pM_run mN mfc mlr mld mcv mlo mp mtn mce mfi mlk mdn mfl mw i j) (fun (u : Int32 × (Nat) × (Nat) × Int32 × Int64 × Int32 × (Nat → Int64) × (Nat → Int64) × (Nat → Int32) × (Nat → Int32) × (Nat → Int32) × (Nat → Int64)) (t : State) => match u with | (mth', mfc', mlr', mld', mcv', mlo', mce', mfi', mlk', mdn', mfl', mw') => va_P (dC, dI) vwC2 [(g0, .inr (3, [.int mth', .int (nI mN), .int (nI mty), .ref e1, .ref e2, .int (nI mcl), .ref e3, .ref e4, .int (nI mrc), .ref e5, .ref e6, .ref e7, .ref e8, .int (nI mfc'), .int (nI mlr'), .int mld', .ref e9, .long mcv', .int mlo'])), (e1, .inl (cI, 21, .inl mp)), (e2, .inl (cZ, 21, .inl msf)), (e3, .inl (cI, 61, .inl (fun q => nI (mtn q)))), (e4, .inl (cJ, 61, .inr (.inl mce'))), (e5, .inl (cJ, 244, .inr (.inl mfi'))), (e6, .inl (cZ, 61, .inl mlk')), (e7, .inl (cZ, 3721, .inl mdn')), (e8, .inl (cI, 300, .inl mfl')), (e9, .inl (cJ, 4, .inr (.inl mw')))] t.heap ∧ va_K (dC, dI) vwC2 [(cI, .int), (cZ, .boolean), (cJ, .long)] t ∧ va_D (va_A [(g0, .inr (3, [.int mth, .int (nI mN), .int (nI mty), .ref e1, .ref e2, .int (nI mcl), .ref e3, .ref e4, .int (nI mrc), .ref e5, .ref e6, .ref e7, .ref e8, .int (nI mfc), .int (nI mlr), .int mld, .ref e9, .long mcv, .int mlo])), (e1, .inl (cI, 21, .inl mp)), (e2, .inl (cZ, 21, .inl msf)), (e3, .inl (cI, 61, .inl (fun q => nI (mtn q)))), (e4, .inl (cJ, 61, .inr (.inl mce))), (e5, .inl (cJ, 244, .inr (.inl mfi))), (e6, .inl (cZ, 61, .inl mlk)), (e7, .inl (cZ, 3721, .inl mdn)), (e8, .inl (cI, 300, .inl mfl)), (e9, .inl (cJ, 4, .inr (.inl mw)))] sz) [(g0, .inr (3, [.int mth', .int (nI mN), .int (nI mty), .ref e1, .ref e2, .int (nI mcl), .ref e3, .ref e4, .int (nI mrc), .ref e5, .ref e6, .ref e7, .ref e8, .int (nI mfc'), .int (nI mlr'), .int mld', .ref e9, .long mcv', .int mlo'])), (e1, .inl (cI, 21, .inl mp)), (e2, .inl (cZ, 21, .inl msf)), (e3, .inl (cI, 61, .inl (fun q => nI (mtn q)))), (e4, .inl (cJ, 61, .inr (.inl mce'))), (e5, .inl (cJ, 244, .inr (.inl mfi'))), (e6, .inl (cZ, 61, .inl mlk')), (e7, .inl (cZ, 3721, .inl mdn')), (e8, .inl (cI, 300, .inl mfl')), (e9, .inl (cJ, 4, .inr (.inl mw')))]) (va_A [(g0, .inr (3, [.int mth, .int (nI mN), .int (nI mty), .ref e1, .ref e2, .int (nI mcl), .ref e3, .ref e4, .int (nI mrc), .ref e5, .ref e6, .ref e7, .ref e8, .int (nI mfc), .int (nI mlr), .int mld, .ref e9, .long mcv, .int mlo])), (e1, .inl (cI, 21, .inl mp)), (e2, .inl (cZ, 21, .inl msf)), (e3, .inl (cI, 61, .inl (fun q => nI (mtn q)))), (e4, .inl (cJ, 61, .inr (.inl mce))), (e5, .inl (cJ, 244, .inr (.inl mfi))), (e6, .inl (cZ, 61, .inl mlk)), (e7, .inl (cZ, 3721, .inl mdn)), (e8, .inl (cI, 300, .inl mfl)), (e9, .inl (cJ, 4, .inr (.inl mw)))] sz)) 0 0 (va_A [(g0, .inr (3, [.int mth, .int (nI mN), .int (nI mty), .ref e1, .ref e2, .int (nI mcl), .ref e3, .ref e4, .int (nI mrc), .ref e5, .ref e6, .ref e7, .ref e8, .int (nI mfc), .int (nI mlr), .int mld, .ref e9, .long mcv, .int mlo])), (e1, .inl (cI, 21, .inl mp)), (e2, .inl (cZ, 21, .inl msf)), (e3, .inl (cI, 61, .inl (fun q => nI (mtn q)))), (e4, .inl (cJ, 61, .inr (.inl mce))), (e5, .inl (cJ, 244, .inr (.inl mfi))), (e6, .inl (cZ, 61, .inl mlk)), (e7, .inl (cZ, 3721, .inl mdn)), (e8, .inl (cI, 300, .inl mfl)), (e9, .inl (cJ, 4, .inr (.inl mw)))] sz) := by
  refine Met.ofW (cc := cXM_run) (maxL := 5) (ret := (some .int)) (by decide) rfl ?_
  intro p e s m args below meth c s₁ B hml hv
  obtain ⟨rfl, hsz, hP, hK, hD0⟩ := hv
  have hx := B.exec
  have hb := B.bytes
  have hr := B.returns
  have hts := atoms_spec (ws := wsXM_run) B.pre
  have hown : s.vm.findClass RXM = some m.cls := findClass_of_methodNamed B.named
  have hlocks := B.notSynchronized
  subst hsz
  have hD := hD0.self (sz := s.heap.size)
  generalize hAe : va_A [(g0, .inr (3, [.int mth, .int (nI mN), .int (nI mty), .ref e1, .ref e2, .int (nI mcl), .ref e3, .ref e4, .int (nI mrc), .ref e5, .ref e6, .ref e7, .ref e8, .int (nI mfc), .int (nI mlr), .int mld, .ref e9, .long mcv, .int mlo])), (e1, .inl (cI, 21, .inl mp)), (e2, .inl (cZ, 21, .inl msf)), (e3, .inl (cI, 61, .inl (fun q => nI (mtn q)))), (e4, .inl (cJ, 61, .inr (.inl mce))), (e5, .inl (cJ, 244, .inr (.inl mfi))), (e6, .inl (cZ, 61, .inl mlk)), (e7, .inl (cZ, 3721, .inl mdn)), (e8, .inl (cI, 300, .inl mfl)), (e9, .inl (cJ, 4, .inr (.inl mw)))] s.heap.size = A at hD ⊢
  have hA : ∀ q : Nat, s.heap.size ≤ q → A q := fun q h => by rw [← hAe]; exact Or.inr h
  have hS : va_S A s.heap s.heap [] := va_S.rf
  have hP : va_P (dC, dI) vwC2 [(g0, .inr (3, [.int mth, .int (nI mN), .int (nI mty), .ref e1, .ref e2, .int (nI mcl), .ref e3, .ref e4, .int (nI mrc), .ref e5, .ref e6, .ref e7, .ref e8, .int (nI mfc), .int (nI mlr), .int mld, .ref e9, .long mcv, .int mlo])), (e1, .inl (cI, 21, .inl mp)), (e2, .inl (cZ, 21, .inl msf)), (e3, .inl (cI, 61, .inl (fun q => nI (mtn q)))), (e4, .inl (cJ, 61, .inr (.inl mce))), (e5, .inl (cJ, 244, .inr (.inl mfi))), (e6, .inl (cZ, 61, .inl mlk)), (e7, .inl (cZ, 3721, .inl mdn)), (e8, .inl (cI, 300, .inl mfl)), (e9, .inl (cJ, 4, .inr (.inl mw)))] s.heap := hP
  have hl := lv_entry ([.ref g0, .int (nI i), .int (nI j)]) (n := 5) (Nat.le_of_ble_eq_true rfl)
  rw [lg_entry_eq]
  generalize (lg_sl ([.ref g0, .int (nI i), .int (nI j)]) ++ List.replicate (5 - (lg_sl ([.ref g0, .int (nI i), .int (nI j)])).length) Slot.unset).toArray = ls at hl ⊢
  have hl : lv_has ls 5 [(0, .ref g0), (1, .int (nI i)), (2, .int (nI j))] := hl
  refine lv_aload_n hx hb dXM_run_0 rfl (lv_at hl 0 rfl) ?_
  refine lv_iconst (v := 0) hx hb dXM_run_1 (by decide) ?_
  refine va_put (D := (dC, dI)) (ci := 3) (v := .int 0) (ty := .int) (C := RXM) (T := TXM) (N := 19) hx hb hts (by decide +kernel) tyXM tyXM_ok nmXM hown hK hP hD hS 0 rfl rfl 0 (by decide) (hts (.fieldLink RXM 43 "BatchClassesModel" "thrown" "I") (by decide +kernel)) (fun _ h9 => h9) rfl (by decide +kernel) rfl rfl (Nat.le_of_ble_eq_true rfl) dXM_run_2 (fun H locs hP hD hS => ?_)
  have hP : va_P (dC, dI) vwC2 [(g0, .inr (3, [.int 0, .int (nI mN), .int (nI mty), .ref e1, .ref e2, .int (nI mcl), .ref e3, .ref e4, .int (nI mrc), .ref e5, .ref e6, .ref e7, .ref e8, .int (nI mfc), .int (nI mlr), .int mld, .ref e9, .long mcv, .int mlo])), (e1, .inl (cI, 21, .inl mp)), (e2, .inl (cZ, 21, .inl msf)), (e3, .inl (cI, 61, .inl (fun q => nI (mtn q)))), (e4, .inl (cJ, 61, .inr (.inl mce))), (e5, .inl (cJ, 244, .inr (.inl mfi))), (e6, .inl (cZ, 61, .inl mlk)), (e7, .inl (cZ, 3721, .inl mdn)), (e8, .inl (cI, 300, .inl mfl)), (e9, .inl (cJ, 4, .inr (.inl mw)))] H := hP
  have hD : va_D A [(g0, .inr (3, [.int 0, .int (nI mN), .int (nI mty), .ref e1, .ref e2, .int (nI mcl), .ref e3, .ref e4, .int (nI mrc), .ref e5, .ref e6, .ref e7, .ref e8, .int (nI mfc), .int (nI mlr), .int mld, .ref e9, .long mcv, .int mlo])), (e1, .inl (cI, 21, .inl mp)), (e2, .inl (cZ, 21, .inl msf)), (e3, .inl (cI, 61, .inl (fun q => nI (mtn q)))), (e4, .inl (cJ, 61, .inr (.inl mce))), (e5, .inl (cJ, 244, .inr (.inl mfi))), (e6, .inl (cZ, 61, .inl mlk)), (e7, .inl (cZ, 3721, .inl mdn)), (e8, .inl (cI, 300, .inl mfl)), (e9, .inl (cJ, 4, .inr (.inl mw)))] := hD
  refine lv_aload_n hx hb dXM_run_5 rfl (lv_at hl 0 rfl) ?_
  refine lv_iload_n hx hb dXM_run_6 rfl (lv_at hl 1 rfl) ?_
  refine lv_iload_n hx hb dXM_run_7 rfl (lv_at hl 2 rfl) ?_
  have hPc := hP.sub (ws' := [(g0, .inr (3, [.int 0, .int (nI mN), .int (nI mty), .ref e1, .ref e2, .int (nI mcl), .ref e3, .ref e4, .int (nI mrc), .ref e5, .ref e6, .ref e7, .ref e8, .int (nI mfc), .int (nI mlr), .int mld, .ref e9, .long mcv, .int mlo])), (e1, .inl (cI, 21, .inl mp)), (e3, .inl (cI, 61, .inl (fun q => nI (mtn q)))), (e4, .inl (cJ, 61, .inr (.inl mce))), (e5, .inl (cJ, 244, .inr (.inl mfi))), (e6, .inl (cZ, 61, .inl mlk)), (e9, .inl (cJ, 4, .inr (.inl mw)))]) [0, 1, 3, 4, 5, 6, 9] rfl
  have hDc := hD.sub (ws' := [(g0, .inr (3, [.int 0, .int (nI mN), .int (nI mty), .ref e1, .ref e2, .int (nI mcl), .ref e3, .ref e4, .int (nI mrc), .ref e5, .ref e6, .ref e7, .ref e8, .int (nI mfc), .int (nI mlr), .int mld, .ref e9, .long mcv, .int mlo])), (e1, .inl (cI, 21, .inl mp)), (e3, .inl (cI, 61, .inl (fun q => nI (mtn q)))), (e4, .inl (cJ, 61, .inr (.inl mce))), (e5, .inl (cJ, 244, .inr (.inl mfi))), (e6, .inl (cZ, 61, .inl mlk)), (e9, .inl (cJ, 4, .inr (.inl mw)))]) [0, 1, 3, 4, 5, 6, 9] (by decide) rfl
  have hFc := va_free (wc := [(g0, .inr (3, [.int 0, .int (nI mN), .int (nI mty), .ref e1, .ref e2, .int (nI mcl), .ref e3, .ref e4, .int (nI mrc), .ref e5, .ref e6, .ref e7, .ref e8, .int (nI mfc), .int (nI mlr), .int mld, .ref e9, .long mcv, .int mlo])), (e1, .inl (cI, 21, .inl mp)), (e3, .inl (cI, 61, .inl (fun q => nI (mtn q)))), (e4, .inl (cJ, 61, .inr (.inl mce))), (e5, .inl (cJ, 244, .inr (.inl mfi))), (e6, .inl (cZ, 61, .inl mlk)), (e9, .inl (cJ, 4, .inr (.inl mw)))]) hD hS hA [0, 1, 3, 4, 5, 6, 9] rfl
  refine va_calli (va_runV (As := [.int (nI i), .int (nI j)]) (rest := []) ⟨hx, hb, hml, hown, hts⟩ (k_XM_goes l dC dI cI cZ cJ H.size g0 e1 e2 e3 e4 e5 e6 e7 e8 e9 0 mN mty mcl mrc mfc mlr mld mcv mlo mp mtn mce mfi mlk mw i j hi hj hcl hrc hmN htn) (cwV 2 hts gXM_run_XM_goes rfl rfl rfl (by decide +kernel) ⟨Nat.le_of_ble_eq_true rfl, Nat.le_of_ble_eq_true rfl⟩) ⟨fun a U g mk q => by obtain ⟨q0, q1, qP, qK, qD⟩ := q; exact ⟨q0, q1, qP, va_K.moved (u := U) (U := U.calling g mk a) (Vm.Alike.refl U.vm) qK, qD⟩, va_recv hK hPc (ci := 3) (q0 := 0) rfl rfl, fun U hU hW => ⟨rfl, by rw [hU], by rw [hU]; exact hPc, va_K.moved hW.alike hK, hDc.weaken (fun _ _ _ _ => trivial)⟩⟩ rfl rfl hl.1 rfl (lv_room (Nat.le_of_ble_eq_true rfl)) dXM_run_8 ⟨Nat.zero_le _, Nat.zero_le _⟩) hS (fun q _ h => hFc q h) hFc (fun r_8 u t H1 locs ht hvm hw_8 hB hz1 hk1 hS => ?_)
  obtain ⟨mcv_8, mlo_8, mw_8⟩ := u
  obtain ⟨hP1, hK1, hD1⟩ := hB
  rw [ht] at hP1
  try dsimp only at hw_8
  obtain ⟨hP, hD⟩ := va_join (wr := [(e2, .inl (cZ, 21, .inl msf)), (e7, .inl (cZ, 3721, .inl mdn)), (e8, .inl (cI, 300, .inl mfl))]) (w1 := [(g0, .inr (3, [.int 0, .int (nI mN), .int (nI mty), .ref e1, .ref e2, .int (nI mcl), .ref e3, .ref e4, .int (nI mrc), .ref e5, .ref e6, .ref e7, .ref e8, .int (nI mfc), .int (nI mlr), .int mld, .ref e9, .long mcv_8, .int mlo_8])), (e1, .inl (cI, 21, .inl mp)), (e3, .inl (cI, 61, .inl (fun q => nI (mtn q)))), (e4, .inl (cJ, 61, .inr (.inl mce))), (e5, .inl (cJ, 244, .inr (.inl mfi))), (e6, .inl (cZ, 61, .inl mlk)), (e9, .inl (cJ, 4, .inr (.inl mw_8)))]) hP hD [0, 1, 3, 4, 5, 6, 9] [2, 7, 8] rfl rfl (by decide) (by decide) hk1 hFc hP1 hD1
  generalize H1 = H at hP hS ⊢
  have hP : va_P (dC, dI) vwC2 [(g0, .inr (3, [.int 0, .int (nI mN), .int (nI mty), .ref e1, .ref e2, .int (nI mcl), .ref e3, .ref e4, .int (nI mrc), .ref e5, .ref e6, .ref e7, .ref e8, .int (nI mfc), .int (nI mlr), .int mld, .ref e9, .long mcv_8, .int mlo_8])), (e1, .inl (cI, 21, .inl mp)), (e2, .inl (cZ, 21, .inl msf)), (e3, .inl (cI, 61, .inl (fun q => nI (mtn q)))), (e4, .inl (cJ, 61, .inr (.inl mce))), (e5, .inl (cJ, 244, .inr (.inl mfi))), (e6, .inl (cZ, 61, .inl mlk)), (e7, .inl (cZ, 3721, .inl mdn)), (e8, .inl (cI, 300, .inl mfl)), (e9, .inl (cJ, 4, .inr (.inl mw_8)))] H := hP.sub [3, 4, 0, 5, 6, 7, 8, 1, 2, 9] rfl
  have hD : va_D A [(g0, .inr (3, [.int 0, .int (nI mN), .int (nI mty), .ref e1, .ref e2, .int (nI mcl), .ref e3, .ref e4, .int (nI mrc), .ref e5, .ref e6, .ref e7, .ref e8, .int (nI mfc), .int (nI mlr), .int mld, .ref e9, .long mcv_8, .int mlo_8])), (e1, .inl (cI, 21, .inl mp)), (e2, .inl (cZ, 21, .inl msf)), (e3, .inl (cI, 61, .inl (fun q => nI (mtn q)))), (e4, .inl (cJ, 61, .inr (.inl mce))), (e5, .inl (cJ, 244, .inr (.inl mfi))), (e6, .inl (cZ, 61, .inl mlk)), (e7, .inl (cZ, 3721, .inl mdn)), (e8, .inl (cI, 300, .inl mfl)), (e9, .inl (cJ, 4, .inr (.inl mw_8)))] := hD.sub [3, 4, 0, 5, 6, 7, 8, 1, 2, 9] (by decide) rfl
  refine lv_istore_n (lv' := [(3, .int r_8), (0, .ref g0), (1, .int (nI i)), (2, .int (nI j))]) hx hb dXM_run_11 rfl hl (by decide) rfl (fun ls hl => ?_)
  refine lv_iload_n hx hb dXM_run_12 rfl (lv_at hl 0 rfl) ?_
  refine lv_iconst (v := (-1)) hx hb dXM_run_13 (by decide) ?_
  refine lv_icmp_ne (tgt := 19) hx hb dXM_run_14 (by decide) (fun c_14 => ?_) (fun c_14 => ?_)
  · refine lv_aload_n hx hb dXM_run_19 rfl (lv_at hl 1 rfl) ?_
    refine lv_iload_n hx hb dXM_run_20 rfl (lv_at hl 3 rfl) ?_
    refine va_put (D := (dC, dI)) (ci := 3) (v := .int (nI j)) (ty := .int) (C := RXM) (T := TXM) (N := 19) hx hb hts (by decide +kernel) tyXM tyXM_ok nmXM hown hK hP hD hS 0 rfl rfl 14 (by decide) (hts (.fieldLink RXM 78 "BatchClassesModel" "latest" "I") (by decide +kernel)) (fun _ h9 => h9) rfl (by decide +kernel) rfl rfl (Nat.le_of_ble_eq_true rfl) dXM_run_21 (fun H locs hP hD hS => ?_)
    have hP : va_P (dC, dI) vwC2 [(g0, .inr (3, [.int 0, .int (nI mN), .int (nI mty), .ref e1, .ref e2, .int (nI mcl), .ref e3, .ref e4, .int (nI mrc), .ref e5, .ref e6, .ref e7, .ref e8, .int (nI mfc), .int (nI j), .int mld, .ref e9, .long mcv_8, .int mlo_8])), (e1, .inl (cI, 21, .inl mp)), (e2, .inl (cZ, 21, .inl msf)), (e3, .inl (cI, 61, .inl (fun q => nI (mtn q)))), (e4, .inl (cJ, 61, .inr (.inl mce))), (e5, .inl (cJ, 244, .inr (.inl mfi))), (e6, .inl (cZ, 61, .inl mlk)), (e7, .inl (cZ, 3721, .inl mdn)), (e8, .inl (cI, 300, .inl mfl)), (e9, .inl (cJ, 4, .inr (.inl mw_8)))] H := hP
    have hD : va_D A [(g0, .inr (3, [.int 0, .int (nI mN), .int (nI mty), .ref e1, .ref e2, .int (nI mcl), .ref e3, .ref e4, .int (nI mrc), .ref e5, .ref e6, .ref e7, .ref e8, .int (nI mfc), .int (nI j), .int mld, .ref e9, .long mcv_8, .int mlo_8])), (e1, .inl (cI, 21, .inl mp)), (e2, .inl (cZ, 21, .inl msf)), (e3, .inl (cI, 61, .inl (fun q => nI (mtn q)))), (e4, .inl (cJ, 61, .inr (.inl mce))), (e5, .inl (cJ, 244, .inr (.inl mfi))), (e6, .inl (cZ, 61, .inl mlk)), (e7, .inl (cZ, 3721, .inl mdn)), (e8, .inl (cI, 300, .inl mfl)), (e9, .inl (cJ, 4, .inr (.inl mw_8)))] := hD
    refine lv_aload_n hx hb dXM_run_24 rfl (lv_at hl 1 rfl) ?_
    refine lv_iload_n hx hb dXM_run_25 rfl (lv_at hl 0 rfl) ?_
    refine lv_iconst (v := 1) hx hb dXM_run_26 (by decide) ?_
    refine lv_icmp_ne (tgt := 34) hx hb dXM_run_27 (by decide) (fun c_27 => ?_) (fun c_27 => ?_)
    · refine lv_iconst (v := 0) hx hb dXM_run_34 (by decide) ?_
      refine va_put (D := (dC, dI)) (ci := 3) (v := .int 0) (ty := .boolean) (C := RXM) (T := TXM) (N := 19) hx hb hts (by decide +kernel) tyXM tyXM_ok nmXM hown hK hP hD hS 0 rfl rfl 15 (by decide) (hts (.fieldLink RXM 81 "BatchClassesModel" "latestDone" "Z") (by decide +kernel)) (fun _ h9 => h9) rfl (by decide +kernel) rfl rfl (Nat.le_of_ble_eq_true rfl) dXM_run_35 (fun H locs hP hD hS => ?_)
      have hP : va_P (dC, dI) vwC2 [(g0, .inr (3, [.int 0, .int (nI mN), .int (nI mty), .ref e1, .ref e2, .int (nI mcl), .ref e3, .ref e4, .int (nI mrc), .ref e5, .ref e6, .ref e7, .ref e8, .int (nI mfc), .int (nI j), .int 0, .ref e9, .long mcv_8, .int mlo_8])), (e1, .inl (cI, 21, .inl mp)), (e2, .inl (cZ, 21, .inl msf)), (e3, .inl (cI, 61, .inl (fun q => nI (mtn q)))), (e4, .inl (cJ, 61, .inr (.inl mce))), (e5, .inl (cJ, 244, .inr (.inl mfi))), (e6, .inl (cZ, 61, .inl mlk)), (e7, .inl (cZ, 3721, .inl mdn)), (e8, .inl (cI, 300, .inl mfl)), (e9, .inl (cJ, 4, .inr (.inl mw_8)))] H := hP
      have hD : va_D A [(g0, .inr (3, [.int 0, .int (nI mN), .int (nI mty), .ref e1, .ref e2, .int (nI mcl), .ref e3, .ref e4, .int (nI mrc), .ref e5, .ref e6, .ref e7, .ref e8, .int (nI mfc), .int (nI j), .int 0, .ref e9, .long mcv_8, .int mlo_8])), (e1, .inl (cI, 21, .inl mp)), (e2, .inl (cZ, 21, .inl msf)), (e3, .inl (cI, 61, .inl (fun q => nI (mtn q)))), (e4, .inl (cJ, 61, .inr (.inl mce))), (e5, .inl (cJ, 244, .inr (.inl mfi))), (e6, .inl (cZ, 61, .inl mlk)), (e7, .inl (cZ, 3721, .inl mdn)), (e8, .inl (cI, 300, .inl mfl)), (e9, .inl (cJ, 4, .inr (.inl mw_8)))] := hD
      refine lv_iload_n hx hb dXM_run_38 rfl (lv_at hl 0 rfl) ?_
      refine lv_iconst (v := 1) hx hb dXM_run_39 (by decide) ?_
      refine lv_icmp_ne (tgt := 111) hx hb dXM_run_40 (by decide) (fun c_40 => ?_) (fun c_40 => absurd c_40 c_27)
      refine lv_aload_n hx hb dXM_run_111 rfl (lv_at hl 1 rfl) ?_
      refine va_get (D := (dC, dI)) (ci := 3) (v := .int (nI mfc)) (C := RXM) (T := TXM) (N := 19) hx hb hts (by decide +kernel) hown hK hP 0 rfl rfl 13 (by decide) (hts (.fieldLink RXM 84 "BatchClassesModel" "failureCount" "I") (by decide +kernel)) (fun _ h9 => h9) rfl dXM_run_112 ?_
      refine lv_bipush (v := 100) hx hb dXM_run_115 (by decide) ?_
      refine lv_icmp_ge (tgt := 161) hx hb dXM_run_117 (by decide) (fun c_117 => ?_) (fun c_117 => ?_)
      · have c_117 : 100 ≤ mfc := (@nI_leI 100 mfc (by omega) (by omega)  ).mp c_117
        refine lv_aload_n hx hb dXM_run_161 rfl (lv_at hl 1 rfl) ?_
        refine lv_dup hx hb dXM_run_162 rfl ?_
        refine va_get (D := (dC, dI)) (ci := 3) (v := .int (nI mfc)) (C := RXM) (T := TXM) (N := 19) hx hb hts (by decide +kernel) hown hK hP 0 rfl rfl 13 (by decide) (hts (.fieldLink RXM 84 "BatchClassesModel" "failureCount" "I") (by decide +kernel)) (fun _ h9 => h9) rfl dXM_run_163 ?_
        refine lv_iconst (v := 1) hx hb dXM_run_166 (by decide) ?_
        refine lv_iadd hx hb dXM_run_167 ?_
        refine lv_topi (fun z_167 ez_167 => ?_)
        obtain rfl : z_167 = nI (mfc + 1) := ez_167.trans (nI_add mfc 1)
        refine va_put (D := (dC, dI)) (ci := 3) (v := .int (nI (mfc + 1))) (ty := .int) (C := RXM) (T := TXM) (N := 19) hx hb hts (by decide +kernel) tyXM tyXM_ok nmXM hown hK hP hD hS 0 rfl rfl 13 (by decide) (hts (.fieldLink RXM 84 "BatchClassesModel" "failureCount" "I") (by decide +kernel)) (fun _ h9 => h9) rfl (by decide +kernel) rfl rfl (Nat.le_of_ble_eq_true rfl) dXM_run_168 (fun H locs hP hD hS => ?_)
        have hP : va_P (dC, dI) vwC2 [(g0, .inr (3, [.int 0, .int (nI mN), .int (nI mty), .ref e1, .ref e2, .int (nI mcl), .ref e3, .ref e4, .int (nI mrc), .ref e5, .ref e6, .ref e7, .ref e8, .int (nI (mfc + 1)), .int (nI j), .int 0, .ref e9, .long mcv_8, .int mlo_8])), (e1, .inl (cI, 21, .inl mp)), (e2, .inl (cZ, 21, .inl msf)), (e3, .inl (cI, 61, .inl (fun q => nI (mtn q)))), (e4, .inl (cJ, 61, .inr (.inl mce))), (e5, .inl (cJ, 244, .inr (.inl mfi))), (e6, .inl (cZ, 61, .inl mlk)), (e7, .inl (cZ, 3721, .inl mdn)), (e8, .inl (cI, 300, .inl mfl)), (e9, .inl (cJ, 4, .inr (.inl mw_8)))] H := hP
        have hD : va_D A [(g0, .inr (3, [.int 0, .int (nI mN), .int (nI mty), .ref e1, .ref e2, .int (nI mcl), .ref e3, .ref e4, .int (nI mrc), .ref e5, .ref e6, .ref e7, .ref e8, .int (nI (mfc + 1)), .int (nI j), .int 0, .ref e9, .long mcv_8, .int mlo_8])), (e1, .inl (cI, 21, .inl mp)), (e2, .inl (cZ, 21, .inl msf)), (e3, .inl (cI, 61, .inl (fun q => nI (mtn q)))), (e4, .inl (cJ, 61, .inr (.inl mce))), (e5, .inl (cJ, 244, .inr (.inl mfi))), (e6, .inl (cZ, 61, .inl mlk)), (e7, .inl (cZ, 3721, .inl mdn)), (e8, .inl (cI, 300, .inl mfl)), (e9, .inl (cJ, 4, .inr (.inl mw_8)))] := hD
        refine lv_iload_n hx hb dXM_run_171 rfl (lv_at hl 0 rfl) ?_
        exact W.iret (v := r_8) hx hb hr (fun t ht hW => ⟨⟨r_8, (0, (mfc + 1), j, 0, mcv_8, mlo_8, mce, mfi, mlk, mdn, mfl, mw_8), rfl, by first | (simp only [pM_run, ← hw_8, if_neg c_14, if_neg c_27, if_pos c_117]; done) | (simp only [pM_run, ← hw_8, if_neg c_14, if_neg c_27, if_pos c_117]; rfl) | rfl, by rw [ht]; exact hP, va_K.moved hW.alike hK, hD⟩, hS.F ht⟩) hS.2.2 dXM_run_172
      · have c_117 : ¬ (100 ≤ mfc) := mt (@nI_leI 100 mfc (by omega) (by omega)  ).mpr c_117
        refine lv_aload_n hx hb dXM_run_120 rfl (lv_at hl 1 rfl) ?_
        refine va_get (D := (dC, dI)) (ci := 3) (v := .ref e8) (C := RXM) (T := TXM) (N := 19) hx hb hts (by decide +kernel) hown hK hP 0 rfl rfl 12 (by decide) (hts (.fieldLink RXM 33 "BatchClassesModel" "failures" "[I") (by decide +kernel)) (fun _ h9 => h9) rfl dXM_run_121 ?_
        refine lv_iconst (v := 3) hx hb dXM_run_124 (by decide) ?_
        refine lv_aload_n hx hb dXM_run_125 rfl (lv_at hl 1 rfl) ?_
        refine va_get (D := (dC, dI)) (ci := 3) (v := .int (nI mfc)) (C := RXM) (T := TXM) (N := 19) hx hb hts (by decide +kernel) hown hK hP 0 rfl rfl 13 (by decide) (hts (.fieldLink RXM 84 "BatchClassesModel" "failureCount" "I") (by decide +kernel)) (fun _ h9 => h9) rfl dXM_run_126 ?_
        refine lv_imul hx hb dXM_run_129 ?_
        refine lv_topi (fun z_129 ez_129 => ?_)
        obtain rfl : z_129 = nI (3 * mfc) := ez_129.trans (pk_mul 3 mfc)
        refine lv_iload_n hx hb dXM_run_130 rfl (lv_at hl 3 rfl) ?_
        refine va_iast hx hb hK hP hD hS 8 0 rfl rfl (vp_in_nI (by omega) (by omega)) dXM_run_131 (fun H locs hP hD hS => ?_)
        rw [nI_clamp (n := (3 * mfc)) (by omega)] at hP hD
        have hP : va_P (dC, dI) vwC2 [(g0, .inr (3, [.int 0, .int (nI mN), .int (nI mty), .ref e1, .ref e2, .int (nI mcl), .ref e3, .ref e4, .int (nI mrc), .ref e5, .ref e6, .ref e7, .ref e8, .int (nI mfc), .int (nI j), .int 0, .ref e9, .long mcv_8, .int mlo_8])), (e1, .inl (cI, 21, .inl mp)), (e2, .inl (cZ, 21, .inl msf)), (e3, .inl (cI, 61, .inl (fun q => nI (mtn q)))), (e4, .inl (cJ, 61, .inr (.inl mce))), (e5, .inl (cJ, 244, .inr (.inl mfi))), (e6, .inl (cZ, 61, .inl mlk)), (e7, .inl (cZ, 3721, .inl mdn)), (e8, .inl (cI, 300, .inl (upd mfl (3 * mfc) (nI j)))), (e9, .inl (cJ, 4, .inr (.inl mw_8)))] H := hP
        have hD : va_D A [(g0, .inr (3, [.int 0, .int (nI mN), .int (nI mty), .ref e1, .ref e2, .int (nI mcl), .ref e3, .ref e4, .int (nI mrc), .ref e5, .ref e6, .ref e7, .ref e8, .int (nI mfc), .int (nI j), .int 0, .ref e9, .long mcv_8, .int mlo_8])), (e1, .inl (cI, 21, .inl mp)), (e2, .inl (cZ, 21, .inl msf)), (e3, .inl (cI, 61, .inl (fun q => nI (mtn q)))), (e4, .inl (cJ, 61, .inr (.inl mce))), (e5, .inl (cJ, 244, .inr (.inl mfi))), (e6, .inl (cZ, 61, .inl mlk)), (e7, .inl (cZ, 3721, .inl mdn)), (e8, .inl (cI, 300, .inl (upd mfl (3 * mfc) (nI j)))), (e9, .inl (cJ, 4, .inr (.inl mw_8)))] := hD
        refine lv_aload_n hx hb dXM_run_132 rfl (lv_at hl 1 rfl) ?_
        refine va_get (D := (dC, dI)) (ci := 3) (v := .ref e8) (C := RXM) (T := TXM) (N := 19) hx hb hts (by decide +kernel) hown hK hP 0 rfl rfl 12 (by decide) (hts (.fieldLink RXM 33 "BatchClassesModel" "failures" "[I") (by decide +kernel)) (fun _ h9 => h9) rfl dXM_run_133 ?_
        refine lv_iconst (v := 3) hx hb dXM_run_136 (by decide) ?_
        refine lv_aload_n hx hb dXM_run_137 rfl (lv_at hl 1 rfl) ?_
        refine va_get (D := (dC, dI)) (ci := 3) (v := .int (nI mfc)) (C := RXM) (T := TXM) (N := 19) hx hb hts (by decide +kernel) hown hK hP 0 rfl rfl 13 (by decide) (hts (.fieldLink RXM 84 "BatchClassesModel" "failureCount" "I") (by decide +kernel)) (fun _ h9 => h9) rfl dXM_run_138 ?_
        refine lv_imul hx hb dXM_run_141 ?_
        refine lv_topi (fun z_141 ez_141 => ?_)
        obtain rfl : z_141 = nI (3 * mfc) := ez_141.trans (pk_mul 3 mfc)
        refine lv_iconst (v := 1) hx hb dXM_run_142 (by decide) ?_
        refine lv_iadd hx hb dXM_run_143 ?_
        refine lv_topi (fun z_143 ez_143 => ?_)
        obtain rfl : z_143 = nI ((3 * mfc) + 1) := ez_143.trans (nI_add (3 * mfc) 1)
        refine lv_iload_n hx hb dXM_run_144 rfl (lv_at hl 0 rfl) ?_
        refine lv_ineg hx hb dXM_run_145 ?_
        refine va_iast hx hb hK hP hD hS 8 0 rfl rfl (vp_in_nI (by omega) (by omega)) dXM_run_146 (fun H locs hP hD hS => ?_)
        rw [nI_clamp (n := ((3 * mfc) + 1)) (by omega)] at hP hD
        have hP : va_P (dC, dI) vwC2 [(g0, .inr (3, [.int 0, .int (nI mN), .int (nI mty), .ref e1, .ref e2, .int (nI mcl), .ref e3, .ref e4, .int (nI mrc), .ref e5, .ref e6, .ref e7, .ref e8, .int (nI mfc), .int (nI j), .int 0, .ref e9, .long mcv_8, .int mlo_8])), (e1, .inl (cI, 21, .inl mp)), (e2, .inl (cZ, 21, .inl msf)), (e3, .inl (cI, 61, .inl (fun q => nI (mtn q)))), (e4, .inl (cJ, 61, .inr (.inl mce))), (e5, .inl (cJ, 244, .inr (.inl mfi))), (e6, .inl (cZ, 61, .inl mlk)), (e7, .inl (cZ, 3721, .inl mdn)), (e8, .inl (cI, 300, .inl (upd (upd mfl (3 * mfc) (nI j)) ((3 * mfc) + 1) (-r_8)))), (e9, .inl (cJ, 4, .inr (.inl mw_8)))] H := hP
        have hD : va_D A [(g0, .inr (3, [.int 0, .int (nI mN), .int (nI mty), .ref e1, .ref e2, .int (nI mcl), .ref e3, .ref e4, .int (nI mrc), .ref e5, .ref e6, .ref e7, .ref e8, .int (nI mfc), .int (nI j), .int 0, .ref e9, .long mcv_8, .int mlo_8])), (e1, .inl (cI, 21, .inl mp)), (e2, .inl (cZ, 21, .inl msf)), (e3, .inl (cI, 61, .inl (fun q => nI (mtn q)))), (e4, .inl (cJ, 61, .inr (.inl mce))), (e5, .inl (cJ, 244, .inr (.inl mfi))), (e6, .inl (cZ, 61, .inl mlk)), (e7, .inl (cZ, 3721, .inl mdn)), (e8, .inl (cI, 300, .inl (upd (upd mfl (3 * mfc) (nI j)) ((3 * mfc) + 1) (-r_8)))), (e9, .inl (cJ, 4, .inr (.inl mw_8)))] := hD
        refine lv_aload_n hx hb dXM_run_147 rfl (lv_at hl 1 rfl) ?_
        refine va_get (D := (dC, dI)) (ci := 3) (v := .ref e8) (C := RXM) (T := TXM) (N := 19) hx hb hts (by decide +kernel) hown hK hP 0 rfl rfl 12 (by decide) (hts (.fieldLink RXM 33 "BatchClassesModel" "failures" "[I") (by decide +kernel)) (fun _ h9 => h9) rfl dXM_run_148 ?_
        refine lv_iconst (v := 3) hx hb dXM_run_151 (by decide) ?_
        refine lv_aload_n hx hb dXM_run_152 rfl (lv_at hl 1 rfl) ?_
        refine va_get (D := (dC, dI)) (ci := 3) (v := .int (nI mfc)) (C := RXM) (T := TXM) (N := 19) hx hb hts (by decide +kernel) hown hK hP 0 rfl rfl 13 (by decide) (hts (.fieldLink RXM 84 "BatchClassesModel" "failureCount" "I") (by decide +kernel)) (fun _ h9 => h9) rfl dXM_run_153 ?_
        refine lv_imul hx hb dXM_run_156 ?_
        refine lv_topi (fun z_156 ez_156 => ?_)
        obtain rfl : z_156 = nI (3 * mfc) := ez_156.trans (pk_mul 3 mfc)
        refine lv_iconst (v := 2) hx hb dXM_run_157 (by decide) ?_
        refine lv_iadd hx hb dXM_run_158 ?_
        refine lv_topi (fun z_158 ez_158 => ?_)
        obtain rfl : z_158 = nI ((3 * mfc) + 2) := ez_158.trans (nI_add (3 * mfc) 2)
        refine lv_iload_n hx hb dXM_run_159 rfl (lv_at hl 2 rfl) ?_
        refine va_iast hx hb hK hP hD hS 8 0 rfl rfl (vp_in_nI (by omega) (by omega)) dXM_run_160 (fun H locs hP hD hS => ?_)
        rw [nI_clamp (n := ((3 * mfc) + 2)) (by omega)] at hP hD
        have hP : va_P (dC, dI) vwC2 [(g0, .inr (3, [.int 0, .int (nI mN), .int (nI mty), .ref e1, .ref e2, .int (nI mcl), .ref e3, .ref e4, .int (nI mrc), .ref e5, .ref e6, .ref e7, .ref e8, .int (nI mfc), .int (nI j), .int 0, .ref e9, .long mcv_8, .int mlo_8])), (e1, .inl (cI, 21, .inl mp)), (e2, .inl (cZ, 21, .inl msf)), (e3, .inl (cI, 61, .inl (fun q => nI (mtn q)))), (e4, .inl (cJ, 61, .inr (.inl mce))), (e5, .inl (cJ, 244, .inr (.inl mfi))), (e6, .inl (cZ, 61, .inl mlk)), (e7, .inl (cZ, 3721, .inl mdn)), (e8, .inl (cI, 300, .inl (upd (upd (upd mfl (3 * mfc) (nI j)) ((3 * mfc) + 1) (-r_8)) ((3 * mfc) + 2) (nI i)))), (e9, .inl (cJ, 4, .inr (.inl mw_8)))] H := hP
        have hD : va_D A [(g0, .inr (3, [.int 0, .int (nI mN), .int (nI mty), .ref e1, .ref e2, .int (nI mcl), .ref e3, .ref e4, .int (nI mrc), .ref e5, .ref e6, .ref e7, .ref e8, .int (nI mfc), .int (nI j), .int 0, .ref e9, .long mcv_8, .int mlo_8])), (e1, .inl (cI, 21, .inl mp)), (e2, .inl (cZ, 21, .inl msf)), (e3, .inl (cI, 61, .inl (fun q => nI (mtn q)))), (e4, .inl (cJ, 61, .inr (.inl mce))), (e5, .inl (cJ, 244, .inr (.inl mfi))), (e6, .inl (cZ, 61, .inl mlk)), (e7, .inl (cZ, 3721, .inl mdn)), (e8, .inl (cI, 300, .inl (upd (upd (upd mfl (3 * mfc) (nI j)) ((3 * mfc) + 1) (-r_8)) ((3 * mfc) + 2) (nI i)))), (e9, .inl (cJ, 4, .inr (.inl mw_8)))] := hD
        refine lv_aload_n hx hb dXM_run_161 rfl (lv_at hl 1 rfl) ?_
        refine lv_dup hx hb dXM_run_162 rfl ?_
        refine va_get (D := (dC, dI)) (ci := 3) (v := .int (nI mfc)) (C := RXM) (T := TXM) (N := 19) hx hb hts (by decide +kernel) hown hK hP 0 rfl rfl 13 (by decide) (hts (.fieldLink RXM 84 "BatchClassesModel" "failureCount" "I") (by decide +kernel)) (fun _ h9 => h9) rfl dXM_run_163 ?_
        refine lv_iconst (v := 1) hx hb dXM_run_166 (by decide) ?_
        refine lv_iadd hx hb dXM_run_167 ?_
        refine lv_topi (fun z_167 ez_167 => ?_)
        obtain rfl : z_167 = nI (mfc + 1) := ez_167.trans (nI_add mfc 1)
        refine va_put (D := (dC, dI)) (ci := 3) (v := .int (nI (mfc + 1))) (ty := .int) (C := RXM) (T := TXM) (N := 19) hx hb hts (by decide +kernel) tyXM tyXM_ok nmXM hown hK hP hD hS 0 rfl rfl 13 (by decide) (hts (.fieldLink RXM 84 "BatchClassesModel" "failureCount" "I") (by decide +kernel)) (fun _ h9 => h9) rfl (by decide +kernel) rfl rfl (Nat.le_of_ble_eq_true rfl) dXM_run_168 (fun H locs hP hD hS => ?_)
        have hP : va_P (dC, dI) vwC2 [(g0, .inr (3, [.int 0, .int (nI mN), .int (nI mty), .ref e1, .ref e2, .int (nI mcl), .ref e3, .ref e4, .int (nI mrc), .ref e5, .ref e6, .ref e7, .ref e8, .int (nI (mfc + 1)), .int (nI j), .int 0, .ref e9, .long mcv_8, .int mlo_8])), (e1, .inl (cI, 21, .inl mp)), (e2, .inl (cZ, 21, .inl msf)), (e3, .inl (cI, 61, .inl (fun q => nI (mtn q)))), (e4, .inl (cJ, 61, .inr (.inl mce))), (e5, .inl (cJ, 244, .inr (.inl mfi))), (e6, .inl (cZ, 61, .inl mlk)), (e7, .inl (cZ, 3721, .inl mdn)), (e8, .inl (cI, 300, .inl (upd (upd (upd mfl (3 * mfc) (nI j)) ((3 * mfc) + 1) (-r_8)) ((3 * mfc) + 2) (nI i)))), (e9, .inl (cJ, 4, .inr (.inl mw_8)))] H := hP
        have hD : va_D A [(g0, .inr (3, [.int 0, .int (nI mN), .int (nI mty), .ref e1, .ref e2, .int (nI mcl), .ref e3, .ref e4, .int (nI mrc), .ref e5, .ref e6, .ref e7, .ref e8, .int (nI (mfc + 1)), .int (nI j), .int 0, .ref e9, .long mcv_8, .int mlo_8])), (e1, .inl (cI, 21, .inl mp)), (e2, .inl (cZ, 21, .inl msf)), (e3, .inl (cI, 61, .inl (fun q => nI (mtn q)))), (e4, .inl (cJ, 61, .inr (.inl mce))), (e5, .inl (cJ, 244, .inr (.inl mfi))), (e6, .inl (cZ, 61, .inl mlk)), (e7, .inl (cZ, 3721, .inl mdn)), (e8, .inl (cI, 300, .inl (upd (upd (upd mfl (3 * mfc) (nI j)) ((3 * mfc) + 1) (-r_8)) ((3 * mfc) + 2) (nI i)))), (e9, .inl (cJ, 4, .inr (.inl mw_8)))] := hD
        refine lv_iload_n hx hb dXM_run_171 rfl (lv_at hl 0 rfl) ?_
        exact W.iret (v := r_8) hx hb hr (fun t ht hW => ⟨⟨r_8, (0, (mfc + 1), j, 0, mcv_8, mlo_8, mce, mfi, mlk, mdn, (upd (upd (upd mfl (3 * mfc) (nI j)) ((3 * mfc) + 1) (-r_8)) ((3 * mfc) + 2) (nI i)), mw_8), rfl, by first | (simp only [pM_run, ← hw_8, if_neg c_14, if_neg c_27, if_neg c_117]; done) | (simp only [pM_run, ← hw_8, if_neg c_14, if_neg c_27, if_neg c_117]; rfl) | rfl, by rw [ht]; exact hP, va_K.moved hW.alike hK, hD⟩, hS.F ht⟩) hS.2.2 dXM_run_172
    · refine lv_iconst (v := 1) hx hb dXM_run_30 (by decide) ?_
      refine lv_goto (tgt := 35) hx hb dXM_run_31 (by decide) ?_
      refine va_put (D := (dC, dI)) (ci := 3) (v := .int 1) (ty := .boolean) (C := RXM) (T := TXM) (N := 19) hx hb hts (by decide +kernel) tyXM tyXM_ok nmXM hown hK hP hD hS 0 rfl rfl 15 (by decide) (hts (.fieldLink RXM 81 "BatchClassesModel" "latestDone" "Z") (by decide +kernel)) (fun _ h9 => h9) rfl (by decide +kernel) rfl rfl (Nat.le_of_ble_eq_true rfl) dXM_run_35 (fun H locs hP hD hS => ?_)
      have hP : va_P (dC, dI) vwC2 [(g0, .inr (3, [.int 0, .int (nI mN), .int (nI mty), .ref e1, .ref e2, .int (nI mcl), .ref e3, .ref e4, .int (nI mrc), .ref e5, .ref e6, .ref e7, .ref e8, .int (nI mfc), .int (nI j), .int 1, .ref e9, .long mcv_8, .int mlo_8])), (e1, .inl (cI, 21, .inl mp)), (e2, .inl (cZ, 21, .inl msf)), (e3, .inl (cI, 61, .inl (fun q => nI (mtn q)))), (e4, .inl (cJ, 61, .inr (.inl mce))), (e5, .inl (cJ, 244, .inr (.inl mfi))), (e6, .inl (cZ, 61, .inl mlk)), (e7, .inl (cZ, 3721, .inl mdn)), (e8, .inl (cI, 300, .inl mfl)), (e9, .inl (cJ, 4, .inr (.inl mw_8)))] H := hP
      have hD : va_D A [(g0, .inr (3, [.int 0, .int (nI mN), .int (nI mty), .ref e1, .ref e2, .int (nI mcl), .ref e3, .ref e4, .int (nI mrc), .ref e5, .ref e6, .ref e7, .ref e8, .int (nI mfc), .int (nI j), .int 1, .ref e9, .long mcv_8, .int mlo_8])), (e1, .inl (cI, 21, .inl mp)), (e2, .inl (cZ, 21, .inl msf)), (e3, .inl (cI, 61, .inl (fun q => nI (mtn q)))), (e4, .inl (cJ, 61, .inr (.inl mce))), (e5, .inl (cJ, 244, .inr (.inl mfi))), (e6, .inl (cZ, 61, .inl mlk)), (e7, .inl (cZ, 3721, .inl mdn)), (e8, .inl (cI, 300, .inl mfl)), (e9, .inl (cJ, 4, .inr (.inl mw_8)))] := hD
      refine lv_iload_n hx hb dXM_run_38 rfl (lv_at hl 0 rfl) ?_
      refine lv_iconst (v := 1) hx hb dXM_run_39 (by decide) ?_
      refine lv_icmp_ne (tgt := 111) hx hb dXM_run_40 (by decide) (fun c_40 => absurd c_27 c_40) (fun c_40 => ?_)
      refine lv_iconst (v := 0) hx hb dXM_run_43 (by decide) ?_
      refine lv_istore (lv' := [(4, .int 0), (3, .int r_8), (0, .ref g0), (1, .int (nI i)), (2, .int (nI j))]) hx hb dXM_run_44 hl (by decide) rfl (fun ls hl => ?_)
      refine lv_iload hx hb dXM_run_46 (lv_at hl 0 rfl) ?_
      refine lv_iconst (v := 4) hx hb dXM_run_48 (by decide) ?_
      refine lv_icmp_ge (tgt := 76) hx hb dXM_run_49 (by decide) (fun c_49 => absurd c_49 (by decide)) (fun c_49 => ?_)
      refine lv_aload_n hx hb dXM_run_52 rfl (lv_at hl 2 rfl) ?_
      refine va_get (D := (dC, dI)) (ci := 3) (v := .ref e5) (C := RXM) (T := TXM) (N := 19) hx hb hts (by decide +kernel) hown hK hP 0 rfl rfl 9 (by decide) (hts (.fieldLink RXM 24 "BatchClassesModel" "fields" "[J") (by decide +kernel)) (fun _ h9 => h9) rfl dXM_run_53 ?_
      refine lv_iconst (v := 4) hx hb dXM_run_56 (by decide) ?_
      refine lv_iload_n hx hb dXM_run_57 rfl (lv_at hl 4 rfl) ?_
      refine lv_imul hx hb dXM_run_58 ?_
      refine lv_topi (fun z_58 ez_58 => ?_)
      obtain rfl : z_58 = nI (4 * j) := ez_58.trans (pk_mul 4 j)
      refine lv_iload hx hb dXM_run_59 (lv_at hl 0 rfl) ?_
      refine lv_iadd hx hb dXM_run_61 ?_
      refine lv_topi (fun z_61 ez_61 => ?_)
      obtain rfl : z_61 = nI ((4 * j) + 0) := ez_61.trans (nI_add (4 * j) 0)
      refine lv_aload_n hx hb dXM_run_62 rfl (lv_at hl 2 rfl) ?_
      refine va_get (D := (dC, dI)) (ci := 3) (v := .ref e9) (C := RXM) (T := TXM) (N := 19) hx hb hts (by decide +kernel) hown hK hP 0 rfl rfl 16 (by decide) (hts (.fieldLink RXM 36 "BatchClassesModel" "now" "[J") (by decide +kernel)) (fun _ h9 => h9) rfl dXM_run_63 ?_
      refine lv_iload hx hb dXM_run_66 (lv_at hl 0 rfl) ?_
      refine va_lald hx hb hK hP 9 2 rfl rfl (vp_in_nI (n := 0) (by omega) (by omega)) dXM_run_68 ?_
      refine lv_topl (fun z_68 ez_68 => ?_)
      obtain rfl : z_68 = mw_8 0 := ez_68
      refine va_last hx hb hK hP hD hS 5 2 rfl rfl (vp_in_nI (by omega) (by omega)) dXM_run_69 (fun H locs hP hD hS => ?_)
      rw [nI_clamp (n := ((4 * j) + 0)) (by omega)] at hP hD
      have hP : va_P (dC, dI) vwC2 [(g0, .inr (3, [.int 0, .int (nI mN), .int (nI mty), .ref e1, .ref e2, .int (nI mcl), .ref e3, .ref e4, .int (nI mrc), .ref e5, .ref e6, .ref e7, .ref e8, .int (nI mfc), .int (nI j), .int 1, .ref e9, .long mcv_8, .int mlo_8])), (e1, .inl (cI, 21, .inl mp)), (e2, .inl (cZ, 21, .inl msf)), (e3, .inl (cI, 61, .inl (fun q => nI (mtn q)))), (e4, .inl (cJ, 61, .inr (.inl mce))), (e5, .inl (cJ, 244, .inr (.inl (vp_updL mfi ((4 * j) + 0) (mw_8 0))))), (e6, .inl (cZ, 61, .inl mlk)), (e7, .inl (cZ, 3721, .inl mdn)), (e8, .inl (cI, 300, .inl mfl)), (e9, .inl (cJ, 4, .inr (.inl mw_8)))] H := hP
      have hD : va_D A [(g0, .inr (3, [.int 0, .int (nI mN), .int (nI mty), .ref e1, .ref e2, .int (nI mcl), .ref e3, .ref e4, .int (nI mrc), .ref e5, .ref e6, .ref e7, .ref e8, .int (nI mfc), .int (nI j), .int 1, .ref e9, .long mcv_8, .int mlo_8])), (e1, .inl (cI, 21, .inl mp)), (e2, .inl (cZ, 21, .inl msf)), (e3, .inl (cI, 61, .inl (fun q => nI (mtn q)))), (e4, .inl (cJ, 61, .inr (.inl mce))), (e5, .inl (cJ, 244, .inr (.inl (vp_updL mfi ((4 * j) + 0) (mw_8 0))))), (e6, .inl (cZ, 61, .inl mlk)), (e7, .inl (cZ, 3721, .inl mdn)), (e8, .inl (cI, 300, .inl mfl)), (e9, .inl (cJ, 4, .inr (.inl mw_8)))] := hD
      refine lv_iinc (v := 1) (lv' := [(4, .int 1), (3, .int r_8), (0, .ref g0), (1, .int (nI i)), (2, .int (nI j))]) hx hb dXM_run_70 hl (k := 0) rfl (by decide) (by decide) rfl (fun ls hl => ?_)
      refine lv_goto (tgt := 46) hx hb dXM_run_73 (by decide) ?_
      refine lv_iload hx hb dXM_run_46 (lv_at hl 0 rfl) ?_
      refine lv_iconst (v := 4) hx hb dXM_run_48 (by decide) ?_
      refine lv_icmp_ge (tgt := 76) hx hb dXM_run_49 (by decide) (fun c_49_1 => absurd c_49_1 (by decide)) (fun c_49_1 => ?_)
      refine lv_aload_n hx hb dXM_run_52 rfl (lv_at hl 2 rfl) ?_
      refine va_get (D := (dC, dI)) (ci := 3) (v := .ref e5) (C := RXM) (T := TXM) (N := 19) hx hb hts (by decide +kernel) hown hK hP 0 rfl rfl 9 (by decide) (hts (.fieldLink RXM 24 "BatchClassesModel" "fields" "[J") (by decide +kernel)) (fun _ h9 => h9) rfl dXM_run_53 ?_
      refine lv_iconst (v := 4) hx hb dXM_run_56 (by decide) ?_
      refine lv_iload_n hx hb dXM_run_57 rfl (lv_at hl 4 rfl) ?_
      refine lv_imul hx hb dXM_run_58 ?_
      refine lv_topi (fun z_58 ez_58 => ?_)
      obtain rfl : z_58 = nI (4 * j) := ez_58.trans (pk_mul 4 j)
      refine lv_iload hx hb dXM_run_59 (lv_at hl 0 rfl) ?_
      refine lv_iadd hx hb dXM_run_61 ?_
      refine lv_topi (fun z_61 ez_61 => ?_)
      obtain rfl : z_61 = nI ((4 * j) + 1) := ez_61.trans (nI_add (4 * j) 1)
      refine lv_aload_n hx hb dXM_run_62 rfl (lv_at hl 2 rfl) ?_
      refine va_get (D := (dC, dI)) (ci := 3) (v := .ref e9) (C := RXM) (T := TXM) (N := 19) hx hb hts (by decide +kernel) hown hK hP 0 rfl rfl 16 (by decide) (hts (.fieldLink RXM 36 "BatchClassesModel" "now" "[J") (by decide +kernel)) (fun _ h9 => h9) rfl dXM_run_63 ?_
      refine lv_iload hx hb dXM_run_66 (lv_at hl 0 rfl) ?_
      refine va_lald hx hb hK hP 9 2 rfl rfl (vp_in_nI (n := 1) (by omega) (by omega)) dXM_run_68 ?_
      refine lv_topl (fun z_68 ez_68 => ?_)
      obtain rfl : z_68 = mw_8 1 := ez_68
      refine va_last hx hb hK hP hD hS 5 2 rfl rfl (vp_in_nI (by omega) (by omega)) dXM_run_69 (fun H locs hP hD hS => ?_)
      rw [nI_clamp (n := ((4 * j) + 1)) (by omega)] at hP hD
      have hP : va_P (dC, dI) vwC2 [(g0, .inr (3, [.int 0, .int (nI mN), .int (nI mty), .ref e1, .ref e2, .int (nI mcl), .ref e3, .ref e4, .int (nI mrc), .ref e5, .ref e6, .ref e7, .ref e8, .int (nI mfc), .int (nI j), .int 1, .ref e9, .long mcv_8, .int mlo_8])), (e1, .inl (cI, 21, .inl mp)), (e2, .inl (cZ, 21, .inl msf)), (e3, .inl (cI, 61, .inl (fun q => nI (mtn q)))), (e4, .inl (cJ, 61, .inr (.inl mce))), (e5, .inl (cJ, 244, .inr (.inl (vp_updL (vp_updL mfi ((4 * j) + 0) (mw_8 0)) ((4 * j) + 1) (mw_8 1))))), (e6, .inl (cZ, 61, .inl mlk)), (e7, .inl (cZ, 3721, .inl mdn)), (e8, .inl (cI, 300, .inl mfl)), (e9, .inl (cJ, 4, .inr (.inl mw_8)))] H := hP
      have hD : va_D A [(g0, .inr (3, [.int 0, .int (nI mN), .int (nI mty), .ref e1, .ref e2, .int (nI mcl), .ref e3, .ref e4, .int (nI mrc), .ref e5, .ref e6, .ref e7, .ref e8, .int (nI mfc), .int (nI j), .int 1, .ref e9, .long mcv_8, .int mlo_8])), (e1, .inl (cI, 21, .inl mp)), (e2, .inl (cZ, 21, .inl msf)), (e3, .inl (cI, 61, .inl (fun q => nI (mtn q)))), (e4, .inl (cJ, 61, .inr (.inl mce))), (e5, .inl (cJ, 244, .inr (.inl (vp_updL (vp_updL mfi ((4 * j) + 0) (mw_8 0)) ((4 * j) + 1) (mw_8 1))))), (e6, .inl (cZ, 61, .inl mlk)), (e7, .inl (cZ, 3721, .inl mdn)), (e8, .inl (cI, 300, .inl mfl)), (e9, .inl (cJ, 4, .inr (.inl mw_8)))] := hD
      refine lv_iinc (v := 2) (lv' := [(4, .int 2), (3, .int r_8), (0, .ref g0), (1, .int (nI i)), (2, .int (nI j))]) hx hb dXM_run_70 hl (k := 0) rfl (by decide) (by decide) rfl (fun ls hl => ?_)
      refine lv_goto (tgt := 46) hx hb dXM_run_73 (by decide) ?_
      refine lv_iload hx hb dXM_run_46 (lv_at hl 0 rfl) ?_
      refine lv_iconst (v := 4) hx hb dXM_run_48 (by decide) ?_
      refine lv_icmp_ge (tgt := 76) hx hb dXM_run_49 (by decide) (fun c_49_2 => absurd c_49_2 (by decide)) (fun c_49_2 => ?_)
      refine lv_aload_n hx hb dXM_run_52 rfl (lv_at hl 2 rfl) ?_
      refine va_get (D := (dC, dI)) (ci := 3) (v := .ref e5) (C := RXM) (T := TXM) (N := 19) hx hb hts (by decide +kernel) hown hK hP 0 rfl rfl 9 (by decide) (hts (.fieldLink RXM 24 "BatchClassesModel" "fields" "[J") (by decide +kernel)) (fun _ h9 => h9) rfl dXM_run_53 ?_
      refine lv_iconst (v := 4) hx hb dXM_run_56 (by decide) ?_
      refine lv_iload_n hx hb dXM_run_57 rfl (lv_at hl 4 rfl) ?_
      refine lv_imul hx hb dXM_run_58 ?_
      refine lv_topi (fun z_58 ez_58 => ?_)
      obtain rfl : z_58 = nI (4 * j) := ez_58.trans (pk_mul 4 j)
      refine lv_iload hx hb dXM_run_59 (lv_at hl 0 rfl) ?_
      refine lv_iadd hx hb dXM_run_61 ?_
      refine lv_topi (fun z_61 ez_61 => ?_)
      obtain rfl : z_61 = nI ((4 * j) + 2) := ez_61.trans (nI_add (4 * j) 2)
      refine lv_aload_n hx hb dXM_run_62 rfl (lv_at hl 2 rfl) ?_
      refine va_get (D := (dC, dI)) (ci := 3) (v := .ref e9) (C := RXM) (T := TXM) (N := 19) hx hb hts (by decide +kernel) hown hK hP 0 rfl rfl 16 (by decide) (hts (.fieldLink RXM 36 "BatchClassesModel" "now" "[J") (by decide +kernel)) (fun _ h9 => h9) rfl dXM_run_63 ?_
      refine lv_iload hx hb dXM_run_66 (lv_at hl 0 rfl) ?_
      refine va_lald hx hb hK hP 9 2 rfl rfl (vp_in_nI (n := 2) (by omega) (by omega)) dXM_run_68 ?_
      refine lv_topl (fun z_68 ez_68 => ?_)
      obtain rfl : z_68 = mw_8 2 := ez_68
      refine va_last hx hb hK hP hD hS 5 2 rfl rfl (vp_in_nI (by omega) (by omega)) dXM_run_69 (fun H locs hP hD hS => ?_)
      rw [nI_clamp (n := ((4 * j) + 2)) (by omega)] at hP hD
      have hP : va_P (dC, dI) vwC2 [(g0, .inr (3, [.int 0, .int (nI mN), .int (nI mty), .ref e1, .ref e2, .int (nI mcl), .ref e3, .ref e4, .int (nI mrc), .ref e5, .ref e6, .ref e7, .ref e8, .int (nI mfc), .int (nI j), .int 1, .ref e9, .long mcv_8, .int mlo_8])), (e1, .inl (cI, 21, .inl mp)), (e2, .inl (cZ, 21, .inl msf)), (e3, .inl (cI, 61, .inl (fun q => nI (mtn q)))), (e4, .inl (cJ, 61, .inr (.inl mce))), (e5, .inl (cJ, 244, .inr (.inl (vp_updL (vp_updL (vp_updL mfi ((4 * j) + 0) (mw_8 0)) ((4 * j) + 1) (mw_8 1)) ((4 * j) + 2) (mw_8 2))))), (e6, .inl (cZ, 61, .inl mlk)), (e7, .inl (cZ, 3721, .inl mdn)), (e8, .inl (cI, 300, .inl mfl)), (e9, .inl (cJ, 4, .inr (.inl mw_8)))] H := hP
      have hD : va_D A [(g0, .inr (3, [.int 0, .int (nI mN), .int (nI mty), .ref e1, .ref e2, .int (nI mcl), .ref e3, .ref e4, .int (nI mrc), .ref e5, .ref e6, .ref e7, .ref e8, .int (nI mfc), .int (nI j), .int 1, .ref e9, .long mcv_8, .int mlo_8])), (e1, .inl (cI, 21, .inl mp)), (e2, .inl (cZ, 21, .inl msf)), (e3, .inl (cI, 61, .inl (fun q => nI (mtn q)))), (e4, .inl (cJ, 61, .inr (.inl mce))), (e5, .inl (cJ, 244, .inr (.inl (vp_updL (vp_updL (vp_updL mfi ((4 * j) + 0) (mw_8 0)) ((4 * j) + 1) (mw_8 1)) ((4 * j) + 2) (mw_8 2))))), (e6, .inl (cZ, 61, .inl mlk)), (e7, .inl (cZ, 3721, .inl mdn)), (e8, .inl (cI, 300, .inl mfl)), (e9, .inl (cJ, 4, .inr (.inl mw_8)))] := hD
      refine lv_iinc (v := 3) (lv' := [(4, .int 3), (3, .int r_8), (0, .ref g0), (1, .int (nI i)), (2, .int (nI j))]) hx hb dXM_run_70 hl (k := 0) rfl (by decide) (by decide) rfl (fun ls hl => ?_)
      refine lv_goto (tgt := 46) hx hb dXM_run_73 (by decide) ?_
      refine lv_iload hx hb dXM_run_46 (lv_at hl 0 rfl) ?_
      refine lv_iconst (v := 4) hx hb dXM_run_48 (by decide) ?_
      refine lv_icmp_ge (tgt := 76) hx hb dXM_run_49 (by decide) (fun c_49_3 => absurd c_49_3 (by decide)) (fun c_49_3 => ?_)
      refine lv_aload_n hx hb dXM_run_52 rfl (lv_at hl 2 rfl) ?_
      refine va_get (D := (dC, dI)) (ci := 3) (v := .ref e5) (C := RXM) (T := TXM) (N := 19) hx hb hts (by decide +kernel) hown hK hP 0 rfl rfl 9 (by decide) (hts (.fieldLink RXM 24 "BatchClassesModel" "fields" "[J") (by decide +kernel)) (fun _ h9 => h9) rfl dXM_run_53 ?_
      refine lv_iconst (v := 4) hx hb dXM_run_56 (by decide) ?_
      refine lv_iload_n hx hb dXM_run_57 rfl (lv_at hl 4 rfl) ?_
      refine lv_imul hx hb dXM_run_58 ?_
      refine lv_topi (fun z_58 ez_58 => ?_)
      obtain rfl : z_58 = nI (4 * j) := ez_58.trans (pk_mul 4 j)
      refine lv_iload hx hb dXM_run_59 (lv_at hl 0 rfl) ?_
      refine lv_iadd hx hb dXM_run_61 ?_
      refine lv_topi (fun z_61 ez_61 => ?_)
      obtain rfl : z_61 = nI ((4 * j) + 3) := ez_61.trans (nI_add (4 * j) 3)
      refine lv_aload_n hx hb dXM_run_62 rfl (lv_at hl 2 rfl) ?_
      refine va_get (D := (dC, dI)) (ci := 3) (v := .ref e9) (C := RXM) (T := TXM) (N := 19) hx hb hts (by decide +kernel) hown hK hP 0 rfl rfl 16 (by decide) (hts (.fieldLink RXM 36 "BatchClassesModel" "now" "[J") (by decide +kernel)) (fun _ h9 => h9) rfl dXM_run_63 ?_
      refine lv_iload hx hb dXM_run_66 (lv_at hl 0 rfl) ?_
      refine va_lald hx hb hK hP 9 2 rfl rfl (vp_in_nI (n := 3) (by omega) (by omega)) dXM_run_68 ?_
      refine lv_topl (fun z_68 ez_68 => ?_)
      obtain rfl : z_68 = mw_8 3 := ez_68
      refine va_last hx hb hK hP hD hS 5 2 rfl rfl (vp_in_nI (by omega) (by omega)) dXM_run_69 (fun H locs hP hD hS => ?_)
      rw [nI_clamp (n := ((4 * j) + 3)) (by omega)] at hP hD
      have hP : va_P (dC, dI) vwC2 [(g0, .inr (3, [.int 0, .int (nI mN), .int (nI mty), .ref e1, .ref e2, .int (nI mcl), .ref e3, .ref e4, .int (nI mrc), .ref e5, .ref e6, .ref e7, .ref e8, .int (nI mfc), .int (nI j), .int 1, .ref e9, .long mcv_8, .int mlo_8])), (e1, .inl (cI, 21, .inl mp)), (e2, .inl (cZ, 21, .inl msf)), (e3, .inl (cI, 61, .inl (fun q => nI (mtn q)))), (e4, .inl (cJ, 61, .inr (.inl mce))), (e5, .inl (cJ, 244, .inr (.inl (vp_updL (vp_updL (vp_updL (vp_updL mfi ((4 * j) + 0) (mw_8 0)) ((4 * j) + 1) (mw_8 1)) ((4 * j) + 2) (mw_8 2)) ((4 * j) + 3) (mw_8 3))))), (e6, .inl (cZ, 61, .inl mlk)), (e7, .inl (cZ, 3721, .inl mdn)), (e8, .inl (cI, 300, .inl mfl)), (e9, .inl (cJ, 4, .inr (.inl mw_8)))] H := hP
      have hD : va_D A [(g0, .inr (3, [.int 0, .int (nI mN), .int (nI mty), .ref e1, .ref e2, .int (nI mcl), .ref e3, .ref e4, .int (nI mrc), .ref e5, .ref e6, .ref e7, .ref e8, .int (nI mfc), .int (nI j), .int 1, .ref e9, .long mcv_8, .int mlo_8])), (e1, .inl (cI, 21, .inl mp)), (e2, .inl (cZ, 21, .inl msf)), (e3, .inl (cI, 61, .inl (fun q => nI (mtn q)))), (e4, .inl (cJ, 61, .inr (.inl mce))), (e5, .inl (cJ, 244, .inr (.inl (vp_updL (vp_updL (vp_updL (vp_updL mfi ((4 * j) + 0) (mw_8 0)) ((4 * j) + 1) (mw_8 1)) ((4 * j) + 2) (mw_8 2)) ((4 * j) + 3) (mw_8 3))))), (e6, .inl (cZ, 61, .inl mlk)), (e7, .inl (cZ, 3721, .inl mdn)), (e8, .inl (cI, 300, .inl mfl)), (e9, .inl (cJ, 4, .inr (.inl mw_8)))] := hD
      refine lv_iinc (v := 4) (lv' := [(4, .int 4), (3, .int r_8), (0, .ref g0), (1, .int (nI i)), (2, .int (nI j))]) hx hb dXM_run_70 hl (k := 0) rfl (by decide) (by decide) rfl (fun ls hl => ?_)
      refine lv_goto (tgt := 46) hx hb dXM_run_73 (by decide) ?_
      refine lv_iload hx hb dXM_run_46 (lv_at hl 0 rfl) ?_
      refine lv_iconst (v := 4) hx hb dXM_run_48 (by decide) ?_
      refine lv_icmp_ge (tgt := 76) hx hb dXM_run_49 (by decide) (fun c_49_4 => ?_) (fun c_49_4 => absurd (by decide) c_49_4)
      refine lv_aload_n hx hb dXM_run_76 rfl (lv_at hl 2 rfl) ?_
      refine va_get (D := (dC, dI)) (ci := 3) (v := .ref e4) (C := RXM) (T := TXM) (N := 19) hx hb hts (by decide +kernel) hown hK hP 0 rfl rfl 7 (by decide) (hts (.fieldLink RXM 20 "BatchClassesModel" "cells" "[J") (by decide +kernel)) (fun _ h9 => h9) rfl dXM_run_77 ?_
      refine lv_iload_n hx hb dXM_run_80 rfl (lv_at hl 3 rfl) ?_
      refine lv_aload_n hx hb dXM_run_81 rfl (lv_at hl 2 rfl) ?_
      refine va_get (D := (dC, dI)) (ci := 3) (v := .long mcv_8) (C := RXM) (T := TXM) (N := 19) hx hb hts (by decide +kernel) hown hK hP 0 rfl rfl 17 (by decide) (hts (.fieldLink RXM 55 "BatchClassesModel" "cell" "J") (by decide +kernel)) (fun _ h9 => h9) rfl dXM_run_82 ?_
      refine va_last hx hb hK hP hD hS 4 2 rfl rfl (vp_in_nI (by omega) (by omega)) dXM_run_85 (fun H locs hP hD hS => ?_)
      rw [nI_clamp (n := i) (by omega)] at hP hD
      have hP : va_P (dC, dI) vwC2 [(g0, .inr (3, [.int 0, .int (nI mN), .int (nI mty), .ref e1, .ref e2, .int (nI mcl), .ref e3, .ref e4, .int (nI mrc), .ref e5, .ref e6, .ref e7, .ref e8, .int (nI mfc), .int (nI j), .int 1, .ref e9, .long mcv_8, .int mlo_8])), (e1, .inl (cI, 21, .inl mp)), (e2, .inl (cZ, 21, .inl msf)), (e3, .inl (cI, 61, .inl (fun q => nI (mtn q)))), (e4, .inl (cJ, 61, .inr (.inl (vp_updL mce i mcv_8)))), (e5, .inl (cJ, 244, .inr (.inl (vp_updL (vp_updL (vp_updL (vp_updL mfi ((4 * j) + 0) (mw_8 0)) ((4 * j) + 1) (mw_8 1)) ((4 * j) + 2) (mw_8 2)) ((4 * j) + 3) (mw_8 3))))), (e6, .inl (cZ, 61, .inl mlk)), (e7, .inl (cZ, 3721, .inl mdn)), (e8, .inl (cI, 300, .inl mfl)), (e9, .inl (cJ, 4, .inr (.inl mw_8)))] H := hP
      have hD : va_D A [(g0, .inr (3, [.int 0, .int (nI mN), .int (nI mty), .ref e1, .ref e2, .int (nI mcl), .ref e3, .ref e4, .int (nI mrc), .ref e5, .ref e6, .ref e7, .ref e8, .int (nI mfc), .int (nI j), .int 1, .ref e9, .long mcv_8, .int mlo_8])), (e1, .inl (cI, 21, .inl mp)), (e2, .inl (cZ, 21, .inl msf)), (e3, .inl (cI, 61, .inl (fun q => nI (mtn q)))), (e4, .inl (cJ, 61, .inr (.inl (vp_updL mce i mcv_8)))), (e5, .inl (cJ, 244, .inr (.inl (vp_updL (vp_updL (vp_updL (vp_updL mfi ((4 * j) + 0) (mw_8 0)) ((4 * j) + 1) (mw_8 1)) ((4 * j) + 2) (mw_8 2)) ((4 * j) + 3) (mw_8 3))))), (e6, .inl (cZ, 61, .inl mlk)), (e7, .inl (cZ, 3721, .inl mdn)), (e8, .inl (cI, 300, .inl mfl)), (e9, .inl (cJ, 4, .inr (.inl mw_8)))] := hD
      refine lv_aload_n hx hb dXM_run_86 rfl (lv_at hl 2 rfl) ?_
      refine va_get (D := (dC, dI)) (ci := 3) (v := .ref e6) (C := RXM) (T := TXM) (N := 19) hx hb hts (by decide +kernel) hown hK hP 0 rfl rfl 10 (by decide) (hts (.fieldLink RXM 27 "BatchClassesModel" "locked" "[Z") (by decide +kernel)) (fun _ h9 => h9) rfl dXM_run_87 ?_
      refine lv_iload_n hx hb dXM_run_90 rfl (lv_at hl 4 rfl) ?_
      refine lv_aload_n hx hb dXM_run_91 rfl (lv_at hl 2 rfl) ?_
      refine va_get (D := (dC, dI)) (ci := 3) (v := .int mlo_8) (C := RXM) (T := TXM) (N := 19) hx hb hts (by decide +kernel) hown hK hP 0 rfl rfl 18 (by decide) (hts (.fieldLink RXM 66 "BatchClassesModel" "locks" "Z") (by decide +kernel)) (fun _ h9 => h9) rfl dXM_run_92 ?_
      refine va_zast hx hb hK hP hD hS 6 1 rfl rfl (vp_in_nI (by omega) (by omega)) dXM_run_95 (fun H locs hP hD hS => ?_)
      rw [nI_clamp (n := j) (by omega)] at hP hD
      have hP : va_P (dC, dI) vwC2 [(g0, .inr (3, [.int 0, .int (nI mN), .int (nI mty), .ref e1, .ref e2, .int (nI mcl), .ref e3, .ref e4, .int (nI mrc), .ref e5, .ref e6, .ref e7, .ref e8, .int (nI mfc), .int (nI j), .int 1, .ref e9, .long mcv_8, .int mlo_8])), (e1, .inl (cI, 21, .inl mp)), (e2, .inl (cZ, 21, .inl msf)), (e3, .inl (cI, 61, .inl (fun q => nI (mtn q)))), (e4, .inl (cJ, 61, .inr (.inl (vp_updL mce i mcv_8)))), (e5, .inl (cJ, 244, .inr (.inl (vp_updL (vp_updL (vp_updL (vp_updL mfi ((4 * j) + 0) (mw_8 0)) ((4 * j) + 1) (mw_8 1)) ((4 * j) + 2) (mw_8 2)) ((4 * j) + 3) (mw_8 3))))), (e6, .inl (cZ, 61, .inl (upd mlk j (vp_nar .boolean mlo_8)))), (e7, .inl (cZ, 3721, .inl mdn)), (e8, .inl (cI, 300, .inl mfl)), (e9, .inl (cJ, 4, .inr (.inl mw_8)))] H := hP
      have hD : va_D A [(g0, .inr (3, [.int 0, .int (nI mN), .int (nI mty), .ref e1, .ref e2, .int (nI mcl), .ref e3, .ref e4, .int (nI mrc), .ref e5, .ref e6, .ref e7, .ref e8, .int (nI mfc), .int (nI j), .int 1, .ref e9, .long mcv_8, .int mlo_8])), (e1, .inl (cI, 21, .inl mp)), (e2, .inl (cZ, 21, .inl msf)), (e3, .inl (cI, 61, .inl (fun q => nI (mtn q)))), (e4, .inl (cJ, 61, .inr (.inl (vp_updL mce i mcv_8)))), (e5, .inl (cJ, 244, .inr (.inl (vp_updL (vp_updL (vp_updL (vp_updL mfi ((4 * j) + 0) (mw_8 0)) ((4 * j) + 1) (mw_8 1)) ((4 * j) + 2) (mw_8 2)) ((4 * j) + 3) (mw_8 3))))), (e6, .inl (cZ, 61, .inl (upd mlk j (vp_nar .boolean mlo_8)))), (e7, .inl (cZ, 3721, .inl mdn)), (e8, .inl (cI, 300, .inl mfl)), (e9, .inl (cJ, 4, .inr (.inl mw_8)))] := hD
      refine lv_aload_n hx hb dXM_run_96 rfl (lv_at hl 2 rfl) ?_
      refine va_get (D := (dC, dI)) (ci := 3) (v := .ref e7) (C := RXM) (T := TXM) (N := 19) hx hb hts (by decide +kernel) hown hK hP 0 rfl rfl 11 (by decide) (hts (.fieldLink RXM 30 "BatchClassesModel" "done" "[Z") (by decide +kernel)) (fun _ h9 => h9) rfl dXM_run_97 ?_
      refine lv_bipush (v := 61) hx hb dXM_run_100 (by decide) ?_
      refine lv_iload_n hx hb dXM_run_102 rfl (lv_at hl 3 rfl) ?_
      refine lv_imul hx hb dXM_run_103 ?_
      refine lv_topi (fun z_103 ez_103 => ?_)
      obtain rfl : z_103 = nI (61 * i) := ez_103.trans (pk_mul 61 i)
      refine lv_iload_n hx hb dXM_run_104 rfl (lv_at hl 4 rfl) ?_
      refine lv_iadd hx hb dXM_run_105 ?_
      refine lv_topi (fun z_105 ez_105 => ?_)
      obtain rfl : z_105 = nI ((61 * i) + j) := ez_105.trans (nI_add (61 * i) j)
      refine lv_iconst (v := 1) hx hb dXM_run_106 (by decide) ?_
      refine va_zast hx hb hK hP hD hS 7 1 rfl rfl (vp_in_nI (by omega) (by omega)) dXM_run_107 (fun H locs hP hD hS => ?_)
      rw [nI_clamp (n := ((61 * i) + j)) (by omega)] at hP hD
      have hP : va_P (dC, dI) vwC2 [(g0, .inr (3, [.int 0, .int (nI mN), .int (nI mty), .ref e1, .ref e2, .int (nI mcl), .ref e3, .ref e4, .int (nI mrc), .ref e5, .ref e6, .ref e7, .ref e8, .int (nI mfc), .int (nI j), .int 1, .ref e9, .long mcv_8, .int mlo_8])), (e1, .inl (cI, 21, .inl mp)), (e2, .inl (cZ, 21, .inl msf)), (e3, .inl (cI, 61, .inl (fun q => nI (mtn q)))), (e4, .inl (cJ, 61, .inr (.inl (vp_updL mce i mcv_8)))), (e5, .inl (cJ, 244, .inr (.inl (vp_updL (vp_updL (vp_updL (vp_updL mfi ((4 * j) + 0) (mw_8 0)) ((4 * j) + 1) (mw_8 1)) ((4 * j) + 2) (mw_8 2)) ((4 * j) + 3) (mw_8 3))))), (e6, .inl (cZ, 61, .inl (upd mlk j (vp_nar .boolean mlo_8)))), (e7, .inl (cZ, 3721, .inl (upd mdn ((61 * i) + j) 1))), (e8, .inl (cI, 300, .inl mfl)), (e9, .inl (cJ, 4, .inr (.inl mw_8)))] H := hP
      have hD : va_D A [(g0, .inr (3, [.int 0, .int (nI mN), .int (nI mty), .ref e1, .ref e2, .int (nI mcl), .ref e3, .ref e4, .int (nI mrc), .ref e5, .ref e6, .ref e7, .ref e8, .int (nI mfc), .int (nI j), .int 1, .ref e9, .long mcv_8, .int mlo_8])), (e1, .inl (cI, 21, .inl mp)), (e2, .inl (cZ, 21, .inl msf)), (e3, .inl (cI, 61, .inl (fun q => nI (mtn q)))), (e4, .inl (cJ, 61, .inr (.inl (vp_updL mce i mcv_8)))), (e5, .inl (cJ, 244, .inr (.inl (vp_updL (vp_updL (vp_updL (vp_updL mfi ((4 * j) + 0) (mw_8 0)) ((4 * j) + 1) (mw_8 1)) ((4 * j) + 2) (mw_8 2)) ((4 * j) + 3) (mw_8 3))))), (e6, .inl (cZ, 61, .inl (upd mlk j (vp_nar .boolean mlo_8)))), (e7, .inl (cZ, 3721, .inl (upd mdn ((61 * i) + j) 1))), (e8, .inl (cI, 300, .inl mfl)), (e9, .inl (cJ, 4, .inr (.inl mw_8)))] := hD
      refine lv_goto (tgt := 171) hx hb dXM_run_108 (by decide) ?_
      refine lv_iload_n hx hb dXM_run_171 rfl (lv_at hl 1 rfl) ?_
      exact W.iret (v := r_8) hx hb hr (fun t ht hW => ⟨⟨r_8, (0, mfc, j, 1, mcv_8, mlo_8, (vp_updL mce i mcv_8), (vp_updL (vp_updL (vp_updL (vp_updL mfi ((4 * j) + 0) (mw_8 0)) ((4 * j) + 1) (mw_8 1)) ((4 * j) + 2) (mw_8 2)) ((4 * j) + 3) (mw_8 3)), (upd mlk j (vp_nar .boolean mlo_8)), (upd mdn ((61 * i) + j) 1), mfl, mw_8), rfl, by first | (simp only [pM_run, ← hw_8, if_neg c_14, if_pos c_27]; done) | (simp only [pM_run, ← hw_8, if_neg c_14, if_pos c_27]; rfl) | rfl, by rw [ht]; exact hP, va_K.moved hW.alike hK, hD⟩, hS.F ht⟩) hS.2.2 dXM_run_172
  · refine lv_iload_n hx hb dXM_run_17 rfl (lv_at hl 0 rfl) ?_
    exact W.iret (v := r_8) hx hb hr (fun t ht hW => ⟨⟨r_8, (0, mfc, mlr, mld, mcv_8, mlo_8, mce, mfi, mlk, mdn, mfl, mw_8), rfl, by first | (simp only [pM_run, ← hw_8, if_pos c_14]; done) | (simp only [pM_run, ← hw_8, if_pos c_14]; rfl) | rfl, by rw [ht]; exact hP, va_K.moved hW.alike hK, hD⟩, hS.F ht⟩) hS.2.2 dXM_run_18
def pM_dry0  : Int32 × Int32 :=
  (pM_goes0, 0)
set_option maxHeartbeats 4000000 in
set_option maxRecDepth 100000 in
theorem k_XM_dry0 (l : Launch) (dC : Nat → ClassId) (dI : Nat → Nat → Nat) (cI cZ cJ : ClassId) (sz : Nat) (g0 e1 e2 e3 e4 e5 e6 e7 e8 e9 : Nat) (mth : Int32) (mN mty mcl mrc mfc mlr : (Nat)) (mld : Int32) (mcv : Int64) (mlo : Int32) (mp msf : Nat → Int32) (mtn : Nat → Nat) (mce mfi : Nat → Int64) (mlk mdn mfl : Nat → Int32) (mw : Nat → Int64) (xo xr : Int32) (hbad : pM_isC mcl xo = 0 ∨ pM_isR mrc xr = 0) : Met l yXM_dry wsXM_dry ({ frames := 2, cells := 0, slots := 0, locals := 47 }) (va_Pc [.ref g0, .int xo, .int xr] (fun U => U.heap.size = sz ∧ va_P (dC, dI) vwC2 [(g0, .inr (3, [.int mth, .int (nI mN), .int (nI mty), .ref e1, .ref e2, .int (nI mcl), .ref e3, .ref e4, .int (nI mrc), .ref e5, .ref e6, .ref e7, .ref e8, .int (nI mfc), .int (nI mlr), .int mld, .ref e9, .long mcv, .int mlo])), (e1, .inl (cI, 21, .inl mp)), (e2, .inl (cZ, 21, .inl msf)), (e3, .inl (cI, 61, .inl (fun q => nI (mtn q)))), (e4, .inl (cJ, 61, .inr (.inl mce))), (e5, .inl (cJ, 244, .inr (.inl mfi))), (e6, .inl (cZ, 61, .inl mlk)), (e7, .inl (cZ, 3721, .inl mdn)), (e8, .inl (cI, 300, .inl mfl)), (e9, .inl (cJ, 4, .inr (.inl mw)))] U.heap ∧ va_K (dC, dI) vwC2 [(cI, .int), (cZ, .boolean), (cJ, .long)] U ∧ va_D (fun _ => True) [(g0, .inr (3, [.int mth, .int (nI mN), .int (nI mty), .ref e1, .ref e2, .int (nI mcl), .ref e3, .ref e4, .int (nI mrc), .ref e5, .ref e6, .ref e7, .ref e8, .int (nI mfc), .int (nI mlr), .int mld, .ref e9, .long mcv, .int mlo])), (e1, .inl (cI, 21, .inl mp)), (e2, .inl (cZ, 21, .inl msf)), (e3, .inl (cI, 61, .inl (fun q => nI (mtn q)))), (e4, .inl (cJ, 61, .inr (.inl mce))), (e5, .inl (cJ, 244, .inr (.inl mfi))), (e6, .inl (cZ, 61, .inl mlk)), (e7, .inl (cZ, 3721, .inl mdn)), (e8, .inl (cI, 300, .inl mfl)), (e9, .inl (cJ, 4, .inr (.inl mw)))])) (va_Qi (fun (r : Int32) (u : Int32) => (r, u) = pM_dry0) (fun (u : Int32) (t : State) => match u with | mth' => va_P (dC, dI) vwC2 [(g0, .inr (3, [.int mth', .int (nI mN), .int (nI mty), .ref e1, .ref e2, .int (nI mcl), .ref e3, .ref e4, .int (nI mrc), .ref e5, .ref e6, .ref e7, .ref e8, .int (nI mfc), .int (nI mlr), .int mld, .ref e9, .long mcv, .int mlo])), (e1, .inl (cI, 21, .inl mp)), (e2, .inl (cZ, 21, .inl msf)), (e3, .inl (cI, 61, .inl (fun q => nI (mtn q)))), (e4, .inl (cJ, 61, .inr (.inl mce))), (e5, .inl (cJ, 244, .inr (.inl mfi))), (e6, .inl (cZ, 61, .inl mlk)), (e7, .inl (cZ, 3721, .inl mdn)), (e8, .inl (cI, 300, .inl mfl)), (e9, .inl (cJ, 4, .inr (.inl mw)))] t.heap ∧ va_K (dC, dI) vwC2 [(cI, .int), (cZ, .boolean), (cJ, .long)] t ∧ va_D (va_A [(g0, .inr (3, [.int mth, .int (nI mN), .int (nI mty), .ref e1, .ref e2, .int (nI mcl), .ref e3, .ref e4, .int (nI mrc), .ref e5, .ref e6, .ref e7, .ref e8, .int (nI mfc), .int (nI mlr), .int mld, .ref e9, .long mcv, .int mlo])), (e1, .inl (cI, 21, .inl mp)), (e2, .inl (cZ, 21, .inl msf)), (e3, .inl (cI, 61, .inl (fun q => nI (mtn q)))), (e4, .inl (cJ, 61, .inr (.inl mce))), (e5, .inl (cJ, 244, .inr (.inl mfi))), (e6, .inl (cZ, 61, .inl mlk)), (e7, .inl (cZ, 3721, .inl mdn)), (e8, .inl (cI, 300, .inl mfl)), (e9, .inl (cJ, 4, .inr (.inl mw)))] sz) [(g0, .inr (3, [.int mth', .int (nI mN), .int (nI mty), .ref e1, .ref e2, .int (nI mcl), .ref e3, .ref e4, .int (nI mrc), .ref e5, .ref e6, .ref e7, .ref e8, .int (nI mfc), .int (nI mlr), .int mld, .ref e9, .long mcv, .int mlo])), (e1, .inl (cI, 21, .inl mp)), (e2, .inl (cZ, 21, .inl msf)), (e3, .inl (cI, 61, .inl (fun q => nI (mtn q)))), (e4, .inl (cJ, 61, .inr (.inl mce))), (e5, .inl (cJ, 244, .inr (.inl mfi))), (e6, .inl (cZ, 61, .inl mlk)), (e7, .inl (cZ, 3721, .inl mdn)), (e8, .inl (cI, 300, .inl mfl)), (e9, .inl (cJ, 4, .inr (.inl mw)))]) (va_A [(g0, .inr (3, [.int mth, .int (nI mN), .int (nI mty), .ref e1, .ref e2, .int (nI mcl), .ref e3, .ref e4, .int (nI mrc), .ref e5, .ref e6, .ref e7, .ref e8, .int (nI mfc), .int (nI mlr), .int mld, .ref e9, .long mcv, .int mlo])), (e1, .inl (cI, 21, .inl mp)), (e2, .inl (cZ, 21, .inl msf)), (e3, .inl (cI, 61, .inl (fun q => nI (mtn q)))), (e4, .inl (cJ, 61, .inr (.inl mce))), (e5, .inl (cJ, 244, .inr (.inl mfi))), (e6, .inl (cZ, 61, .inl mlk)), (e7, .inl (cZ, 3721, .inl mdn)), (e8, .inl (cI, 300, .inl mfl)), (e9, .inl (cJ, 4, .inr (.inl mw)))] sz)) 0 0 (va_A [(g0, .inr (3, [.int mth, .int (nI mN), .int (nI mty), .ref e1, .ref e2, .int (nI mcl), .ref e3, .ref e4, .int (nI mrc), .ref e5, .ref e6, .ref e7, .ref e8, .int (nI mfc), .int (nI mlr), .int mld, .ref e9, .long mcv, .int mlo])), (e1, .inl (cI, 21, .inl mp)), (e2, .inl (cZ, 21, .inl msf)), (e3, .inl (cI, 61, .inl (fun q => nI (mtn q)))), (e4, .inl (cJ, 61, .inr (.inl mce))), (e5, .inl (cJ, 244, .inr (.inl mfi))), (e6, .inl (cZ, 61, .inl mlk)), (e7, .inl (cZ, 3721, .inl mdn)), (e8, .inl (cI, 300, .inl mfl)), (e9, .inl (cJ, 4, .inr (.inl mw)))] sz) := by
  refine Met.ofW (cc := cXM_dry) (maxL := 6) (ret := (some .int)) (by decide) rfl ?_
  intro p e s m args below meth c s₁ B hml hv
  obtain ⟨rfl, hsz, hP, hK, hD0⟩ := hv
  have hx := B.exec
  have hb := B.bytes
  have hr := B.returns
  have hts := atoms_spec (ws := wsXM_dry) B.pre
  have hown : s.vm.findClass RXM = some m.cls := findClass_of_methodNamed B.named
  have hlocks := B.notSynchronized
  subst hsz
  have hD := hD0.self (sz := s.heap.size)
  generalize hAe : va_A [(g0, .inr (3, [.int mth, .int (nI mN), .int (nI mty), .ref e1, .ref e2, .int (nI mcl), .ref e3, .ref e4, .int (nI mrc), .ref e5, .ref e6, .ref e7, .ref e8, .int (nI mfc), .int (nI mlr), .int mld, .ref e9, .long mcv, .int mlo])), (e1, .inl (cI, 21, .inl mp)), (e2, .inl (cZ, 21, .inl msf)), (e3, .inl (cI, 61, .inl (fun q => nI (mtn q)))), (e4, .inl (cJ, 61, .inr (.inl mce))), (e5, .inl (cJ, 244, .inr (.inl mfi))), (e6, .inl (cZ, 61, .inl mlk)), (e7, .inl (cZ, 3721, .inl mdn)), (e8, .inl (cI, 300, .inl mfl)), (e9, .inl (cJ, 4, .inr (.inl mw)))] s.heap.size = A at hD ⊢
  have hA : ∀ q : Nat, s.heap.size ≤ q → A q := fun q h => by rw [← hAe]; exact Or.inr h
  have hS : va_S A s.heap s.heap [] := va_S.rf
  have hP : va_P (dC, dI) vwC2 [(g0, .inr (3, [.int mth, .int (nI mN), .int (nI mty), .ref e1, .ref e2, .int (nI mcl), .ref e3, .ref e4, .int (nI mrc), .ref e5, .ref e6, .ref e7, .ref e8, .int (nI mfc), .int (nI mlr), .int mld, .ref e9, .long mcv, .int mlo])), (e1, .inl (cI, 21, .inl mp)), (e2, .inl (cZ, 21, .inl msf)), (e3, .inl (cI, 61, .inl (fun q => nI (mtn q)))), (e4, .inl (cJ, 61, .inr (.inl mce))), (e5, .inl (cJ, 244, .inr (.inl mfi))), (e6, .inl (cZ, 61, .inl mlk)), (e7, .inl (cZ, 3721, .inl mdn)), (e8, .inl (cI, 300, .inl mfl)), (e9, .inl (cJ, 4, .inr (.inl mw)))] s.heap := hP
  have hl := lv_entry ([.ref g0, .int xo, .int xr]) (n := 6) (Nat.le_of_ble_eq_true rfl)
  rw [lg_entry_eq]
  generalize (lg_sl ([.ref g0, .int xo, .int xr]) ++ List.replicate (6 - (lg_sl ([.ref g0, .int xo, .int xr])).length) Slot.unset).toArray = ls at hl ⊢
  have hl : lv_has ls 6 [(0, .ref g0), (1, .int xo), (2, .int xr)] := hl
  refine lv_aload_n hx hb dXM_dry_0 rfl (lv_at hl 0 rfl) ?_
  refine lv_iconst (v := 0) hx hb dXM_dry_1 (by decide) ?_
  refine va_put (D := (dC, dI)) (ci := 3) (v := .int 0) (ty := .int) (C := RXM) (T := TXM) (N := 19) hx hb hts (by decide +kernel) tyXM tyXM_ok nmXM hown hK hP hD hS 0 rfl rfl 0 (by decide) (hts (.fieldLink RXM 43 "BatchClassesModel" "thrown" "I") (by decide +kernel)) (fun _ h9 => h9) rfl (by decide +kernel) rfl rfl (Nat.le_of_ble_eq_true rfl) dXM_dry_2 (fun H locs hP hD hS => ?_)
  have hP : va_P (dC, dI) vwC2 [(g0, .inr (3, [.int 0, .int (nI mN), .int (nI mty), .ref e1, .ref e2, .int (nI mcl), .ref e3, .ref e4, .int (nI mrc), .ref e5, .ref e6, .ref e7, .ref e8, .int (nI mfc), .int (nI mlr), .int mld, .ref e9, .long mcv, .int mlo])), (e1, .inl (cI, 21, .inl mp)), (e2, .inl (cZ, 21, .inl msf)), (e3, .inl (cI, 61, .inl (fun q => nI (mtn q)))), (e4, .inl (cJ, 61, .inr (.inl mce))), (e5, .inl (cJ, 244, .inr (.inl mfi))), (e6, .inl (cZ, 61, .inl mlk)), (e7, .inl (cZ, 3721, .inl mdn)), (e8, .inl (cI, 300, .inl mfl)), (e9, .inl (cJ, 4, .inr (.inl mw)))] H := hP
  have hD : va_D A [(g0, .inr (3, [.int 0, .int (nI mN), .int (nI mty), .ref e1, .ref e2, .int (nI mcl), .ref e3, .ref e4, .int (nI mrc), .ref e5, .ref e6, .ref e7, .ref e8, .int (nI mfc), .int (nI mlr), .int mld, .ref e9, .long mcv, .int mlo])), (e1, .inl (cI, 21, .inl mp)), (e2, .inl (cZ, 21, .inl msf)), (e3, .inl (cI, 61, .inl (fun q => nI (mtn q)))), (e4, .inl (cJ, 61, .inr (.inl mce))), (e5, .inl (cJ, 244, .inr (.inl mfi))), (e6, .inl (cZ, 61, .inl mlk)), (e7, .inl (cZ, 3721, .inl mdn)), (e8, .inl (cI, 300, .inl mfl)), (e9, .inl (cJ, 4, .inr (.inl mw)))] := hD
  refine lv_aload_n hx hb dXM_dry_5 rfl (lv_at hl 0 rfl) ?_
  refine lv_iload_n hx hb dXM_dry_6 rfl (lv_at hl 1 rfl) ?_
  refine lv_iload_n hx hb dXM_dry_7 rfl (lv_at hl 2 rfl) ?_
  have hPc := hP.sub (ws' := [(g0, .inr (3, [.int 0, .int (nI mN), .int (nI mty), .ref e1, .ref e2, .int (nI mcl), .ref e3, .ref e4, .int (nI mrc), .ref e5, .ref e6, .ref e7, .ref e8, .int (nI mfc), .int (nI mlr), .int mld, .ref e9, .long mcv, .int mlo])), (e1, .inl (cI, 21, .inl mp)), (e3, .inl (cI, 61, .inl (fun q => nI (mtn q)))), (e4, .inl (cJ, 61, .inr (.inl mce))), (e5, .inl (cJ, 244, .inr (.inl mfi))), (e6, .inl (cZ, 61, .inl mlk)), (e9, .inl (cJ, 4, .inr (.inl mw)))]) [0, 1, 3, 4, 5, 6, 9] rfl
  have hDc := hD.sub (ws' := [(g0, .inr (3, [.int 0, .int (nI mN), .int (nI mty), .ref e1, .ref e2, .int (nI mcl), .ref e3, .ref e4, .int (nI mrc), .ref e5, .ref e6, .ref e7, .ref e8, .int (nI mfc), .int (nI mlr), .int mld, .ref e9, .long mcv, .int mlo])), (e1, .inl (cI, 21, .inl mp)), (e3, .inl (cI, 61, .inl (fun q => nI (mtn q)))), (e4, .inl (cJ, 61, .inr (.inl mce))), (e5, .inl (cJ, 244, .inr (.inl mfi))), (e6, .inl (cZ, 61, .inl mlk)), (e9, .inl (cJ, 4, .inr (.inl mw)))]) [0, 1, 3, 4, 5, 6, 9] (by decide) rfl
  have hFc := va_free (wc := [(g0, .inr (3, [.int 0, .int (nI mN), .int (nI mty), .ref e1, .ref e2, .int (nI mcl), .ref e3, .ref e4, .int (nI mrc), .ref e5, .ref e6, .ref e7, .ref e8, .int (nI mfc), .int (nI mlr), .int mld, .ref e9, .long mcv, .int mlo])), (e1, .inl (cI, 21, .inl mp)), (e3, .inl (cI, 61, .inl (fun q => nI (mtn q)))), (e4, .inl (cJ, 61, .inr (.inl mce))), (e5, .inl (cJ, 244, .inr (.inl mfi))), (e6, .inl (cZ, 61, .inl mlk)), (e9, .inl (cJ, 4, .inr (.inl mw)))]) hD hS hA [0, 1, 3, 4, 5, 6, 9] rfl
  refine va_calli (va_runV (As := [.int xo, .int xr]) (rest := []) ⟨hx, hb, hml, hown, hts⟩ (k_XM_goes0 l dC dI cI cZ cJ H.size g0 e1 e2 e3 e4 e5 e6 e7 e8 e9 0 mN mty mcl mrc mfc mlr mld mcv mlo mp mtn mce mfi mlk mw xo xr hbad) (cwV 2 hts gXM_dry_XM_goes rfl rfl rfl (by decide +kernel) ⟨Nat.le_of_ble_eq_true rfl, Nat.le_of_ble_eq_true rfl⟩) ⟨fun a U g mk q => by obtain ⟨q0, q1, qP, qK, qD⟩ := q; exact ⟨q0, q1, qP, va_K.moved (u := U) (U := U.calling g mk a) (Vm.Alike.refl U.vm) qK, qD⟩, va_recv hK hPc (ci := 3) (q0 := 0) rfl rfl, fun U hU hW => ⟨rfl, by rw [hU], by rw [hU]; exact hPc, va_K.moved hW.alike hK, hDc.weaken (fun _ _ _ _ => trivial)⟩⟩ rfl rfl hl.1 rfl (lv_room (Nat.le_of_ble_eq_true rfl)) dXM_dry_8 ⟨Nat.zero_le _, Nat.zero_le _⟩) hS (fun q _ h => hFc q h) hFc (fun r_8 u t H1 locs ht hvm hw_8 hB hz1 hk1 hS => ?_)
  obtain ⟨hP1, hK1, hD1⟩ := hB
  rw [ht] at hP1
  try dsimp only at hw_8
  obtain ⟨hP, hD⟩ := va_join (wr := [(e2, .inl (cZ, 21, .inl msf)), (e7, .inl (cZ, 3721, .inl mdn)), (e8, .inl (cI, 300, .inl mfl))]) (w1 := [(g0, .inr (3, [.int 0, .int (nI mN), .int (nI mty), .ref e1, .ref e2, .int (nI mcl), .ref e3, .ref e4, .int (nI mrc), .ref e5, .ref e6, .ref e7, .ref e8, .int (nI mfc), .int (nI mlr), .int mld, .ref e9, .long mcv, .int mlo])), (e1, .inl (cI, 21, .inl mp)), (e3, .inl (cI, 61, .inl (fun q => nI (mtn q)))), (e4, .inl (cJ, 61, .inr (.inl mce))), (e5, .inl (cJ, 244, .inr (.inl mfi))), (e6, .inl (cZ, 61, .inl mlk)), (e9, .inl (cJ, 4, .inr (.inl mw)))]) hP hD [0, 1, 3, 4, 5, 6, 9] [2, 7, 8] rfl rfl (by decide) (by decide) hk1 hFc hP1 hD1
  generalize H1 = H at hP hS ⊢
  have hP : va_P (dC, dI) vwC2 [(g0, .inr (3, [.int 0, .int (nI mN), .int (nI mty), .ref e1, .ref e2, .int (nI mcl), .ref e3, .ref e4, .int (nI mrc), .ref e5, .ref e6, .ref e7, .ref e8, .int (nI mfc), .int (nI mlr), .int mld, .ref e9, .long mcv, .int mlo])), (e1, .inl (cI, 21, .inl mp)), (e2, .inl (cZ, 21, .inl msf)), (e3, .inl (cI, 61, .inl (fun q => nI (mtn q)))), (e4, .inl (cJ, 61, .inr (.inl mce))), (e5, .inl (cJ, 244, .inr (.inl mfi))), (e6, .inl (cZ, 61, .inl mlk)), (e7, .inl (cZ, 3721, .inl mdn)), (e8, .inl (cI, 300, .inl mfl)), (e9, .inl (cJ, 4, .inr (.inl mw)))] H := hP.sub [3, 4, 0, 5, 6, 7, 8, 1, 2, 9] rfl
  have hD : va_D A [(g0, .inr (3, [.int 0, .int (nI mN), .int (nI mty), .ref e1, .ref e2, .int (nI mcl), .ref e3, .ref e4, .int (nI mrc), .ref e5, .ref e6, .ref e7, .ref e8, .int (nI mfc), .int (nI mlr), .int mld, .ref e9, .long mcv, .int mlo])), (e1, .inl (cI, 21, .inl mp)), (e2, .inl (cZ, 21, .inl msf)), (e3, .inl (cI, 61, .inl (fun q => nI (mtn q)))), (e4, .inl (cJ, 61, .inr (.inl mce))), (e5, .inl (cJ, 244, .inr (.inl mfi))), (e6, .inl (cZ, 61, .inl mlk)), (e7, .inl (cZ, 3721, .inl mdn)), (e8, .inl (cI, 300, .inl mfl)), (e9, .inl (cJ, 4, .inr (.inl mw)))] := hD.sub [3, 4, 0, 5, 6, 7, 8, 1, 2, 9] (by decide) rfl
  subst hw_8
  refine lv_istore_n (lv' := [(3, .int pM_goes0), (0, .ref g0), (1, .int xo), (2, .int xr)]) hx hb dXM_dry_11 rfl hl (by decide) rfl (fun ls hl => ?_)
  refine lv_iload_n hx hb dXM_dry_12 rfl (lv_at hl 0 rfl) ?_
  refine lv_iconst (v := 1) hx hb dXM_dry_13 (by decide) ?_
  refine lv_icmp_eq (tgt := 19) hx hb dXM_dry_14 (by decide) (fun c_14 => absurd c_14 (show ¬ pM_goes0 = 1 by decide)) (fun c_14 => ?_)
  refine lv_iload_n hx hb dXM_dry_17 rfl (lv_at hl 0 rfl) ?_
  exact W.iret (v := pM_goes0) hx hb hr (fun t ht hW => ⟨⟨pM_goes0, (0), rfl, by first | (simp only [pM_dry0]; done) | (simp only [pM_dry0]; rfl) | rfl, by rw [ht]; exact hP, va_K.moved hW.alike hK, hD⟩, hS.F ht⟩) hS.2.2 dXM_dry_18
def pM_cnt4 (mfi mw : Nat → Int64) (j : Nat) : Int32 := nI ((if mfi (4 * j + 0) = mw 0 then 0 else 1) + (if mfi (4 * j + 1) = mw 1 then 0 else 1) + (if mfi (4 * j + 2) = mw 2 then 0 else 1) + (if mfi (4 * j + 3) = mw 3 then 0 else 1))
def pM_dry (mN : Nat) (mcv : Int64) (mlo : Int32) (mp : Nat → Int32) (mtn : Nat → Nat) (mce : Nat → Int64) (mfi : Nat → Int64) (mlk : Nat → Int32) (mw : Nat → Int64) (i : Nat) (j : Nat) : Int32 × Int32 × Int64 × Int32 × (Nat → Int64) :=
  match pM_goes mN mcv mlo mp mtn mce mfi mlk mw i j with
  | (r_8, mcv_8, mlo_8, mw_8) =>
    if r_8 = 1 then (pM_cnt4 mfi mw_8 j, 0, mcv_8, mlo_8, mw_8) else (r_8, 0, mcv_8, mlo_8, mw_8)
set_option maxHeartbeats 4000000 in
set_option maxRecDepth 100000 in
theorem k_XM_dry (l : Launch) (dC : Nat → ClassId) (dI : Nat → Nat → Nat) (cI cZ cJ : ClassId) (sz : Nat) (g0 e1 e2 e3 e4 e5 e6 e7 e8 e9 : Nat) (mth : Int32) (mN mty mcl mrc mfc mlr : (Nat)) (mld : Int32) (mcv : Int64) (mlo : Int32) (mp msf : Nat → Int32) (mtn : Nat → Nat) (mce mfi : Nat → Int64) (mlk mdn mfl : Nat → Int32) (mw : Nat → Int64) (i j : (Nat)) (hi : 1 ≤ i ∧ i ≤ mcl) (hj : 1 ≤ j ∧ j ≤ mrc) (hmN : mN ≤ 200) (hcl : mcl ≤ 60) (hrc : mrc ≤ 60) (htn : 1 ≤ mtn i ∧ mtn i ≤ 20) : Met l yXM_dry wsXM_dry ({ frames := 2, cells := 0, slots := 0, locals := 49 }) (va_Pc [.ref g0, .int (nI i), .int (nI j)] (fun U => U.heap.size = sz ∧ va_P (dC, dI) vwC2 [(g0, .inr (3, [.int mth, .int (nI mN), .int (nI mty), .ref e1, .ref e2, .int (nI mcl), .ref e3, .ref e4, .int (nI mrc), .ref e5, .ref e6, .ref e7, .ref e8, .int (nI mfc), .int (nI mlr), .int mld, .ref e9, .long mcv, .int mlo])), (e1, .inl (cI, 21, .inl mp)), (e2, .inl (cZ, 21, .inl msf)), (e3, .inl (cI, 61, .inl (fun q => nI (mtn q)))), (e4, .inl (cJ, 61, .inr (.inl mce))), (e5, .inl (cJ, 244, .inr (.inl mfi))), (e6, .inl (cZ, 61, .inl mlk)), (e7, .inl (cZ, 3721, .inl mdn)), (e8, .inl (cI, 300, .inl mfl)), (e9, .inl (cJ, 4, .inr (.inl mw)))] U.heap ∧ va_K (dC, dI) vwC2 [(cI, .int), (cZ, .boolean), (cJ, .long)] U ∧ va_D (fun _ => True) [(g0, .inr (3, [.int mth, .int (nI mN), .int (nI mty), .ref e1, .ref e2, .int (nI mcl), .ref e3, .ref e4, .int (nI mrc), .ref e5, .ref e6, .ref e7, .ref e8, .int (nI mfc), .int (nI mlr), .int mld, .ref e9, .long mcv, .int mlo])), (e1, .inl (cI, 21, .inl mp)), (e2, .inl (cZ, 21, .inl msf)), (e3, .inl (cI, 61, .inl (fun q => nI (mtn q)))), (e4, .inl (cJ, 61, .inr (.inl mce))), (e5, .inl (cJ, 244, .inr (.inl mfi))), (e6, .inl (cZ, 61, .inl mlk)), (e7, .inl (cZ, 3721, .inl mdn)), (e8, .inl (cI, 300, .inl mfl)), (e9, .inl (cJ, 4, .inr (.inl mw)))])) (va_Qi (fun (r : Int32) (u : Int32 × Int64 × Int32 × (Nat → Int64)) => (r, u) = pM_dry mN mcv mlo mp mtn mce mfi mlk mw i j) (fun (u : Int32 × Int64 × Int32 × (Nat → Int64)) (t : State) => match u with | (mth', mcv', mlo', mw') => va_P (dC, dI) vwC2 [(g0, .inr (3, [.int mth', .int (nI mN), .int (nI mty), .ref e1, .ref e2, .int (nI mcl), .ref e3, .ref e4, .int (nI mrc), .ref e5, .ref e6, .ref e7, .ref e8, .int (nI mfc), .int (nI mlr), .int mld, .ref e9, .long mcv', .int mlo'])), (e1, .inl (cI, 21, .inl mp)), (e2, .inl (cZ, 21, .inl msf)), (e3, .inl (cI, 61, .inl (fun q => nI (mtn q)))), (e4, .inl (cJ, 61, .inr (.inl mce))), (e5, .inl (cJ, 244, .inr (.inl mfi))), (e6, .inl (cZ, 61, .inl mlk)), (e7, .inl (cZ, 3721, .inl mdn)), (e8, .inl (cI, 300, .inl mfl)), (e9, .inl (cJ, 4, .inr (.inl mw')))] t.heap ∧ va_K (dC, dI) vwC2 [(cI, .int), (cZ, .boolean), (cJ, .long)] t ∧ va_D (va_A [(g0, .inr (3, [.int mth, .int (nI mN), .int (nI mty), .ref e1, .ref e2, .int (nI mcl), .ref e3, .ref e4, .int (nI mrc), .ref e5, .ref e6, .ref e7, .ref e8, .int (nI mfc), .int (nI mlr), .int mld, .ref e9, .long mcv, .int mlo])), (e1, .inl (cI, 21, .inl mp)), (e2, .inl (cZ, 21, .inl msf)), (e3, .inl (cI, 61, .inl (fun q => nI (mtn q)))), (e4, .inl (cJ, 61, .inr (.inl mce))), (e5, .inl (cJ, 244, .inr (.inl mfi))), (e6, .inl (cZ, 61, .inl mlk)), (e7, .inl (cZ, 3721, .inl mdn)), (e8, .inl (cI, 300, .inl mfl)), (e9, .inl (cJ, 4, .inr (.inl mw)))] sz) [(g0, .inr (3, [.int mth', .int (nI mN), .int (nI mty), .ref e1, .ref e2, .int (nI mcl), .ref e3, .ref e4, .int (nI mrc), .ref e5, .ref e6, .ref e7, .ref e8, .int (nI mfc), .int (nI mlr), .int mld, .ref e9, .long mcv', .int mlo'])), (e1, .inl (cI, 21, .inl mp)), (e2, .inl (cZ, 21, .inl msf)), (e3, .inl (cI, 61, .inl (fun q => nI (mtn q)))), (e4, .inl (cJ, 61, .inr (.inl mce))), (e5, .inl (cJ, 244, .inr (.inl mfi))), (e6, .inl (cZ, 61, .inl mlk)), (e7, .inl (cZ, 3721, .inl mdn)), (e8, .inl (cI, 300, .inl mfl)), (e9, .inl (cJ, 4, .inr (.inl mw')))]) (va_A [(g0, .inr (3, [.int mth, .int (nI mN), .int (nI mty), .ref e1, .ref e2, .int (nI mcl), .ref e3, .ref e4, .int (nI mrc), .ref e5, .ref e6, .ref e7, .ref e8, .int (nI mfc), .int (nI mlr), .int mld, .ref e9, .long mcv, .int mlo])), (e1, .inl (cI, 21, .inl mp)), (e2, .inl (cZ, 21, .inl msf)), (e3, .inl (cI, 61, .inl (fun q => nI (mtn q)))), (e4, .inl (cJ, 61, .inr (.inl mce))), (e5, .inl (cJ, 244, .inr (.inl mfi))), (e6, .inl (cZ, 61, .inl mlk)), (e7, .inl (cZ, 3721, .inl mdn)), (e8, .inl (cI, 300, .inl mfl)), (e9, .inl (cJ, 4, .inr (.inl mw)))] sz)) 0 0 (va_A [(g0, .inr (3, [.int mth, .int (nI mN), .int (nI mty), .ref e1, .ref e2, .int (nI mcl), .ref e3, .ref e4, .int (nI mrc), .ref e5, .ref e6, .ref e7, .ref e8, .int (nI mfc), .int (nI mlr), .int mld, .ref e9, .long mcv, .int mlo])), (e1, .inl (cI, 21, .inl mp)), (e2, .inl (cZ, 21, .inl msf)), (e3, .inl (cI, 61, .inl (fun q => nI (mtn q)))), (e4, .inl (cJ, 61, .inr (.inl mce))), (e5, .inl (cJ, 244, .inr (.inl mfi))), (e6, .inl (cZ, 61, .inl mlk)), (e7, .inl (cZ, 3721, .inl mdn)), (e8, .inl (cI, 300, .inl mfl)), (e9, .inl (cJ, 4, .inr (.inl mw)))] sz) := by
  refine Met.ofW (cc := cXM_dry) (maxL := 6) (ret := (some .int)) (by decide) rfl ?_
  intro p e s m args below meth c s₁ B hml hv
  obtain ⟨rfl, hsz, hP, hK, hD0⟩ := hv
  have hx := B.exec
  have hb := B.bytes
  have hr := B.returns
  have hts := atoms_spec (ws := wsXM_dry) B.pre
  have hown : s.vm.findClass RXM = some m.cls := findClass_of_methodNamed B.named
  have hlocks := B.notSynchronized
  subst hsz
  have hD := hD0.self (sz := s.heap.size)
  generalize hAe : va_A [(g0, .inr (3, [.int mth, .int (nI mN), .int (nI mty), .ref e1, .ref e2, .int (nI mcl), .ref e3, .ref e4, .int (nI mrc), .ref e5, .ref e6, .ref e7, .ref e8, .int (nI mfc), .int (nI mlr), .int mld, .ref e9, .long mcv, .int mlo])), (e1, .inl (cI, 21, .inl mp)), (e2, .inl (cZ, 21, .inl msf)), (e3, .inl (cI, 61, .inl (fun q => nI (mtn q)))), (e4, .inl (cJ, 61, .inr (.inl mce))), (e5, .inl (cJ, 244, .inr (.inl mfi))), (e6, .inl (cZ, 61, .inl mlk)), (e7, .inl (cZ, 3721, .inl mdn)), (e8, .inl (cI, 300, .inl mfl)), (e9, .inl (cJ, 4, .inr (.inl mw)))] s.heap.size = A at hD ⊢
  have hA : ∀ q : Nat, s.heap.size ≤ q → A q := fun q h => by rw [← hAe]; exact Or.inr h
  have hS : va_S A s.heap s.heap [] := va_S.rf
  have hP : va_P (dC, dI) vwC2 [(g0, .inr (3, [.int mth, .int (nI mN), .int (nI mty), .ref e1, .ref e2, .int (nI mcl), .ref e3, .ref e4, .int (nI mrc), .ref e5, .ref e6, .ref e7, .ref e8, .int (nI mfc), .int (nI mlr), .int mld, .ref e9, .long mcv, .int mlo])), (e1, .inl (cI, 21, .inl mp)), (e2, .inl (cZ, 21, .inl msf)), (e3, .inl (cI, 61, .inl (fun q => nI (mtn q)))), (e4, .inl (cJ, 61, .inr (.inl mce))), (e5, .inl (cJ, 244, .inr (.inl mfi))), (e6, .inl (cZ, 61, .inl mlk)), (e7, .inl (cZ, 3721, .inl mdn)), (e8, .inl (cI, 300, .inl mfl)), (e9, .inl (cJ, 4, .inr (.inl mw)))] s.heap := hP
  have hl := lv_entry ([.ref g0, .int (nI i), .int (nI j)]) (n := 6) (Nat.le_of_ble_eq_true rfl)
  rw [lg_entry_eq]
  generalize (lg_sl ([.ref g0, .int (nI i), .int (nI j)]) ++ List.replicate (6 - (lg_sl ([.ref g0, .int (nI i), .int (nI j)])).length) Slot.unset).toArray = ls at hl ⊢
  have hl : lv_has ls 6 [(0, .ref g0), (1, .int (nI i)), (2, .int (nI j))] := hl
  refine lv_aload_n hx hb dXM_dry_0 rfl (lv_at hl 0 rfl) ?_
  refine lv_iconst (v := 0) hx hb dXM_dry_1 (by decide) ?_
  refine va_put (D := (dC, dI)) (ci := 3) (v := .int 0) (ty := .int) (C := RXM) (T := TXM) (N := 19) hx hb hts (by decide +kernel) tyXM tyXM_ok nmXM hown hK hP hD hS 0 rfl rfl 0 (by decide) (hts (.fieldLink RXM 43 "BatchClassesModel" "thrown" "I") (by decide +kernel)) (fun _ h9 => h9) rfl (by decide +kernel) rfl rfl (Nat.le_of_ble_eq_true rfl) dXM_dry_2 (fun H locs hP hD hS => ?_)
  have hP : va_P (dC, dI) vwC2 [(g0, .inr (3, [.int 0, .int (nI mN), .int (nI mty), .ref e1, .ref e2, .int (nI mcl), .ref e3, .ref e4, .int (nI mrc), .ref e5, .ref e6, .ref e7, .ref e8, .int (nI mfc), .int (nI mlr), .int mld, .ref e9, .long mcv, .int mlo])), (e1, .inl (cI, 21, .inl mp)), (e2, .inl (cZ, 21, .inl msf)), (e3, .inl (cI, 61, .inl (fun q => nI (mtn q)))), (e4, .inl (cJ, 61, .inr (.inl mce))), (e5, .inl (cJ, 244, .inr (.inl mfi))), (e6, .inl (cZ, 61, .inl mlk)), (e7, .inl (cZ, 3721, .inl mdn)), (e8, .inl (cI, 300, .inl mfl)), (e9, .inl (cJ, 4, .inr (.inl mw)))] H := hP
  have hD : va_D A [(g0, .inr (3, [.int 0, .int (nI mN), .int (nI mty), .ref e1, .ref e2, .int (nI mcl), .ref e3, .ref e4, .int (nI mrc), .ref e5, .ref e6, .ref e7, .ref e8, .int (nI mfc), .int (nI mlr), .int mld, .ref e9, .long mcv, .int mlo])), (e1, .inl (cI, 21, .inl mp)), (e2, .inl (cZ, 21, .inl msf)), (e3, .inl (cI, 61, .inl (fun q => nI (mtn q)))), (e4, .inl (cJ, 61, .inr (.inl mce))), (e5, .inl (cJ, 244, .inr (.inl mfi))), (e6, .inl (cZ, 61, .inl mlk)), (e7, .inl (cZ, 3721, .inl mdn)), (e8, .inl (cI, 300, .inl mfl)), (e9, .inl (cJ, 4, .inr (.inl mw)))] := hD
  refine lv_aload_n hx hb dXM_dry_5 rfl (lv_at hl 0 rfl) ?_
  refine lv_iload_n hx hb dXM_dry_6 rfl (lv_at hl 1 rfl) ?_
  refine lv_iload_n hx hb dXM_dry_7 rfl (lv_at hl 2 rfl) ?_
  have hPc := hP.sub (ws' := [(g0, .inr (3, [.int 0, .int (nI mN), .int (nI mty), .ref e1, .ref e2, .int (nI mcl), .ref e3, .ref e4, .int (nI mrc), .ref e5, .ref e6, .ref e7, .ref e8, .int (nI mfc), .int (nI mlr), .int mld, .ref e9, .long mcv, .int mlo])), (e1, .inl (cI, 21, .inl mp)), (e3, .inl (cI, 61, .inl (fun q => nI (mtn q)))), (e4, .inl (cJ, 61, .inr (.inl mce))), (e5, .inl (cJ, 244, .inr (.inl mfi))), (e6, .inl (cZ, 61, .inl mlk)), (e9, .inl (cJ, 4, .inr (.inl mw)))]) [0, 1, 3, 4, 5, 6, 9] rfl
  have hDc := hD.sub (ws' := [(g0, .inr (3, [.int 0, .int (nI mN), .int (nI mty), .ref e1, .ref e2, .int (nI mcl), .ref e3, .ref e4, .int (nI mrc), .ref e5, .ref e6, .ref e7, .ref e8, .int (nI mfc), .int (nI mlr), .int mld, .ref e9, .long mcv, .int mlo])), (e1, .inl (cI, 21, .inl mp)), (e3, .inl (cI, 61, .inl (fun q => nI (mtn q)))), (e4, .inl (cJ, 61, .inr (.inl mce))), (e5, .inl (cJ, 244, .inr (.inl mfi))), (e6, .inl (cZ, 61, .inl mlk)), (e9, .inl (cJ, 4, .inr (.inl mw)))]) [0, 1, 3, 4, 5, 6, 9] (by decide) rfl
  have hFc := va_free (wc := [(g0, .inr (3, [.int 0, .int (nI mN), .int (nI mty), .ref e1, .ref e2, .int (nI mcl), .ref e3, .ref e4, .int (nI mrc), .ref e5, .ref e6, .ref e7, .ref e8, .int (nI mfc), .int (nI mlr), .int mld, .ref e9, .long mcv, .int mlo])), (e1, .inl (cI, 21, .inl mp)), (e3, .inl (cI, 61, .inl (fun q => nI (mtn q)))), (e4, .inl (cJ, 61, .inr (.inl mce))), (e5, .inl (cJ, 244, .inr (.inl mfi))), (e6, .inl (cZ, 61, .inl mlk)), (e9, .inl (cJ, 4, .inr (.inl mw)))]) hD hS hA [0, 1, 3, 4, 5, 6, 9] rfl
  refine va_calli (va_runV (As := [.int (nI i), .int (nI j)]) (rest := []) ⟨hx, hb, hml, hown, hts⟩ (k_XM_goes l dC dI cI cZ cJ H.size g0 e1 e2 e3 e4 e5 e6 e7 e8 e9 0 mN mty mcl mrc mfc mlr mld mcv mlo mp mtn mce mfi mlk mw i j hi hj hcl hrc hmN htn) (cwV 2 hts gXM_dry_XM_goes rfl rfl rfl (by decide +kernel) ⟨Nat.le_of_ble_eq_true rfl, Nat.le_of_ble_eq_true rfl⟩) ⟨fun a U g mk q => by obtain ⟨q0, q1, qP, qK, qD⟩ := q; exact ⟨q0, q1, qP, va_K.moved (u := U) (U := U.calling g mk a) (Vm.Alike.refl U.vm) qK, qD⟩, va_recv hK hPc (ci := 3) (q0 := 0) rfl rfl, fun U hU hW => ⟨rfl, by rw [hU], by rw [hU]; exact hPc, va_K.moved hW.alike hK, hDc.weaken (fun _ _ _ _ => trivial)⟩⟩ rfl rfl hl.1 rfl (lv_room (Nat.le_of_ble_eq_true rfl)) dXM_dry_8 ⟨Nat.zero_le _, Nat.zero_le _⟩) hS (fun q _ h => hFc q h) hFc (fun r_8 u t H1 locs ht hvm hw_8 hB hz1 hk1 hS => ?_)
  obtain ⟨mcv_8, mlo_8, mw_8⟩ := u
  obtain ⟨hP1, hK1, hD1⟩ := hB
  rw [ht] at hP1
  try dsimp only at hw_8
  obtain ⟨hP, hD⟩ := va_join (wr := [(e2, .inl (cZ, 21, .inl msf)), (e7, .inl (cZ, 3721, .inl mdn)), (e8, .inl (cI, 300, .inl mfl))]) (w1 := [(g0, .inr (3, [.int 0, .int (nI mN), .int (nI mty), .ref e1, .ref e2, .int (nI mcl), .ref e3, .ref e4, .int (nI mrc), .ref e5, .ref e6, .ref e7, .ref e8, .int (nI mfc), .int (nI mlr), .int mld, .ref e9, .long mcv_8, .int mlo_8])), (e1, .inl (cI, 21, .inl mp)), (e3, .inl (cI, 61, .inl (fun q => nI (mtn q)))), (e4, .inl (cJ, 61, .inr (.inl mce))), (e5, .inl (cJ, 244, .inr (.inl mfi))), (e6, .inl (cZ, 61, .inl mlk)), (e9, .inl (cJ, 4, .inr (.inl mw_8)))]) hP hD [0, 1, 3, 4, 5, 6, 9] [2, 7, 8] rfl rfl (by decide) (by decide) hk1 hFc hP1 hD1
  generalize H1 = H at hP hS ⊢
  have hP : va_P (dC, dI) vwC2 [(g0, .inr (3, [.int 0, .int (nI mN), .int (nI mty), .ref e1, .ref e2, .int (nI mcl), .ref e3, .ref e4, .int (nI mrc), .ref e5, .ref e6, .ref e7, .ref e8, .int (nI mfc), .int (nI mlr), .int mld, .ref e9, .long mcv_8, .int mlo_8])), (e1, .inl (cI, 21, .inl mp)), (e2, .inl (cZ, 21, .inl msf)), (e3, .inl (cI, 61, .inl (fun q => nI (mtn q)))), (e4, .inl (cJ, 61, .inr (.inl mce))), (e5, .inl (cJ, 244, .inr (.inl mfi))), (e6, .inl (cZ, 61, .inl mlk)), (e7, .inl (cZ, 3721, .inl mdn)), (e8, .inl (cI, 300, .inl mfl)), (e9, .inl (cJ, 4, .inr (.inl mw_8)))] H := hP.sub [3, 4, 0, 5, 6, 7, 8, 1, 2, 9] rfl
  have hD : va_D A [(g0, .inr (3, [.int 0, .int (nI mN), .int (nI mty), .ref e1, .ref e2, .int (nI mcl), .ref e3, .ref e4, .int (nI mrc), .ref e5, .ref e6, .ref e7, .ref e8, .int (nI mfc), .int (nI mlr), .int mld, .ref e9, .long mcv_8, .int mlo_8])), (e1, .inl (cI, 21, .inl mp)), (e2, .inl (cZ, 21, .inl msf)), (e3, .inl (cI, 61, .inl (fun q => nI (mtn q)))), (e4, .inl (cJ, 61, .inr (.inl mce))), (e5, .inl (cJ, 244, .inr (.inl mfi))), (e6, .inl (cZ, 61, .inl mlk)), (e7, .inl (cZ, 3721, .inl mdn)), (e8, .inl (cI, 300, .inl mfl)), (e9, .inl (cJ, 4, .inr (.inl mw_8)))] := hD.sub [3, 4, 0, 5, 6, 7, 8, 1, 2, 9] (by decide) rfl
  refine lv_istore_n (lv' := [(3, .int r_8), (0, .ref g0), (1, .int (nI i)), (2, .int (nI j))]) hx hb dXM_dry_11 rfl hl (by decide) rfl (fun ls hl => ?_)
  refine lv_iload_n hx hb dXM_dry_12 rfl (lv_at hl 0 rfl) ?_
  refine lv_iconst (v := 1) hx hb dXM_dry_13 (by decide) ?_
  refine lv_icmp_eq (tgt := 19) hx hb dXM_dry_14 (by decide) (fun c_14 => ?_) (fun c_14 => ?_)
  · refine lv_iconst (v := 0) hx hb dXM_dry_19 (by decide) ?_
    refine lv_istore (lv' := [(4, .int 0), (3, .int r_8), (0, .ref g0), (1, .int (nI i)), (2, .int (nI j))]) hx hb dXM_dry_20 hl (by decide) rfl (fun ls hl => ?_)
    refine lv_iconst (v := 0) hx hb dXM_dry_22 (by decide) ?_
    refine lv_istore (lv' := [(5, .int 0), (4, .int 0), (3, .int r_8), (0, .ref g0), (1, .int (nI i)), (2, .int (nI j))]) hx hb dXM_dry_23 hl (by decide) rfl (fun ls hl => ?_)
    refine lv_iload hx hb dXM_dry_25 (lv_at hl 0 rfl) ?_
    refine lv_iconst (v := 4) hx hb dXM_dry_27 (by decide) ?_
    refine lv_icmp_ge (tgt := 69) hx hb dXM_dry_28 (by decide) (fun c_28 => absurd c_28 (by decide)) (fun c_28 => ?_)
    refine lv_iload hx hb dXM_dry_31 (lv_at hl 1 rfl) ?_
    refine lv_aload_n hx hb dXM_dry_33 rfl (lv_at hl 3 rfl) ?_
    refine va_get (D := (dC, dI)) (ci := 3) (v := .ref e5) (C := RXM) (T := TXM) (N := 19) hx hb hts (by decide +kernel) hown hK hP 0 rfl rfl 9 (by decide) (hts (.fieldLink RXM 24 "BatchClassesModel" "fields" "[J") (by decide +kernel)) (fun _ h9 => h9) rfl dXM_dry_34 ?_
    refine lv_iconst (v := 4) hx hb dXM_dry_37 (by decide) ?_
    refine lv_iload_n hx hb dXM_dry_38 rfl (lv_at hl 5 rfl) ?_
    refine lv_imul hx hb dXM_dry_39 ?_
    refine lv_topi (fun z_39 ez_39 => ?_)
    obtain rfl : z_39 = nI (4 * j) := ez_39.trans (pk_mul 4 j)
    refine lv_iload hx hb dXM_dry_40 (lv_at hl 0 rfl) ?_
    refine lv_iadd hx hb dXM_dry_42 ?_
    refine lv_topi (fun z_42 ez_42 => ?_)
    obtain rfl : z_42 = nI ((4 * j) + 0) := ez_42.trans (nI_add (4 * j) 0)
    refine va_lald hx hb hK hP 5 2 rfl rfl (vp_in_nI (by omega) (by omega)) dXM_dry_43 ?_
    refine lv_topl (fun z_43 ez_43 => ?_)
    obtain rfl : z_43 = mfi ((4 * j) + 0) := ez_43.trans (by rw [nI_clamp (n := ((4 * j) + 0)) (by omega)])
    refine lv_aload_n hx hb dXM_dry_44 rfl (lv_at hl 3 rfl) ?_
    refine va_get (D := (dC, dI)) (ci := 3) (v := .ref e9) (C := RXM) (T := TXM) (N := 19) hx hb hts (by decide +kernel) hown hK hP 0 rfl rfl 16 (by decide) (hts (.fieldLink RXM 36 "BatchClassesModel" "now" "[J") (by decide +kernel)) (fun _ h9 => h9) rfl dXM_dry_45 ?_
    refine lv_iload hx hb dXM_dry_48 (lv_at hl 0 rfl) ?_
    refine va_lald hx hb hK hP 9 2 rfl rfl (vp_in_nI (n := 0) (by omega) (by omega)) dXM_dry_50 ?_
    refine lv_topl (fun z_50 ez_50 => ?_)
    obtain rfl : z_50 = mw_8 0 := ez_50
    refine W.lcmp hx hb dXM_dry_51 ?_
    refine lv_if_eq (tgt := 59) hx hb dXM_dry_52 (by decide) (fun c_52 => ?_) (fun c_52 => ?_)
    · have c_52 : (mfi ((4 * j) + 0)) = (mw_8 0) := (lg_cmp_eq (mfi ((4 * j) + 0)) (mw_8 0)).mp c_52
      refine lv_iconst (v := 0) hx hb dXM_dry_59 (by decide) ?_
      refine lv_iadd hx hb dXM_dry_60 ?_
      refine lv_topi (fun z_60 ez_60 => ?_)
      obtain rfl : z_60 = 0 := ez_60.trans (by decide)
      refine lv_istore (lv' := [(4, .int 0), (5, .int 0), (3, .int r_8), (0, .ref g0), (1, .int (nI i)), (2, .int (nI j))]) hx hb dXM_dry_61 hl (by decide) rfl (fun ls hl => ?_)
      refine lv_iinc (v := 1) (lv' := [(5, .int 1), (4, .int 0), (3, .int r_8), (0, .ref g0), (1, .int (nI i)), (2, .int (nI j))]) hx hb dXM_dry_63 hl (k := 1) rfl (by decide) (by decide) rfl (fun ls hl => ?_)
      refine lv_goto (tgt := 25) hx hb dXM_dry_66 (by decide) ?_
      refine lv_iload hx hb dXM_dry_25 (lv_at hl 0 rfl) ?_
      refine lv_iconst (v := 4) hx hb dXM_dry_27 (by decide) ?_
      refine lv_icmp_ge (tgt := 69) hx hb dXM_dry_28 (by decide) (fun c_28_1 => absurd c_28_1 (by decide)) (fun c_28_1 => ?_)
      refine lv_iload hx hb dXM_dry_31 (lv_at hl 1 rfl) ?_
      refine lv_aload_n hx hb dXM_dry_33 rfl (lv_at hl 3 rfl) ?_
      refine va_get (D := (dC, dI)) (ci := 3) (v := .ref e5) (C := RXM) (T := TXM) (N := 19) hx hb hts (by decide +kernel) hown hK hP 0 rfl rfl 9 (by decide) (hts (.fieldLink RXM 24 "BatchClassesModel" "fields" "[J") (by decide +kernel)) (fun _ h9 => h9) rfl dXM_dry_34 ?_
      refine lv_iconst (v := 4) hx hb dXM_dry_37 (by decide) ?_
      refine lv_iload_n hx hb dXM_dry_38 rfl (lv_at hl 5 rfl) ?_
      refine lv_imul hx hb dXM_dry_39 ?_
      refine lv_topi (fun z_39 ez_39 => ?_)
      obtain rfl : z_39 = nI (4 * j) := ez_39.trans (pk_mul 4 j)
      refine lv_iload hx hb dXM_dry_40 (lv_at hl 0 rfl) ?_
      refine lv_iadd hx hb dXM_dry_42 ?_
      refine lv_topi (fun z_42 ez_42 => ?_)
      obtain rfl : z_42 = nI ((4 * j) + 1) := ez_42.trans (nI_add (4 * j) 1)
      refine va_lald hx hb hK hP 5 2 rfl rfl (vp_in_nI (by omega) (by omega)) dXM_dry_43 ?_
      refine lv_topl (fun z_43 ez_43 => ?_)
      obtain rfl : z_43 = mfi ((4 * j) + 1) := ez_43.trans (by rw [nI_clamp (n := ((4 * j) + 1)) (by omega)])
      refine lv_aload_n hx hb dXM_dry_44 rfl (lv_at hl 3 rfl) ?_
      refine va_get (D := (dC, dI)) (ci := 3) (v := .ref e9) (C := RXM) (T := TXM) (N := 19) hx hb hts (by decide +kernel) hown hK hP 0 rfl rfl 16 (by decide) (hts (.fieldLink RXM 36 "BatchClassesModel" "now" "[J") (by decide +kernel)) (fun _ h9 => h9) rfl dXM_dry_45 ?_
      refine lv_iload hx hb dXM_dry_48 (lv_at hl 0 rfl) ?_
      refine va_lald hx hb hK hP 9 2 rfl rfl (vp_in_nI (n := 1) (by omega) (by omega)) dXM_dry_50 ?_
      refine lv_topl (fun z_50 ez_50 => ?_)
      obtain rfl : z_50 = mw_8 1 := ez_50
      refine W.lcmp hx hb dXM_dry_51 ?_
      refine lv_if_eq (tgt := 59) hx hb dXM_dry_52 (by decide) (fun c_52_1 => ?_) (fun c_52_1 => ?_)
      · have c_52_1 : (mfi ((4 * j) + 1)) = (mw_8 1) := (lg_cmp_eq (mfi ((4 * j) + 1)) (mw_8 1)).mp c_52_1
        refine lv_iconst (v := 0) hx hb dXM_dry_59 (by decide) ?_
        refine lv_iadd hx hb dXM_dry_60 ?_
        refine lv_topi (fun z_60 ez_60 => ?_)
        obtain rfl : z_60 = 0 := ez_60.trans (by decide)
        refine lv_istore (lv' := [(4, .int 0), (5, .int 1), (3, .int r_8), (0, .ref g0), (1, .int (nI i)), (2, .int (nI j))]) hx hb dXM_dry_61 hl (by decide) rfl (fun ls hl => ?_)
        refine lv_iinc (v := 2) (lv' := [(5, .int 2), (4, .int 0), (3, .int r_8), (0, .ref g0), (1, .int (nI i)), (2, .int (nI j))]) hx hb dXM_dry_63 hl (k := 1) rfl (by decide) (by decide) rfl (fun ls hl => ?_)
        refine lv_goto (tgt := 25) hx hb dXM_dry_66 (by decide) ?_
        refine lv_iload hx hb dXM_dry_25 (lv_at hl 0 rfl) ?_
        refine lv_iconst (v := 4) hx hb dXM_dry_27 (by decide) ?_
        refine lv_icmp_ge (tgt := 69) hx hb dXM_dry_28 (by decide) (fun c_28_2 => absurd c_28_2 (by decide)) (fun c_28_2 => ?_)
        refine lv_iload hx hb dXM_dry_31 (lv_at hl 1 rfl) ?_
        refine lv_aload_n hx hb dXM_dry_33 rfl (lv_at hl 3 rfl) ?_
        refine va_get (D := (dC, dI)) (ci := 3) (v := .ref e5) (C := RXM) (T := TXM) (N := 19) hx hb hts (by decide +kernel) hown hK hP 0 rfl rfl 9 (by decide) (hts (.fieldLink RXM 24 "BatchClassesModel" "fields" "[J") (by decide +kernel)) (fun _ h9 => h9) rfl dXM_dry_34 ?_
        refine lv_iconst (v := 4) hx hb dXM_dry_37 (by decide) ?_
        refine lv_iload_n hx hb dXM_dry_38 rfl (lv_at hl 5 rfl) ?_
        refine lv_imul hx hb dXM_dry_39 ?_
        refine lv_topi (fun z_39 ez_39 => ?_)
        obtain rfl : z_39 = nI (4 * j) := ez_39.trans (pk_mul 4 j)
        refine lv_iload hx hb dXM_dry_40 (lv_at hl 0 rfl) ?_
        refine lv_iadd hx hb dXM_dry_42 ?_
        refine lv_topi (fun z_42 ez_42 => ?_)
        obtain rfl : z_42 = nI ((4 * j) + 2) := ez_42.trans (nI_add (4 * j) 2)
        refine va_lald hx hb hK hP 5 2 rfl rfl (vp_in_nI (by omega) (by omega)) dXM_dry_43 ?_
        refine lv_topl (fun z_43 ez_43 => ?_)
        obtain rfl : z_43 = mfi ((4 * j) + 2) := ez_43.trans (by rw [nI_clamp (n := ((4 * j) + 2)) (by omega)])
        refine lv_aload_n hx hb dXM_dry_44 rfl (lv_at hl 3 rfl) ?_
        refine va_get (D := (dC, dI)) (ci := 3) (v := .ref e9) (C := RXM) (T := TXM) (N := 19) hx hb hts (by decide +kernel) hown hK hP 0 rfl rfl 16 (by decide) (hts (.fieldLink RXM 36 "BatchClassesModel" "now" "[J") (by decide +kernel)) (fun _ h9 => h9) rfl dXM_dry_45 ?_
        refine lv_iload hx hb dXM_dry_48 (lv_at hl 0 rfl) ?_
        refine va_lald hx hb hK hP 9 2 rfl rfl (vp_in_nI (n := 2) (by omega) (by omega)) dXM_dry_50 ?_
        refine lv_topl (fun z_50 ez_50 => ?_)
        obtain rfl : z_50 = mw_8 2 := ez_50
        refine W.lcmp hx hb dXM_dry_51 ?_
        refine lv_if_eq (tgt := 59) hx hb dXM_dry_52 (by decide) (fun c_52_2 => ?_) (fun c_52_2 => ?_)
        · have c_52_2 : (mfi ((4 * j) + 2)) = (mw_8 2) := (lg_cmp_eq (mfi ((4 * j) + 2)) (mw_8 2)).mp c_52_2
          refine lv_iconst (v := 0) hx hb dXM_dry_59 (by decide) ?_
          refine lv_iadd hx hb dXM_dry_60 ?_
          refine lv_topi (fun z_60 ez_60 => ?_)
          obtain rfl : z_60 = 0 := ez_60.trans (by decide)
          refine lv_istore (lv' := [(4, .int 0), (5, .int 2), (3, .int r_8), (0, .ref g0), (1, .int (nI i)), (2, .int (nI j))]) hx hb dXM_dry_61 hl (by decide) rfl (fun ls hl => ?_)
          refine lv_iinc (v := 3) (lv' := [(5, .int 3), (4, .int 0), (3, .int r_8), (0, .ref g0), (1, .int (nI i)), (2, .int (nI j))]) hx hb dXM_dry_63 hl (k := 1) rfl (by decide) (by decide) rfl (fun ls hl => ?_)
          refine lv_goto (tgt := 25) hx hb dXM_dry_66 (by decide) ?_
          refine lv_iload hx hb dXM_dry_25 (lv_at hl 0 rfl) ?_
          refine lv_iconst (v := 4) hx hb dXM_dry_27 (by decide) ?_
          refine lv_icmp_ge (tgt := 69) hx hb dXM_dry_28 (by decide) (fun c_28_3 => absurd c_28_3 (by decide)) (fun c_28_3 => ?_)
          refine lv_iload hx hb dXM_dry_31 (lv_at hl 1 rfl) ?_
          refine lv_aload_n hx hb dXM_dry_33 rfl (lv_at hl 3 rfl) ?_
          refine va_get (D := (dC, dI)) (ci := 3) (v := .ref e5) (C := RXM) (T := TXM) (N := 19) hx hb hts (by decide +kernel) hown hK hP 0 rfl rfl 9 (by decide) (hts (.fieldLink RXM 24 "BatchClassesModel" "fields" "[J") (by decide +kernel)) (fun _ h9 => h9) rfl dXM_dry_34 ?_
          refine lv_iconst (v := 4) hx hb dXM_dry_37 (by decide) ?_
          refine lv_iload_n hx hb dXM_dry_38 rfl (lv_at hl 5 rfl) ?_
          refine lv_imul hx hb dXM_dry_39 ?_
          refine lv_topi (fun z_39 ez_39 => ?_)
          obtain rfl : z_39 = nI (4 * j) := ez_39.trans (pk_mul 4 j)
          refine lv_iload hx hb dXM_dry_40 (lv_at hl 0 rfl) ?_
          refine lv_iadd hx hb dXM_dry_42 ?_
          refine lv_topi (fun z_42 ez_42 => ?_)
          obtain rfl : z_42 = nI ((4 * j) + 3) := ez_42.trans (nI_add (4 * j) 3)
          refine va_lald hx hb hK hP 5 2 rfl rfl (vp_in_nI (by omega) (by omega)) dXM_dry_43 ?_
          refine lv_topl (fun z_43 ez_43 => ?_)
          obtain rfl : z_43 = mfi ((4 * j) + 3) := ez_43.trans (by rw [nI_clamp (n := ((4 * j) + 3)) (by omega)])
          refine lv_aload_n hx hb dXM_dry_44 rfl (lv_at hl 3 rfl) ?_
          refine va_get (D := (dC, dI)) (ci := 3) (v := .ref e9) (C := RXM) (T := TXM) (N := 19) hx hb hts (by decide +kernel) hown hK hP 0 rfl rfl 16 (by decide) (hts (.fieldLink RXM 36 "BatchClassesModel" "now" "[J") (by decide +kernel)) (fun _ h9 => h9) rfl dXM_dry_45 ?_
          refine lv_iload hx hb dXM_dry_48 (lv_at hl 0 rfl) ?_
          refine va_lald hx hb hK hP 9 2 rfl rfl (vp_in_nI (n := 3) (by omega) (by omega)) dXM_dry_50 ?_
          refine lv_topl (fun z_50 ez_50 => ?_)
          obtain rfl : z_50 = mw_8 3 := ez_50
          refine W.lcmp hx hb dXM_dry_51 ?_
          refine lv_if_eq (tgt := 59) hx hb dXM_dry_52 (by decide) (fun c_52_3 => ?_) (fun c_52_3 => ?_)
          · have c_52_3 : (mfi ((4 * j) + 3)) = (mw_8 3) := (lg_cmp_eq (mfi ((4 * j) + 3)) (mw_8 3)).mp c_52_3
            refine lv_iconst (v := 0) hx hb dXM_dry_59 (by decide) ?_
            refine lv_iadd hx hb dXM_dry_60 ?_
            refine lv_topi (fun z_60 ez_60 => ?_)
            obtain rfl : z_60 = 0 := ez_60.trans (by decide)
            refine lv_istore (lv' := [(4, .int 0), (5, .int 3), (3, .int r_8), (0, .ref g0), (1, .int (nI i)), (2, .int (nI j))]) hx hb dXM_dry_61 hl (by decide) rfl (fun ls hl => ?_)
            refine lv_iinc (v := 4) (lv' := [(5, .int 4), (4, .int 0), (3, .int r_8), (0, .ref g0), (1, .int (nI i)), (2, .int (nI j))]) hx hb dXM_dry_63 hl (k := 1) rfl (by decide) (by decide) rfl (fun ls hl => ?_)
            refine lv_goto (tgt := 25) hx hb dXM_dry_66 (by decide) ?_
            refine lv_iload hx hb dXM_dry_25 (lv_at hl 0 rfl) ?_
            refine lv_iconst (v := 4) hx hb dXM_dry_27 (by decide) ?_
            refine lv_icmp_ge (tgt := 69) hx hb dXM_dry_28 (by decide) (fun c_28_4 => ?_) (fun c_28_4 => absurd (by decide) c_28_4)
            refine lv_iload hx hb dXM_dry_69 (lv_at hl 1 rfl) ?_
            have hpost : ((0 : Int32), 0, mcv_8, mlo_8, mw_8) = pM_dry mN mcv mlo mp mtn mce mfi mlk mw i j := by first | (simp only [pM_dry, ← hw_8, if_pos c_14, if_pos c_52, if_pos c_52_1, if_pos c_52_2, if_pos c_52_3]; done) | (simp only [pM_dry, ← hw_8, if_pos c_14, if_pos c_52, if_pos c_52_1, if_pos c_52_2, if_pos c_52_3]; rfl) | (simp only [pM_cnt4, pM_dry, ← hw_8, if_pos c_14, if_pos c_52, if_pos c_52_1, if_pos c_52_2, if_pos c_52_3]; rfl) | rfl
            exact W.iret (v := 0) hx hb hr (fun t ht hW => ⟨⟨0, (0, mcv_8, mlo_8, mw_8), rfl, hpost, by rw [ht]; exact hP, va_K.moved hW.alike hK, hD⟩, hS.F ht⟩) hS.2.2 dXM_dry_71
          · have c_52_3 : ¬ ((mfi ((4 * j) + 3)) = (mw_8 3)) := mt (lg_cmp_eq (mfi ((4 * j) + 3)) (mw_8 3)).mpr c_52_3
            refine lv_iconst (v := 1) hx hb dXM_dry_55 (by decide) ?_
            refine lv_goto (tgt := 60) hx hb dXM_dry_56 (by decide) ?_
            refine lv_iadd hx hb dXM_dry_60 ?_
            refine lv_topi (fun z_60 ez_60 => ?_)
            obtain rfl : z_60 = 1 := ez_60.trans (by decide)
            refine lv_istore (lv' := [(4, .int 1), (5, .int 3), (3, .int r_8), (0, .ref g0), (1, .int (nI i)), (2, .int (nI j))]) hx hb dXM_dry_61 hl (by decide) rfl (fun ls hl => ?_)
            refine lv_iinc (v := 4) (lv' := [(5, .int 4), (4, .int 1), (3, .int r_8), (0, .ref g0), (1, .int (nI i)), (2, .int (nI j))]) hx hb dXM_dry_63 hl (k := 1) rfl (by decide) (by decide) rfl (fun ls hl => ?_)
            refine lv_goto (tgt := 25) hx hb dXM_dry_66 (by decide) ?_
            refine lv_iload hx hb dXM_dry_25 (lv_at hl 0 rfl) ?_
            refine lv_iconst (v := 4) hx hb dXM_dry_27 (by decide) ?_
            refine lv_icmp_ge (tgt := 69) hx hb dXM_dry_28 (by decide) (fun c_28_4 => ?_) (fun c_28_4 => absurd (by decide) c_28_4)
            refine lv_iload hx hb dXM_dry_69 (lv_at hl 1 rfl) ?_
            have hpost : ((1 : Int32), 0, mcv_8, mlo_8, mw_8) = pM_dry mN mcv mlo mp mtn mce mfi mlk mw i j := by first | (simp only [pM_dry, ← hw_8, if_pos c_14, if_pos c_52, if_pos c_52_1, if_pos c_52_2, if_neg c_52_3]; done) | (simp only [pM_dry, ← hw_8, if_pos c_14, if_pos c_52, if_pos c_52_1, if_pos c_52_2, if_neg c_52_3]; rfl) | (simp only [pM_cnt4, pM_dry, ← hw_8, if_pos c_14, if_pos c_52, if_pos c_52_1, if_pos c_52_2, if_neg c_52_3]; rfl) | rfl
            exact W.iret (v := 1) hx hb hr (fun t ht hW => ⟨⟨1, (0, mcv_8, mlo_8, mw_8), rfl, hpost, by rw [ht]; exact hP, va_K.moved hW.alike hK, hD⟩, hS.F ht⟩) hS.2.2 dXM_dry_71
        · have c_52_2 : ¬ ((mfi ((4 * j) + 2)) = (mw_8 2)) := mt (lg_cmp_eq (mfi ((4 * j) + 2)) (mw_8 2)).mpr c_52_2
          refine lv_iconst (v := 1) hx hb dXM_dry_55 (by decide) ?_
          refine lv_goto (tgt := 60) hx hb dXM_dry_56 (by decide) ?_
          refine lv_iadd hx hb dXM_dry_60 ?_
          refine lv_topi (fun z_60 ez_60 => ?_)
          obtain rfl : z_60 = 1 := ez_60.trans (by decide)
          refine lv_istore (lv' := [(4, .int 1), (5, .int 2), (3, .int r_8), (0, .ref g0), (1, .int (nI i)), (2, .int (nI j))]) hx hb dXM_dry_61 hl (by decide) rfl (fun ls hl => ?_)
          refine lv_iinc (v := 3) (lv' := [(5, .int 3), (4, .int 1), (3, .int r_8), (0, .ref g0), (1, .int (nI i)), (2, .int (nI j))]) hx hb dXM_dry_63 hl (k := 1) rfl (by decide) (by decide) rfl (fun ls hl => ?_)
          refine lv_goto (tgt := 25) hx hb dXM_dry_66 (by decide) ?_
          refine lv_iload hx hb dXM_dry_25 (lv_at hl 0 rfl) ?_
          refine lv_iconst (v := 4) hx hb dXM_dry_27 (by decide) ?_
          refine lv_icmp_ge (tgt := 69) hx hb dXM_dry_28 (by decide) (fun c_28_3 => absurd c_28_3 (by decide)) (fun c_28_3 => ?_)
          refine lv_iload hx hb dXM_dry_31 (lv_at hl 1 rfl) ?_
          refine lv_aload_n hx hb dXM_dry_33 rfl (lv_at hl 3 rfl) ?_
          refine va_get (D := (dC, dI)) (ci := 3) (v := .ref e5) (C := RXM) (T := TXM) (N := 19) hx hb hts (by decide +kernel) hown hK hP 0 rfl rfl 9 (by decide) (hts (.fieldLink RXM 24 "BatchClassesModel" "fields" "[J") (by decide +kernel)) (fun _ h9 => h9) rfl dXM_dry_34 ?_
          refine lv_iconst (v := 4) hx hb dXM_dry_37 (by decide) ?_
          refine lv_iload_n hx hb dXM_dry_38 rfl (lv_at hl 5 rfl) ?_
          refine lv_imul hx hb dXM_dry_39 ?_
          refine lv_topi (fun z_39 ez_39 => ?_)
          obtain rfl : z_39 = nI (4 * j) := ez_39.trans (pk_mul 4 j)
          refine lv_iload hx hb dXM_dry_40 (lv_at hl 0 rfl) ?_
          refine lv_iadd hx hb dXM_dry_42 ?_
          refine lv_topi (fun z_42 ez_42 => ?_)
          obtain rfl : z_42 = nI ((4 * j) + 3) := ez_42.trans (nI_add (4 * j) 3)
          refine va_lald hx hb hK hP 5 2 rfl rfl (vp_in_nI (by omega) (by omega)) dXM_dry_43 ?_
          refine lv_topl (fun z_43 ez_43 => ?_)
          obtain rfl : z_43 = mfi ((4 * j) + 3) := ez_43.trans (by rw [nI_clamp (n := ((4 * j) + 3)) (by omega)])
          refine lv_aload_n hx hb dXM_dry_44 rfl (lv_at hl 3 rfl) ?_
          refine va_get (D := (dC, dI)) (ci := 3) (v := .ref e9) (C := RXM) (T := TXM) (N := 19) hx hb hts (by decide +kernel) hown hK hP 0 rfl rfl 16 (by decide) (hts (.fieldLink RXM 36 "BatchClassesModel" "now" "[J") (by decide +kernel)) (fun _ h9 => h9) rfl dXM_dry_45 ?_
          refine lv_iload hx hb dXM_dry_48 (lv_at hl 0 rfl) ?_
          refine va_lald hx hb hK hP 9 2 rfl rfl (vp_in_nI (n := 3) (by omega) (by omega)) dXM_dry_50 ?_
          refine lv_topl (fun z_50 ez_50 => ?_)
          obtain rfl : z_50 = mw_8 3 := ez_50
          refine W.lcmp hx hb dXM_dry_51 ?_
          refine lv_if_eq (tgt := 59) hx hb dXM_dry_52 (by decide) (fun c_52_3 => ?_) (fun c_52_3 => ?_)
          · have c_52_3 : (mfi ((4 * j) + 3)) = (mw_8 3) := (lg_cmp_eq (mfi ((4 * j) + 3)) (mw_8 3)).mp c_52_3
            refine lv_iconst (v := 0) hx hb dXM_dry_59 (by decide) ?_
            refine lv_iadd hx hb dXM_dry_60 ?_
            refine lv_topi (fun z_60 ez_60 => ?_)
            obtain rfl : z_60 = 1 := ez_60.trans (by decide)
            refine lv_istore (lv' := [(4, .int 1), (5, .int 3), (3, .int r_8), (0, .ref g0), (1, .int (nI i)), (2, .int (nI j))]) hx hb dXM_dry_61 hl (by decide) rfl (fun ls hl => ?_)
            refine lv_iinc (v := 4) (lv' := [(5, .int 4), (4, .int 1), (3, .int r_8), (0, .ref g0), (1, .int (nI i)), (2, .int (nI j))]) hx hb dXM_dry_63 hl (k := 1) rfl (by decide) (by decide) rfl (fun ls hl => ?_)
            refine lv_goto (tgt := 25) hx hb dXM_dry_66 (by decide) ?_
            refine lv_iload hx hb dXM_dry_25 (lv_at hl 0 rfl) ?_
            refine lv_iconst (v := 4) hx hb dXM_dry_27 (by decide) ?_
            refine lv_icmp_ge (tgt := 69) hx hb dXM_dry_28 (by decide) (fun c_28_4 => ?_) (fun c_28_4 => absurd (by decide) c_28_4)
            refine lv_iload hx hb dXM_dry_69 (lv_at hl 1 rfl) ?_
            have hpost : ((1 : Int32), 0, mcv_8, mlo_8, mw_8) = pM_dry mN mcv mlo mp mtn mce mfi mlk mw i j := by first | (simp only [pM_dry, ← hw_8, if_pos c_14, if_pos c_52, if_pos c_52_1, if_neg c_52_2, if_pos c_52_3]; done) | (simp only [pM_dry, ← hw_8, if_pos c_14, if_pos c_52, if_pos c_52_1, if_neg c_52_2, if_pos c_52_3]; rfl) | (simp only [pM_cnt4, pM_dry, ← hw_8, if_pos c_14, if_pos c_52, if_pos c_52_1, if_neg c_52_2, if_pos c_52_3]; rfl) | rfl
            exact W.iret (v := 1) hx hb hr (fun t ht hW => ⟨⟨1, (0, mcv_8, mlo_8, mw_8), rfl, hpost, by rw [ht]; exact hP, va_K.moved hW.alike hK, hD⟩, hS.F ht⟩) hS.2.2 dXM_dry_71
          · have c_52_3 : ¬ ((mfi ((4 * j) + 3)) = (mw_8 3)) := mt (lg_cmp_eq (mfi ((4 * j) + 3)) (mw_8 3)).mpr c_52_3
            refine lv_iconst (v := 1) hx hb dXM_dry_55 (by decide) ?_
            refine lv_goto (tgt := 60) hx hb dXM_dry_56 (by decide) ?_
            refine lv_iadd hx hb dXM_dry_60 ?_
            refine lv_topi (fun z_60 ez_60 => ?_)
            obtain rfl : z_60 = 2 := ez_60.trans (by decide)
            refine lv_istore (lv' := [(4, .int 2), (5, .int 3), (3, .int r_8), (0, .ref g0), (1, .int (nI i)), (2, .int (nI j))]) hx hb dXM_dry_61 hl (by decide) rfl (fun ls hl => ?_)
            refine lv_iinc (v := 4) (lv' := [(5, .int 4), (4, .int 2), (3, .int r_8), (0, .ref g0), (1, .int (nI i)), (2, .int (nI j))]) hx hb dXM_dry_63 hl (k := 1) rfl (by decide) (by decide) rfl (fun ls hl => ?_)
            refine lv_goto (tgt := 25) hx hb dXM_dry_66 (by decide) ?_
            refine lv_iload hx hb dXM_dry_25 (lv_at hl 0 rfl) ?_
            refine lv_iconst (v := 4) hx hb dXM_dry_27 (by decide) ?_
            refine lv_icmp_ge (tgt := 69) hx hb dXM_dry_28 (by decide) (fun c_28_4 => ?_) (fun c_28_4 => absurd (by decide) c_28_4)
            refine lv_iload hx hb dXM_dry_69 (lv_at hl 1 rfl) ?_
            have hpost : ((2 : Int32), 0, mcv_8, mlo_8, mw_8) = pM_dry mN mcv mlo mp mtn mce mfi mlk mw i j := by first | (simp only [pM_dry, ← hw_8, if_pos c_14, if_pos c_52, if_pos c_52_1, if_neg c_52_2, if_neg c_52_3]; done) | (simp only [pM_dry, ← hw_8, if_pos c_14, if_pos c_52, if_pos c_52_1, if_neg c_52_2, if_neg c_52_3]; rfl) | (simp only [pM_cnt4, pM_dry, ← hw_8, if_pos c_14, if_pos c_52, if_pos c_52_1, if_neg c_52_2, if_neg c_52_3]; rfl) | rfl
            exact W.iret (v := 2) hx hb hr (fun t ht hW => ⟨⟨2, (0, mcv_8, mlo_8, mw_8), rfl, hpost, by rw [ht]; exact hP, va_K.moved hW.alike hK, hD⟩, hS.F ht⟩) hS.2.2 dXM_dry_71
      · have c_52_1 : ¬ ((mfi ((4 * j) + 1)) = (mw_8 1)) := mt (lg_cmp_eq (mfi ((4 * j) + 1)) (mw_8 1)).mpr c_52_1
        refine lv_iconst (v := 1) hx hb dXM_dry_55 (by decide) ?_
        refine lv_goto (tgt := 60) hx hb dXM_dry_56 (by decide) ?_
        refine lv_iadd hx hb dXM_dry_60 ?_
        refine lv_topi (fun z_60 ez_60 => ?_)
        obtain rfl : z_60 = 1 := ez_60.trans (by decide)
        refine lv_istore (lv' := [(4, .int 1), (5, .int 1), (3, .int r_8), (0, .ref g0), (1, .int (nI i)), (2, .int (nI j))]) hx hb dXM_dry_61 hl (by decide) rfl (fun ls hl => ?_)
        refine lv_iinc (v := 2) (lv' := [(5, .int 2), (4, .int 1), (3, .int r_8), (0, .ref g0), (1, .int (nI i)), (2, .int (nI j))]) hx hb dXM_dry_63 hl (k := 1) rfl (by decide) (by decide) rfl (fun ls hl => ?_)
        refine lv_goto (tgt := 25) hx hb dXM_dry_66 (by decide) ?_
        refine lv_iload hx hb dXM_dry_25 (lv_at hl 0 rfl) ?_
        refine lv_iconst (v := 4) hx hb dXM_dry_27 (by decide) ?_
        refine lv_icmp_ge (tgt := 69) hx hb dXM_dry_28 (by decide) (fun c_28_2 => absurd c_28_2 (by decide)) (fun c_28_2 => ?_)
        refine lv_iload hx hb dXM_dry_31 (lv_at hl 1 rfl) ?_
        refine lv_aload_n hx hb dXM_dry_33 rfl (lv_at hl 3 rfl) ?_
        refine va_get (D := (dC, dI)) (ci := 3) (v := .ref e5) (C := RXM) (T := TXM) (N := 19) hx hb hts (by decide +kernel) hown hK hP 0 rfl rfl 9 (by decide) (hts (.fieldLink RXM 24 "BatchClassesModel" "fields" "[J") (by decide +kernel)) (fun _ h9 => h9) rfl dXM_dry_34 ?_
        refine lv_iconst (v := 4) hx hb dXM_dry_37 (by decide) ?_
        refine lv_iload_n hx hb dXM_dry_38 rfl (lv_at hl 5 rfl) ?_
        refine lv_imul hx hb dXM_dry_39 ?_
        refine lv_topi (fun z_39 ez_39 => ?_)
        obtain rfl : z_39 = nI (4 * j) := ez_39.trans (pk_mul 4 j)
        refine lv_iload hx hb dXM_dry_40 (lv_at hl 0 rfl) ?_
        refine lv_iadd hx hb dXM_dry_42 ?_
        refine lv_topi (fun z_42 ez_42 => ?_)
        obtain rfl : z_42 = nI ((4 * j) + 2) := ez_42.trans (nI_add (4 * j) 2)
        refine va_lald hx hb hK hP 5 2 rfl rfl (vp_in_nI (by omega) (by omega)) dXM_dry_43 ?_
        refine lv_topl (fun z_43 ez_43 => ?_)
        obtain rfl : z_43 = mfi ((4 * j) + 2) := ez_43.trans (by rw [nI_clamp (n := ((4 * j) + 2)) (by omega)])
        refine lv_aload_n hx hb dXM_dry_44 rfl (lv_at hl 3 rfl) ?_
        refine va_get (D := (dC, dI)) (ci := 3) (v := .ref e9) (C := RXM) (T := TXM) (N := 19) hx hb hts (by decide +kernel) hown hK hP 0 rfl rfl 16 (by decide) (hts (.fieldLink RXM 36 "BatchClassesModel" "now" "[J") (by decide +kernel)) (fun _ h9 => h9) rfl dXM_dry_45 ?_
        refine lv_iload hx hb dXM_dry_48 (lv_at hl 0 rfl) ?_
        refine va_lald hx hb hK hP 9 2 rfl rfl (vp_in_nI (n := 2) (by omega) (by omega)) dXM_dry_50 ?_
        refine lv_topl (fun z_50 ez_50 => ?_)
        obtain rfl : z_50 = mw_8 2 := ez_50
        refine W.lcmp hx hb dXM_dry_51 ?_
        refine lv_if_eq (tgt := 59) hx hb dXM_dry_52 (by decide) (fun c_52_2 => ?_) (fun c_52_2 => ?_)
        · have c_52_2 : (mfi ((4 * j) + 2)) = (mw_8 2) := (lg_cmp_eq (mfi ((4 * j) + 2)) (mw_8 2)).mp c_52_2
          refine lv_iconst (v := 0) hx hb dXM_dry_59 (by decide) ?_
          refine lv_iadd hx hb dXM_dry_60 ?_
          refine lv_topi (fun z_60 ez_60 => ?_)
          obtain rfl : z_60 = 1 := ez_60.trans (by decide)
          refine lv_istore (lv' := [(4, .int 1), (5, .int 2), (3, .int r_8), (0, .ref g0), (1, .int (nI i)), (2, .int (nI j))]) hx hb dXM_dry_61 hl (by decide) rfl (fun ls hl => ?_)
          refine lv_iinc (v := 3) (lv' := [(5, .int 3), (4, .int 1), (3, .int r_8), (0, .ref g0), (1, .int (nI i)), (2, .int (nI j))]) hx hb dXM_dry_63 hl (k := 1) rfl (by decide) (by decide) rfl (fun ls hl => ?_)
          refine lv_goto (tgt := 25) hx hb dXM_dry_66 (by decide) ?_
          refine lv_iload hx hb dXM_dry_25 (lv_at hl 0 rfl) ?_
          refine lv_iconst (v := 4) hx hb dXM_dry_27 (by decide) ?_
          refine lv_icmp_ge (tgt := 69) hx hb dXM_dry_28 (by decide) (fun c_28_3 => absurd c_28_3 (by decide)) (fun c_28_3 => ?_)
          refine lv_iload hx hb dXM_dry_31 (lv_at hl 1 rfl) ?_
          refine lv_aload_n hx hb dXM_dry_33 rfl (lv_at hl 3 rfl) ?_
          refine va_get (D := (dC, dI)) (ci := 3) (v := .ref e5) (C := RXM) (T := TXM) (N := 19) hx hb hts (by decide +kernel) hown hK hP 0 rfl rfl 9 (by decide) (hts (.fieldLink RXM 24 "BatchClassesModel" "fields" "[J") (by decide +kernel)) (fun _ h9 => h9) rfl dXM_dry_34 ?_
          refine lv_iconst (v := 4) hx hb dXM_dry_37 (by decide) ?_
          refine lv_iload_n hx hb dXM_dry_38 rfl (lv_at hl 5 rfl) ?_
          refine lv_imul hx hb dXM_dry_39 ?_
          refine lv_topi (fun z_39 ez_39 => ?_)
          obtain rfl : z_39 = nI (4 * j) := ez_39.trans (pk_mul 4 j)
          refine lv_iload hx hb dXM_dry_40 (lv_at hl 0 rfl) ?_
          refine lv_iadd hx hb dXM_dry_42 ?_
          refine lv_topi (fun z_42 ez_42 => ?_)
          obtain rfl : z_42 = nI ((4 * j) + 3) := ez_42.trans (nI_add (4 * j) 3)
          refine va_lald hx hb hK hP 5 2 rfl rfl (vp_in_nI (by omega) (by omega)) dXM_dry_43 ?_
          refine lv_topl (fun z_43 ez_43 => ?_)
          obtain rfl : z_43 = mfi ((4 * j) + 3) := ez_43.trans (by rw [nI_clamp (n := ((4 * j) + 3)) (by omega)])
          refine lv_aload_n hx hb dXM_dry_44 rfl (lv_at hl 3 rfl) ?_
          refine va_get (D := (dC, dI)) (ci := 3) (v := .ref e9) (C := RXM) (T := TXM) (N := 19) hx hb hts (by decide +kernel) hown hK hP 0 rfl rfl 16 (by decide) (hts (.fieldLink RXM 36 "BatchClassesModel" "now" "[J") (by decide +kernel)) (fun _ h9 => h9) rfl dXM_dry_45 ?_
          refine lv_iload hx hb dXM_dry_48 (lv_at hl 0 rfl) ?_
          refine va_lald hx hb hK hP 9 2 rfl rfl (vp_in_nI (n := 3) (by omega) (by omega)) dXM_dry_50 ?_
          refine lv_topl (fun z_50 ez_50 => ?_)
          obtain rfl : z_50 = mw_8 3 := ez_50
          refine W.lcmp hx hb dXM_dry_51 ?_
          refine lv_if_eq (tgt := 59) hx hb dXM_dry_52 (by decide) (fun c_52_3 => ?_) (fun c_52_3 => ?_)
          · have c_52_3 : (mfi ((4 * j) + 3)) = (mw_8 3) := (lg_cmp_eq (mfi ((4 * j) + 3)) (mw_8 3)).mp c_52_3
            refine lv_iconst (v := 0) hx hb dXM_dry_59 (by decide) ?_
            refine lv_iadd hx hb dXM_dry_60 ?_
            refine lv_topi (fun z_60 ez_60 => ?_)
            obtain rfl : z_60 = 1 := ez_60.trans (by decide)
            refine lv_istore (lv' := [(4, .int 1), (5, .int 3), (3, .int r_8), (0, .ref g0), (1, .int (nI i)), (2, .int (nI j))]) hx hb dXM_dry_61 hl (by decide) rfl (fun ls hl => ?_)
            refine lv_iinc (v := 4) (lv' := [(5, .int 4), (4, .int 1), (3, .int r_8), (0, .ref g0), (1, .int (nI i)), (2, .int (nI j))]) hx hb dXM_dry_63 hl (k := 1) rfl (by decide) (by decide) rfl (fun ls hl => ?_)
            refine lv_goto (tgt := 25) hx hb dXM_dry_66 (by decide) ?_
            refine lv_iload hx hb dXM_dry_25 (lv_at hl 0 rfl) ?_
            refine lv_iconst (v := 4) hx hb dXM_dry_27 (by decide) ?_
            refine lv_icmp_ge (tgt := 69) hx hb dXM_dry_28 (by decide) (fun c_28_4 => ?_) (fun c_28_4 => absurd (by decide) c_28_4)
            refine lv_iload hx hb dXM_dry_69 (lv_at hl 1 rfl) ?_
            have hpost : ((1 : Int32), 0, mcv_8, mlo_8, mw_8) = pM_dry mN mcv mlo mp mtn mce mfi mlk mw i j := by first | (simp only [pM_dry, ← hw_8, if_pos c_14, if_pos c_52, if_neg c_52_1, if_pos c_52_2, if_pos c_52_3]; done) | (simp only [pM_dry, ← hw_8, if_pos c_14, if_pos c_52, if_neg c_52_1, if_pos c_52_2, if_pos c_52_3]; rfl) | (simp only [pM_cnt4, pM_dry, ← hw_8, if_pos c_14, if_pos c_52, if_neg c_52_1, if_pos c_52_2, if_pos c_52_3]; rfl) | rfl
            exact W.iret (v := 1) hx hb hr (fun t ht hW => ⟨⟨1, (0, mcv_8, mlo_8, mw_8), rfl, hpost, by rw [ht]; exact hP, va_K.moved hW.alike hK, hD⟩, hS.F ht⟩) hS.2.2 dXM_dry_71
          · have c_52_3 : ¬ ((mfi ((4 * j) + 3)) = (mw_8 3)) := mt (lg_cmp_eq (mfi ((4 * j) + 3)) (mw_8 3)).mpr c_52_3
            refine lv_iconst (v := 1) hx hb dXM_dry_55 (by decide) ?_
            refine lv_goto (tgt := 60) hx hb dXM_dry_56 (by decide) ?_
            refine lv_iadd hx hb dXM_dry_60 ?_
            refine lv_topi (fun z_60 ez_60 => ?_)
            obtain rfl : z_60 = 2 := ez_60.trans (by decide)
            refine lv_istore (lv' := [(4, .int 2), (5, .int 3), (3, .int r_8), (0, .ref g0), (1, .int (nI i)), (2, .int (nI j))]) hx hb dXM_dry_61 hl (by decide) rfl (fun ls hl => ?_)
            refine lv_iinc (v := 4) (lv' := [(5, .int 4), (4, .int 2), (3, .int r_8), (0, .ref g0), (1, .int (nI i)), (2, .int (nI j))]) hx hb dXM_dry_63 hl (k := 1) rfl (by decide) (by decide) rfl (fun ls hl => ?_)
            refine lv_goto (tgt := 25) hx hb dXM_dry_66 (by decide) ?_
            refine lv_iload hx hb dXM_dry_25 (lv_at hl 0 rfl) ?_
            refine lv_iconst (v := 4) hx hb dXM_dry_27 (by decide) ?_
            refine lv_icmp_ge (tgt := 69) hx hb dXM_dry_28 (by decide) (fun c_28_4 => ?_) (fun c_28_4 => absurd (by decide) c_28_4)
            refine lv_iload hx hb dXM_dry_69 (lv_at hl 1 rfl) ?_
            have hpost : ((2 : Int32), 0, mcv_8, mlo_8, mw_8) = pM_dry mN mcv mlo mp mtn mce mfi mlk mw i j := by first | (simp only [pM_dry, ← hw_8, if_pos c_14, if_pos c_52, if_neg c_52_1, if_pos c_52_2, if_neg c_52_3]; done) | (simp only [pM_dry, ← hw_8, if_pos c_14, if_pos c_52, if_neg c_52_1, if_pos c_52_2, if_neg c_52_3]; rfl) | (simp only [pM_cnt4, pM_dry, ← hw_8, if_pos c_14, if_pos c_52, if_neg c_52_1, if_pos c_52_2, if_neg c_52_3]; rfl) | rfl
            exact W.iret (v := 2) hx hb hr (fun t ht hW => ⟨⟨2, (0, mcv_8, mlo_8, mw_8), rfl, hpost, by rw [ht]; exact hP, va_K.moved hW.alike hK, hD⟩, hS.F ht⟩) hS.2.2 dXM_dry_71
        · have c_52_2 : ¬ ((mfi ((4 * j) + 2)) = (mw_8 2)) := mt (lg_cmp_eq (mfi ((4 * j) + 2)) (mw_8 2)).mpr c_52_2
          refine lv_iconst (v := 1) hx hb dXM_dry_55 (by decide) ?_
          refine lv_goto (tgt := 60) hx hb dXM_dry_56 (by decide) ?_
          refine lv_iadd hx hb dXM_dry_60 ?_
          refine lv_topi (fun z_60 ez_60 => ?_)
          obtain rfl : z_60 = 2 := ez_60.trans (by decide)
          refine lv_istore (lv' := [(4, .int 2), (5, .int 2), (3, .int r_8), (0, .ref g0), (1, .int (nI i)), (2, .int (nI j))]) hx hb dXM_dry_61 hl (by decide) rfl (fun ls hl => ?_)
          refine lv_iinc (v := 3) (lv' := [(5, .int 3), (4, .int 2), (3, .int r_8), (0, .ref g0), (1, .int (nI i)), (2, .int (nI j))]) hx hb dXM_dry_63 hl (k := 1) rfl (by decide) (by decide) rfl (fun ls hl => ?_)
          refine lv_goto (tgt := 25) hx hb dXM_dry_66 (by decide) ?_
          refine lv_iload hx hb dXM_dry_25 (lv_at hl 0 rfl) ?_
          refine lv_iconst (v := 4) hx hb dXM_dry_27 (by decide) ?_
          refine lv_icmp_ge (tgt := 69) hx hb dXM_dry_28 (by decide) (fun c_28_3 => absurd c_28_3 (by decide)) (fun c_28_3 => ?_)
          refine lv_iload hx hb dXM_dry_31 (lv_at hl 1 rfl) ?_
          refine lv_aload_n hx hb dXM_dry_33 rfl (lv_at hl 3 rfl) ?_
          refine va_get (D := (dC, dI)) (ci := 3) (v := .ref e5) (C := RXM) (T := TXM) (N := 19) hx hb hts (by decide +kernel) hown hK hP 0 rfl rfl 9 (by decide) (hts (.fieldLink RXM 24 "BatchClassesModel" "fields" "[J") (by decide +kernel)) (fun _ h9 => h9) rfl dXM_dry_34 ?_
          refine lv_iconst (v := 4) hx hb dXM_dry_37 (by decide) ?_
          refine lv_iload_n hx hb dXM_dry_38 rfl (lv_at hl 5 rfl) ?_
          refine lv_imul hx hb dXM_dry_39 ?_
          refine lv_topi (fun z_39 ez_39 => ?_)
          obtain rfl : z_39 = nI (4 * j) := ez_39.trans (pk_mul 4 j)
          refine lv_iload hx hb dXM_dry_40 (lv_at hl 0 rfl) ?_
          refine lv_iadd hx hb dXM_dry_42 ?_
          refine lv_topi (fun z_42 ez_42 => ?_)
          obtain rfl : z_42 = nI ((4 * j) + 3) := ez_42.trans (nI_add (4 * j) 3)
          refine va_lald hx hb hK hP 5 2 rfl rfl (vp_in_nI (by omega) (by omega)) dXM_dry_43 ?_
          refine lv_topl (fun z_43 ez_43 => ?_)
          obtain rfl : z_43 = mfi ((4 * j) + 3) := ez_43.trans (by rw [nI_clamp (n := ((4 * j) + 3)) (by omega)])
          refine lv_aload_n hx hb dXM_dry_44 rfl (lv_at hl 3 rfl) ?_
          refine va_get (D := (dC, dI)) (ci := 3) (v := .ref e9) (C := RXM) (T := TXM) (N := 19) hx hb hts (by decide +kernel) hown hK hP 0 rfl rfl 16 (by decide) (hts (.fieldLink RXM 36 "BatchClassesModel" "now" "[J") (by decide +kernel)) (fun _ h9 => h9) rfl dXM_dry_45 ?_
          refine lv_iload hx hb dXM_dry_48 (lv_at hl 0 rfl) ?_
          refine va_lald hx hb hK hP 9 2 rfl rfl (vp_in_nI (n := 3) (by omega) (by omega)) dXM_dry_50 ?_
          refine lv_topl (fun z_50 ez_50 => ?_)
          obtain rfl : z_50 = mw_8 3 := ez_50
          refine W.lcmp hx hb dXM_dry_51 ?_
          refine lv_if_eq (tgt := 59) hx hb dXM_dry_52 (by decide) (fun c_52_3 => ?_) (fun c_52_3 => ?_)
          · have c_52_3 : (mfi ((4 * j) + 3)) = (mw_8 3) := (lg_cmp_eq (mfi ((4 * j) + 3)) (mw_8 3)).mp c_52_3
            refine lv_iconst (v := 0) hx hb dXM_dry_59 (by decide) ?_
            refine lv_iadd hx hb dXM_dry_60 ?_
            refine lv_topi (fun z_60 ez_60 => ?_)
            obtain rfl : z_60 = 2 := ez_60.trans (by decide)
            refine lv_istore (lv' := [(4, .int 2), (5, .int 3), (3, .int r_8), (0, .ref g0), (1, .int (nI i)), (2, .int (nI j))]) hx hb dXM_dry_61 hl (by decide) rfl (fun ls hl => ?_)
            refine lv_iinc (v := 4) (lv' := [(5, .int 4), (4, .int 2), (3, .int r_8), (0, .ref g0), (1, .int (nI i)), (2, .int (nI j))]) hx hb dXM_dry_63 hl (k := 1) rfl (by decide) (by decide) rfl (fun ls hl => ?_)
            refine lv_goto (tgt := 25) hx hb dXM_dry_66 (by decide) ?_
            refine lv_iload hx hb dXM_dry_25 (lv_at hl 0 rfl) ?_
            refine lv_iconst (v := 4) hx hb dXM_dry_27 (by decide) ?_
            refine lv_icmp_ge (tgt := 69) hx hb dXM_dry_28 (by decide) (fun c_28_4 => ?_) (fun c_28_4 => absurd (by decide) c_28_4)
            refine lv_iload hx hb dXM_dry_69 (lv_at hl 1 rfl) ?_
            have hpost : ((2 : Int32), 0, mcv_8, mlo_8, mw_8) = pM_dry mN mcv mlo mp mtn mce mfi mlk mw i j := by first | (simp only [pM_dry, ← hw_8, if_pos c_14, if_pos c_52, if_neg c_52_1, if_neg c_52_2, if_pos c_52_3]; done) | (simp only [pM_dry, ← hw_8, if_pos c_14, if_pos c_52, if_neg c_52_1, if_neg c_52_2, if_pos c_52_3]; rfl) | (simp only [pM_cnt4, pM_dry, ← hw_8, if_pos c_14, if_pos c_52, if_neg c_52_1, if_neg c_52_2, if_pos c_52_3]; rfl) | rfl
            exact W.iret (v := 2) hx hb hr (fun t ht hW => ⟨⟨2, (0, mcv_8, mlo_8, mw_8), rfl, hpost, by rw [ht]; exact hP, va_K.moved hW.alike hK, hD⟩, hS.F ht⟩) hS.2.2 dXM_dry_71
          · have c_52_3 : ¬ ((mfi ((4 * j) + 3)) = (mw_8 3)) := mt (lg_cmp_eq (mfi ((4 * j) + 3)) (mw_8 3)).mpr c_52_3
            refine lv_iconst (v := 1) hx hb dXM_dry_55 (by decide) ?_
            refine lv_goto (tgt := 60) hx hb dXM_dry_56 (by decide) ?_
            refine lv_iadd hx hb dXM_dry_60 ?_
            refine lv_topi (fun z_60 ez_60 => ?_)
            obtain rfl : z_60 = 3 := ez_60.trans (by decide)
            refine lv_istore (lv' := [(4, .int 3), (5, .int 3), (3, .int r_8), (0, .ref g0), (1, .int (nI i)), (2, .int (nI j))]) hx hb dXM_dry_61 hl (by decide) rfl (fun ls hl => ?_)
            refine lv_iinc (v := 4) (lv' := [(5, .int 4), (4, .int 3), (3, .int r_8), (0, .ref g0), (1, .int (nI i)), (2, .int (nI j))]) hx hb dXM_dry_63 hl (k := 1) rfl (by decide) (by decide) rfl (fun ls hl => ?_)
            refine lv_goto (tgt := 25) hx hb dXM_dry_66 (by decide) ?_
            refine lv_iload hx hb dXM_dry_25 (lv_at hl 0 rfl) ?_
            refine lv_iconst (v := 4) hx hb dXM_dry_27 (by decide) ?_
            refine lv_icmp_ge (tgt := 69) hx hb dXM_dry_28 (by decide) (fun c_28_4 => ?_) (fun c_28_4 => absurd (by decide) c_28_4)
            refine lv_iload hx hb dXM_dry_69 (lv_at hl 1 rfl) ?_
            have hpost : ((3 : Int32), 0, mcv_8, mlo_8, mw_8) = pM_dry mN mcv mlo mp mtn mce mfi mlk mw i j := by first | (simp only [pM_dry, ← hw_8, if_pos c_14, if_pos c_52, if_neg c_52_1, if_neg c_52_2, if_neg c_52_3]; done) | (simp only [pM_dry, ← hw_8, if_pos c_14, if_pos c_52, if_neg c_52_1, if_neg c_52_2, if_neg c_52_3]; rfl) | (simp only [pM_cnt4, pM_dry, ← hw_8, if_pos c_14, if_pos c_52, if_neg c_52_1, if_neg c_52_2, if_neg c_52_3]; rfl) | rfl
            exact W.iret (v := 3) hx hb hr (fun t ht hW => ⟨⟨3, (0, mcv_8, mlo_8, mw_8), rfl, hpost, by rw [ht]; exact hP, va_K.moved hW.alike hK, hD⟩, hS.F ht⟩) hS.2.2 dXM_dry_71
    · have c_52 : ¬ ((mfi ((4 * j) + 0)) = (mw_8 0)) := mt (lg_cmp_eq (mfi ((4 * j) + 0)) (mw_8 0)).mpr c_52
      refine lv_iconst (v := 1) hx hb dXM_dry_55 (by decide) ?_
      refine lv_goto (tgt := 60) hx hb dXM_dry_56 (by decide) ?_
      refine lv_iadd hx hb dXM_dry_60 ?_
      refine lv_topi (fun z_60 ez_60 => ?_)
      obtain rfl : z_60 = 1 := ez_60.trans (by decide)
      refine lv_istore (lv' := [(4, .int 1), (5, .int 0), (3, .int r_8), (0, .ref g0), (1, .int (nI i)), (2, .int (nI j))]) hx hb dXM_dry_61 hl (by decide) rfl (fun ls hl => ?_)
      refine lv_iinc (v := 1) (lv' := [(5, .int 1), (4, .int 1), (3, .int r_8), (0, .ref g0), (1, .int (nI i)), (2, .int (nI j))]) hx hb dXM_dry_63 hl (k := 1) rfl (by decide) (by decide) rfl (fun ls hl => ?_)
      refine lv_goto (tgt := 25) hx hb dXM_dry_66 (by decide) ?_
      refine lv_iload hx hb dXM_dry_25 (lv_at hl 0 rfl) ?_
      refine lv_iconst (v := 4) hx hb dXM_dry_27 (by decide) ?_
      refine lv_icmp_ge (tgt := 69) hx hb dXM_dry_28 (by decide) (fun c_28_1 => absurd c_28_1 (by decide)) (fun c_28_1 => ?_)
      refine lv_iload hx hb dXM_dry_31 (lv_at hl 1 rfl) ?_
      refine lv_aload_n hx hb dXM_dry_33 rfl (lv_at hl 3 rfl) ?_
      refine va_get (D := (dC, dI)) (ci := 3) (v := .ref e5) (C := RXM) (T := TXM) (N := 19) hx hb hts (by decide +kernel) hown hK hP 0 rfl rfl 9 (by decide) (hts (.fieldLink RXM 24 "BatchClassesModel" "fields" "[J") (by decide +kernel)) (fun _ h9 => h9) rfl dXM_dry_34 ?_
      refine lv_iconst (v := 4) hx hb dXM_dry_37 (by decide) ?_
      refine lv_iload_n hx hb dXM_dry_38 rfl (lv_at hl 5 rfl) ?_
      refine lv_imul hx hb dXM_dry_39 ?_
      refine lv_topi (fun z_39 ez_39 => ?_)
      obtain rfl : z_39 = nI (4 * j) := ez_39.trans (pk_mul 4 j)
      refine lv_iload hx hb dXM_dry_40 (lv_at hl 0 rfl) ?_
      refine lv_iadd hx hb dXM_dry_42 ?_
      refine lv_topi (fun z_42 ez_42 => ?_)
      obtain rfl : z_42 = nI ((4 * j) + 1) := ez_42.trans (nI_add (4 * j) 1)
      refine va_lald hx hb hK hP 5 2 rfl rfl (vp_in_nI (by omega) (by omega)) dXM_dry_43 ?_
      refine lv_topl (fun z_43 ez_43 => ?_)
      obtain rfl : z_43 = mfi ((4 * j) + 1) := ez_43.trans (by rw [nI_clamp (n := ((4 * j) + 1)) (by omega)])
      refine lv_aload_n hx hb dXM_dry_44 rfl (lv_at hl 3 rfl) ?_
      refine va_get (D := (dC, dI)) (ci := 3) (v := .ref e9) (C := RXM) (T := TXM) (N := 19) hx hb hts (by decide +kernel) hown hK hP 0 rfl rfl 16 (by decide) (hts (.fieldLink RXM 36 "BatchClassesModel" "now" "[J") (by decide +kernel)) (fun _ h9 => h9) rfl dXM_dry_45 ?_
      refine lv_iload hx hb dXM_dry_48 (lv_at hl 0 rfl) ?_
      refine va_lald hx hb hK hP 9 2 rfl rfl (vp_in_nI (n := 1) (by omega) (by omega)) dXM_dry_50 ?_
      refine lv_topl (fun z_50 ez_50 => ?_)
      obtain rfl : z_50 = mw_8 1 := ez_50
      refine W.lcmp hx hb dXM_dry_51 ?_
      refine lv_if_eq (tgt := 59) hx hb dXM_dry_52 (by decide) (fun c_52_1 => ?_) (fun c_52_1 => ?_)
      · have c_52_1 : (mfi ((4 * j) + 1)) = (mw_8 1) := (lg_cmp_eq (mfi ((4 * j) + 1)) (mw_8 1)).mp c_52_1
        refine lv_iconst (v := 0) hx hb dXM_dry_59 (by decide) ?_
        refine lv_iadd hx hb dXM_dry_60 ?_
        refine lv_topi (fun z_60 ez_60 => ?_)
        obtain rfl : z_60 = 1 := ez_60.trans (by decide)
        refine lv_istore (lv' := [(4, .int 1), (5, .int 1), (3, .int r_8), (0, .ref g0), (1, .int (nI i)), (2, .int (nI j))]) hx hb dXM_dry_61 hl (by decide) rfl (fun ls hl => ?_)
        refine lv_iinc (v := 2) (lv' := [(5, .int 2), (4, .int 1), (3, .int r_8), (0, .ref g0), (1, .int (nI i)), (2, .int (nI j))]) hx hb dXM_dry_63 hl (k := 1) rfl (by decide) (by decide) rfl (fun ls hl => ?_)
        refine lv_goto (tgt := 25) hx hb dXM_dry_66 (by decide) ?_
        refine lv_iload hx hb dXM_dry_25 (lv_at hl 0 rfl) ?_
        refine lv_iconst (v := 4) hx hb dXM_dry_27 (by decide) ?_
        refine lv_icmp_ge (tgt := 69) hx hb dXM_dry_28 (by decide) (fun c_28_2 => absurd c_28_2 (by decide)) (fun c_28_2 => ?_)
        refine lv_iload hx hb dXM_dry_31 (lv_at hl 1 rfl) ?_
        refine lv_aload_n hx hb dXM_dry_33 rfl (lv_at hl 3 rfl) ?_
        refine va_get (D := (dC, dI)) (ci := 3) (v := .ref e5) (C := RXM) (T := TXM) (N := 19) hx hb hts (by decide +kernel) hown hK hP 0 rfl rfl 9 (by decide) (hts (.fieldLink RXM 24 "BatchClassesModel" "fields" "[J") (by decide +kernel)) (fun _ h9 => h9) rfl dXM_dry_34 ?_
        refine lv_iconst (v := 4) hx hb dXM_dry_37 (by decide) ?_
        refine lv_iload_n hx hb dXM_dry_38 rfl (lv_at hl 5 rfl) ?_
        refine lv_imul hx hb dXM_dry_39 ?_
        refine lv_topi (fun z_39 ez_39 => ?_)
        obtain rfl : z_39 = nI (4 * j) := ez_39.trans (pk_mul 4 j)
        refine lv_iload hx hb dXM_dry_40 (lv_at hl 0 rfl) ?_
        refine lv_iadd hx hb dXM_dry_42 ?_
        refine lv_topi (fun z_42 ez_42 => ?_)
        obtain rfl : z_42 = nI ((4 * j) + 2) := ez_42.trans (nI_add (4 * j) 2)
        refine va_lald hx hb hK hP 5 2 rfl rfl (vp_in_nI (by omega) (by omega)) dXM_dry_43 ?_
        refine lv_topl (fun z_43 ez_43 => ?_)
        obtain rfl : z_43 = mfi ((4 * j) + 2) := ez_43.trans (by rw [nI_clamp (n := ((4 * j) + 2)) (by omega)])
        refine lv_aload_n hx hb dXM_dry_44 rfl (lv_at hl 3 rfl) ?_
        refine va_get (D := (dC, dI)) (ci := 3) (v := .ref e9) (C := RXM) (T := TXM) (N := 19) hx hb hts (by decide +kernel) hown hK hP 0 rfl rfl 16 (by decide) (hts (.fieldLink RXM 36 "BatchClassesModel" "now" "[J") (by decide +kernel)) (fun _ h9 => h9) rfl dXM_dry_45 ?_
        refine lv_iload hx hb dXM_dry_48 (lv_at hl 0 rfl) ?_
        refine va_lald hx hb hK hP 9 2 rfl rfl (vp_in_nI (n := 2) (by omega) (by omega)) dXM_dry_50 ?_
        refine lv_topl (fun z_50 ez_50 => ?_)
        obtain rfl : z_50 = mw_8 2 := ez_50
        refine W.lcmp hx hb dXM_dry_51 ?_
        refine lv_if_eq (tgt := 59) hx hb dXM_dry_52 (by decide) (fun c_52_2 => ?_) (fun c_52_2 => ?_)
        · have c_52_2 : (mfi ((4 * j) + 2)) = (mw_8 2) := (lg_cmp_eq (mfi ((4 * j) + 2)) (mw_8 2)).mp c_52_2
          refine lv_iconst (v := 0) hx hb dXM_dry_59 (by decide) ?_
          refine lv_iadd hx hb dXM_dry_60 ?_
          refine lv_topi (fun z_60 ez_60 => ?_)
          obtain rfl : z_60 = 1 := ez_60.trans (by decide)
          refine lv_istore (lv' := [(4, .int 1), (5, .int 2), (3, .int r_8), (0, .ref g0), (1, .int (nI i)), (2, .int (nI j))]) hx hb dXM_dry_61 hl (by decide) rfl (fun ls hl => ?_)
          refine lv_iinc (v := 3) (lv' := [(5, .int 3), (4, .int 1), (3, .int r_8), (0, .ref g0), (1, .int (nI i)), (2, .int (nI j))]) hx hb dXM_dry_63 hl (k := 1) rfl (by decide) (by decide) rfl (fun ls hl => ?_)
          refine lv_goto (tgt := 25) hx hb dXM_dry_66 (by decide) ?_
          refine lv_iload hx hb dXM_dry_25 (lv_at hl 0 rfl) ?_
          refine lv_iconst (v := 4) hx hb dXM_dry_27 (by decide) ?_
          refine lv_icmp_ge (tgt := 69) hx hb dXM_dry_28 (by decide) (fun c_28_3 => absurd c_28_3 (by decide)) (fun c_28_3 => ?_)
          refine lv_iload hx hb dXM_dry_31 (lv_at hl 1 rfl) ?_
          refine lv_aload_n hx hb dXM_dry_33 rfl (lv_at hl 3 rfl) ?_
          refine va_get (D := (dC, dI)) (ci := 3) (v := .ref e5) (C := RXM) (T := TXM) (N := 19) hx hb hts (by decide +kernel) hown hK hP 0 rfl rfl 9 (by decide) (hts (.fieldLink RXM 24 "BatchClassesModel" "fields" "[J") (by decide +kernel)) (fun _ h9 => h9) rfl dXM_dry_34 ?_
          refine lv_iconst (v := 4) hx hb dXM_dry_37 (by decide) ?_
          refine lv_iload_n hx hb dXM_dry_38 rfl (lv_at hl 5 rfl) ?_
          refine lv_imul hx hb dXM_dry_39 ?_
          refine lv_topi (fun z_39 ez_39 => ?_)
          obtain rfl : z_39 = nI (4 * j) := ez_39.trans (pk_mul 4 j)
          refine lv_iload hx hb dXM_dry_40 (lv_at hl 0 rfl) ?_
          refine lv_iadd hx hb dXM_dry_42 ?_
          refine lv_topi (fun z_42 ez_42 => ?_)
          obtain rfl : z_42 = nI ((4 * j) + 3) := ez_42.trans (nI_add (4 * j) 3)
          refine va_lald hx hb hK hP 5 2 rfl rfl (vp_in_nI (by omega) (by omega)) dXM_dry_43 ?_
          refine lv_topl (fun z_43 ez_43 => ?_)
          obtain rfl : z_43 = mfi ((4 * j) + 3) := ez_43.trans (by rw [nI_clamp (n := ((4 * j) + 3)) (by omega)])
          refine lv_aload_n hx hb dXM_dry_44 rfl (lv_at hl 3 rfl) ?_
          refine va_get (D := (dC, dI)) (ci := 3) (v := .ref e9) (C := RXM) (T := TXM) (N := 19) hx hb hts (by decide +kernel) hown hK hP 0 rfl rfl 16 (by decide) (hts (.fieldLink RXM 36 "BatchClassesModel" "now" "[J") (by decide +kernel)) (fun _ h9 => h9) rfl dXM_dry_45 ?_
          refine lv_iload hx hb dXM_dry_48 (lv_at hl 0 rfl) ?_
          refine va_lald hx hb hK hP 9 2 rfl rfl (vp_in_nI (n := 3) (by omega) (by omega)) dXM_dry_50 ?_
          refine lv_topl (fun z_50 ez_50 => ?_)
          obtain rfl : z_50 = mw_8 3 := ez_50
          refine W.lcmp hx hb dXM_dry_51 ?_
          refine lv_if_eq (tgt := 59) hx hb dXM_dry_52 (by decide) (fun c_52_3 => ?_) (fun c_52_3 => ?_)
          · have c_52_3 : (mfi ((4 * j) + 3)) = (mw_8 3) := (lg_cmp_eq (mfi ((4 * j) + 3)) (mw_8 3)).mp c_52_3
            refine lv_iconst (v := 0) hx hb dXM_dry_59 (by decide) ?_
            refine lv_iadd hx hb dXM_dry_60 ?_
            refine lv_topi (fun z_60 ez_60 => ?_)
            obtain rfl : z_60 = 1 := ez_60.trans (by decide)
            refine lv_istore (lv' := [(4, .int 1), (5, .int 3), (3, .int r_8), (0, .ref g0), (1, .int (nI i)), (2, .int (nI j))]) hx hb dXM_dry_61 hl (by decide) rfl (fun ls hl => ?_)
            refine lv_iinc (v := 4) (lv' := [(5, .int 4), (4, .int 1), (3, .int r_8), (0, .ref g0), (1, .int (nI i)), (2, .int (nI j))]) hx hb dXM_dry_63 hl (k := 1) rfl (by decide) (by decide) rfl (fun ls hl => ?_)
            refine lv_goto (tgt := 25) hx hb dXM_dry_66 (by decide) ?_
            refine lv_iload hx hb dXM_dry_25 (lv_at hl 0 rfl) ?_
            refine lv_iconst (v := 4) hx hb dXM_dry_27 (by decide) ?_
            refine lv_icmp_ge (tgt := 69) hx hb dXM_dry_28 (by decide) (fun c_28_4 => ?_) (fun c_28_4 => absurd (by decide) c_28_4)
            refine lv_iload hx hb dXM_dry_69 (lv_at hl 1 rfl) ?_
            have hpost : ((1 : Int32), 0, mcv_8, mlo_8, mw_8) = pM_dry mN mcv mlo mp mtn mce mfi mlk mw i j := by first | (simp only [pM_dry, ← hw_8, if_pos c_14, if_neg c_52, if_pos c_52_1, if_pos c_52_2, if_pos c_52_3]; done) | (simp only [pM_dry, ← hw_8, if_pos c_14, if_neg c_52, if_pos c_52_1, if_pos c_52_2, if_pos c_52_3]; rfl) | (simp only [pM_cnt4, pM_dry, ← hw_8, if_pos c_14, if_neg c_52, if_pos c_52_1, if_pos c_52_2, if_pos c_52_3]; rfl) | rfl
            exact W.iret (v := 1) hx hb hr (fun t ht hW => ⟨⟨1, (0, mcv_8, mlo_8, mw_8), rfl, hpost, by rw [ht]; exact hP, va_K.moved hW.alike hK, hD⟩, hS.F ht⟩) hS.2.2 dXM_dry_71
          · have c_52_3 : ¬ ((mfi ((4 * j) + 3)) = (mw_8 3)) := mt (lg_cmp_eq (mfi ((4 * j) + 3)) (mw_8 3)).mpr c_52_3
            refine lv_iconst (v := 1) hx hb dXM_dry_55 (by decide) ?_
            refine lv_goto (tgt := 60) hx hb dXM_dry_56 (by decide) ?_
            refine lv_iadd hx hb dXM_dry_60 ?_
            refine lv_topi (fun z_60 ez_60 => ?_)
            obtain rfl : z_60 = 2 := ez_60.trans (by decide)
            refine lv_istore (lv' := [(4, .int 2), (5, .int 3), (3, .int r_8), (0, .ref g0), (1, .int (nI i)), (2, .int (nI j))]) hx hb dXM_dry_61 hl (by decide) rfl (fun ls hl => ?_)
            refine lv_iinc (v := 4) (lv' := [(5, .int 4), (4, .int 2), (3, .int r_8), (0, .ref g0), (1, .int (nI i)), (2, .int (nI j))]) hx hb dXM_dry_63 hl (k := 1) rfl (by decide) (by decide) rfl (fun ls hl => ?_)
            refine lv_goto (tgt := 25) hx hb dXM_dry_66 (by decide) ?_
            refine lv_iload hx hb dXM_dry_25 (lv_at hl 0 rfl) ?_
            refine lv_iconst (v := 4) hx hb dXM_dry_27 (by decide) ?_
            refine lv_icmp_ge (tgt := 69) hx hb dXM_dry_28 (by decide) (fun c_28_4 => ?_) (fun c_28_4 => absurd (by decide) c_28_4)
            refine lv_iload hx hb dXM_dry_69 (lv_at hl 1 rfl) ?_
            have hpost : ((2 : Int32), 0, mcv_8, mlo_8, mw_8) = pM_dry mN mcv mlo mp mtn mce mfi mlk mw i j := by first | (simp only [pM_dry, ← hw_8, if_pos c_14, if_neg c_52, if_pos c_52_1, if_pos c_52_2, if_neg c_52_3]; done) | (simp only [pM_dry, ← hw_8, if_pos c_14, if_neg c_52, if_pos c_52_1, if_pos c_52_2, if_neg c_52_3]; rfl) | (simp only [pM_cnt4, pM_dry, ← hw_8, if_pos c_14, if_neg c_52, if_pos c_52_1, if_pos c_52_2, if_neg c_52_3]; rfl) | rfl
            exact W.iret (v := 2) hx hb hr (fun t ht hW => ⟨⟨2, (0, mcv_8, mlo_8, mw_8), rfl, hpost, by rw [ht]; exact hP, va_K.moved hW.alike hK, hD⟩, hS.F ht⟩) hS.2.2 dXM_dry_71
        · have c_52_2 : ¬ ((mfi ((4 * j) + 2)) = (mw_8 2)) := mt (lg_cmp_eq (mfi ((4 * j) + 2)) (mw_8 2)).mpr c_52_2
          refine lv_iconst (v := 1) hx hb dXM_dry_55 (by decide) ?_
          refine lv_goto (tgt := 60) hx hb dXM_dry_56 (by decide) ?_
          refine lv_iadd hx hb dXM_dry_60 ?_
          refine lv_topi (fun z_60 ez_60 => ?_)
          obtain rfl : z_60 = 2 := ez_60.trans (by decide)
          refine lv_istore (lv' := [(4, .int 2), (5, .int 2), (3, .int r_8), (0, .ref g0), (1, .int (nI i)), (2, .int (nI j))]) hx hb dXM_dry_61 hl (by decide) rfl (fun ls hl => ?_)
          refine lv_iinc (v := 3) (lv' := [(5, .int 3), (4, .int 2), (3, .int r_8), (0, .ref g0), (1, .int (nI i)), (2, .int (nI j))]) hx hb dXM_dry_63 hl (k := 1) rfl (by decide) (by decide) rfl (fun ls hl => ?_)
          refine lv_goto (tgt := 25) hx hb dXM_dry_66 (by decide) ?_
          refine lv_iload hx hb dXM_dry_25 (lv_at hl 0 rfl) ?_
          refine lv_iconst (v := 4) hx hb dXM_dry_27 (by decide) ?_
          refine lv_icmp_ge (tgt := 69) hx hb dXM_dry_28 (by decide) (fun c_28_3 => absurd c_28_3 (by decide)) (fun c_28_3 => ?_)
          refine lv_iload hx hb dXM_dry_31 (lv_at hl 1 rfl) ?_
          refine lv_aload_n hx hb dXM_dry_33 rfl (lv_at hl 3 rfl) ?_
          refine va_get (D := (dC, dI)) (ci := 3) (v := .ref e5) (C := RXM) (T := TXM) (N := 19) hx hb hts (by decide +kernel) hown hK hP 0 rfl rfl 9 (by decide) (hts (.fieldLink RXM 24 "BatchClassesModel" "fields" "[J") (by decide +kernel)) (fun _ h9 => h9) rfl dXM_dry_34 ?_
          refine lv_iconst (v := 4) hx hb dXM_dry_37 (by decide) ?_
          refine lv_iload_n hx hb dXM_dry_38 rfl (lv_at hl 5 rfl) ?_
          refine lv_imul hx hb dXM_dry_39 ?_
          refine lv_topi (fun z_39 ez_39 => ?_)
          obtain rfl : z_39 = nI (4 * j) := ez_39.trans (pk_mul 4 j)
          refine lv_iload hx hb dXM_dry_40 (lv_at hl 0 rfl) ?_
          refine lv_iadd hx hb dXM_dry_42 ?_
          refine lv_topi (fun z_42 ez_42 => ?_)
          obtain rfl : z_42 = nI ((4 * j) + 3) := ez_42.trans (nI_add (4 * j) 3)
          refine va_lald hx hb hK hP 5 2 rfl rfl (vp_in_nI (by omega) (by omega)) dXM_dry_43 ?_
          refine lv_topl (fun z_43 ez_43 => ?_)
          obtain rfl : z_43 = mfi ((4 * j) + 3) := ez_43.trans (by rw [nI_clamp (n := ((4 * j) + 3)) (by omega)])
          refine lv_aload_n hx hb dXM_dry_44 rfl (lv_at hl 3 rfl) ?_
          refine va_get (D := (dC, dI)) (ci := 3) (v := .ref e9) (C := RXM) (T := TXM) (N := 19) hx hb hts (by decide +kernel) hown hK hP 0 rfl rfl 16 (by decide) (hts (.fieldLink RXM 36 "BatchClassesModel" "now" "[J") (by decide +kernel)) (fun _ h9 => h9) rfl dXM_dry_45 ?_
          refine lv_iload hx hb dXM_dry_48 (lv_at hl 0 rfl) ?_
          refine va_lald hx hb hK hP 9 2 rfl rfl (vp_in_nI (n := 3) (by omega) (by omega)) dXM_dry_50 ?_
          refine lv_topl (fun z_50 ez_50 => ?_)
          obtain rfl : z_50 = mw_8 3 := ez_50
          refine W.lcmp hx hb dXM_dry_51 ?_
          refine lv_if_eq (tgt := 59) hx hb dXM_dry_52 (by decide) (fun c_52_3 => ?_) (fun c_52_3 => ?_)
          · have c_52_3 : (mfi ((4 * j) + 3)) = (mw_8 3) := (lg_cmp_eq (mfi ((4 * j) + 3)) (mw_8 3)).mp c_52_3
            refine lv_iconst (v := 0) hx hb dXM_dry_59 (by decide) ?_
            refine lv_iadd hx hb dXM_dry_60 ?_
            refine lv_topi (fun z_60 ez_60 => ?_)
            obtain rfl : z_60 = 2 := ez_60.trans (by decide)
            refine lv_istore (lv' := [(4, .int 2), (5, .int 3), (3, .int r_8), (0, .ref g0), (1, .int (nI i)), (2, .int (nI j))]) hx hb dXM_dry_61 hl (by decide) rfl (fun ls hl => ?_)
            refine lv_iinc (v := 4) (lv' := [(5, .int 4), (4, .int 2), (3, .int r_8), (0, .ref g0), (1, .int (nI i)), (2, .int (nI j))]) hx hb dXM_dry_63 hl (k := 1) rfl (by decide) (by decide) rfl (fun ls hl => ?_)
            refine lv_goto (tgt := 25) hx hb dXM_dry_66 (by decide) ?_
            refine lv_iload hx hb dXM_dry_25 (lv_at hl 0 rfl) ?_
            refine lv_iconst (v := 4) hx hb dXM_dry_27 (by decide) ?_
            refine lv_icmp_ge (tgt := 69) hx hb dXM_dry_28 (by decide) (fun c_28_4 => ?_) (fun c_28_4 => absurd (by decide) c_28_4)
            refine lv_iload hx hb dXM_dry_69 (lv_at hl 1 rfl) ?_
            have hpost : ((2 : Int32), 0, mcv_8, mlo_8, mw_8) = pM_dry mN mcv mlo mp mtn mce mfi mlk mw i j := by first | (simp only [pM_dry, ← hw_8, if_pos c_14, if_neg c_52, if_pos c_52_1, if_neg c_52_2, if_pos c_52_3]; done) | (simp only [pM_dry, ← hw_8, if_pos c_14, if_neg c_52, if_pos c_52_1, if_neg c_52_2, if_pos c_52_3]; rfl) | (simp only [pM_cnt4, pM_dry, ← hw_8, if_pos c_14, if_neg c_52, if_pos c_52_1, if_neg c_52_2, if_pos c_52_3]; rfl) | rfl
            exact W.iret (v := 2) hx hb hr (fun t ht hW => ⟨⟨2, (0, mcv_8, mlo_8, mw_8), rfl, hpost, by rw [ht]; exact hP, va_K.moved hW.alike hK, hD⟩, hS.F ht⟩) hS.2.2 dXM_dry_71
          · have c_52_3 : ¬ ((mfi ((4 * j) + 3)) = (mw_8 3)) := mt (lg_cmp_eq (mfi ((4 * j) + 3)) (mw_8 3)).mpr c_52_3
            refine lv_iconst (v := 1) hx hb dXM_dry_55 (by decide) ?_
            refine lv_goto (tgt := 60) hx hb dXM_dry_56 (by decide) ?_
            refine lv_iadd hx hb dXM_dry_60 ?_
            refine lv_topi (fun z_60 ez_60 => ?_)
            obtain rfl : z_60 = 3 := ez_60.trans (by decide)
            refine lv_istore (lv' := [(4, .int 3), (5, .int 3), (3, .int r_8), (0, .ref g0), (1, .int (nI i)), (2, .int (nI j))]) hx hb dXM_dry_61 hl (by decide) rfl (fun ls hl => ?_)
            refine lv_iinc (v := 4) (lv' := [(5, .int 4), (4, .int 3), (3, .int r_8), (0, .ref g0), (1, .int (nI i)), (2, .int (nI j))]) hx hb dXM_dry_63 hl (k := 1) rfl (by decide) (by decide) rfl (fun ls hl => ?_)
            refine lv_goto (tgt := 25) hx hb dXM_dry_66 (by decide) ?_
            refine lv_iload hx hb dXM_dry_25 (lv_at hl 0 rfl) ?_
            refine lv_iconst (v := 4) hx hb dXM_dry_27 (by decide) ?_
            refine lv_icmp_ge (tgt := 69) hx hb dXM_dry_28 (by decide) (fun c_28_4 => ?_) (fun c_28_4 => absurd (by decide) c_28_4)
            refine lv_iload hx hb dXM_dry_69 (lv_at hl 1 rfl) ?_
            have hpost : ((3 : Int32), 0, mcv_8, mlo_8, mw_8) = pM_dry mN mcv mlo mp mtn mce mfi mlk mw i j := by first | (simp only [pM_dry, ← hw_8, if_pos c_14, if_neg c_52, if_pos c_52_1, if_neg c_52_2, if_neg c_52_3]; done) | (simp only [pM_dry, ← hw_8, if_pos c_14, if_neg c_52, if_pos c_52_1, if_neg c_52_2, if_neg c_52_3]; rfl) | (simp only [pM_cnt4, pM_dry, ← hw_8, if_pos c_14, if_neg c_52, if_pos c_52_1, if_neg c_52_2, if_neg c_52_3]; rfl) | rfl
            exact W.iret (v := 3) hx hb hr (fun t ht hW => ⟨⟨3, (0, mcv_8, mlo_8, mw_8), rfl, hpost, by rw [ht]; exact hP, va_K.moved hW.alike hK, hD⟩, hS.F ht⟩) hS.2.2 dXM_dry_71
      · have c_52_1 : ¬ ((mfi ((4 * j) + 1)) = (mw_8 1)) := mt (lg_cmp_eq (mfi ((4 * j) + 1)) (mw_8 1)).mpr c_52_1
        refine lv_iconst (v := 1) hx hb dXM_dry_55 (by decide) ?_
        refine lv_goto (tgt := 60) hx hb dXM_dry_56 (by decide) ?_
        refine lv_iadd hx hb dXM_dry_60 ?_
        refine lv_topi (fun z_60 ez_60 => ?_)
        obtain rfl : z_60 = 2 := ez_60.trans (by decide)
        refine lv_istore (lv' := [(4, .int 2), (5, .int 1), (3, .int r_8), (0, .ref g0), (1, .int (nI i)), (2, .int (nI j))]) hx hb dXM_dry_61 hl (by decide) rfl (fun ls hl => ?_)
        refine lv_iinc (v := 2) (lv' := [(5, .int 2), (4, .int 2), (3, .int r_8), (0, .ref g0), (1, .int (nI i)), (2, .int (nI j))]) hx hb dXM_dry_63 hl (k := 1) rfl (by decide) (by decide) rfl (fun ls hl => ?_)
        refine lv_goto (tgt := 25) hx hb dXM_dry_66 (by decide) ?_
        refine lv_iload hx hb dXM_dry_25 (lv_at hl 0 rfl) ?_
        refine lv_iconst (v := 4) hx hb dXM_dry_27 (by decide) ?_
        refine lv_icmp_ge (tgt := 69) hx hb dXM_dry_28 (by decide) (fun c_28_2 => absurd c_28_2 (by decide)) (fun c_28_2 => ?_)
        refine lv_iload hx hb dXM_dry_31 (lv_at hl 1 rfl) ?_
        refine lv_aload_n hx hb dXM_dry_33 rfl (lv_at hl 3 rfl) ?_
        refine va_get (D := (dC, dI)) (ci := 3) (v := .ref e5) (C := RXM) (T := TXM) (N := 19) hx hb hts (by decide +kernel) hown hK hP 0 rfl rfl 9 (by decide) (hts (.fieldLink RXM 24 "BatchClassesModel" "fields" "[J") (by decide +kernel)) (fun _ h9 => h9) rfl dXM_dry_34 ?_
        refine lv_iconst (v := 4) hx hb dXM_dry_37 (by decide) ?_
        refine lv_iload_n hx hb dXM_dry_38 rfl (lv_at hl 5 rfl) ?_
        refine lv_imul hx hb dXM_dry_39 ?_
        refine lv_topi (fun z_39 ez_39 => ?_)
        obtain rfl : z_39 = nI (4 * j) := ez_39.trans (pk_mul 4 j)
        refine lv_iload hx hb dXM_dry_40 (lv_at hl 0 rfl) ?_
        refine lv_iadd hx hb dXM_dry_42 ?_
        refine lv_topi (fun z_42 ez_42 => ?_)
        obtain rfl : z_42 = nI ((4 * j) + 2) := ez_42.trans (nI_add (4 * j) 2)
        refine va_lald hx hb hK hP 5 2 rfl rfl (vp_in_nI (by omega) (by omega)) dXM_dry_43 ?_
        refine lv_topl (fun z_43 ez_43 => ?_)
        obtain rfl : z_43 = mfi ((4 * j) + 2) := ez_43.trans (by rw [nI_clamp (n := ((4 * j) + 2)) (by omega)])
        refine lv_aload_n hx hb dXM_dry_44 rfl (lv_at hl 3 rfl) ?_
        refine va_get (D := (dC, dI)) (ci := 3) (v := .ref e9) (C := RXM) (T := TXM) (N := 19) hx hb hts (by decide +kernel) hown hK hP 0 rfl rfl 16 (by decide) (hts (.fieldLink RXM 36 "BatchClassesModel" "now" "[J") (by decide +kernel)) (fun _ h9 => h9) rfl dXM_dry_45 ?_
        refine lv_iload hx hb dXM_dry_48 (lv_at hl 0 rfl) ?_
        refine va_lald hx hb hK hP 9 2 rfl rfl (vp_in_nI (n := 2) (by omega) (by omega)) dXM_dry_50 ?_
        refine lv_topl (fun z_50 ez_50 => ?_)
        obtain rfl : z_50 = mw_8 2 := ez_50
        refine W.lcmp hx hb dXM_dry_51 ?_
        refine lv_if_eq (tgt := 59) hx hb dXM_dry_52 (by decide) (fun c_52_2 => ?_) (fun c_52_2 => ?_)
        · have c_52_2 : (mfi ((4 * j) + 2)) = (mw_8 2) := (lg_cmp_eq (mfi ((4 * j) + 2)) (mw_8 2)).mp c_52_2
          refine lv_iconst (v := 0) hx hb dXM_dry_59 (by decide) ?_
          refine lv_iadd hx hb dXM_dry_60 ?_
          refine lv_topi (fun z_60 ez_60 => ?_)
          obtain rfl : z_60 = 2 := ez_60.trans (by decide)
          refine lv_istore (lv' := [(4, .int 2), (5, .int 2), (3, .int r_8), (0, .ref g0), (1, .int (nI i)), (2, .int (nI j))]) hx hb dXM_dry_61 hl (by decide) rfl (fun ls hl => ?_)
          refine lv_iinc (v := 3) (lv' := [(5, .int 3), (4, .int 2), (3, .int r_8), (0, .ref g0), (1, .int (nI i)), (2, .int (nI j))]) hx hb dXM_dry_63 hl (k := 1) rfl (by decide) (by decide) rfl (fun ls hl => ?_)
          refine lv_goto (tgt := 25) hx hb dXM_dry_66 (by decide) ?_
          refine lv_iload hx hb dXM_dry_25 (lv_at hl 0 rfl) ?_
          refine lv_iconst (v := 4) hx hb dXM_dry_27 (by decide) ?_
          refine lv_icmp_ge (tgt := 69) hx hb dXM_dry_28 (by decide) (fun c_28_3 => absurd c_28_3 (by decide)) (fun c_28_3 => ?_)
          refine lv_iload hx hb dXM_dry_31 (lv_at hl 1 rfl) ?_
          refine lv_aload_n hx hb dXM_dry_33 rfl (lv_at hl 3 rfl) ?_
          refine va_get (D := (dC, dI)) (ci := 3) (v := .ref e5) (C := RXM) (T := TXM) (N := 19) hx hb hts (by decide +kernel) hown hK hP 0 rfl rfl 9 (by decide) (hts (.fieldLink RXM 24 "BatchClassesModel" "fields" "[J") (by decide +kernel)) (fun _ h9 => h9) rfl dXM_dry_34 ?_
          refine lv_iconst (v := 4) hx hb dXM_dry_37 (by decide) ?_
          refine lv_iload_n hx hb dXM_dry_38 rfl (lv_at hl 5 rfl) ?_
          refine lv_imul hx hb dXM_dry_39 ?_
          refine lv_topi (fun z_39 ez_39 => ?_)
          obtain rfl : z_39 = nI (4 * j) := ez_39.trans (pk_mul 4 j)
          refine lv_iload hx hb dXM_dry_40 (lv_at hl 0 rfl) ?_
          refine lv_iadd hx hb dXM_dry_42 ?_
          refine lv_topi (fun z_42 ez_42 => ?_)
          obtain rfl : z_42 = nI ((4 * j) + 3) := ez_42.trans (nI_add (4 * j) 3)
          refine va_lald hx hb hK hP 5 2 rfl rfl (vp_in_nI (by omega) (by omega)) dXM_dry_43 ?_
          refine lv_topl (fun z_43 ez_43 => ?_)
          obtain rfl : z_43 = mfi ((4 * j) + 3) := ez_43.trans (by rw [nI_clamp (n := ((4 * j) + 3)) (by omega)])
          refine lv_aload_n hx hb dXM_dry_44 rfl (lv_at hl 3 rfl) ?_
          refine va_get (D := (dC, dI)) (ci := 3) (v := .ref e9) (C := RXM) (T := TXM) (N := 19) hx hb hts (by decide +kernel) hown hK hP 0 rfl rfl 16 (by decide) (hts (.fieldLink RXM 36 "BatchClassesModel" "now" "[J") (by decide +kernel)) (fun _ h9 => h9) rfl dXM_dry_45 ?_
          refine lv_iload hx hb dXM_dry_48 (lv_at hl 0 rfl) ?_
          refine va_lald hx hb hK hP 9 2 rfl rfl (vp_in_nI (n := 3) (by omega) (by omega)) dXM_dry_50 ?_
          refine lv_topl (fun z_50 ez_50 => ?_)
          obtain rfl : z_50 = mw_8 3 := ez_50
          refine W.lcmp hx hb dXM_dry_51 ?_
          refine lv_if_eq (tgt := 59) hx hb dXM_dry_52 (by decide) (fun c_52_3 => ?_) (fun c_52_3 => ?_)
          · have c_52_3 : (mfi ((4 * j) + 3)) = (mw_8 3) := (lg_cmp_eq (mfi ((4 * j) + 3)) (mw_8 3)).mp c_52_3
            refine lv_iconst (v := 0) hx hb dXM_dry_59 (by decide) ?_
            refine lv_iadd hx hb dXM_dry_60 ?_
            refine lv_topi (fun z_60 ez_60 => ?_)
            obtain rfl : z_60 = 2 := ez_60.trans (by decide)
            refine lv_istore (lv' := [(4, .int 2), (5, .int 3), (3, .int r_8), (0, .ref g0), (1, .int (nI i)), (2, .int (nI j))]) hx hb dXM_dry_61 hl (by decide) rfl (fun ls hl => ?_)
            refine lv_iinc (v := 4) (lv' := [(5, .int 4), (4, .int 2), (3, .int r_8), (0, .ref g0), (1, .int (nI i)), (2, .int (nI j))]) hx hb dXM_dry_63 hl (k := 1) rfl (by decide) (by decide) rfl (fun ls hl => ?_)
            refine lv_goto (tgt := 25) hx hb dXM_dry_66 (by decide) ?_
            refine lv_iload hx hb dXM_dry_25 (lv_at hl 0 rfl) ?_
            refine lv_iconst (v := 4) hx hb dXM_dry_27 (by decide) ?_
            refine lv_icmp_ge (tgt := 69) hx hb dXM_dry_28 (by decide) (fun c_28_4 => ?_) (fun c_28_4 => absurd (by decide) c_28_4)
            refine lv_iload hx hb dXM_dry_69 (lv_at hl 1 rfl) ?_
            have hpost : ((2 : Int32), 0, mcv_8, mlo_8, mw_8) = pM_dry mN mcv mlo mp mtn mce mfi mlk mw i j := by first | (simp only [pM_dry, ← hw_8, if_pos c_14, if_neg c_52, if_neg c_52_1, if_pos c_52_2, if_pos c_52_3]; done) | (simp only [pM_dry, ← hw_8, if_pos c_14, if_neg c_52, if_neg c_52_1, if_pos c_52_2, if_pos c_52_3]; rfl) | (simp only [pM_cnt4, pM_dry, ← hw_8, if_pos c_14, if_neg c_52, if_neg c_52_1, if_pos c_52_2, if_pos c_52_3]; rfl) | rfl
            exact W.iret (v := 2) hx hb hr (fun t ht hW => ⟨⟨2, (0, mcv_8, mlo_8, mw_8), rfl, hpost, by rw [ht]; exact hP, va_K.moved hW.alike hK, hD⟩, hS.F ht⟩) hS.2.2 dXM_dry_71
          · have c_52_3 : ¬ ((mfi ((4 * j) + 3)) = (mw_8 3)) := mt (lg_cmp_eq (mfi ((4 * j) + 3)) (mw_8 3)).mpr c_52_3
            refine lv_iconst (v := 1) hx hb dXM_dry_55 (by decide) ?_
            refine lv_goto (tgt := 60) hx hb dXM_dry_56 (by decide) ?_
            refine lv_iadd hx hb dXM_dry_60 ?_
            refine lv_topi (fun z_60 ez_60 => ?_)
            obtain rfl : z_60 = 3 := ez_60.trans (by decide)
            refine lv_istore (lv' := [(4, .int 3), (5, .int 3), (3, .int r_8), (0, .ref g0), (1, .int (nI i)), (2, .int (nI j))]) hx hb dXM_dry_61 hl (by decide) rfl (fun ls hl => ?_)
            refine lv_iinc (v := 4) (lv' := [(5, .int 4), (4, .int 3), (3, .int r_8), (0, .ref g0), (1, .int (nI i)), (2, .int (nI j))]) hx hb dXM_dry_63 hl (k := 1) rfl (by decide) (by decide) rfl (fun ls hl => ?_)
            refine lv_goto (tgt := 25) hx hb dXM_dry_66 (by decide) ?_
            refine lv_iload hx hb dXM_dry_25 (lv_at hl 0 rfl) ?_
            refine lv_iconst (v := 4) hx hb dXM_dry_27 (by decide) ?_
            refine lv_icmp_ge (tgt := 69) hx hb dXM_dry_28 (by decide) (fun c_28_4 => ?_) (fun c_28_4 => absurd (by decide) c_28_4)
            refine lv_iload hx hb dXM_dry_69 (lv_at hl 1 rfl) ?_
            have hpost : ((3 : Int32), 0, mcv_8, mlo_8, mw_8) = pM_dry mN mcv mlo mp mtn mce mfi mlk mw i j := by first | (simp only [pM_dry, ← hw_8, if_pos c_14, if_neg c_52, if_neg c_52_1, if_pos c_52_2, if_neg c_52_3]; done) | (simp only [pM_dry, ← hw_8, if_pos c_14, if_neg c_52, if_neg c_52_1, if_pos c_52_2, if_neg c_52_3]; rfl) | (simp only [pM_cnt4, pM_dry, ← hw_8, if_pos c_14, if_neg c_52, if_neg c_52_1, if_pos c_52_2, if_neg c_52_3]; rfl) | rfl
            exact W.iret (v := 3) hx hb hr (fun t ht hW => ⟨⟨3, (0, mcv_8, mlo_8, mw_8), rfl, hpost, by rw [ht]; exact hP, va_K.moved hW.alike hK, hD⟩, hS.F ht⟩) hS.2.2 dXM_dry_71
        · have c_52_2 : ¬ ((mfi ((4 * j) + 2)) = (mw_8 2)) := mt (lg_cmp_eq (mfi ((4 * j) + 2)) (mw_8 2)).mpr c_52_2
          refine lv_iconst (v := 1) hx hb dXM_dry_55 (by decide) ?_
          refine lv_goto (tgt := 60) hx hb dXM_dry_56 (by decide) ?_
          refine lv_iadd hx hb dXM_dry_60 ?_
          refine lv_topi (fun z_60 ez_60 => ?_)
          obtain rfl : z_60 = 3 := ez_60.trans (by decide)
          refine lv_istore (lv' := [(4, .int 3), (5, .int 2), (3, .int r_8), (0, .ref g0), (1, .int (nI i)), (2, .int (nI j))]) hx hb dXM_dry_61 hl (by decide) rfl (fun ls hl => ?_)
          refine lv_iinc (v := 3) (lv' := [(5, .int 3), (4, .int 3), (3, .int r_8), (0, .ref g0), (1, .int (nI i)), (2, .int (nI j))]) hx hb dXM_dry_63 hl (k := 1) rfl (by decide) (by decide) rfl (fun ls hl => ?_)
          refine lv_goto (tgt := 25) hx hb dXM_dry_66 (by decide) ?_
          refine lv_iload hx hb dXM_dry_25 (lv_at hl 0 rfl) ?_
          refine lv_iconst (v := 4) hx hb dXM_dry_27 (by decide) ?_
          refine lv_icmp_ge (tgt := 69) hx hb dXM_dry_28 (by decide) (fun c_28_3 => absurd c_28_3 (by decide)) (fun c_28_3 => ?_)
          refine lv_iload hx hb dXM_dry_31 (lv_at hl 1 rfl) ?_
          refine lv_aload_n hx hb dXM_dry_33 rfl (lv_at hl 3 rfl) ?_
          refine va_get (D := (dC, dI)) (ci := 3) (v := .ref e5) (C := RXM) (T := TXM) (N := 19) hx hb hts (by decide +kernel) hown hK hP 0 rfl rfl 9 (by decide) (hts (.fieldLink RXM 24 "BatchClassesModel" "fields" "[J") (by decide +kernel)) (fun _ h9 => h9) rfl dXM_dry_34 ?_
          refine lv_iconst (v := 4) hx hb dXM_dry_37 (by decide) ?_
          refine lv_iload_n hx hb dXM_dry_38 rfl (lv_at hl 5 rfl) ?_
          refine lv_imul hx hb dXM_dry_39 ?_
          refine lv_topi (fun z_39 ez_39 => ?_)
          obtain rfl : z_39 = nI (4 * j) := ez_39.trans (pk_mul 4 j)
          refine lv_iload hx hb dXM_dry_40 (lv_at hl 0 rfl) ?_
          refine lv_iadd hx hb dXM_dry_42 ?_
          refine lv_topi (fun z_42 ez_42 => ?_)
          obtain rfl : z_42 = nI ((4 * j) + 3) := ez_42.trans (nI_add (4 * j) 3)
          refine va_lald hx hb hK hP 5 2 rfl rfl (vp_in_nI (by omega) (by omega)) dXM_dry_43 ?_
          refine lv_topl (fun z_43 ez_43 => ?_)
          obtain rfl : z_43 = mfi ((4 * j) + 3) := ez_43.trans (by rw [nI_clamp (n := ((4 * j) + 3)) (by omega)])
          refine lv_aload_n hx hb dXM_dry_44 rfl (lv_at hl 3 rfl) ?_
          refine va_get (D := (dC, dI)) (ci := 3) (v := .ref e9) (C := RXM) (T := TXM) (N := 19) hx hb hts (by decide +kernel) hown hK hP 0 rfl rfl 16 (by decide) (hts (.fieldLink RXM 36 "BatchClassesModel" "now" "[J") (by decide +kernel)) (fun _ h9 => h9) rfl dXM_dry_45 ?_
          refine lv_iload hx hb dXM_dry_48 (lv_at hl 0 rfl) ?_
          refine va_lald hx hb hK hP 9 2 rfl rfl (vp_in_nI (n := 3) (by omega) (by omega)) dXM_dry_50 ?_
          refine lv_topl (fun z_50 ez_50 => ?_)
          obtain rfl : z_50 = mw_8 3 := ez_50
          refine W.lcmp hx hb dXM_dry_51 ?_
          refine lv_if_eq (tgt := 59) hx hb dXM_dry_52 (by decide) (fun c_52_3 => ?_) (fun c_52_3 => ?_)
          · have c_52_3 : (mfi ((4 * j) + 3)) = (mw_8 3) := (lg_cmp_eq (mfi ((4 * j) + 3)) (mw_8 3)).mp c_52_3
            refine lv_iconst (v := 0) hx hb dXM_dry_59 (by decide) ?_
            refine lv_iadd hx hb dXM_dry_60 ?_
            refine lv_topi (fun z_60 ez_60 => ?_)
            obtain rfl : z_60 = 3 := ez_60.trans (by decide)
            refine lv_istore (lv' := [(4, .int 3), (5, .int 3), (3, .int r_8), (0, .ref g0), (1, .int (nI i)), (2, .int (nI j))]) hx hb dXM_dry_61 hl (by decide) rfl (fun ls hl => ?_)
            refine lv_iinc (v := 4) (lv' := [(5, .int 4), (4, .int 3), (3, .int r_8), (0, .ref g0), (1, .int (nI i)), (2, .int (nI j))]) hx hb dXM_dry_63 hl (k := 1) rfl (by decide) (by decide) rfl (fun ls hl => ?_)
            refine lv_goto (tgt := 25) hx hb dXM_dry_66 (by decide) ?_
            refine lv_iload hx hb dXM_dry_25 (lv_at hl 0 rfl) ?_
            refine lv_iconst (v := 4) hx hb dXM_dry_27 (by decide) ?_
            refine lv_icmp_ge (tgt := 69) hx hb dXM_dry_28 (by decide) (fun c_28_4 => ?_) (fun c_28_4 => absurd (by decide) c_28_4)
            refine lv_iload hx hb dXM_dry_69 (lv_at hl 1 rfl) ?_
            have hpost : ((3 : Int32), 0, mcv_8, mlo_8, mw_8) = pM_dry mN mcv mlo mp mtn mce mfi mlk mw i j := by first | (simp only [pM_dry, ← hw_8, if_pos c_14, if_neg c_52, if_neg c_52_1, if_neg c_52_2, if_pos c_52_3]; done) | (simp only [pM_dry, ← hw_8, if_pos c_14, if_neg c_52, if_neg c_52_1, if_neg c_52_2, if_pos c_52_3]; rfl) | (simp only [pM_cnt4, pM_dry, ← hw_8, if_pos c_14, if_neg c_52, if_neg c_52_1, if_neg c_52_2, if_pos c_52_3]; rfl) | rfl
            exact W.iret (v := 3) hx hb hr (fun t ht hW => ⟨⟨3, (0, mcv_8, mlo_8, mw_8), rfl, hpost, by rw [ht]; exact hP, va_K.moved hW.alike hK, hD⟩, hS.F ht⟩) hS.2.2 dXM_dry_71
          · have c_52_3 : ¬ ((mfi ((4 * j) + 3)) = (mw_8 3)) := mt (lg_cmp_eq (mfi ((4 * j) + 3)) (mw_8 3)).mpr c_52_3
            refine lv_iconst (v := 1) hx hb dXM_dry_55 (by decide) ?_
            refine lv_goto (tgt := 60) hx hb dXM_dry_56 (by decide) ?_
            refine lv_iadd hx hb dXM_dry_60 ?_
            refine lv_topi (fun z_60 ez_60 => ?_)
            obtain rfl : z_60 = 4 := ez_60.trans (by decide)
            refine lv_istore (lv' := [(4, .int 4), (5, .int 3), (3, .int r_8), (0, .ref g0), (1, .int (nI i)), (2, .int (nI j))]) hx hb dXM_dry_61 hl (by decide) rfl (fun ls hl => ?_)
            refine lv_iinc (v := 4) (lv' := [(5, .int 4), (4, .int 4), (3, .int r_8), (0, .ref g0), (1, .int (nI i)), (2, .int (nI j))]) hx hb dXM_dry_63 hl (k := 1) rfl (by decide) (by decide) rfl (fun ls hl => ?_)
            refine lv_goto (tgt := 25) hx hb dXM_dry_66 (by decide) ?_
            refine lv_iload hx hb dXM_dry_25 (lv_at hl 0 rfl) ?_
            refine lv_iconst (v := 4) hx hb dXM_dry_27 (by decide) ?_
            refine lv_icmp_ge (tgt := 69) hx hb dXM_dry_28 (by decide) (fun c_28_4 => ?_) (fun c_28_4 => absurd (by decide) c_28_4)
            refine lv_iload hx hb dXM_dry_69 (lv_at hl 1 rfl) ?_
            have hpost : ((4 : Int32), 0, mcv_8, mlo_8, mw_8) = pM_dry mN mcv mlo mp mtn mce mfi mlk mw i j := by first | (simp only [pM_dry, ← hw_8, if_pos c_14, if_neg c_52, if_neg c_52_1, if_neg c_52_2, if_neg c_52_3]; done) | (simp only [pM_dry, ← hw_8, if_pos c_14, if_neg c_52, if_neg c_52_1, if_neg c_52_2, if_neg c_52_3]; rfl) | (simp only [pM_cnt4, pM_dry, ← hw_8, if_pos c_14, if_neg c_52, if_neg c_52_1, if_neg c_52_2, if_neg c_52_3]; rfl) | rfl
            exact W.iret (v := 4) hx hb hr (fun t ht hW => ⟨⟨4, (0, mcv_8, mlo_8, mw_8), rfl, hpost, by rw [ht]; exact hP, va_K.moved hW.alike hK, hD⟩, hS.F ht⟩) hS.2.2 dXM_dry_71
  · refine lv_iload_n hx hb dXM_dry_17 rfl (lv_at hl 0 rfl) ?_
    have hpost : ((r_8 : Int32), 0, mcv_8, mlo_8, mw_8) = pM_dry mN mcv mlo mp mtn mce mfi mlk mw i j := by first | (simp only [pM_dry, ← hw_8, if_neg c_14]; done) | (simp only [pM_dry, ← hw_8, if_neg c_14]; rfl) | (simp only [pM_cnt4, pM_dry, ← hw_8, if_neg c_14]; rfl) | rfl
    exact W.iret (v := r_8) hx hb hr (fun t ht hW => ⟨⟨r_8, (0, mcv_8, mlo_8, mw_8), rfl, hpost, by rw [ht]; exact hP, va_K.moved hW.alike hK, hD⟩, hS.F ht⟩) hS.2.2 dXM_dry_18
