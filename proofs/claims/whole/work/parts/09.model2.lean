def pM_goes0 : Int32 := (-1)
set_option maxHeartbeats 4000000 in
set_option maxRecDepth 100000 in
theorem k_XM_goes0 (l : Launch) (dC : Nat → ClassId) (dI : Nat → Nat → Nat) (cI cZ cJ : ClassId) (sz : Nat) (g0 e1 e2 e3 e4 e5 e6 e7 e8 e9 : Nat) (mth : Int32) (mN mty mcl mrc mfc mlr : (Nat)) (mld : Int32) (mcv : Int64) (mlo : Int32) (mp : Nat → Int32) (mtn : Nat → Nat) (mce mfi : Nat → Int64) (mlk : Nat → Int32) (mw : Nat → Int64) (xo xr : Int32) (hbad : pM_isC mcl xo = 0 ∨ pM_isR mrc xr = 0) : Met l yXM_goes wsXM_goes ({ frames := 1, cells := 0, slots := 0, locals := 21 }) (va_Pc [.ref g0, .int xo, .int xr] (fun U => U.heap.size = sz ∧ va_P (dC, dI) vwC2 [(g0, .inr (3, [.int mth, .int (nI mN), .int (nI mty), .ref e1, .ref e2, .int (nI mcl), .ref e3, .ref e4, .int (nI mrc), .ref e5, .ref e6, .ref e7, .ref e8, .int (nI mfc), .int (nI mlr), .int mld, .ref e9, .long mcv, .int mlo])), (e1, .inl (cI, 21, .inl mp)), (e3, .inl (cI, 61, .inl (fun q => nI (mtn q)))), (e4, .inl (cJ, 61, .inr (.inl mce))), (e5, .inl (cJ, 244, .inr (.inl mfi))), (e6, .inl (cZ, 61, .inl mlk)), (e9, .inl (cJ, 4, .inr (.inl mw)))] U.heap ∧ va_K (dC, dI) vwC2 [(cI, .int), (cZ, .boolean), (cJ, .long)] U ∧ va_D (fun _ => True) [(g0, .inr (3, [.int mth, .int (nI mN), .int (nI mty), .ref e1, .ref e2, .int (nI mcl), .ref e3, .ref e4, .int (nI mrc), .ref e5, .ref e6, .ref e7, .ref e8, .int (nI mfc), .int (nI mlr), .int mld, .ref e9, .long mcv, .int mlo])), (e1, .inl (cI, 21, .inl mp)), (e3, .inl (cI, 61, .inl (fun q => nI (mtn q)))), (e4, .inl (cJ, 61, .inr (.inl mce))), (e5, .inl (cJ, 244, .inr (.inl mfi))), (e6, .inl (cZ, 61, .inl mlk)), (e9, .inl (cJ, 4, .inr (.inl mw)))])) (va_Qi (fun (r : Int32) (_ : Unit) => r = pM_goes0) (fun (_ : Unit) (t : State) => va_P (dC, dI) vwC2 [(g0, .inr (3, [.int mth, .int (nI mN), .int (nI mty), .ref e1, .ref e2, .int (nI mcl), .ref e3, .ref e4, .int (nI mrc), .ref e5, .ref e6, .ref e7, .ref e8, .int (nI mfc), .int (nI mlr), .int mld, .ref e9, .long mcv, .int mlo])), (e1, .inl (cI, 21, .inl mp)), (e3, .inl (cI, 61, .inl (fun q => nI (mtn q)))), (e4, .inl (cJ, 61, .inr (.inl mce))), (e5, .inl (cJ, 244, .inr (.inl mfi))), (e6, .inl (cZ, 61, .inl mlk)), (e9, .inl (cJ, 4, .inr (.inl mw)))] t.heap ∧ va_K (dC, dI) vwC2 [(cI, .int), (cZ, .boolean), (cJ, .long)] t ∧ va_D (va_A [(g0, .inr (3, [.int mth, .int (nI mN), .int (nI mty), .ref e1, .ref e2, .int (nI mcl), .ref e3, .ref e4, .int (nI mrc), .ref e5, .ref e6, .ref e7, .ref e8, .int (nI mfc), .int (nI mlr), .int mld, .ref e9, .long mcv, .int mlo])), (e1, .inl (cI, 21, .inl mp)), (e3, .inl (cI, 61, .inl (fun q => nI (mtn q)))), (e4, .inl (cJ, 61, .inr (.inl mce))), (e5, .inl (cJ, 244, .inr (.inl mfi))), (e6, .inl (cZ, 61, .inl mlk)), (e9, .inl (cJ, 4, .inr (.inl mw)))] sz) [(g0, .inr (3, [.int mth, .int (nI mN), .int (nI mty), .ref e1, .ref e2, .int (nI mcl), .ref e3, .ref e4, .int (nI mrc), .ref e5, .ref e6, .ref e7, .ref e8, .int (nI mfc), .int (nI mlr), .int mld, .ref e9, .long mcv, .int mlo])), (e1, .inl (cI, 21, .inl mp)), (e3, .inl (cI, 61, .inl (fun q => nI (mtn q)))), (e4, .inl (cJ, 61, .inr (.inl mce))), (e5, .inl (cJ, 244, .inr (.inl mfi))), (e6, .inl (cZ, 61, .inl mlk)), (e9, .inl (cJ, 4, .inr (.inl mw)))]) (va_A [(g0, .inr (3, [.int mth, .int (nI mN), .int (nI mty), .ref e1, .ref e2, .int (nI mcl), .ref e3, .ref e4, .int (nI mrc), .ref e5, .ref e6, .ref e7, .ref e8, .int (nI mfc), .int (nI mlr), .int mld, .ref e9, .long mcv, .int mlo])), (e1, .inl (cI, 21, .inl mp)), (e3, .inl (cI, 61, .inl (fun q => nI (mtn q)))), (e4, .inl (cJ, 61, .inr (.inl mce))), (e5, .inl (cJ, 244, .inr (.inl mfi))), (e6, .inl (cZ, 61, .inl mlk)), (e9, .inl (cJ, 4, .inr (.inl mw)))] sz)) 0 0 (va_A [(g0, .inr (3, [.int mth, .int (nI mN), .int (nI mty), .ref e1, .ref e2, .int (nI mcl), .ref e3, .ref e4, .int (nI mrc), .ref e5, .ref e6, .ref e7, .ref e8, .int (nI mfc), .int (nI mlr), .int mld, .ref e9, .long mcv, .int mlo])), (e1, .inl (cI, 21, .inl mp)), (e3, .inl (cI, 61, .inl (fun q => nI (mtn q)))), (e4, .inl (cJ, 61, .inr (.inl mce))), (e5, .inl (cJ, 244, .inr (.inl mfi))), (e6, .inl (cZ, 61, .inl mlk)), (e9, .inl (cJ, 4, .inr (.inl mw)))] sz) := by
  refine Met.ofW (cc := cXM_goes) (maxL := 7) (ret := (some .int)) (by decide) rfl ?_
  intro p e s m args below meth c s₁ B hml hv
  obtain ⟨rfl, hsz, hP, hK, hD0⟩ := hv
  have hx := B.exec
  have hb := B.bytes
  have hr := B.returns
  have hts := atoms_spec (ws := wsXM_goes) B.pre
  have hown : s.vm.findClass RXM = some m.cls := findClass_of_methodNamed B.named
  have hlocks := B.notSynchronized
  subst hsz
  have hD := hD0.self (sz := s.heap.size)
  generalize hAe : va_A [(g0, .inr (3, [.int mth, .int (nI mN), .int (nI mty), .ref e1, .ref e2, .int (nI mcl), .ref e3, .ref e4, .int (nI mrc), .ref e5, .ref e6, .ref e7, .ref e8, .int (nI mfc), .int (nI mlr), .int mld, .ref e9, .long mcv, .int mlo])), (e1, .inl (cI, 21, .inl mp)), (e3, .inl (cI, 61, .inl (fun q => nI (mtn q)))), (e4, .inl (cJ, 61, .inr (.inl mce))), (e5, .inl (cJ, 244, .inr (.inl mfi))), (e6, .inl (cZ, 61, .inl mlk)), (e9, .inl (cJ, 4, .inr (.inl mw)))] s.heap.size = A at hD ⊢
  have hA : ∀ q : Nat, s.heap.size ≤ q → A q := fun q h => by rw [← hAe]; exact Or.inr h
  have hS : va_S A s.heap s.heap [] := va_S.rf
  have hP : va_P (dC, dI) vwC2 [(g0, .inr (3, [.int mth, .int (nI mN), .int (nI mty), .ref e1, .ref e2, .int (nI mcl), .ref e3, .ref e4, .int (nI mrc), .ref e5, .ref e6, .ref e7, .ref e8, .int (nI mfc), .int (nI mlr), .int mld, .ref e9, .long mcv, .int mlo])), (e1, .inl (cI, 21, .inl mp)), (e3, .inl (cI, 61, .inl (fun q => nI (mtn q)))), (e4, .inl (cJ, 61, .inr (.inl mce))), (e5, .inl (cJ, 244, .inr (.inl mfi))), (e6, .inl (cZ, 61, .inl mlk)), (e9, .inl (cJ, 4, .inr (.inl mw)))] s.heap := hP
  have hl := lv_entry ([.ref g0, .int xo, .int xr]) (n := 7) (Nat.le_of_ble_eq_true rfl)
  rw [lg_entry_eq]
  generalize (lg_sl ([.ref g0, .int xo, .int xr]) ++ List.replicate (7 - (lg_sl ([.ref g0, .int xo, .int xr])).length) Slot.unset).toArray = ls at hl ⊢
  have hl : lv_has ls 7 [(0, .ref g0), (1, .int xo), (2, .int xr)] := hl
  refine lv_aload_n hx hb dXM_goes_0 rfl (lv_at hl 0 rfl) ?_
  refine lv_iload_n hx hb dXM_goes_1 rfl (lv_at hl 1 rfl) ?_
  have hPc := hP.sub (ws' := [(g0, .inr (3, [.int mth, .int (nI mN), .int (nI mty), .ref e1, .ref e2, .int (nI mcl), .ref e3, .ref e4, .int (nI mrc), .ref e5, .ref e6, .ref e7, .ref e8, .int (nI mfc), .int (nI mlr), .int mld, .ref e9, .long mcv, .int mlo]))]) [0] rfl
  have hDc := hD.sub (ws' := [(g0, .inr (3, [.int mth, .int (nI mN), .int (nI mty), .ref e1, .ref e2, .int (nI mcl), .ref e3, .ref e4, .int (nI mrc), .ref e5, .ref e6, .ref e7, .ref e8, .int (nI mfc), .int (nI mlr), .int mld, .ref e9, .long mcv, .int mlo]))]) [0] (by decide) rfl
  have hFc := va_free (wc := [(g0, .inr (3, [.int mth, .int (nI mN), .int (nI mty), .ref e1, .ref e2, .int (nI mcl), .ref e3, .ref e4, .int (nI mrc), .ref e5, .ref e6, .ref e7, .ref e8, .int (nI mfc), .int (nI mlr), .int mld, .ref e9, .long mcv, .int mlo]))]) hD hS hA [0] rfl
  refine va_calli (va_runV (As := [.int xo]) (rest := []) ⟨hx, hb, hml, hown, hts⟩ (k_XM_isClass l dC dI cI cZ cJ s.heap.size g0 e1 e2 e3 e4 e5 e6 e7 e8 e9 mth mN mty mcl mrc mfc mlr mld mcv mlo xo) (cwV 1 hts gXM_goes_XM_isClass rfl rfl rfl (by decide +kernel) ⟨Nat.le_of_ble_eq_true rfl, Nat.le_of_ble_eq_true rfl⟩) ⟨fun a U g mk q => by obtain ⟨q0, q1, qP, qK, qD⟩ := q; exact ⟨q0, q1, qP, va_K.moved (u := U) (U := U.calling g mk a) (Vm.Alike.refl U.vm) qK, qD⟩, va_recv hK hPc (ci := 3) (q0 := 0) rfl rfl, fun U hU hW => ⟨rfl, by rw [hU], by rw [hU]; exact hPc, va_K.moved hW.alike hK, hDc.weaken (fun _ _ _ _ => trivial)⟩⟩ rfl rfl hl.1 rfl (lv_room (Nat.le_of_ble_eq_true rfl)) dXM_goes_2 ⟨Nat.zero_le _, Nat.zero_le _⟩) hS (fun q _ h => hFc q h) hFc (fun r_2 u t H1 locs ht hvm hw_2 hB hz1 hk1 hS => ?_)
  obtain ⟨hP1, hK1, hD1⟩ := hB
  rw [ht] at hP1
  try dsimp only at hw_2
  obtain ⟨hP, hD⟩ := va_join (wr := [(e1, .inl (cI, 21, .inl mp)), (e3, .inl (cI, 61, .inl (fun q => nI (mtn q)))), (e4, .inl (cJ, 61, .inr (.inl mce))), (e5, .inl (cJ, 244, .inr (.inl mfi))), (e6, .inl (cZ, 61, .inl mlk)), (e9, .inl (cJ, 4, .inr (.inl mw)))]) (w1 := [(g0, .inr (3, [.int mth, .int (nI mN), .int (nI mty), .ref e1, .ref e2, .int (nI mcl), .ref e3, .ref e4, .int (nI mrc), .ref e5, .ref e6, .ref e7, .ref e8, .int (nI mfc), .int (nI mlr), .int mld, .ref e9, .long mcv, .int mlo]))]) hP hD [0] [1, 2, 3, 4, 5, 6] rfl rfl (by decide) (by decide) hk1 hFc hP1 hD1
  generalize H1 = H at hP hS ⊢
  have hP : va_P (dC, dI) vwC2 [(g0, .inr (3, [.int mth, .int (nI mN), .int (nI mty), .ref e1, .ref e2, .int (nI mcl), .ref e3, .ref e4, .int (nI mrc), .ref e5, .ref e6, .ref e7, .ref e8, .int (nI mfc), .int (nI mlr), .int mld, .ref e9, .long mcv, .int mlo])), (e1, .inl (cI, 21, .inl mp)), (e3, .inl (cI, 61, .inl (fun q => nI (mtn q)))), (e4, .inl (cJ, 61, .inr (.inl mce))), (e5, .inl (cJ, 244, .inr (.inl mfi))), (e6, .inl (cZ, 61, .inl mlk)), (e9, .inl (cJ, 4, .inr (.inl mw)))] H := hP.sub [6, 0, 1, 2, 3, 4, 5] rfl
  have hD : va_D A [(g0, .inr (3, [.int mth, .int (nI mN), .int (nI mty), .ref e1, .ref e2, .int (nI mcl), .ref e3, .ref e4, .int (nI mrc), .ref e5, .ref e6, .ref e7, .ref e8, .int (nI mfc), .int (nI mlr), .int mld, .ref e9, .long mcv, .int mlo])), (e1, .inl (cI, 21, .inl mp)), (e3, .inl (cI, 61, .inl (fun q => nI (mtn q)))), (e4, .inl (cJ, 61, .inr (.inl mce))), (e5, .inl (cJ, 244, .inr (.inl mfi))), (e6, .inl (cZ, 61, .inl mlk)), (e9, .inl (cJ, 4, .inr (.inl mw)))] := hD.sub [6, 0, 1, 2, 3, 4, 5] (by decide) rfl
  subst hw_2
  refine lv_if_eq (tgt := 16) hx hb dXM_goes_5 (by decide) (fun c_5 => ?_) (fun c_5 => ?_)
  · refine lv_iconst (v := (-1)) hx hb dXM_goes_16 (by decide) ?_
    exact W.iret (v := (-1)) hx hb hr (fun t ht hW => ⟨⟨(-1), (), rfl, by first | (simp only [pM_goes0, if_pos c_5]; done) | (simp only [pM_goes0, if_pos c_5]; rfl) | rfl, by rw [ht]; exact hP, va_K.moved hW.alike hK, hD⟩, hS.F ht⟩) hS.2.2 dXM_goes_17
  · refine lv_aload_n hx hb dXM_goes_8 rfl (lv_at hl 0 rfl) ?_
    refine lv_iload_n hx hb dXM_goes_9 rfl (lv_at hl 2 rfl) ?_
    have hPc := hP.sub (ws' := [(g0, .inr (3, [.int mth, .int (nI mN), .int (nI mty), .ref e1, .ref e2, .int (nI mcl), .ref e3, .ref e4, .int (nI mrc), .ref e5, .ref e6, .ref e7, .ref e8, .int (nI mfc), .int (nI mlr), .int mld, .ref e9, .long mcv, .int mlo]))]) [0] rfl
    have hDc := hD.sub (ws' := [(g0, .inr (3, [.int mth, .int (nI mN), .int (nI mty), .ref e1, .ref e2, .int (nI mcl), .ref e3, .ref e4, .int (nI mrc), .ref e5, .ref e6, .ref e7, .ref e8, .int (nI mfc), .int (nI mlr), .int mld, .ref e9, .long mcv, .int mlo]))]) [0] (by decide) rfl
    have hFc := va_free (wc := [(g0, .inr (3, [.int mth, .int (nI mN), .int (nI mty), .ref e1, .ref e2, .int (nI mcl), .ref e3, .ref e4, .int (nI mrc), .ref e5, .ref e6, .ref e7, .ref e8, .int (nI mfc), .int (nI mlr), .int mld, .ref e9, .long mcv, .int mlo]))]) hD hS hA [0] rfl
    refine va_calli (va_runV (As := [.int xr]) (rest := []) ⟨hx, hb, hml, hown, hts⟩ (k_XM_isRecord l dC dI cI cZ cJ H.size g0 e1 e2 e3 e4 e5 e6 e7 e8 e9 mth mN mty mcl mrc mfc mlr mld mcv mlo xr) (cwV 1 hts gXM_goes_XM_isRecord rfl rfl rfl (by decide +kernel) ⟨Nat.le_of_ble_eq_true rfl, Nat.le_of_ble_eq_true rfl⟩) ⟨fun a U g mk q => by obtain ⟨q0, q1, qP, qK, qD⟩ := q; exact ⟨q0, q1, qP, va_K.moved (u := U) (U := U.calling g mk a) (Vm.Alike.refl U.vm) qK, qD⟩, va_recv hK hPc (ci := 3) (q0 := 0) rfl rfl, fun U hU hW => ⟨rfl, by rw [hU], by rw [hU]; exact hPc, va_K.moved hW.alike hK, hDc.weaken (fun _ _ _ _ => trivial)⟩⟩ rfl rfl hl.1 rfl (lv_room (Nat.le_of_ble_eq_true rfl)) dXM_goes_10 ⟨Nat.zero_le _, Nat.zero_le _⟩) hS (fun q _ h => hFc q h) hFc (fun r_10 u t H1 locs ht hvm hw_10 hB hz1 hk1 hS => ?_)
    obtain ⟨hP1, hK1, hD1⟩ := hB
    rw [ht] at hP1
    try dsimp only at hw_10
    obtain ⟨hP, hD⟩ := va_join (wr := [(e1, .inl (cI, 21, .inl mp)), (e3, .inl (cI, 61, .inl (fun q => nI (mtn q)))), (e4, .inl (cJ, 61, .inr (.inl mce))), (e5, .inl (cJ, 244, .inr (.inl mfi))), (e6, .inl (cZ, 61, .inl mlk)), (e9, .inl (cJ, 4, .inr (.inl mw)))]) (w1 := [(g0, .inr (3, [.int mth, .int (nI mN), .int (nI mty), .ref e1, .ref e2, .int (nI mcl), .ref e3, .ref e4, .int (nI mrc), .ref e5, .ref e6, .ref e7, .ref e8, .int (nI mfc), .int (nI mlr), .int mld, .ref e9, .long mcv, .int mlo]))]) hP hD [0] [1, 2, 3, 4, 5, 6] rfl rfl (by decide) (by decide) hk1 hFc hP1 hD1
    generalize H1 = H at hP hS ⊢
    have hP : va_P (dC, dI) vwC2 [(g0, .inr (3, [.int mth, .int (nI mN), .int (nI mty), .ref e1, .ref e2, .int (nI mcl), .ref e3, .ref e4, .int (nI mrc), .ref e5, .ref e6, .ref e7, .ref e8, .int (nI mfc), .int (nI mlr), .int mld, .ref e9, .long mcv, .int mlo])), (e1, .inl (cI, 21, .inl mp)), (e3, .inl (cI, 61, .inl (fun q => nI (mtn q)))), (e4, .inl (cJ, 61, .inr (.inl mce))), (e5, .inl (cJ, 244, .inr (.inl mfi))), (e6, .inl (cZ, 61, .inl mlk)), (e9, .inl (cJ, 4, .inr (.inl mw)))] H := hP.sub [6, 0, 1, 2, 3, 4, 5] rfl
    have hD : va_D A [(g0, .inr (3, [.int mth, .int (nI mN), .int (nI mty), .ref e1, .ref e2, .int (nI mcl), .ref e3, .ref e4, .int (nI mrc), .ref e5, .ref e6, .ref e7, .ref e8, .int (nI mfc), .int (nI mlr), .int mld, .ref e9, .long mcv, .int mlo])), (e1, .inl (cI, 21, .inl mp)), (e3, .inl (cI, 61, .inl (fun q => nI (mtn q)))), (e4, .inl (cJ, 61, .inr (.inl mce))), (e5, .inl (cJ, 244, .inr (.inl mfi))), (e6, .inl (cZ, 61, .inl mlk)), (e9, .inl (cJ, 4, .inr (.inl mw)))] := hD.sub [6, 0, 1, 2, 3, 4, 5] (by decide) rfl
    subst hw_10
    refine lv_if_ne (tgt := 18) hx hb dXM_goes_13 (by decide) (fun c_13 => absurd (hbad.resolve_left c_5) c_13) (fun c_13 => ?_)
    refine lv_iconst (v := (-1)) hx hb dXM_goes_16 (by decide) ?_
    exact W.iret (v := (-1)) hx hb hr (fun t ht hW => ⟨⟨(-1), (), rfl, by first | (simp only [pM_goes0, if_neg c_5]; done) | (simp only [pM_goes0, if_neg c_5]; rfl) | rfl, by rw [ht]; exact hP, va_K.moved hW.alike hK, hD⟩, hS.F ht⟩) hS.2.2 dXM_goes_17
theorem acN_A (p : Int32) {i : Nat} (h : i < 8) : (p >>> (nI (4 * i) &&& 31)) &&& 15 = nI (acN p i) := by
  have hs : ((nI (4 * i) &&& 31).toBitVec.smod 32).toNat = 4 * i := by
    rcases (show i = 0 ∨ i = 1 ∨ i = 2 ∨ i = 3 ∨ i = 4 ∨ i = 5 ∨ i = 6 ∨ i = 7 by omega) with rfl | rfl | rfl | rfl | rfl | rfl | rfl | rfl <;> rfl
  have h1 := pk_shr p _ _ hs
  rw [pk_and _ 4 (by decide)]
  congr 1
  unfold acN
  have e1 : ((p >>> (nI (4 * i) &&& 31)).toBitVec.toNat : Int) % 16 = (p >>> (nI (4 * i) &&& 31)).toInt % 16 := by
    rw [show (p >>> (nI (4 * i) &&& 31)).toInt = (p >>> (nI (4 * i) &&& 31)).toBitVec.toInt from rfl, BitVec.toInt_eq_toNat_cond]
    split <;> omega
  have e2 : (p.toBitVec.toNat : Int) = p.toInt ∨ (p.toBitVec.toNat : Int) = p.toInt + 4294967296 := by
    rw [show p.toInt = p.toBitVec.toInt from rfl, BitVec.toInt_eq_toNat_cond]
    split <;> omega
  rw [h1, Int.shiftRight_eq_div_pow] at e1
  generalize p.toBitVec.toNat = n at e2 ⊢
  generalize (p >>> (nI (4 * i) &&& 31)).toBitVec.toNat = v at e1 ⊢
  generalize p.toInt = z at e1 e2
  obtain ⟨P, hP⟩ : ∃ P : Nat, P = 2 ^ (4 * i) := ⟨_, rfl⟩
  rw [← hP] at e1 ⊢
  rcases (show i = 0 ∨ i = 1 ∨ i = 2 ∨ i = 3 ∨ i = 4 ∨ i = 5 ∨ i = 6 ∨ i = 7 by omega) with rfl | rfl | rfl | rfl | rfl | rfl | rfl | rfl
  · have hP : P = 1 := hP
    subst hP
    omega
  · have hP : P = 16 := hP
    subst hP
    omega
  · have hP : P = 256 := hP
    subst hP
    omega
  · have hP : P = 4096 := hP
    subst hP
    omega
  · have hP : P = 65536 := hP
    subst hP
    omega
  · have hP : P = 1048576 := hP
    subst hP
    omega
  · have hP : P = 16777216 := hP
    subst hP
    omega
  · have hP : P = 268435456 := hP
    subst hP
    omega
def pM_lo (ac : Nat) (lo : Int32) : Int32 := if lo = 0 then (if ac = 7 then 1 else 0) else 1
def pM_nx (ac i : Nat) (w : Nat → Int64) : Nat := if ac = 6 then (if w 2 ≤ w 0 then i + 1 else 0) else (if ac = 13 then 8 else i + 1)
def pM_perf : Nat → Int32 → Nat → (Nat → Int64) → Int64 → Int32 → Int32 × Int64 × Int32 × (Nat → Int64)
  | 0, _, i, w, v, lo => if 8 ≤ i then (1, v, lo, w) else (-4, v, lo, w)
  | n + 1, p, i, w, v, lo =>
    if 8 ≤ i then (1, v, lo, w) else
    if acN p i = 4 ∧ w 1 = 0 then (-2, v, lo, w) else
    if acN p i = 10 then (-3, v, lo, w) else
    match pM_reckon v w (acN p i) with
    | (v', w') => pM_perf n p (pM_nx (acN p i) i w') w' v' (pM_lo (acN p i) lo)

def pM_goes (mN : (Nat)) (mcv : Int64) (mlo : Int32) (mp : Nat → Int32) (mtn : Nat → Nat) (mce : Nat → Int64) (mfi : Nat → Int64) (mlk : Nat → Int32) (mw : Nat → Int64) (i : (Nat)) (j : (Nat)) : Int32 × Int64 × Int32 × (Nat → Int64) :=
  if (mlk j) = 0 then
    pM_perf mN (mp (mtn i)) 0 (vp_updL (vp_updL (vp_updL (vp_updL mw 0 (mfi ((4 * j) + 0))) 1 (mfi ((4 * j) + 1))) 2 (mfi ((4 * j) + 2))) 3 (mfi ((4 * j) + 3))) (mce i) 0
  else
    ((-5), mcv, mlo, mw)
set_option maxHeartbeats 4000000 in
set_option maxRecDepth 100000 in
theorem k_XM_goes (l : Launch) (dC : Nat → ClassId) (dI : Nat → Nat → Nat) (cI cZ cJ : ClassId) (sz : Nat) (g0 e1 e2 e3 e4 e5 e6 e7 e8 e9 : Nat) (mth : Int32) (mN mty mcl mrc mfc mlr : (Nat)) (mld : Int32) (mcv : Int64) (mlo : Int32) (mp : Nat → Int32) (mtn : Nat → Nat) (mce mfi : Nat → Int64) (mlk : Nat → Int32) (mw : Nat → Int64) (i j : (Nat)) (hi : 1 ≤ i ∧ i ≤ mcl) (hj : 1 ≤ j ∧ j ≤ mrc) (hcl : mcl ≤ 60) (hrc : mrc ≤ 60) (hmN : mN ≤ 200) (htn : 1 ≤ mtn i ∧ mtn i ≤ 20) : Met l yXM_goes wsXM_goes ({ frames := 1, cells := 0, slots := 0, locals := 23 }) (va_Pc [.ref g0, .int (nI i), .int (nI j)] (fun U => U.heap.size = sz ∧ va_P (dC, dI) vwC2 [(g0, .inr (3, [.int mth, .int (nI mN), .int (nI mty), .ref e1, .ref e2, .int (nI mcl), .ref e3, .ref e4, .int (nI mrc), .ref e5, .ref e6, .ref e7, .ref e8, .int (nI mfc), .int (nI mlr), .int mld, .ref e9, .long mcv, .int mlo])), (e1, .inl (cI, 21, .inl mp)), (e3, .inl (cI, 61, .inl (fun q => nI (mtn q)))), (e4, .inl (cJ, 61, .inr (.inl mce))), (e5, .inl (cJ, 244, .inr (.inl mfi))), (e6, .inl (cZ, 61, .inl mlk)), (e9, .inl (cJ, 4, .inr (.inl mw)))] U.heap ∧ va_K (dC, dI) vwC2 [(cI, .int), (cZ, .boolean), (cJ, .long)] U ∧ va_D (fun _ => True) [(g0, .inr (3, [.int mth, .int (nI mN), .int (nI mty), .ref e1, .ref e2, .int (nI mcl), .ref e3, .ref e4, .int (nI mrc), .ref e5, .ref e6, .ref e7, .ref e8, .int (nI mfc), .int (nI mlr), .int mld, .ref e9, .long mcv, .int mlo])), (e1, .inl (cI, 21, .inl mp)), (e3, .inl (cI, 61, .inl (fun q => nI (mtn q)))), (e4, .inl (cJ, 61, .inr (.inl mce))), (e5, .inl (cJ, 244, .inr (.inl mfi))), (e6, .inl (cZ, 61, .inl mlk)), (e9, .inl (cJ, 4, .inr (.inl mw)))])) (va_Qi (fun (r : Int32) (u : Int64 × Int32 × (Nat → Int64)) => (r, u) = pM_goes mN mcv mlo mp mtn mce mfi mlk mw i j) (fun (u : Int64 × Int32 × (Nat → Int64)) (t : State) => match u with | (mcv', mlo', mw') => va_P (dC, dI) vwC2 [(g0, .inr (3, [.int mth, .int (nI mN), .int (nI mty), .ref e1, .ref e2, .int (nI mcl), .ref e3, .ref e4, .int (nI mrc), .ref e5, .ref e6, .ref e7, .ref e8, .int (nI mfc), .int (nI mlr), .int mld, .ref e9, .long mcv', .int mlo'])), (e1, .inl (cI, 21, .inl mp)), (e3, .inl (cI, 61, .inl (fun q => nI (mtn q)))), (e4, .inl (cJ, 61, .inr (.inl mce))), (e5, .inl (cJ, 244, .inr (.inl mfi))), (e6, .inl (cZ, 61, .inl mlk)), (e9, .inl (cJ, 4, .inr (.inl mw')))] t.heap ∧ va_K (dC, dI) vwC2 [(cI, .int), (cZ, .boolean), (cJ, .long)] t ∧ va_D (va_A [(g0, .inr (3, [.int mth, .int (nI mN), .int (nI mty), .ref e1, .ref e2, .int (nI mcl), .ref e3, .ref e4, .int (nI mrc), .ref e5, .ref e6, .ref e7, .ref e8, .int (nI mfc), .int (nI mlr), .int mld, .ref e9, .long mcv, .int mlo])), (e1, .inl (cI, 21, .inl mp)), (e3, .inl (cI, 61, .inl (fun q => nI (mtn q)))), (e4, .inl (cJ, 61, .inr (.inl mce))), (e5, .inl (cJ, 244, .inr (.inl mfi))), (e6, .inl (cZ, 61, .inl mlk)), (e9, .inl (cJ, 4, .inr (.inl mw)))] sz) [(g0, .inr (3, [.int mth, .int (nI mN), .int (nI mty), .ref e1, .ref e2, .int (nI mcl), .ref e3, .ref e4, .int (nI mrc), .ref e5, .ref e6, .ref e7, .ref e8, .int (nI mfc), .int (nI mlr), .int mld, .ref e9, .long mcv', .int mlo'])), (e1, .inl (cI, 21, .inl mp)), (e3, .inl (cI, 61, .inl (fun q => nI (mtn q)))), (e4, .inl (cJ, 61, .inr (.inl mce))), (e5, .inl (cJ, 244, .inr (.inl mfi))), (e6, .inl (cZ, 61, .inl mlk)), (e9, .inl (cJ, 4, .inr (.inl mw')))]) (va_A [(g0, .inr (3, [.int mth, .int (nI mN), .int (nI mty), .ref e1, .ref e2, .int (nI mcl), .ref e3, .ref e4, .int (nI mrc), .ref e5, .ref e6, .ref e7, .ref e8, .int (nI mfc), .int (nI mlr), .int mld, .ref e9, .long mcv, .int mlo])), (e1, .inl (cI, 21, .inl mp)), (e3, .inl (cI, 61, .inl (fun q => nI (mtn q)))), (e4, .inl (cJ, 61, .inr (.inl mce))), (e5, .inl (cJ, 244, .inr (.inl mfi))), (e6, .inl (cZ, 61, .inl mlk)), (e9, .inl (cJ, 4, .inr (.inl mw)))] sz)) 0 0 (va_A [(g0, .inr (3, [.int mth, .int (nI mN), .int (nI mty), .ref e1, .ref e2, .int (nI mcl), .ref e3, .ref e4, .int (nI mrc), .ref e5, .ref e6, .ref e7, .ref e8, .int (nI mfc), .int (nI mlr), .int mld, .ref e9, .long mcv, .int mlo])), (e1, .inl (cI, 21, .inl mp)), (e3, .inl (cI, 61, .inl (fun q => nI (mtn q)))), (e4, .inl (cJ, 61, .inr (.inl mce))), (e5, .inl (cJ, 244, .inr (.inl mfi))), (e6, .inl (cZ, 61, .inl mlk)), (e9, .inl (cJ, 4, .inr (.inl mw)))] sz) := by
  refine Met.ofW (cc := cXM_goes) (maxL := 7) (ret := (some .int)) (by decide) rfl ?_
  intro p e s m args below meth c s₁ B hml hv
  obtain ⟨rfl, hsz, hP, hK, hD0⟩ := hv
  have hx := B.exec
  have hb := B.bytes
  have hr := B.returns
  have hts := atoms_spec (ws := wsXM_goes) B.pre
  have hown : s.vm.findClass RXM = some m.cls := findClass_of_methodNamed B.named
  have hlocks := B.notSynchronized
  subst hsz
  have hD := hD0.self (sz := s.heap.size)
  generalize hAe : va_A [(g0, .inr (3, [.int mth, .int (nI mN), .int (nI mty), .ref e1, .ref e2, .int (nI mcl), .ref e3, .ref e4, .int (nI mrc), .ref e5, .ref e6, .ref e7, .ref e8, .int (nI mfc), .int (nI mlr), .int mld, .ref e9, .long mcv, .int mlo])), (e1, .inl (cI, 21, .inl mp)), (e3, .inl (cI, 61, .inl (fun q => nI (mtn q)))), (e4, .inl (cJ, 61, .inr (.inl mce))), (e5, .inl (cJ, 244, .inr (.inl mfi))), (e6, .inl (cZ, 61, .inl mlk)), (e9, .inl (cJ, 4, .inr (.inl mw)))] s.heap.size = A at hD ⊢
  have hA : ∀ q : Nat, s.heap.size ≤ q → A q := fun q h => by rw [← hAe]; exact Or.inr h
  have hS : va_S A s.heap s.heap [] := va_S.rf
  have hP : va_P (dC, dI) vwC2 [(g0, .inr (3, [.int mth, .int (nI mN), .int (nI mty), .ref e1, .ref e2, .int (nI mcl), .ref e3, .ref e4, .int (nI mrc), .ref e5, .ref e6, .ref e7, .ref e8, .int (nI mfc), .int (nI mlr), .int mld, .ref e9, .long mcv, .int mlo])), (e1, .inl (cI, 21, .inl mp)), (e3, .inl (cI, 61, .inl (fun q => nI (mtn q)))), (e4, .inl (cJ, 61, .inr (.inl mce))), (e5, .inl (cJ, 244, .inr (.inl mfi))), (e6, .inl (cZ, 61, .inl mlk)), (e9, .inl (cJ, 4, .inr (.inl mw)))] s.heap := hP
  have hl := lv_entry ([.ref g0, .int (nI i), .int (nI j)]) (n := 7) (Nat.le_of_ble_eq_true rfl)
  rw [lg_entry_eq]
  generalize (lg_sl ([.ref g0, .int (nI i), .int (nI j)]) ++ List.replicate (7 - (lg_sl ([.ref g0, .int (nI i), .int (nI j)])).length) Slot.unset).toArray = ls at hl ⊢
  have hl : lv_has ls 7 [(0, .ref g0), (1, .int (nI i)), (2, .int (nI j))] := hl
  refine lv_aload_n hx hb dXM_goes_0 rfl (lv_at hl 0 rfl) ?_
  refine lv_iload_n hx hb dXM_goes_1 rfl (lv_at hl 1 rfl) ?_
  have hPc := hP.sub (ws' := [(g0, .inr (3, [.int mth, .int (nI mN), .int (nI mty), .ref e1, .ref e2, .int (nI mcl), .ref e3, .ref e4, .int (nI mrc), .ref e5, .ref e6, .ref e7, .ref e8, .int (nI mfc), .int (nI mlr), .int mld, .ref e9, .long mcv, .int mlo]))]) [0] rfl
  have hDc := hD.sub (ws' := [(g0, .inr (3, [.int mth, .int (nI mN), .int (nI mty), .ref e1, .ref e2, .int (nI mcl), .ref e3, .ref e4, .int (nI mrc), .ref e5, .ref e6, .ref e7, .ref e8, .int (nI mfc), .int (nI mlr), .int mld, .ref e9, .long mcv, .int mlo]))]) [0] (by decide) rfl
  have hFc := va_free (wc := [(g0, .inr (3, [.int mth, .int (nI mN), .int (nI mty), .ref e1, .ref e2, .int (nI mcl), .ref e3, .ref e4, .int (nI mrc), .ref e5, .ref e6, .ref e7, .ref e8, .int (nI mfc), .int (nI mlr), .int mld, .ref e9, .long mcv, .int mlo]))]) hD hS hA [0] rfl
  refine va_calli (va_runV (As := [.int (nI i)]) (rest := []) ⟨hx, hb, hml, hown, hts⟩ (k_XM_isClass l dC dI cI cZ cJ s.heap.size g0 e1 e2 e3 e4 e5 e6 e7 e8 e9 mth mN mty mcl mrc mfc mlr mld mcv mlo (nI i)) (cwV 1 hts gXM_goes_XM_isClass rfl rfl rfl (by decide +kernel) ⟨Nat.le_of_ble_eq_true rfl, Nat.le_of_ble_eq_true rfl⟩) ⟨fun a U g mk q => by obtain ⟨q0, q1, qP, qK, qD⟩ := q; exact ⟨q0, q1, qP, va_K.moved (u := U) (U := U.calling g mk a) (Vm.Alike.refl U.vm) qK, qD⟩, va_recv hK hPc (ci := 3) (q0 := 0) rfl rfl, fun U hU hW => ⟨rfl, by rw [hU], by rw [hU]; exact hPc, va_K.moved hW.alike hK, hDc.weaken (fun _ _ _ _ => trivial)⟩⟩ rfl rfl hl.1 rfl (lv_room (Nat.le_of_ble_eq_true rfl)) dXM_goes_2 ⟨Nat.zero_le _, Nat.zero_le _⟩) hS (fun q _ h => hFc q h) hFc (fun r_2 u t H1 locs ht hvm hw_2 hB hz1 hk1 hS => ?_)
  obtain ⟨hP1, hK1, hD1⟩ := hB
  rw [ht] at hP1
  try dsimp only at hw_2
  obtain ⟨hP, hD⟩ := va_join (wr := [(e1, .inl (cI, 21, .inl mp)), (e3, .inl (cI, 61, .inl (fun q => nI (mtn q)))), (e4, .inl (cJ, 61, .inr (.inl mce))), (e5, .inl (cJ, 244, .inr (.inl mfi))), (e6, .inl (cZ, 61, .inl mlk)), (e9, .inl (cJ, 4, .inr (.inl mw)))]) (w1 := [(g0, .inr (3, [.int mth, .int (nI mN), .int (nI mty), .ref e1, .ref e2, .int (nI mcl), .ref e3, .ref e4, .int (nI mrc), .ref e5, .ref e6, .ref e7, .ref e8, .int (nI mfc), .int (nI mlr), .int mld, .ref e9, .long mcv, .int mlo]))]) hP hD [0] [1, 2, 3, 4, 5, 6] rfl rfl (by decide) (by decide) hk1 hFc hP1 hD1
  generalize H1 = H at hP hS ⊢
  have hP : va_P (dC, dI) vwC2 [(g0, .inr (3, [.int mth, .int (nI mN), .int (nI mty), .ref e1, .ref e2, .int (nI mcl), .ref e3, .ref e4, .int (nI mrc), .ref e5, .ref e6, .ref e7, .ref e8, .int (nI mfc), .int (nI mlr), .int mld, .ref e9, .long mcv, .int mlo])), (e1, .inl (cI, 21, .inl mp)), (e3, .inl (cI, 61, .inl (fun q => nI (mtn q)))), (e4, .inl (cJ, 61, .inr (.inl mce))), (e5, .inl (cJ, 244, .inr (.inl mfi))), (e6, .inl (cZ, 61, .inl mlk)), (e9, .inl (cJ, 4, .inr (.inl mw)))] H := hP.sub [6, 0, 1, 2, 3, 4, 5] rfl
  have hD : va_D A [(g0, .inr (3, [.int mth, .int (nI mN), .int (nI mty), .ref e1, .ref e2, .int (nI mcl), .ref e3, .ref e4, .int (nI mrc), .ref e5, .ref e6, .ref e7, .ref e8, .int (nI mfc), .int (nI mlr), .int mld, .ref e9, .long mcv, .int mlo])), (e1, .inl (cI, 21, .inl mp)), (e3, .inl (cI, 61, .inl (fun q => nI (mtn q)))), (e4, .inl (cJ, 61, .inr (.inl mce))), (e5, .inl (cJ, 244, .inr (.inl mfi))), (e6, .inl (cZ, 61, .inl mlk)), (e9, .inl (cJ, 4, .inr (.inl mw)))] := hD.sub [6, 0, 1, 2, 3, 4, 5] (by decide) rfl
  subst hw_2
  refine lv_if_eq (tgt := 16) hx hb dXM_goes_5 (by decide) (fun c_5 => absurd c_5 (misC_ok hi.1 hi.2 (by omega))) (fun c_5 => ?_)
  refine lv_aload_n hx hb dXM_goes_8 rfl (lv_at hl 0 rfl) ?_
  refine lv_iload_n hx hb dXM_goes_9 rfl (lv_at hl 2 rfl) ?_
  have hPc := hP.sub (ws' := [(g0, .inr (3, [.int mth, .int (nI mN), .int (nI mty), .ref e1, .ref e2, .int (nI mcl), .ref e3, .ref e4, .int (nI mrc), .ref e5, .ref e6, .ref e7, .ref e8, .int (nI mfc), .int (nI mlr), .int mld, .ref e9, .long mcv, .int mlo]))]) [0] rfl
  have hDc := hD.sub (ws' := [(g0, .inr (3, [.int mth, .int (nI mN), .int (nI mty), .ref e1, .ref e2, .int (nI mcl), .ref e3, .ref e4, .int (nI mrc), .ref e5, .ref e6, .ref e7, .ref e8, .int (nI mfc), .int (nI mlr), .int mld, .ref e9, .long mcv, .int mlo]))]) [0] (by decide) rfl
  have hFc := va_free (wc := [(g0, .inr (3, [.int mth, .int (nI mN), .int (nI mty), .ref e1, .ref e2, .int (nI mcl), .ref e3, .ref e4, .int (nI mrc), .ref e5, .ref e6, .ref e7, .ref e8, .int (nI mfc), .int (nI mlr), .int mld, .ref e9, .long mcv, .int mlo]))]) hD hS hA [0] rfl
  refine va_calli (va_runV (As := [.int (nI j)]) (rest := []) ⟨hx, hb, hml, hown, hts⟩ (k_XM_isRecord l dC dI cI cZ cJ H.size g0 e1 e2 e3 e4 e5 e6 e7 e8 e9 mth mN mty mcl mrc mfc mlr mld mcv mlo (nI j)) (cwV 1 hts gXM_goes_XM_isRecord rfl rfl rfl (by decide +kernel) ⟨Nat.le_of_ble_eq_true rfl, Nat.le_of_ble_eq_true rfl⟩) ⟨fun a U g mk q => by obtain ⟨q0, q1, qP, qK, qD⟩ := q; exact ⟨q0, q1, qP, va_K.moved (u := U) (U := U.calling g mk a) (Vm.Alike.refl U.vm) qK, qD⟩, va_recv hK hPc (ci := 3) (q0 := 0) rfl rfl, fun U hU hW => ⟨rfl, by rw [hU], by rw [hU]; exact hPc, va_K.moved hW.alike hK, hDc.weaken (fun _ _ _ _ => trivial)⟩⟩ rfl rfl hl.1 rfl (lv_room (Nat.le_of_ble_eq_true rfl)) dXM_goes_10 ⟨Nat.zero_le _, Nat.zero_le _⟩) hS (fun q _ h => hFc q h) hFc (fun r_10 u t H1 locs ht hvm hw_10 hB hz1 hk1 hS => ?_)
  obtain ⟨hP1, hK1, hD1⟩ := hB
  rw [ht] at hP1
  try dsimp only at hw_10
  obtain ⟨hP, hD⟩ := va_join (wr := [(e1, .inl (cI, 21, .inl mp)), (e3, .inl (cI, 61, .inl (fun q => nI (mtn q)))), (e4, .inl (cJ, 61, .inr (.inl mce))), (e5, .inl (cJ, 244, .inr (.inl mfi))), (e6, .inl (cZ, 61, .inl mlk)), (e9, .inl (cJ, 4, .inr (.inl mw)))]) (w1 := [(g0, .inr (3, [.int mth, .int (nI mN), .int (nI mty), .ref e1, .ref e2, .int (nI mcl), .ref e3, .ref e4, .int (nI mrc), .ref e5, .ref e6, .ref e7, .ref e8, .int (nI mfc), .int (nI mlr), .int mld, .ref e9, .long mcv, .int mlo]))]) hP hD [0] [1, 2, 3, 4, 5, 6] rfl rfl (by decide) (by decide) hk1 hFc hP1 hD1
  generalize H1 = H at hP hS ⊢
  have hP : va_P (dC, dI) vwC2 [(g0, .inr (3, [.int mth, .int (nI mN), .int (nI mty), .ref e1, .ref e2, .int (nI mcl), .ref e3, .ref e4, .int (nI mrc), .ref e5, .ref e6, .ref e7, .ref e8, .int (nI mfc), .int (nI mlr), .int mld, .ref e9, .long mcv, .int mlo])), (e1, .inl (cI, 21, .inl mp)), (e3, .inl (cI, 61, .inl (fun q => nI (mtn q)))), (e4, .inl (cJ, 61, .inr (.inl mce))), (e5, .inl (cJ, 244, .inr (.inl mfi))), (e6, .inl (cZ, 61, .inl mlk)), (e9, .inl (cJ, 4, .inr (.inl mw)))] H := hP.sub [6, 0, 1, 2, 3, 4, 5] rfl
  have hD : va_D A [(g0, .inr (3, [.int mth, .int (nI mN), .int (nI mty), .ref e1, .ref e2, .int (nI mcl), .ref e3, .ref e4, .int (nI mrc), .ref e5, .ref e6, .ref e7, .ref e8, .int (nI mfc), .int (nI mlr), .int mld, .ref e9, .long mcv, .int mlo])), (e1, .inl (cI, 21, .inl mp)), (e3, .inl (cI, 61, .inl (fun q => nI (mtn q)))), (e4, .inl (cJ, 61, .inr (.inl mce))), (e5, .inl (cJ, 244, .inr (.inl mfi))), (e6, .inl (cZ, 61, .inl mlk)), (e9, .inl (cJ, 4, .inr (.inl mw)))] := hD.sub [6, 0, 1, 2, 3, 4, 5] (by decide) rfl
  subst hw_10
  refine lv_if_ne (tgt := 18) hx hb dXM_goes_13 (by decide) (fun c_13 => ?_) (fun c_13 => absurd c_13 (misR_ok hj.1 hj.2 (by omega)))
  refine lv_aload_n hx hb dXM_goes_18 rfl (lv_at hl 0 rfl) ?_
  refine va_get (D := (dC, dI)) (ci := 3) (v := .ref e6) (C := RXM) (T := TXM) (N := 19) hx hb hts (by decide +kernel) hown hK hP 0 rfl rfl 10 (by decide) (hts (.fieldLink RXM 27 "BatchClassesModel" "locked" "[Z") (by decide +kernel)) (fun _ h9 => h9) rfl dXM_goes_19 ?_
  refine lv_iload_n hx hb dXM_goes_22 rfl (lv_at hl 2 rfl) ?_
  refine va_zald hx hb hK hP 5 1 rfl rfl (vp_in_nI (by omega) (by omega)) dXM_goes_23 ?_
  refine lv_topi (fun z_23 ez_23 => ?_)
  obtain rfl : z_23 = mlk j := ez_23.trans (by rw [nI_clamp (n := j) (by omega)])
  refine lv_if_eq (tgt := 30) hx hb dXM_goes_24 (by decide) (fun c_24 => ?_) (fun c_24 => ?_)
  · refine lv_iconst (v := 0) hx hb dXM_goes_30 (by decide) ?_
    refine lv_istore_n (lv' := [(3, .int 0), (0, .ref g0), (1, .int (nI i)), (2, .int (nI j))]) hx hb dXM_goes_31 rfl hl (by decide) rfl (fun ls hl => ?_)
    refine lv_iload_n hx hb dXM_goes_32 rfl (lv_at hl 0 rfl) ?_
    refine lv_iconst (v := 4) hx hb dXM_goes_33 (by decide) ?_
    refine lv_icmp_ge (tgt := 59) hx hb dXM_goes_34 (by decide) (fun c_34 => absurd c_34 (by decide)) (fun c_34 => ?_)
    refine lv_aload_n hx hb dXM_goes_37 rfl (lv_at hl 1 rfl) ?_
    refine va_get (D := (dC, dI)) (ci := 3) (v := .ref e9) (C := RXM) (T := TXM) (N := 19) hx hb hts (by decide +kernel) hown hK hP 0 rfl rfl 16 (by decide) (hts (.fieldLink RXM 36 "BatchClassesModel" "now" "[J") (by decide +kernel)) (fun _ h9 => h9) rfl dXM_goes_38 ?_
    refine lv_iload_n hx hb dXM_goes_41 rfl (lv_at hl 0 rfl) ?_
    refine lv_aload_n hx hb dXM_goes_42 rfl (lv_at hl 1 rfl) ?_
    refine va_get (D := (dC, dI)) (ci := 3) (v := .ref e5) (C := RXM) (T := TXM) (N := 19) hx hb hts (by decide +kernel) hown hK hP 0 rfl rfl 9 (by decide) (hts (.fieldLink RXM 24 "BatchClassesModel" "fields" "[J") (by decide +kernel)) (fun _ h9 => h9) rfl dXM_goes_43 ?_
    refine lv_iconst (v := 4) hx hb dXM_goes_46 (by decide) ?_
    refine lv_iload_n hx hb dXM_goes_47 rfl (lv_at hl 3 rfl) ?_
    refine lv_imul hx hb dXM_goes_48 ?_
    refine lv_topi (fun z_48 ez_48 => ?_)
    obtain rfl : z_48 = nI (4 * j) := ez_48.trans (pk_mul 4 j)
    refine lv_iload_n hx hb dXM_goes_49 rfl (lv_at hl 0 rfl) ?_
    refine lv_iadd hx hb dXM_goes_50 ?_
    refine lv_topi (fun z_50 ez_50 => ?_)
    obtain rfl : z_50 = nI ((4 * j) + 0) := ez_50.trans (nI_add (4 * j) 0)
    refine va_lald hx hb hK hP 4 2 rfl rfl (vp_in_nI (by omega) (by omega)) dXM_goes_51 ?_
    refine lv_topl (fun z_51 ez_51 => ?_)
    obtain rfl : z_51 = mfi ((4 * j) + 0) := ez_51.trans (by rw [nI_clamp (n := ((4 * j) + 0)) (by omega)])
    refine va_last hx hb hK hP hD hS 6 2 rfl rfl (vp_in_nI (n := 0) (by omega) (by omega)) dXM_goes_52 (fun H locs hP hD hS => ?_)
    have hP : va_P (dC, dI) vwC2 [(g0, .inr (3, [.int mth, .int (nI mN), .int (nI mty), .ref e1, .ref e2, .int (nI mcl), .ref e3, .ref e4, .int (nI mrc), .ref e5, .ref e6, .ref e7, .ref e8, .int (nI mfc), .int (nI mlr), .int mld, .ref e9, .long mcv, .int mlo])), (e1, .inl (cI, 21, .inl mp)), (e3, .inl (cI, 61, .inl (fun q => nI (mtn q)))), (e4, .inl (cJ, 61, .inr (.inl mce))), (e5, .inl (cJ, 244, .inr (.inl mfi))), (e6, .inl (cZ, 61, .inl mlk)), (e9, .inl (cJ, 4, .inr (.inl (vp_updL mw 0 (mfi ((4 * j) + 0))))))] H := hP
    have hD : va_D A [(g0, .inr (3, [.int mth, .int (nI mN), .int (nI mty), .ref e1, .ref e2, .int (nI mcl), .ref e3, .ref e4, .int (nI mrc), .ref e5, .ref e6, .ref e7, .ref e8, .int (nI mfc), .int (nI mlr), .int mld, .ref e9, .long mcv, .int mlo])), (e1, .inl (cI, 21, .inl mp)), (e3, .inl (cI, 61, .inl (fun q => nI (mtn q)))), (e4, .inl (cJ, 61, .inr (.inl mce))), (e5, .inl (cJ, 244, .inr (.inl mfi))), (e6, .inl (cZ, 61, .inl mlk)), (e9, .inl (cJ, 4, .inr (.inl (vp_updL mw 0 (mfi ((4 * j) + 0))))))] := hD
    refine lv_iinc (v := 1) (lv' := [(3, .int 1), (0, .ref g0), (1, .int (nI i)), (2, .int (nI j))]) hx hb dXM_goes_53 hl (k := 0) rfl (by decide) (by decide) rfl (fun ls hl => ?_)
    refine lv_goto (tgt := 32) hx hb dXM_goes_56 (by decide) ?_
    refine lv_iload_n hx hb dXM_goes_32 rfl (lv_at hl 0 rfl) ?_
    refine lv_iconst (v := 4) hx hb dXM_goes_33 (by decide) ?_
    refine lv_icmp_ge (tgt := 59) hx hb dXM_goes_34 (by decide) (fun c_34_1 => absurd c_34_1 (by decide)) (fun c_34_1 => ?_)
    refine lv_aload_n hx hb dXM_goes_37 rfl (lv_at hl 1 rfl) ?_
    refine va_get (D := (dC, dI)) (ci := 3) (v := .ref e9) (C := RXM) (T := TXM) (N := 19) hx hb hts (by decide +kernel) hown hK hP 0 rfl rfl 16 (by decide) (hts (.fieldLink RXM 36 "BatchClassesModel" "now" "[J") (by decide +kernel)) (fun _ h9 => h9) rfl dXM_goes_38 ?_
    refine lv_iload_n hx hb dXM_goes_41 rfl (lv_at hl 0 rfl) ?_
    refine lv_aload_n hx hb dXM_goes_42 rfl (lv_at hl 1 rfl) ?_
    refine va_get (D := (dC, dI)) (ci := 3) (v := .ref e5) (C := RXM) (T := TXM) (N := 19) hx hb hts (by decide +kernel) hown hK hP 0 rfl rfl 9 (by decide) (hts (.fieldLink RXM 24 "BatchClassesModel" "fields" "[J") (by decide +kernel)) (fun _ h9 => h9) rfl dXM_goes_43 ?_
    refine lv_iconst (v := 4) hx hb dXM_goes_46 (by decide) ?_
    refine lv_iload_n hx hb dXM_goes_47 rfl (lv_at hl 3 rfl) ?_
    refine lv_imul hx hb dXM_goes_48 ?_
    refine lv_topi (fun z_48 ez_48 => ?_)
    obtain rfl : z_48 = nI (4 * j) := ez_48.trans (pk_mul 4 j)
    refine lv_iload_n hx hb dXM_goes_49 rfl (lv_at hl 0 rfl) ?_
    refine lv_iadd hx hb dXM_goes_50 ?_
    refine lv_topi (fun z_50 ez_50 => ?_)
    obtain rfl : z_50 = nI ((4 * j) + 1) := ez_50.trans (nI_add (4 * j) 1)
    refine va_lald hx hb hK hP 4 2 rfl rfl (vp_in_nI (by omega) (by omega)) dXM_goes_51 ?_
    refine lv_topl (fun z_51 ez_51 => ?_)
    obtain rfl : z_51 = mfi ((4 * j) + 1) := ez_51.trans (by rw [nI_clamp (n := ((4 * j) + 1)) (by omega)])
    refine va_last hx hb hK hP hD hS 6 2 rfl rfl (vp_in_nI (n := 1) (by omega) (by omega)) dXM_goes_52 (fun H locs hP hD hS => ?_)
    have hP : va_P (dC, dI) vwC2 [(g0, .inr (3, [.int mth, .int (nI mN), .int (nI mty), .ref e1, .ref e2, .int (nI mcl), .ref e3, .ref e4, .int (nI mrc), .ref e5, .ref e6, .ref e7, .ref e8, .int (nI mfc), .int (nI mlr), .int mld, .ref e9, .long mcv, .int mlo])), (e1, .inl (cI, 21, .inl mp)), (e3, .inl (cI, 61, .inl (fun q => nI (mtn q)))), (e4, .inl (cJ, 61, .inr (.inl mce))), (e5, .inl (cJ, 244, .inr (.inl mfi))), (e6, .inl (cZ, 61, .inl mlk)), (e9, .inl (cJ, 4, .inr (.inl (vp_updL (vp_updL mw 0 (mfi ((4 * j) + 0))) 1 (mfi ((4 * j) + 1))))))] H := hP
    have hD : va_D A [(g0, .inr (3, [.int mth, .int (nI mN), .int (nI mty), .ref e1, .ref e2, .int (nI mcl), .ref e3, .ref e4, .int (nI mrc), .ref e5, .ref e6, .ref e7, .ref e8, .int (nI mfc), .int (nI mlr), .int mld, .ref e9, .long mcv, .int mlo])), (e1, .inl (cI, 21, .inl mp)), (e3, .inl (cI, 61, .inl (fun q => nI (mtn q)))), (e4, .inl (cJ, 61, .inr (.inl mce))), (e5, .inl (cJ, 244, .inr (.inl mfi))), (e6, .inl (cZ, 61, .inl mlk)), (e9, .inl (cJ, 4, .inr (.inl (vp_updL (vp_updL mw 0 (mfi ((4 * j) + 0))) 1 (mfi ((4 * j) + 1))))))] := hD
    refine lv_iinc (v := 2) (lv' := [(3, .int 2), (0, .ref g0), (1, .int (nI i)), (2, .int (nI j))]) hx hb dXM_goes_53 hl (k := 0) rfl (by decide) (by decide) rfl (fun ls hl => ?_)
    refine lv_goto (tgt := 32) hx hb dXM_goes_56 (by decide) ?_
    refine lv_iload_n hx hb dXM_goes_32 rfl (lv_at hl 0 rfl) ?_
    refine lv_iconst (v := 4) hx hb dXM_goes_33 (by decide) ?_
    refine lv_icmp_ge (tgt := 59) hx hb dXM_goes_34 (by decide) (fun c_34_2 => absurd c_34_2 (by decide)) (fun c_34_2 => ?_)
    refine lv_aload_n hx hb dXM_goes_37 rfl (lv_at hl 1 rfl) ?_
    refine va_get (D := (dC, dI)) (ci := 3) (v := .ref e9) (C := RXM) (T := TXM) (N := 19) hx hb hts (by decide +kernel) hown hK hP 0 rfl rfl 16 (by decide) (hts (.fieldLink RXM 36 "BatchClassesModel" "now" "[J") (by decide +kernel)) (fun _ h9 => h9) rfl dXM_goes_38 ?_
    refine lv_iload_n hx hb dXM_goes_41 rfl (lv_at hl 0 rfl) ?_
    refine lv_aload_n hx hb dXM_goes_42 rfl (lv_at hl 1 rfl) ?_
    refine va_get (D := (dC, dI)) (ci := 3) (v := .ref e5) (C := RXM) (T := TXM) (N := 19) hx hb hts (by decide +kernel) hown hK hP 0 rfl rfl 9 (by decide) (hts (.fieldLink RXM 24 "BatchClassesModel" "fields" "[J") (by decide +kernel)) (fun _ h9 => h9) rfl dXM_goes_43 ?_
    refine lv_iconst (v := 4) hx hb dXM_goes_46 (by decide) ?_
    refine lv_iload_n hx hb dXM_goes_47 rfl (lv_at hl 3 rfl) ?_
    refine lv_imul hx hb dXM_goes_48 ?_
    refine lv_topi (fun z_48 ez_48 => ?_)
    obtain rfl : z_48 = nI (4 * j) := ez_48.trans (pk_mul 4 j)
    refine lv_iload_n hx hb dXM_goes_49 rfl (lv_at hl 0 rfl) ?_
    refine lv_iadd hx hb dXM_goes_50 ?_
    refine lv_topi (fun z_50 ez_50 => ?_)
    obtain rfl : z_50 = nI ((4 * j) + 2) := ez_50.trans (nI_add (4 * j) 2)
    refine va_lald hx hb hK hP 4 2 rfl rfl (vp_in_nI (by omega) (by omega)) dXM_goes_51 ?_
    refine lv_topl (fun z_51 ez_51 => ?_)
    obtain rfl : z_51 = mfi ((4 * j) + 2) := ez_51.trans (by rw [nI_clamp (n := ((4 * j) + 2)) (by omega)])
    refine va_last hx hb hK hP hD hS 6 2 rfl rfl (vp_in_nI (n := 2) (by omega) (by omega)) dXM_goes_52 (fun H locs hP hD hS => ?_)
    have hP : va_P (dC, dI) vwC2 [(g0, .inr (3, [.int mth, .int (nI mN), .int (nI mty), .ref e1, .ref e2, .int (nI mcl), .ref e3, .ref e4, .int (nI mrc), .ref e5, .ref e6, .ref e7, .ref e8, .int (nI mfc), .int (nI mlr), .int mld, .ref e9, .long mcv, .int mlo])), (e1, .inl (cI, 21, .inl mp)), (e3, .inl (cI, 61, .inl (fun q => nI (mtn q)))), (e4, .inl (cJ, 61, .inr (.inl mce))), (e5, .inl (cJ, 244, .inr (.inl mfi))), (e6, .inl (cZ, 61, .inl mlk)), (e9, .inl (cJ, 4, .inr (.inl (vp_updL (vp_updL (vp_updL mw 0 (mfi ((4 * j) + 0))) 1 (mfi ((4 * j) + 1))) 2 (mfi ((4 * j) + 2))))))] H := hP
    have hD : va_D A [(g0, .inr (3, [.int mth, .int (nI mN), .int (nI mty), .ref e1, .ref e2, .int (nI mcl), .ref e3, .ref e4, .int (nI mrc), .ref e5, .ref e6, .ref e7, .ref e8, .int (nI mfc), .int (nI mlr), .int mld, .ref e9, .long mcv, .int mlo])), (e1, .inl (cI, 21, .inl mp)), (e3, .inl (cI, 61, .inl (fun q => nI (mtn q)))), (e4, .inl (cJ, 61, .inr (.inl mce))), (e5, .inl (cJ, 244, .inr (.inl mfi))), (e6, .inl (cZ, 61, .inl mlk)), (e9, .inl (cJ, 4, .inr (.inl (vp_updL (vp_updL (vp_updL mw 0 (mfi ((4 * j) + 0))) 1 (mfi ((4 * j) + 1))) 2 (mfi ((4 * j) + 2))))))] := hD
    refine lv_iinc (v := 3) (lv' := [(3, .int 3), (0, .ref g0), (1, .int (nI i)), (2, .int (nI j))]) hx hb dXM_goes_53 hl (k := 0) rfl (by decide) (by decide) rfl (fun ls hl => ?_)
    refine lv_goto (tgt := 32) hx hb dXM_goes_56 (by decide) ?_
    refine lv_iload_n hx hb dXM_goes_32 rfl (lv_at hl 0 rfl) ?_
    refine lv_iconst (v := 4) hx hb dXM_goes_33 (by decide) ?_
    refine lv_icmp_ge (tgt := 59) hx hb dXM_goes_34 (by decide) (fun c_34_3 => absurd c_34_3 (by decide)) (fun c_34_3 => ?_)
    refine lv_aload_n hx hb dXM_goes_37 rfl (lv_at hl 1 rfl) ?_
    refine va_get (D := (dC, dI)) (ci := 3) (v := .ref e9) (C := RXM) (T := TXM) (N := 19) hx hb hts (by decide +kernel) hown hK hP 0 rfl rfl 16 (by decide) (hts (.fieldLink RXM 36 "BatchClassesModel" "now" "[J") (by decide +kernel)) (fun _ h9 => h9) rfl dXM_goes_38 ?_
    refine lv_iload_n hx hb dXM_goes_41 rfl (lv_at hl 0 rfl) ?_
    refine lv_aload_n hx hb dXM_goes_42 rfl (lv_at hl 1 rfl) ?_
    refine va_get (D := (dC, dI)) (ci := 3) (v := .ref e5) (C := RXM) (T := TXM) (N := 19) hx hb hts (by decide +kernel) hown hK hP 0 rfl rfl 9 (by decide) (hts (.fieldLink RXM 24 "BatchClassesModel" "fields" "[J") (by decide +kernel)) (fun _ h9 => h9) rfl dXM_goes_43 ?_
    refine lv_iconst (v := 4) hx hb dXM_goes_46 (by decide) ?_
    refine lv_iload_n hx hb dXM_goes_47 rfl (lv_at hl 3 rfl) ?_
    refine lv_imul hx hb dXM_goes_48 ?_
    refine lv_topi (fun z_48 ez_48 => ?_)
    obtain rfl : z_48 = nI (4 * j) := ez_48.trans (pk_mul 4 j)
    refine lv_iload_n hx hb dXM_goes_49 rfl (lv_at hl 0 rfl) ?_
    refine lv_iadd hx hb dXM_goes_50 ?_
    refine lv_topi (fun z_50 ez_50 => ?_)
    obtain rfl : z_50 = nI ((4 * j) + 3) := ez_50.trans (nI_add (4 * j) 3)
    refine va_lald hx hb hK hP 4 2 rfl rfl (vp_in_nI (by omega) (by omega)) dXM_goes_51 ?_
    refine lv_topl (fun z_51 ez_51 => ?_)
    obtain rfl : z_51 = mfi ((4 * j) + 3) := ez_51.trans (by rw [nI_clamp (n := ((4 * j) + 3)) (by omega)])
    refine va_last hx hb hK hP hD hS 6 2 rfl rfl (vp_in_nI (n := 3) (by omega) (by omega)) dXM_goes_52 (fun H locs hP hD hS => ?_)
    have hP : va_P (dC, dI) vwC2 [(g0, .inr (3, [.int mth, .int (nI mN), .int (nI mty), .ref e1, .ref e2, .int (nI mcl), .ref e3, .ref e4, .int (nI mrc), .ref e5, .ref e6, .ref e7, .ref e8, .int (nI mfc), .int (nI mlr), .int mld, .ref e9, .long mcv, .int mlo])), (e1, .inl (cI, 21, .inl mp)), (e3, .inl (cI, 61, .inl (fun q => nI (mtn q)))), (e4, .inl (cJ, 61, .inr (.inl mce))), (e5, .inl (cJ, 244, .inr (.inl mfi))), (e6, .inl (cZ, 61, .inl mlk)), (e9, .inl (cJ, 4, .inr (.inl (vp_updL (vp_updL (vp_updL (vp_updL mw 0 (mfi ((4 * j) + 0))) 1 (mfi ((4 * j) + 1))) 2 (mfi ((4 * j) + 2))) 3 (mfi ((4 * j) + 3))))))] H := hP
    have hD : va_D A [(g0, .inr (3, [.int mth, .int (nI mN), .int (nI mty), .ref e1, .ref e2, .int (nI mcl), .ref e3, .ref e4, .int (nI mrc), .ref e5, .ref e6, .ref e7, .ref e8, .int (nI mfc), .int (nI mlr), .int mld, .ref e9, .long mcv, .int mlo])), (e1, .inl (cI, 21, .inl mp)), (e3, .inl (cI, 61, .inl (fun q => nI (mtn q)))), (e4, .inl (cJ, 61, .inr (.inl mce))), (e5, .inl (cJ, 244, .inr (.inl mfi))), (e6, .inl (cZ, 61, .inl mlk)), (e9, .inl (cJ, 4, .inr (.inl (vp_updL (vp_updL (vp_updL (vp_updL mw 0 (mfi ((4 * j) + 0))) 1 (mfi ((4 * j) + 1))) 2 (mfi ((4 * j) + 2))) 3 (mfi ((4 * j) + 3))))))] := hD
    refine lv_iinc (v := 4) (lv' := [(3, .int 4), (0, .ref g0), (1, .int (nI i)), (2, .int (nI j))]) hx hb dXM_goes_53 hl (k := 0) rfl (by decide) (by decide) rfl (fun ls hl => ?_)
    refine lv_goto (tgt := 32) hx hb dXM_goes_56 (by decide) ?_
    refine lv_iload_n hx hb dXM_goes_32 rfl (lv_at hl 0 rfl) ?_
    refine lv_iconst (v := 4) hx hb dXM_goes_33 (by decide) ?_
    refine lv_icmp_ge (tgt := 59) hx hb dXM_goes_34 (by decide) (fun c_34_4 => ?_) (fun c_34_4 => absurd (by decide) c_34_4)
    refine lv_aload_n hx hb dXM_goes_59 rfl (lv_at hl 1 rfl) ?_
    refine lv_aload_n hx hb dXM_goes_60 rfl (lv_at hl 1 rfl) ?_
    refine va_get (D := (dC, dI)) (ci := 3) (v := .ref e4) (C := RXM) (T := TXM) (N := 19) hx hb hts (by decide +kernel) hown hK hP 0 rfl rfl 7 (by decide) (hts (.fieldLink RXM 20 "BatchClassesModel" "cells" "[J") (by decide +kernel)) (fun _ h9 => h9) rfl dXM_goes_61 ?_
    refine lv_iload_n hx hb dXM_goes_64 rfl (lv_at hl 2 rfl) ?_
    refine va_lald hx hb hK hP 3 2 rfl rfl (vp_in_nI (by omega) (by omega)) dXM_goes_65 ?_
    refine lv_topl (fun z_65 ez_65 => ?_)
    obtain rfl : z_65 = mce i := ez_65.trans (by rw [nI_clamp (n := i) (by omega)])
    refine va_put (D := (dC, dI)) (ci := 3) (v := .long (mce i)) (ty := .long) (C := RXM) (T := TXM) (N := 19) hx hb hts (by decide +kernel) tyXM tyXM_ok nmXM hown hK hP hD hS 0 rfl rfl 17 (by decide) (hts (.fieldLink RXM 55 "BatchClassesModel" "cell" "J") (by decide +kernel)) (fun _ h9 => h9) rfl (by decide +kernel) rfl rfl (Nat.le_of_ble_eq_true rfl) dXM_goes_66 (fun H locs hP hD hS => ?_)
    have hP : va_P (dC, dI) vwC2 [(g0, .inr (3, [.int mth, .int (nI mN), .int (nI mty), .ref e1, .ref e2, .int (nI mcl), .ref e3, .ref e4, .int (nI mrc), .ref e5, .ref e6, .ref e7, .ref e8, .int (nI mfc), .int (nI mlr), .int mld, .ref e9, .long (mce i), .int mlo])), (e1, .inl (cI, 21, .inl mp)), (e3, .inl (cI, 61, .inl (fun q => nI (mtn q)))), (e4, .inl (cJ, 61, .inr (.inl mce))), (e5, .inl (cJ, 244, .inr (.inl mfi))), (e6, .inl (cZ, 61, .inl mlk)), (e9, .inl (cJ, 4, .inr (.inl (vp_updL (vp_updL (vp_updL (vp_updL mw 0 (mfi ((4 * j) + 0))) 1 (mfi ((4 * j) + 1))) 2 (mfi ((4 * j) + 2))) 3 (mfi ((4 * j) + 3))))))] H := hP
    have hD : va_D A [(g0, .inr (3, [.int mth, .int (nI mN), .int (nI mty), .ref e1, .ref e2, .int (nI mcl), .ref e3, .ref e4, .int (nI mrc), .ref e5, .ref e6, .ref e7, .ref e8, .int (nI mfc), .int (nI mlr), .int mld, .ref e9, .long (mce i), .int mlo])), (e1, .inl (cI, 21, .inl mp)), (e3, .inl (cI, 61, .inl (fun q => nI (mtn q)))), (e4, .inl (cJ, 61, .inr (.inl mce))), (e5, .inl (cJ, 244, .inr (.inl mfi))), (e6, .inl (cZ, 61, .inl mlk)), (e9, .inl (cJ, 4, .inr (.inl (vp_updL (vp_updL (vp_updL (vp_updL mw 0 (mfi ((4 * j) + 0))) 1 (mfi ((4 * j) + 1))) 2 (mfi ((4 * j) + 2))) 3 (mfi ((4 * j) + 3))))))] := hD
    refine lv_aload_n hx hb dXM_goes_69 rfl (lv_at hl 1 rfl) ?_
    refine lv_iconst (v := 0) hx hb dXM_goes_70 (by decide) ?_
    refine va_put (D := (dC, dI)) (ci := 3) (v := .int 0) (ty := .boolean) (C := RXM) (T := TXM) (N := 19) hx hb hts (by decide +kernel) tyXM tyXM_ok nmXM hown hK hP hD hS 0 rfl rfl 18 (by decide) (hts (.fieldLink RXM 66 "BatchClassesModel" "locks" "Z") (by decide +kernel)) (fun _ h9 => h9) rfl (by decide +kernel) rfl rfl (Nat.le_of_ble_eq_true rfl) dXM_goes_71 (fun H locs hP hD hS => ?_)
    have hP : va_P (dC, dI) vwC2 [(g0, .inr (3, [.int mth, .int (nI mN), .int (nI mty), .ref e1, .ref e2, .int (nI mcl), .ref e3, .ref e4, .int (nI mrc), .ref e5, .ref e6, .ref e7, .ref e8, .int (nI mfc), .int (nI mlr), .int mld, .ref e9, .long (mce i), .int 0])), (e1, .inl (cI, 21, .inl mp)), (e3, .inl (cI, 61, .inl (fun q => nI (mtn q)))), (e4, .inl (cJ, 61, .inr (.inl mce))), (e5, .inl (cJ, 244, .inr (.inl mfi))), (e6, .inl (cZ, 61, .inl mlk)), (e9, .inl (cJ, 4, .inr (.inl (vp_updL (vp_updL (vp_updL (vp_updL mw 0 (mfi ((4 * j) + 0))) 1 (mfi ((4 * j) + 1))) 2 (mfi ((4 * j) + 2))) 3 (mfi ((4 * j) + 3))))))] H := hP
    have hD : va_D A [(g0, .inr (3, [.int mth, .int (nI mN), .int (nI mty), .ref e1, .ref e2, .int (nI mcl), .ref e3, .ref e4, .int (nI mrc), .ref e5, .ref e6, .ref e7, .ref e8, .int (nI mfc), .int (nI mlr), .int mld, .ref e9, .long (mce i), .int 0])), (e1, .inl (cI, 21, .inl mp)), (e3, .inl (cI, 61, .inl (fun q => nI (mtn q)))), (e4, .inl (cJ, 61, .inr (.inl mce))), (e5, .inl (cJ, 244, .inr (.inl mfi))), (e6, .inl (cZ, 61, .inl mlk)), (e9, .inl (cJ, 4, .inr (.inl (vp_updL (vp_updL (vp_updL (vp_updL mw 0 (mfi ((4 * j) + 0))) 1 (mfi ((4 * j) + 1))) 2 (mfi ((4 * j) + 2))) 3 (mfi ((4 * j) + 3))))))] := hD
    refine lv_aload_n hx hb dXM_goes_74 rfl (lv_at hl 1 rfl) ?_
    refine va_get (D := (dC, dI)) (ci := 3) (v := .ref e1) (C := RXM) (T := TXM) (N := 19) hx hb hts (by decide +kernel) hown hK hP 0 rfl rfl 3 (by decide) (hts (.fieldLink RXM 7 "BatchClassesModel" "does" "[I") (by decide +kernel)) (fun _ h9 => h9) rfl dXM_goes_75 ?_
    refine lv_aload_n hx hb dXM_goes_78 rfl (lv_at hl 1 rfl) ?_
    refine va_get (D := (dC, dI)) (ci := 3) (v := .ref e3) (C := RXM) (T := TXM) (N := 19) hx hb hts (by decide +kernel) hown hK hP 0 rfl rfl 6 (by decide) (hts (.fieldLink RXM 17 "BatchClassesModel" "typeOf" "[I") (by decide +kernel)) (fun _ h9 => h9) rfl dXM_goes_79 ?_
    refine lv_iload_n hx hb dXM_goes_82 rfl (lv_at hl 2 rfl) ?_
    refine va_iald hx hb hK hP 2 0 rfl rfl (vp_in_nI (by omega) (by omega)) dXM_goes_83 ?_
    refine lv_topi (fun z_83 ez_83 => ?_)
    obtain rfl : z_83 = nI (mtn i) := ez_83.trans (by rw [nI_clamp (n := i) (by omega)])
    refine va_iald hx hb hK hP 1 0 rfl rfl (vp_in_nI (by omega) (by omega)) dXM_goes_84 ?_
    refine lv_topi (fun z_84 ez_84 => ?_)
    obtain rfl : z_84 = mp (mtn i) := ez_84.trans (by rw [nI_clamp (n := (mtn i)) (by omega)])
    refine lv_istore_n (lv' := [(3, .int (mp (mtn i))), (0, .ref g0), (1, .int (nI i)), (2, .int (nI j))]) hx hb dXM_goes_85 rfl hl (by decide) rfl (fun ls hl => ?_)
    refine lv_iconst (v := 0) hx hb dXM_goes_86 (by decide) ?_
    refine lv_istore (lv' := [(4, .int 0), (3, .int (mp (mtn i))), (0, .ref g0), (1, .int (nI i)), (2, .int (nI j))]) hx hb dXM_goes_87 hl (by decide) rfl (fun ls hl => ?_)
    refine lv_iconst (v := 0) hx hb dXM_goes_89 (by decide) ?_
    refine lv_istore (lv' := [(5, .int 0), (4, .int 0), (3, .int (mp (mtn i))), (0, .ref g0), (1, .int (nI i)), (2, .int (nI j))]) hx hb dXM_goes_90 hl (by decide) rfl (fun ls hl => ?_)
    have hst : pM_perf mN (mp (mtn i)) 0 (vp_updL (vp_updL (vp_updL (vp_updL mw 0 (mfi ((4 * j) + 0))) 1 (mfi ((4 * j) + 1))) 2 (mfi ((4 * j) + 2))) 3 (mfi ((4 * j) + 3))) (mce i) 0 = pM_goes mN mcv mlo mp mtn mce mfi mlk mw i j := by first | (simp only [pM_goes, if_pos c_24]; done) | (simp only [pM_goes, if_pos c_24]; rfl) | rfl
    have loop : ∀ (pg : Int32) (n i0 k : Nat) (uw : Nat → Int64) (uv : Int64) (ul : Int32) (H : Heap) (locs : List Loc) (ls : Array Slot), i0 ≤ 8 → k + n = mN → pM_perf n pg i0 uw uv ul = pM_goes mN mcv mlo mp mtn mce mfi mlk mw i j → va_P (dC, dI) vwC2 [(g0, .inr (3, [.int mth, .int (nI mN), .int (nI mty), .ref e1, .ref e2, .int (nI mcl), .ref e3, .ref e4, .int (nI mrc), .ref e5, .ref e6, .ref e7, .ref e8, .int (nI mfc), .int (nI mlr), .int mld, .ref e9, .long uv, .int ul])), (e1, .inl (cI, 21, .inl mp)), (e3, .inl (cI, 61, .inl (fun q => nI (mtn q)))), (e4, .inl (cJ, 61, .inr (.inl mce))), (e5, .inl (cJ, 244, .inr (.inl mfi))), (e6, .inl (cZ, 61, .inl mlk)), (e9, .inl (cJ, 4, .inr (.inl uw)))] H → va_D A [(g0, .inr (3, [.int mth, .int (nI mN), .int (nI mty), .ref e1, .ref e2, .int (nI mcl), .ref e3, .ref e4, .int (nI mrc), .ref e5, .ref e6, .ref e7, .ref e8, .int (nI mfc), .int (nI mlr), .int mld, .ref e9, .long uv, .int ul])), (e1, .inl (cI, 21, .inl mp)), (e3, .inl (cI, 61, .inl (fun q => nI (mtn q)))), (e4, .inl (cJ, 61, .inr (.inl mce))), (e5, .inl (cJ, 244, .inr (.inl mfi))), (e6, .inl (cZ, 61, .inl mlk)), (e9, .inl (cJ, 4, .inr (.inl uw)))] → va_S A s.heap H locs → lv_has ls 7 [(5, .int (nI k)), (4, .int (nI i0)), (3, .int pg), (0, .ref g0), (1, .int (nI i)), (2, .int (nI j))] → W p l e (headSpec wsXM_goes { frames := 1, cells := 0, slots := 0, locals := 23 }).room s m ([.ref g0, .int (nI i), .int (nI j)] : List Value).toArray below meth c H locs 0 0 (MQ below (va_Qi (fun (r : Int32) (u : Int64 × Int32 × (Nat → Int64)) => (r, u) = pM_goes mN mcv mlo mp mtn mce mfi mlk mw i j) (fun (u : Int64 × Int32 × (Nat → Int64)) (t : State) => match u with | (mcv', mlo', mw') => va_P (dC, dI) vwC2 [(g0, .inr (3, [.int mth, .int (nI mN), .int (nI mty), .ref e1, .ref e2, .int (nI mcl), .ref e3, .ref e4, .int (nI mrc), .ref e5, .ref e6, .ref e7, .ref e8, .int (nI mfc), .int (nI mlr), .int mld, .ref e9, .long mcv', .int mlo'])), (e1, .inl (cI, 21, .inl mp)), (e3, .inl (cI, 61, .inl (fun q => nI (mtn q)))), (e4, .inl (cJ, 61, .inr (.inl mce))), (e5, .inl (cJ, 244, .inr (.inl mfi))), (e6, .inl (cZ, 61, .inl mlk)), (e9, .inl (cJ, 4, .inr (.inl mw')))] t.heap ∧ va_K (dC, dI) vwC2 [(cI, .int), (cZ, .boolean), (cJ, .long)] t ∧ va_D (A) [(g0, .inr (3, [.int mth, .int (nI mN), .int (nI mty), .ref e1, .ref e2, .int (nI mcl), .ref e3, .ref e4, .int (nI mrc), .ref e5, .ref e6, .ref e7, .ref e8, .int (nI mfc), .int (nI mlr), .int mld, .ref e9, .long mcv', .int mlo'])), (e1, .inl (cI, 21, .inl mp)), (e3, .inl (cI, 61, .inl (fun q => nI (mtn q)))), (e4, .inl (cJ, 61, .inr (.inl mce))), (e5, .inl (cJ, 244, .inr (.inl mfi))), (e6, .inl (cZ, 61, .inl mlk)), (e9, .inl (cJ, 4, .inr (.inl mw')))]) (A)) ([.ref g0, .int (nI i), .int (nI j)] : List Value).toArray s 0 0 A) (F0 m 92 ls []) := by
      intro pg n
      induction n with
      | zero =>
        intro i0 k uw uv ul H locs ls hi0 hk hq hP hD hS hl
        refine lv_iload hx hb dXM_goes_92 (lv_at hl 1 rfl) ?_
        refine lv_bipush (v := 8) hx hb dXM_goes_94 (by decide) ?_
        refine lv_icmp_ge (tgt := 233) hx hb dXM_goes_96 (by decide) (fun c_96 => ?_) (fun c_96 => ?_)
        · have c_96 : 8 ≤ i0 := (@nI_leI 8 i0 (by omega) (by omega)  ).mp c_96
          refine lv_iconst (v := 1) hx hb dXM_goes_233 (by decide) ?_
          have hpost : ((1 : Int32), uv, ul, uw) = pM_goes mN mcv mlo mp mtn mce mfi mlk mw i j := by rw [← hq]; conv => { rhs; rw [pM_perf] }; simp [c_96]
          exact W.iret (v := 1) hx hb hr (fun t ht hW => ⟨⟨1, (uv, ul, uw), rfl, hpost, by rw [ht]; exact hP, va_K.moved hW.alike hK, hD⟩, hS.F ht⟩) hS.2.2 dXM_goes_234
        · have c_96 : ¬ (8 ≤ i0) := mt (@nI_leI 8 i0 (by omega) (by omega)  ).mpr c_96
          refine lv_iload hx hb dXM_goes_99 (lv_at hl 0 rfl) ?_
          refine lv_aload_n hx hb dXM_goes_101 rfl (lv_at hl 3 rfl) ?_
          refine va_get (D := (dC, dI)) (ci := 3) (v := .int (nI mN)) (C := RXM) (T := TXM) (N := 19) hx hb hts (by decide +kernel) hown hK hP 0 rfl rfl 1 (by decide) (hts (.fieldLink RXM 39 "BatchClassesModel" "most" "I") (by decide +kernel)) (fun _ h9 => h9) rfl dXM_goes_102 ?_
          refine lv_icmp_ne (tgt := 111) hx hb dXM_goes_105 (by decide) (fun c_105 => absurd (by omega) (mt (@nI_eq k mN (by omega) (by omega)  ).mpr c_105)) (fun c_105 => ?_)
          refine lv_bipush (v := (-4)) hx hb dXM_goes_108 (by decide) ?_
          have hpost : (((-4) : Int32), uv, ul, uw) = pM_goes mN mcv mlo mp mtn mce mfi mlk mw i j := by rw [← hq]; conv => { rhs; rw [pM_perf] }; simp [c_96]
          exact W.iret (v := (-4)) hx hb hr (fun t ht hW => ⟨⟨(-4), (uv, ul, uw), rfl, hpost, by rw [ht]; exact hP, va_K.moved hW.alike hK, hD⟩, hS.F ht⟩) hS.2.2 dXM_goes_110
      | succ n ih =>
        intro i0 k uw uv ul H locs ls hi0 hk hq hP hD hS hl
        refine lv_iload hx hb dXM_goes_92 (lv_at hl 1 rfl) ?_
        refine lv_bipush (v := 8) hx hb dXM_goes_94 (by decide) ?_
        refine lv_icmp_ge (tgt := 233) hx hb dXM_goes_96 (by decide) (fun c_96 => ?_) (fun c_96 => ?_)
        · have c_96 : 8 ≤ i0 := (@nI_leI 8 i0 (by omega) (by omega)  ).mp c_96
          refine lv_iconst (v := 1) hx hb dXM_goes_233 (by decide) ?_
          have hpost : ((1 : Int32), uv, ul, uw) = pM_goes mN mcv mlo mp mtn mce mfi mlk mw i j := by rw [← hq]; conv => { rhs; rw [pM_perf] }; simp [c_96]
          exact W.iret (v := 1) hx hb hr (fun t ht hW => ⟨⟨1, (uv, ul, uw), rfl, hpost, by rw [ht]; exact hP, va_K.moved hW.alike hK, hD⟩, hS.F ht⟩) hS.2.2 dXM_goes_234
        · have c_96 : ¬ (8 ≤ i0) := mt (@nI_leI 8 i0 (by omega) (by omega)  ).mpr c_96
          refine lv_iload hx hb dXM_goes_99 (lv_at hl 0 rfl) ?_
          refine lv_aload_n hx hb dXM_goes_101 rfl (lv_at hl 3 rfl) ?_
          refine va_get (D := (dC, dI)) (ci := 3) (v := .int (nI mN)) (C := RXM) (T := TXM) (N := 19) hx hb hts (by decide +kernel) hown hK hP 0 rfl rfl 1 (by decide) (hts (.fieldLink RXM 39 "BatchClassesModel" "most" "I") (by decide +kernel)) (fun _ h9 => h9) rfl dXM_goes_102 ?_
          refine lv_icmp_ne (tgt := 111) hx hb dXM_goes_105 (by decide) (fun c_105 => ?_) (fun c_105 => absurd ((@nI_eq k mN (by omega) (by omega)  ).mp c_105) (by omega))
          refine lv_iinc (v := (nI (k + 1))) (lv' := [(5, .int (nI (k + 1))), (4, .int (nI i0)), (3, .int pg), (0, .ref g0), (1, .int (nI i)), (2, .int (nI j))]) hx hb dXM_goes_111 hl (k := 0) rfl (nI_add k 1) (by decide) rfl (fun ls hl => ?_)
          refine lv_iload_n hx hb dXM_goes_114 rfl (lv_at hl 2 rfl) ?_
          refine lv_iconst (v := 4) hx hb dXM_goes_115 (by decide) ?_
          refine lv_iload hx hb dXM_goes_116 (lv_at hl 1 rfl) ?_
          refine lv_imul hx hb dXM_goes_118 ?_
          refine lv_topi (fun z_118 ez_118 => ?_)
          obtain rfl : z_118 = nI (4 * i0) := ez_118.trans (pk_mul 4 i0)
          refine lv_ishr hx hb dXM_goes_119 ?_
          refine lv_bipush (v := 15) hx hb dXM_goes_120 (by decide) ?_
          refine lv_iand hx hb dXM_goes_122 ?_
          refine lv_topi (fun z_123 ez_123 => ?_)
          obtain rfl : z_123 = nI (acN pg i0) := ez_123.trans (acN_A pg (by omega))
          have hac := acN_lt pg i0
          refine lv_istore (lv' := [(6, .int (nI (acN pg i0))), (5, .int (nI (k + 1))), (4, .int (nI i0)), (3, .int pg), (0, .ref g0), (1, .int (nI i)), (2, .int (nI j))]) hx hb dXM_goes_123 hl (by decide) rfl (fun ls hl => ?_)
          refine lv_iinc (v := (nI (i0 + 1))) (lv' := [(4, .int (nI (i0 + 1))), (6, .int (nI (acN pg i0))), (5, .int (nI (k + 1))), (3, .int pg), (0, .ref g0), (1, .int (nI i)), (2, .int (nI j))]) hx hb dXM_goes_125 hl (k := 2) rfl (nI_add i0 1) (by decide) rfl (fun ls hl => ?_)
          refine lv_iload hx hb dXM_goes_128 (lv_at hl 1 rfl) ?_
          refine lv_iconst (v := 4) hx hb dXM_goes_130 (by decide) ?_
          refine lv_icmp_ne (tgt := 148) hx hb dXM_goes_131 (by decide) (fun c_131 => ?_) (fun c_131 => ?_)
          · have c_131 : ¬ ((acN pg i0) = 4) := mt (@nI_eq (acN pg i0) 4 (by omega) (by omega)  ).mpr c_131
            refine lv_iload hx hb dXM_goes_148 (lv_at hl 1 rfl) ?_
            refine lv_bipush (v := 10) hx hb dXM_goes_150 (by decide) ?_
            refine lv_icmp_ne (tgt := 158) hx hb dXM_goes_152 (by decide) (fun c_152 => ?_) (fun c_152 => ?_)
            · have c_152 : ¬ ((acN pg i0) = 10) := mt (@nI_eq (acN pg i0) 10 (by omega) (by omega)  ).mpr c_152
              refine lv_aload_n hx hb dXM_goes_158 rfl (lv_at hl 4 rfl) ?_
              refine lv_iload hx hb dXM_goes_159 (lv_at hl 1 rfl) ?_
              have hPc := hP.sub (ws' := [(g0, .inr (3, [.int mth, .int (nI mN), .int (nI mty), .ref e1, .ref e2, .int (nI mcl), .ref e3, .ref e4, .int (nI mrc), .ref e5, .ref e6, .ref e7, .ref e8, .int (nI mfc), .int (nI mlr), .int mld, .ref e9, .long uv, .int ul])), (e9, .inl (cJ, 4, .inr (.inl uw)))]) [0, 6] rfl
              have hDc := hD.sub (ws' := [(g0, .inr (3, [.int mth, .int (nI mN), .int (nI mty), .ref e1, .ref e2, .int (nI mcl), .ref e3, .ref e4, .int (nI mrc), .ref e5, .ref e6, .ref e7, .ref e8, .int (nI mfc), .int (nI mlr), .int mld, .ref e9, .long uv, .int ul])), (e9, .inl (cJ, 4, .inr (.inl uw)))]) [0, 6] (by decide) rfl
              have hFc := va_free (wc := [(g0, .inr (3, [.int mth, .int (nI mN), .int (nI mty), .ref e1, .ref e2, .int (nI mcl), .ref e3, .ref e4, .int (nI mrc), .ref e5, .ref e6, .ref e7, .ref e8, .int (nI mfc), .int (nI mlr), .int mld, .ref e9, .long uv, .int ul])), (e9, .inl (cJ, 4, .inr (.inl uw)))]) hD hS hA [0, 6] rfl
              refine va_callv (va_runV (As := [.int (nI (acN pg i0))]) (rest := []) ⟨hx, hb, hml, hown, hts⟩ (k_XM_reckon l dC dI cI cZ cJ H.size g0 e1 e2 e3 e4 e5 e6 e7 e8 e9 mth mN mty mcl mrc mfc mlr mld uv ul uw (acN pg i0) hac (fun h4 => by omega)) (cwV 1 hts gXM_goes_XM_reckon rfl rfl rfl (by decide +kernel) ⟨Nat.le_of_ble_eq_true rfl, Nat.le_of_ble_eq_true rfl⟩) ⟨fun a U g mk q => by obtain ⟨q0, q1, qP, qK, qD⟩ := q; exact ⟨q0, q1, qP, va_K.moved (u := U) (U := U.calling g mk a) (Vm.Alike.refl U.vm) qK, qD⟩, va_recv hK hPc (ci := 3) (q0 := 0) rfl rfl, fun U hU hW => ⟨rfl, by rw [hU], by rw [hU]; exact hPc, va_K.moved hW.alike hK, hDc.weaken (fun _ _ _ _ => trivial)⟩⟩ rfl rfl hl.1 rfl (lv_room (Nat.le_of_ble_eq_true rfl)) dXM_goes_161 ⟨Nat.zero_le _, Nat.zero_le _⟩) hS (fun q _ h => hFc q h) hFc (fun u t H1 locs ht hvm hw_161 hB hz1 hk1 hS => ?_)
              obtain ⟨mcv_161, mw_161⟩ := u
              obtain ⟨hP1, hK1, hD1⟩ := hB
              rw [ht] at hP1
              try dsimp only at hw_161
              obtain ⟨hP, hD⟩ := va_join (wr := [(e1, .inl (cI, 21, .inl mp)), (e3, .inl (cI, 61, .inl (fun q => nI (mtn q)))), (e4, .inl (cJ, 61, .inr (.inl mce))), (e5, .inl (cJ, 244, .inr (.inl mfi))), (e6, .inl (cZ, 61, .inl mlk))]) (w1 := [(g0, .inr (3, [.int mth, .int (nI mN), .int (nI mty), .ref e1, .ref e2, .int (nI mcl), .ref e3, .ref e4, .int (nI mrc), .ref e5, .ref e6, .ref e7, .ref e8, .int (nI mfc), .int (nI mlr), .int mld, .ref e9, .long mcv_161, .int ul])), (e9, .inl (cJ, 4, .inr (.inl mw_161)))]) hP hD [0, 6] [1, 2, 3, 4, 5] rfl rfl (by decide) (by decide) hk1 hFc hP1 hD1
              generalize H1 = H at hP hS ⊢
              have hP : va_P (dC, dI) vwC2 [(g0, .inr (3, [.int mth, .int (nI mN), .int (nI mty), .ref e1, .ref e2, .int (nI mcl), .ref e3, .ref e4, .int (nI mrc), .ref e5, .ref e6, .ref e7, .ref e8, .int (nI mfc), .int (nI mlr), .int mld, .ref e9, .long mcv_161, .int ul])), (e1, .inl (cI, 21, .inl mp)), (e3, .inl (cI, 61, .inl (fun q => nI (mtn q)))), (e4, .inl (cJ, 61, .inr (.inl mce))), (e5, .inl (cJ, 244, .inr (.inl mfi))), (e6, .inl (cZ, 61, .inl mlk)), (e9, .inl (cJ, 4, .inr (.inl mw_161)))] H := hP.sub [5, 0, 1, 2, 3, 4, 6] rfl
              have hD : va_D A [(g0, .inr (3, [.int mth, .int (nI mN), .int (nI mty), .ref e1, .ref e2, .int (nI mcl), .ref e3, .ref e4, .int (nI mrc), .ref e5, .ref e6, .ref e7, .ref e8, .int (nI mfc), .int (nI mlr), .int mld, .ref e9, .long mcv_161, .int ul])), (e1, .inl (cI, 21, .inl mp)), (e3, .inl (cI, 61, .inl (fun q => nI (mtn q)))), (e4, .inl (cJ, 61, .inr (.inl mce))), (e5, .inl (cJ, 244, .inr (.inl mfi))), (e6, .inl (cZ, 61, .inl mlk)), (e9, .inl (cJ, 4, .inr (.inl mw_161)))] := hD.sub [5, 0, 1, 2, 3, 4, 6] (by decide) rfl
              refine lv_aload_n hx hb dXM_goes_164 rfl (lv_at hl 4 rfl) ?_
              refine lv_aload_n hx hb dXM_goes_165 rfl (lv_at hl 4 rfl) ?_
              refine va_get (D := (dC, dI)) (ci := 3) (v := .int ul) (C := RXM) (T := TXM) (N := 19) hx hb hts (by decide +kernel) hown hK hP 0 rfl rfl 18 (by decide) (hts (.fieldLink RXM 66 "BatchClassesModel" "locks" "Z") (by decide +kernel)) (fun _ h9 => h9) rfl dXM_goes_166 ?_
              refine lv_if_ne (tgt := 179) hx hb dXM_goes_169 (by decide) (fun c_169 => ?_) (fun c_169 => ?_)
              · refine lv_iconst (v := 1) hx hb dXM_goes_179 (by decide) ?_
                refine lv_goto (tgt := 184) hx hb dXM_goes_180 (by decide) ?_
                refine va_put (D := (dC, dI)) (ci := 3) (v := .int 1) (ty := .boolean) (C := RXM) (T := TXM) (N := 19) hx hb hts (by decide +kernel) tyXM tyXM_ok nmXM hown hK hP hD hS 0 rfl rfl 18 (by decide) (hts (.fieldLink RXM 66 "BatchClassesModel" "locks" "Z") (by decide +kernel)) (fun _ h9 => h9) rfl (by decide +kernel) rfl rfl (Nat.le_of_ble_eq_true rfl) dXM_goes_184 (fun H locs hP hD hS => ?_)
                have hP : va_P (dC, dI) vwC2 [(g0, .inr (3, [.int mth, .int (nI mN), .int (nI mty), .ref e1, .ref e2, .int (nI mcl), .ref e3, .ref e4, .int (nI mrc), .ref e5, .ref e6, .ref e7, .ref e8, .int (nI mfc), .int (nI mlr), .int mld, .ref e9, .long mcv_161, .int 1])), (e1, .inl (cI, 21, .inl mp)), (e3, .inl (cI, 61, .inl (fun q => nI (mtn q)))), (e4, .inl (cJ, 61, .inr (.inl mce))), (e5, .inl (cJ, 244, .inr (.inl mfi))), (e6, .inl (cZ, 61, .inl mlk)), (e9, .inl (cJ, 4, .inr (.inl mw_161)))] H := hP
                have hD : va_D A [(g0, .inr (3, [.int mth, .int (nI mN), .int (nI mty), .ref e1, .ref e2, .int (nI mcl), .ref e3, .ref e4, .int (nI mrc), .ref e5, .ref e6, .ref e7, .ref e8, .int (nI mfc), .int (nI mlr), .int mld, .ref e9, .long mcv_161, .int 1])), (e1, .inl (cI, 21, .inl mp)), (e3, .inl (cI, 61, .inl (fun q => nI (mtn q)))), (e4, .inl (cJ, 61, .inr (.inl mce))), (e5, .inl (cJ, 244, .inr (.inl mfi))), (e6, .inl (cZ, 61, .inl mlk)), (e9, .inl (cJ, 4, .inr (.inl mw_161)))] := hD
                refine lv_iload hx hb dXM_goes_187 (lv_at hl 1 rfl) ?_
                refine lv_bipush (v := 6) hx hb dXM_goes_189 (by decide) ?_
                refine lv_icmp_ne (tgt := 214) hx hb dXM_goes_191 (by decide) (fun c_191 => ?_) (fun c_191 => ?_)
                · have c_191 : ¬ ((acN pg i0) = 6) := mt (@nI_eq (acN pg i0) 6 (by omega) (by omega)  ).mpr c_191
                  refine lv_iload hx hb dXM_goes_214 (lv_at hl 1 rfl) ?_
                  refine lv_bipush (v := 13) hx hb dXM_goes_216 (by decide) ?_
                  refine lv_icmp_ne (tgt := 226) hx hb dXM_goes_218 (by decide) (fun c_218 => ?_) (fun c_218 => ?_)
                  · have c_218 : ¬ ((acN pg i0) = 13) := mt (@nI_eq (acN pg i0) 13 (by omega) (by omega)  ).mpr c_218
                    refine lv_iload hx hb dXM_goes_226 (lv_at hl 0 rfl) ?_
                    refine lv_istore (lv' := [(4, .int (nI (i0 + 1))), (6, .int (nI (acN pg i0))), (5, .int (nI (k + 1))), (3, .int pg), (0, .ref g0), (1, .int (nI i)), (2, .int (nI j))]) hx hb dXM_goes_228 hl (by decide) rfl (fun ls hl => ?_)
                    refine lv_goto (tgt := 92) hx hb dXM_goes_230 (by decide) ?_
                    exact ih (i0 + 1) (k + 1) mw_161 mcv_161 1 _ _ ls (by omega) (by omega) (by rw [← hq]; conv => { rhs; rw [pM_perf] }; simp only [← hw_161]; simp [pM_nx, pM_lo, c_96, c_131, c_152, c_169, c_191, c_218]) hP hD hS (lv_sub hl [2, 0, 3, 4, 5, 6] rfl)
                  · have c_218 : (acN pg i0) = 13 := (@nI_eq (acN pg i0) 13 (by omega) (by omega)  ).mp c_218
                    refine lv_bipush (v := 8) hx hb dXM_goes_221 (by decide) ?_
                    refine lv_goto (tgt := 228) hx hb dXM_goes_223 (by decide) ?_
                    refine lv_istore (lv' := [(4, .int 8), (6, .int (nI (acN pg i0))), (5, .int (nI (k + 1))), (3, .int pg), (0, .ref g0), (1, .int (nI i)), (2, .int (nI j))]) hx hb dXM_goes_228 hl (by decide) rfl (fun ls hl => ?_)
                    refine lv_goto (tgt := 92) hx hb dXM_goes_230 (by decide) ?_
                    exact ih 8 (k + 1) mw_161 mcv_161 1 _ _ ls (by omega) (by omega) (by rw [← hq]; conv => { rhs; rw [pM_perf] }; simp only [← hw_161]; simp [pM_nx, pM_lo, c_96, c_131, c_152, c_169, c_191, c_218]) hP hD hS (lv_sub hl [2, 0, 3, 4, 5, 6] rfl)
                · have c_191 : (acN pg i0) = 6 := (@nI_eq (acN pg i0) 6 (by omega) (by omega)  ).mp c_191
                  refine lv_aload_n hx hb dXM_goes_194 rfl (lv_at hl 4 rfl) ?_
                  refine va_get (D := (dC, dI)) (ci := 3) (v := .ref e9) (C := RXM) (T := TXM) (N := 19) hx hb hts (by decide +kernel) hown hK hP 0 rfl rfl 16 (by decide) (hts (.fieldLink RXM 36 "BatchClassesModel" "now" "[J") (by decide +kernel)) (fun _ h9 => h9) rfl dXM_goes_195 ?_
                  refine lv_iconst (v := 0) hx hb dXM_goes_198 (by decide) ?_
                  refine va_lald hx hb hK hP 6 2 rfl rfl (vp_in_nI (n := 0) (by omega) (by omega)) dXM_goes_199 ?_
                  refine lv_topl (fun z_199 ez_199 => ?_)
                  obtain rfl : z_199 = mw_161 0 := ez_199
                  refine lv_aload_n hx hb dXM_goes_200 rfl (lv_at hl 4 rfl) ?_
                  refine va_get (D := (dC, dI)) (ci := 3) (v := .ref e9) (C := RXM) (T := TXM) (N := 19) hx hb hts (by decide +kernel) hown hK hP 0 rfl rfl 16 (by decide) (hts (.fieldLink RXM 36 "BatchClassesModel" "now" "[J") (by decide +kernel)) (fun _ h9 => h9) rfl dXM_goes_201 ?_
                  refine lv_iconst (v := 2) hx hb dXM_goes_204 (by decide) ?_
                  refine va_lald hx hb hK hP 6 2 rfl rfl (vp_in_nI (n := 2) (by omega) (by omega)) dXM_goes_205 ?_
                  refine lv_topl (fun z_205 ez_205 => ?_)
                  obtain rfl : z_205 = mw_161 2 := ez_205
                  refine W.lcmp hx hb dXM_goes_206 ?_
                  refine lv_if_ge (tgt := 214) hx hb dXM_goes_207 (by decide) (fun c_207 => ?_) (fun c_207 => ?_)
                  · have c_207 : (mw_161 2) ≤ (mw_161 0) := (lg_cmp_ge (mw_161 0) (mw_161 2)).mp c_207
                    refine lv_iload hx hb dXM_goes_214 (lv_at hl 1 rfl) ?_
                    refine lv_bipush (v := 13) hx hb dXM_goes_216 (by decide) ?_
                    refine lv_icmp_ne (tgt := 226) hx hb dXM_goes_218 (by decide) (fun c_218 => ?_) (fun c_218 => absurd ((@nI_eq (acN pg i0) 13 (by omega) (by omega)  ).mp c_218) (by omega))
                    refine lv_iload hx hb dXM_goes_226 (lv_at hl 0 rfl) ?_
                    refine lv_istore (lv' := [(4, .int (nI (i0 + 1))), (6, .int (nI (acN pg i0))), (5, .int (nI (k + 1))), (3, .int pg), (0, .ref g0), (1, .int (nI i)), (2, .int (nI j))]) hx hb dXM_goes_228 hl (by decide) rfl (fun ls hl => ?_)
                    refine lv_goto (tgt := 92) hx hb dXM_goes_230 (by decide) ?_
                    exact ih (i0 + 1) (k + 1) mw_161 mcv_161 1 _ _ ls (by omega) (by omega) (by rw [← hq]; conv => { rhs; rw [pM_perf] }; simp only [← hw_161]; simp [pM_nx, pM_lo, c_96, c_131, c_152, c_169, c_191, c_207]) hP hD hS (lv_sub hl [2, 0, 3, 4, 5, 6] rfl)
                  · have c_207 : ¬ ((mw_161 2) ≤ (mw_161 0)) := mt (lg_cmp_ge (mw_161 0) (mw_161 2)).mpr c_207
                    refine lv_iconst (v := 0) hx hb dXM_goes_210 (by decide) ?_
                    refine lv_goto (tgt := 228) hx hb dXM_goes_211 (by decide) ?_
                    refine lv_istore (lv' := [(4, .int 0), (6, .int (nI (acN pg i0))), (5, .int (nI (k + 1))), (3, .int pg), (0, .ref g0), (1, .int (nI i)), (2, .int (nI j))]) hx hb dXM_goes_228 hl (by decide) rfl (fun ls hl => ?_)
                    refine lv_goto (tgt := 92) hx hb dXM_goes_230 (by decide) ?_
                    exact ih 0 (k + 1) mw_161 mcv_161 1 _ _ ls (by omega) (by omega) (by rw [← hq]; conv => { rhs; rw [pM_perf] }; simp only [← hw_161]; simp [pM_nx, pM_lo, c_96, c_131, c_152, c_169, c_191, c_207]) hP hD hS (lv_sub hl [2, 0, 3, 4, 5, 6] rfl)
              · refine lv_iload hx hb dXM_goes_172 (lv_at hl 1 rfl) ?_
                refine lv_bipush (v := 7) hx hb dXM_goes_174 (by decide) ?_
                refine lv_icmp_ne (tgt := 183) hx hb dXM_goes_176 (by decide) (fun c_176 => ?_) (fun c_176 => ?_)
                · have c_176 : ¬ ((acN pg i0) = 7) := mt (@nI_eq (acN pg i0) 7 (by omega) (by omega)  ).mpr c_176
                  refine lv_iconst (v := 0) hx hb dXM_goes_183 (by decide) ?_
                  refine va_put (D := (dC, dI)) (ci := 3) (v := .int 0) (ty := .boolean) (C := RXM) (T := TXM) (N := 19) hx hb hts (by decide +kernel) tyXM tyXM_ok nmXM hown hK hP hD hS 0 rfl rfl 18 (by decide) (hts (.fieldLink RXM 66 "BatchClassesModel" "locks" "Z") (by decide +kernel)) (fun _ h9 => h9) rfl (by decide +kernel) rfl rfl (Nat.le_of_ble_eq_true rfl) dXM_goes_184 (fun H locs hP hD hS => ?_)
                  have hP : va_P (dC, dI) vwC2 [(g0, .inr (3, [.int mth, .int (nI mN), .int (nI mty), .ref e1, .ref e2, .int (nI mcl), .ref e3, .ref e4, .int (nI mrc), .ref e5, .ref e6, .ref e7, .ref e8, .int (nI mfc), .int (nI mlr), .int mld, .ref e9, .long mcv_161, .int 0])), (e1, .inl (cI, 21, .inl mp)), (e3, .inl (cI, 61, .inl (fun q => nI (mtn q)))), (e4, .inl (cJ, 61, .inr (.inl mce))), (e5, .inl (cJ, 244, .inr (.inl mfi))), (e6, .inl (cZ, 61, .inl mlk)), (e9, .inl (cJ, 4, .inr (.inl mw_161)))] H := hP
                  have hD : va_D A [(g0, .inr (3, [.int mth, .int (nI mN), .int (nI mty), .ref e1, .ref e2, .int (nI mcl), .ref e3, .ref e4, .int (nI mrc), .ref e5, .ref e6, .ref e7, .ref e8, .int (nI mfc), .int (nI mlr), .int mld, .ref e9, .long mcv_161, .int 0])), (e1, .inl (cI, 21, .inl mp)), (e3, .inl (cI, 61, .inl (fun q => nI (mtn q)))), (e4, .inl (cJ, 61, .inr (.inl mce))), (e5, .inl (cJ, 244, .inr (.inl mfi))), (e6, .inl (cZ, 61, .inl mlk)), (e9, .inl (cJ, 4, .inr (.inl mw_161)))] := hD
                  refine lv_iload hx hb dXM_goes_187 (lv_at hl 1 rfl) ?_
                  refine lv_bipush (v := 6) hx hb dXM_goes_189 (by decide) ?_
                  refine lv_icmp_ne (tgt := 214) hx hb dXM_goes_191 (by decide) (fun c_191 => ?_) (fun c_191 => ?_)
                  · have c_191 : ¬ ((acN pg i0) = 6) := mt (@nI_eq (acN pg i0) 6 (by omega) (by omega)  ).mpr c_191
                    refine lv_iload hx hb dXM_goes_214 (lv_at hl 1 rfl) ?_
                    refine lv_bipush (v := 13) hx hb dXM_goes_216 (by decide) ?_
                    refine lv_icmp_ne (tgt := 226) hx hb dXM_goes_218 (by decide) (fun c_218 => ?_) (fun c_218 => ?_)
                    · have c_218 : ¬ ((acN pg i0) = 13) := mt (@nI_eq (acN pg i0) 13 (by omega) (by omega)  ).mpr c_218
                      refine lv_iload hx hb dXM_goes_226 (lv_at hl 0 rfl) ?_
                      refine lv_istore (lv' := [(4, .int (nI (i0 + 1))), (6, .int (nI (acN pg i0))), (5, .int (nI (k + 1))), (3, .int pg), (0, .ref g0), (1, .int (nI i)), (2, .int (nI j))]) hx hb dXM_goes_228 hl (by decide) rfl (fun ls hl => ?_)
                      refine lv_goto (tgt := 92) hx hb dXM_goes_230 (by decide) ?_
                      exact ih (i0 + 1) (k + 1) mw_161 mcv_161 0 _ _ ls (by omega) (by omega) (by rw [← hq]; conv => { rhs; rw [pM_perf] }; simp only [← hw_161]; simp [pM_nx, pM_lo, c_96, c_131, c_152, c_169, c_176, c_191, c_218]) hP hD hS (lv_sub hl [2, 0, 3, 4, 5, 6] rfl)
                    · have c_218 : (acN pg i0) = 13 := (@nI_eq (acN pg i0) 13 (by omega) (by omega)  ).mp c_218
                      refine lv_bipush (v := 8) hx hb dXM_goes_221 (by decide) ?_
                      refine lv_goto (tgt := 228) hx hb dXM_goes_223 (by decide) ?_
                      refine lv_istore (lv' := [(4, .int 8), (6, .int (nI (acN pg i0))), (5, .int (nI (k + 1))), (3, .int pg), (0, .ref g0), (1, .int (nI i)), (2, .int (nI j))]) hx hb dXM_goes_228 hl (by decide) rfl (fun ls hl => ?_)
                      refine lv_goto (tgt := 92) hx hb dXM_goes_230 (by decide) ?_
                      exact ih 8 (k + 1) mw_161 mcv_161 0 _ _ ls (by omega) (by omega) (by rw [← hq]; conv => { rhs; rw [pM_perf] }; simp only [← hw_161]; simp [pM_nx, pM_lo, c_96, c_131, c_152, c_169, c_176, c_191, c_218]) hP hD hS (lv_sub hl [2, 0, 3, 4, 5, 6] rfl)
                  · have c_191 : (acN pg i0) = 6 := (@nI_eq (acN pg i0) 6 (by omega) (by omega)  ).mp c_191
                    refine lv_aload_n hx hb dXM_goes_194 rfl (lv_at hl 4 rfl) ?_
                    refine va_get (D := (dC, dI)) (ci := 3) (v := .ref e9) (C := RXM) (T := TXM) (N := 19) hx hb hts (by decide +kernel) hown hK hP 0 rfl rfl 16 (by decide) (hts (.fieldLink RXM 36 "BatchClassesModel" "now" "[J") (by decide +kernel)) (fun _ h9 => h9) rfl dXM_goes_195 ?_
                    refine lv_iconst (v := 0) hx hb dXM_goes_198 (by decide) ?_
                    refine va_lald hx hb hK hP 6 2 rfl rfl (vp_in_nI (n := 0) (by omega) (by omega)) dXM_goes_199 ?_
                    refine lv_topl (fun z_199 ez_199 => ?_)
                    obtain rfl : z_199 = mw_161 0 := ez_199
                    refine lv_aload_n hx hb dXM_goes_200 rfl (lv_at hl 4 rfl) ?_
                    refine va_get (D := (dC, dI)) (ci := 3) (v := .ref e9) (C := RXM) (T := TXM) (N := 19) hx hb hts (by decide +kernel) hown hK hP 0 rfl rfl 16 (by decide) (hts (.fieldLink RXM 36 "BatchClassesModel" "now" "[J") (by decide +kernel)) (fun _ h9 => h9) rfl dXM_goes_201 ?_
                    refine lv_iconst (v := 2) hx hb dXM_goes_204 (by decide) ?_
                    refine va_lald hx hb hK hP 6 2 rfl rfl (vp_in_nI (n := 2) (by omega) (by omega)) dXM_goes_205 ?_
                    refine lv_topl (fun z_205 ez_205 => ?_)
                    obtain rfl : z_205 = mw_161 2 := ez_205
                    refine W.lcmp hx hb dXM_goes_206 ?_
                    refine lv_if_ge (tgt := 214) hx hb dXM_goes_207 (by decide) (fun c_207 => ?_) (fun c_207 => ?_)
                    · have c_207 : (mw_161 2) ≤ (mw_161 0) := (lg_cmp_ge (mw_161 0) (mw_161 2)).mp c_207
                      refine lv_iload hx hb dXM_goes_214 (lv_at hl 1 rfl) ?_
                      refine lv_bipush (v := 13) hx hb dXM_goes_216 (by decide) ?_
                      refine lv_icmp_ne (tgt := 226) hx hb dXM_goes_218 (by decide) (fun c_218 => ?_) (fun c_218 => absurd ((@nI_eq (acN pg i0) 13 (by omega) (by omega)  ).mp c_218) (by omega))
                      refine lv_iload hx hb dXM_goes_226 (lv_at hl 0 rfl) ?_
                      refine lv_istore (lv' := [(4, .int (nI (i0 + 1))), (6, .int (nI (acN pg i0))), (5, .int (nI (k + 1))), (3, .int pg), (0, .ref g0), (1, .int (nI i)), (2, .int (nI j))]) hx hb dXM_goes_228 hl (by decide) rfl (fun ls hl => ?_)
                      refine lv_goto (tgt := 92) hx hb dXM_goes_230 (by decide) ?_
                      exact ih (i0 + 1) (k + 1) mw_161 mcv_161 0 _ _ ls (by omega) (by omega) (by rw [← hq]; conv => { rhs; rw [pM_perf] }; simp only [← hw_161]; simp [pM_nx, pM_lo, c_96, c_131, c_152, c_169, c_176, c_191, c_207]) hP hD hS (lv_sub hl [2, 0, 3, 4, 5, 6] rfl)
                    · have c_207 : ¬ ((mw_161 2) ≤ (mw_161 0)) := mt (lg_cmp_ge (mw_161 0) (mw_161 2)).mpr c_207
                      refine lv_iconst (v := 0) hx hb dXM_goes_210 (by decide) ?_
                      refine lv_goto (tgt := 228) hx hb dXM_goes_211 (by decide) ?_
                      refine lv_istore (lv' := [(4, .int 0), (6, .int (nI (acN pg i0))), (5, .int (nI (k + 1))), (3, .int pg), (0, .ref g0), (1, .int (nI i)), (2, .int (nI j))]) hx hb dXM_goes_228 hl (by decide) rfl (fun ls hl => ?_)
                      refine lv_goto (tgt := 92) hx hb dXM_goes_230 (by decide) ?_
                      exact ih 0 (k + 1) mw_161 mcv_161 0 _ _ ls (by omega) (by omega) (by rw [← hq]; conv => { rhs; rw [pM_perf] }; simp only [← hw_161]; simp [pM_nx, pM_lo, c_96, c_131, c_152, c_169, c_176, c_191, c_207]) hP hD hS (lv_sub hl [2, 0, 3, 4, 5, 6] rfl)
                · have c_176 : (acN pg i0) = 7 := (@nI_eq (acN pg i0) 7 (by omega) (by omega)  ).mp c_176
                  refine lv_iconst (v := 1) hx hb dXM_goes_179 (by decide) ?_
                  refine lv_goto (tgt := 184) hx hb dXM_goes_180 (by decide) ?_
                  refine va_put (D := (dC, dI)) (ci := 3) (v := .int 1) (ty := .boolean) (C := RXM) (T := TXM) (N := 19) hx hb hts (by decide +kernel) tyXM tyXM_ok nmXM hown hK hP hD hS 0 rfl rfl 18 (by decide) (hts (.fieldLink RXM 66 "BatchClassesModel" "locks" "Z") (by decide +kernel)) (fun _ h9 => h9) rfl (by decide +kernel) rfl rfl (Nat.le_of_ble_eq_true rfl) dXM_goes_184 (fun H locs hP hD hS => ?_)
                  have hP : va_P (dC, dI) vwC2 [(g0, .inr (3, [.int mth, .int (nI mN), .int (nI mty), .ref e1, .ref e2, .int (nI mcl), .ref e3, .ref e4, .int (nI mrc), .ref e5, .ref e6, .ref e7, .ref e8, .int (nI mfc), .int (nI mlr), .int mld, .ref e9, .long mcv_161, .int 1])), (e1, .inl (cI, 21, .inl mp)), (e3, .inl (cI, 61, .inl (fun q => nI (mtn q)))), (e4, .inl (cJ, 61, .inr (.inl mce))), (e5, .inl (cJ, 244, .inr (.inl mfi))), (e6, .inl (cZ, 61, .inl mlk)), (e9, .inl (cJ, 4, .inr (.inl mw_161)))] H := hP
                  have hD : va_D A [(g0, .inr (3, [.int mth, .int (nI mN), .int (nI mty), .ref e1, .ref e2, .int (nI mcl), .ref e3, .ref e4, .int (nI mrc), .ref e5, .ref e6, .ref e7, .ref e8, .int (nI mfc), .int (nI mlr), .int mld, .ref e9, .long mcv_161, .int 1])), (e1, .inl (cI, 21, .inl mp)), (e3, .inl (cI, 61, .inl (fun q => nI (mtn q)))), (e4, .inl (cJ, 61, .inr (.inl mce))), (e5, .inl (cJ, 244, .inr (.inl mfi))), (e6, .inl (cZ, 61, .inl mlk)), (e9, .inl (cJ, 4, .inr (.inl mw_161)))] := hD
                  refine lv_iload hx hb dXM_goes_187 (lv_at hl 1 rfl) ?_
                  refine lv_bipush (v := 6) hx hb dXM_goes_189 (by decide) ?_
                  refine lv_icmp_ne (tgt := 214) hx hb dXM_goes_191 (by decide) (fun c_191 => ?_) (fun c_191 => absurd ((@nI_eq (acN pg i0) 6 (by omega) (by omega)  ).mp c_191) (by omega))
                  refine lv_iload hx hb dXM_goes_214 (lv_at hl 1 rfl) ?_
                  refine lv_bipush (v := 13) hx hb dXM_goes_216 (by decide) ?_
                  refine lv_icmp_ne (tgt := 226) hx hb dXM_goes_218 (by decide) (fun c_218 => ?_) (fun c_218 => absurd ((@nI_eq (acN pg i0) 13 (by omega) (by omega)  ).mp c_218) (by omega))
                  refine lv_iload hx hb dXM_goes_226 (lv_at hl 0 rfl) ?_
                  refine lv_istore (lv' := [(4, .int (nI (i0 + 1))), (6, .int (nI (acN pg i0))), (5, .int (nI (k + 1))), (3, .int pg), (0, .ref g0), (1, .int (nI i)), (2, .int (nI j))]) hx hb dXM_goes_228 hl (by decide) rfl (fun ls hl => ?_)
                  refine lv_goto (tgt := 92) hx hb dXM_goes_230 (by decide) ?_
                  exact ih (i0 + 1) (k + 1) mw_161 mcv_161 1 _ _ ls (by omega) (by omega) (by rw [← hq]; conv => { rhs; rw [pM_perf] }; simp only [← hw_161]; simp [pM_nx, pM_lo, c_96, c_131, c_152, c_169, c_176]) hP hD hS (lv_sub hl [2, 0, 3, 4, 5, 6] rfl)
            · have c_152 : (acN pg i0) = 10 := (@nI_eq (acN pg i0) 10 (by omega) (by omega)  ).mp c_152
              refine lv_bipush (v := (-3)) hx hb dXM_goes_155 (by decide) ?_
              have hpost : (((-3) : Int32), uv, ul, uw) = pM_goes mN mcv mlo mp mtn mce mfi mlk mw i j := by rw [← hq]; conv => { rhs; rw [pM_perf] }; simp [c_96, c_131, c_152]
              exact W.iret (v := (-3)) hx hb hr (fun t ht hW => ⟨⟨(-3), (uv, ul, uw), rfl, hpost, by rw [ht]; exact hP, va_K.moved hW.alike hK, hD⟩, hS.F ht⟩) hS.2.2 dXM_goes_157
          · have c_131 : (acN pg i0) = 4 := (@nI_eq (acN pg i0) 4 (by omega) (by omega)  ).mp c_131
            refine lv_aload_n hx hb dXM_goes_134 rfl (lv_at hl 4 rfl) ?_
            refine va_get (D := (dC, dI)) (ci := 3) (v := .ref e9) (C := RXM) (T := TXM) (N := 19) hx hb hts (by decide +kernel) hown hK hP 0 rfl rfl 16 (by decide) (hts (.fieldLink RXM 36 "BatchClassesModel" "now" "[J") (by decide +kernel)) (fun _ h9 => h9) rfl dXM_goes_135 ?_
            refine lv_iconst (v := 1) hx hb dXM_goes_138 (by decide) ?_
            refine va_lald hx hb hK hP 6 2 rfl rfl (vp_in_nI (n := 1) (by omega) (by omega)) dXM_goes_139 ?_
            refine lv_topl (fun z_139 ez_139 => ?_)
            obtain rfl : z_139 = uw 1 := ez_139
            refine lv_lconst (v := 0) hx hb dXM_goes_140 (by decide) ?_
            refine W.lcmp hx hb dXM_goes_141 ?_
            refine lv_if_ne (tgt := 148) hx hb dXM_goes_142 (by decide) (fun c_142 => ?_) (fun c_142 => ?_)
            · have c_142 : ¬ ((uw 1) = 0) := mt (lg_cmp_eq (uw 1) 0).mpr c_142
              refine lv_iload hx hb dXM_goes_148 (lv_at hl 1 rfl) ?_
              refine lv_bipush (v := 10) hx hb dXM_goes_150 (by decide) ?_
              refine lv_icmp_ne (tgt := 158) hx hb dXM_goes_152 (by decide) (fun c_152 => ?_) (fun c_152 => absurd ((@nI_eq (acN pg i0) 10 (by omega) (by omega)  ).mp c_152) (by omega))
              refine lv_aload_n hx hb dXM_goes_158 rfl (lv_at hl 4 rfl) ?_
              refine lv_iload hx hb dXM_goes_159 (lv_at hl 1 rfl) ?_
              have hPc := hP.sub (ws' := [(g0, .inr (3, [.int mth, .int (nI mN), .int (nI mty), .ref e1, .ref e2, .int (nI mcl), .ref e3, .ref e4, .int (nI mrc), .ref e5, .ref e6, .ref e7, .ref e8, .int (nI mfc), .int (nI mlr), .int mld, .ref e9, .long uv, .int ul])), (e9, .inl (cJ, 4, .inr (.inl uw)))]) [0, 6] rfl
              have hDc := hD.sub (ws' := [(g0, .inr (3, [.int mth, .int (nI mN), .int (nI mty), .ref e1, .ref e2, .int (nI mcl), .ref e3, .ref e4, .int (nI mrc), .ref e5, .ref e6, .ref e7, .ref e8, .int (nI mfc), .int (nI mlr), .int mld, .ref e9, .long uv, .int ul])), (e9, .inl (cJ, 4, .inr (.inl uw)))]) [0, 6] (by decide) rfl
              have hFc := va_free (wc := [(g0, .inr (3, [.int mth, .int (nI mN), .int (nI mty), .ref e1, .ref e2, .int (nI mcl), .ref e3, .ref e4, .int (nI mrc), .ref e5, .ref e6, .ref e7, .ref e8, .int (nI mfc), .int (nI mlr), .int mld, .ref e9, .long uv, .int ul])), (e9, .inl (cJ, 4, .inr (.inl uw)))]) hD hS hA [0, 6] rfl
              refine va_callv (va_runV (As := [.int (nI (acN pg i0))]) (rest := []) ⟨hx, hb, hml, hown, hts⟩ (k_XM_reckon l dC dI cI cZ cJ H.size g0 e1 e2 e3 e4 e5 e6 e7 e8 e9 mth mN mty mcl mrc mfc mlr mld uv ul uw (acN pg i0) hac (fun h4 => by exact c_142)) (cwV 1 hts gXM_goes_XM_reckon rfl rfl rfl (by decide +kernel) ⟨Nat.le_of_ble_eq_true rfl, Nat.le_of_ble_eq_true rfl⟩) ⟨fun a U g mk q => by obtain ⟨q0, q1, qP, qK, qD⟩ := q; exact ⟨q0, q1, qP, va_K.moved (u := U) (U := U.calling g mk a) (Vm.Alike.refl U.vm) qK, qD⟩, va_recv hK hPc (ci := 3) (q0 := 0) rfl rfl, fun U hU hW => ⟨rfl, by rw [hU], by rw [hU]; exact hPc, va_K.moved hW.alike hK, hDc.weaken (fun _ _ _ _ => trivial)⟩⟩ rfl rfl hl.1 rfl (lv_room (Nat.le_of_ble_eq_true rfl)) dXM_goes_161 ⟨Nat.zero_le _, Nat.zero_le _⟩) hS (fun q _ h => hFc q h) hFc (fun u t H1 locs ht hvm hw_161 hB hz1 hk1 hS => ?_)
              obtain ⟨mcv_161, mw_161⟩ := u
              obtain ⟨hP1, hK1, hD1⟩ := hB
              rw [ht] at hP1
              try dsimp only at hw_161
              obtain ⟨hP, hD⟩ := va_join (wr := [(e1, .inl (cI, 21, .inl mp)), (e3, .inl (cI, 61, .inl (fun q => nI (mtn q)))), (e4, .inl (cJ, 61, .inr (.inl mce))), (e5, .inl (cJ, 244, .inr (.inl mfi))), (e6, .inl (cZ, 61, .inl mlk))]) (w1 := [(g0, .inr (3, [.int mth, .int (nI mN), .int (nI mty), .ref e1, .ref e2, .int (nI mcl), .ref e3, .ref e4, .int (nI mrc), .ref e5, .ref e6, .ref e7, .ref e8, .int (nI mfc), .int (nI mlr), .int mld, .ref e9, .long mcv_161, .int ul])), (e9, .inl (cJ, 4, .inr (.inl mw_161)))]) hP hD [0, 6] [1, 2, 3, 4, 5] rfl rfl (by decide) (by decide) hk1 hFc hP1 hD1
              generalize H1 = H at hP hS ⊢
              have hP : va_P (dC, dI) vwC2 [(g0, .inr (3, [.int mth, .int (nI mN), .int (nI mty), .ref e1, .ref e2, .int (nI mcl), .ref e3, .ref e4, .int (nI mrc), .ref e5, .ref e6, .ref e7, .ref e8, .int (nI mfc), .int (nI mlr), .int mld, .ref e9, .long mcv_161, .int ul])), (e1, .inl (cI, 21, .inl mp)), (e3, .inl (cI, 61, .inl (fun q => nI (mtn q)))), (e4, .inl (cJ, 61, .inr (.inl mce))), (e5, .inl (cJ, 244, .inr (.inl mfi))), (e6, .inl (cZ, 61, .inl mlk)), (e9, .inl (cJ, 4, .inr (.inl mw_161)))] H := hP.sub [5, 0, 1, 2, 3, 4, 6] rfl
              have hD : va_D A [(g0, .inr (3, [.int mth, .int (nI mN), .int (nI mty), .ref e1, .ref e2, .int (nI mcl), .ref e3, .ref e4, .int (nI mrc), .ref e5, .ref e6, .ref e7, .ref e8, .int (nI mfc), .int (nI mlr), .int mld, .ref e9, .long mcv_161, .int ul])), (e1, .inl (cI, 21, .inl mp)), (e3, .inl (cI, 61, .inl (fun q => nI (mtn q)))), (e4, .inl (cJ, 61, .inr (.inl mce))), (e5, .inl (cJ, 244, .inr (.inl mfi))), (e6, .inl (cZ, 61, .inl mlk)), (e9, .inl (cJ, 4, .inr (.inl mw_161)))] := hD.sub [5, 0, 1, 2, 3, 4, 6] (by decide) rfl
              refine lv_aload_n hx hb dXM_goes_164 rfl (lv_at hl 4 rfl) ?_
              refine lv_aload_n hx hb dXM_goes_165 rfl (lv_at hl 4 rfl) ?_
              refine va_get (D := (dC, dI)) (ci := 3) (v := .int ul) (C := RXM) (T := TXM) (N := 19) hx hb hts (by decide +kernel) hown hK hP 0 rfl rfl 18 (by decide) (hts (.fieldLink RXM 66 "BatchClassesModel" "locks" "Z") (by decide +kernel)) (fun _ h9 => h9) rfl dXM_goes_166 ?_
              refine lv_if_ne (tgt := 179) hx hb dXM_goes_169 (by decide) (fun c_169 => ?_) (fun c_169 => ?_)
              · refine lv_iconst (v := 1) hx hb dXM_goes_179 (by decide) ?_
                refine lv_goto (tgt := 184) hx hb dXM_goes_180 (by decide) ?_
                refine va_put (D := (dC, dI)) (ci := 3) (v := .int 1) (ty := .boolean) (C := RXM) (T := TXM) (N := 19) hx hb hts (by decide +kernel) tyXM tyXM_ok nmXM hown hK hP hD hS 0 rfl rfl 18 (by decide) (hts (.fieldLink RXM 66 "BatchClassesModel" "locks" "Z") (by decide +kernel)) (fun _ h9 => h9) rfl (by decide +kernel) rfl rfl (Nat.le_of_ble_eq_true rfl) dXM_goes_184 (fun H locs hP hD hS => ?_)
                have hP : va_P (dC, dI) vwC2 [(g0, .inr (3, [.int mth, .int (nI mN), .int (nI mty), .ref e1, .ref e2, .int (nI mcl), .ref e3, .ref e4, .int (nI mrc), .ref e5, .ref e6, .ref e7, .ref e8, .int (nI mfc), .int (nI mlr), .int mld, .ref e9, .long mcv_161, .int 1])), (e1, .inl (cI, 21, .inl mp)), (e3, .inl (cI, 61, .inl (fun q => nI (mtn q)))), (e4, .inl (cJ, 61, .inr (.inl mce))), (e5, .inl (cJ, 244, .inr (.inl mfi))), (e6, .inl (cZ, 61, .inl mlk)), (e9, .inl (cJ, 4, .inr (.inl mw_161)))] H := hP
                have hD : va_D A [(g0, .inr (3, [.int mth, .int (nI mN), .int (nI mty), .ref e1, .ref e2, .int (nI mcl), .ref e3, .ref e4, .int (nI mrc), .ref e5, .ref e6, .ref e7, .ref e8, .int (nI mfc), .int (nI mlr), .int mld, .ref e9, .long mcv_161, .int 1])), (e1, .inl (cI, 21, .inl mp)), (e3, .inl (cI, 61, .inl (fun q => nI (mtn q)))), (e4, .inl (cJ, 61, .inr (.inl mce))), (e5, .inl (cJ, 244, .inr (.inl mfi))), (e6, .inl (cZ, 61, .inl mlk)), (e9, .inl (cJ, 4, .inr (.inl mw_161)))] := hD
                refine lv_iload hx hb dXM_goes_187 (lv_at hl 1 rfl) ?_
                refine lv_bipush (v := 6) hx hb dXM_goes_189 (by decide) ?_
                refine lv_icmp_ne (tgt := 214) hx hb dXM_goes_191 (by decide) (fun c_191 => ?_) (fun c_191 => absurd ((@nI_eq (acN pg i0) 6 (by omega) (by omega)  ).mp c_191) (by omega))
                refine lv_iload hx hb dXM_goes_214 (lv_at hl 1 rfl) ?_
                refine lv_bipush (v := 13) hx hb dXM_goes_216 (by decide) ?_
                refine lv_icmp_ne (tgt := 226) hx hb dXM_goes_218 (by decide) (fun c_218 => ?_) (fun c_218 => absurd ((@nI_eq (acN pg i0) 13 (by omega) (by omega)  ).mp c_218) (by omega))
                refine lv_iload hx hb dXM_goes_226 (lv_at hl 0 rfl) ?_
                refine lv_istore (lv' := [(4, .int (nI (i0 + 1))), (6, .int (nI (acN pg i0))), (5, .int (nI (k + 1))), (3, .int pg), (0, .ref g0), (1, .int (nI i)), (2, .int (nI j))]) hx hb dXM_goes_228 hl (by decide) rfl (fun ls hl => ?_)
                refine lv_goto (tgt := 92) hx hb dXM_goes_230 (by decide) ?_
                exact ih (i0 + 1) (k + 1) mw_161 mcv_161 1 _ _ ls (by omega) (by omega) (by rw [← hq]; conv => { rhs; rw [pM_perf] }; simp only [← hw_161]; simp [pM_nx, pM_lo, c_96, c_131, c_142, c_169]) hP hD hS (lv_sub hl [2, 0, 3, 4, 5, 6] rfl)
              · refine lv_iload hx hb dXM_goes_172 (lv_at hl 1 rfl) ?_
                refine lv_bipush (v := 7) hx hb dXM_goes_174 (by decide) ?_
                refine lv_icmp_ne (tgt := 183) hx hb dXM_goes_176 (by decide) (fun c_176 => ?_) (fun c_176 => absurd ((@nI_eq (acN pg i0) 7 (by omega) (by omega)  ).mp c_176) (by omega))
                refine lv_iconst (v := 0) hx hb dXM_goes_183 (by decide) ?_
                refine va_put (D := (dC, dI)) (ci := 3) (v := .int 0) (ty := .boolean) (C := RXM) (T := TXM) (N := 19) hx hb hts (by decide +kernel) tyXM tyXM_ok nmXM hown hK hP hD hS 0 rfl rfl 18 (by decide) (hts (.fieldLink RXM 66 "BatchClassesModel" "locks" "Z") (by decide +kernel)) (fun _ h9 => h9) rfl (by decide +kernel) rfl rfl (Nat.le_of_ble_eq_true rfl) dXM_goes_184 (fun H locs hP hD hS => ?_)
                have hP : va_P (dC, dI) vwC2 [(g0, .inr (3, [.int mth, .int (nI mN), .int (nI mty), .ref e1, .ref e2, .int (nI mcl), .ref e3, .ref e4, .int (nI mrc), .ref e5, .ref e6, .ref e7, .ref e8, .int (nI mfc), .int (nI mlr), .int mld, .ref e9, .long mcv_161, .int 0])), (e1, .inl (cI, 21, .inl mp)), (e3, .inl (cI, 61, .inl (fun q => nI (mtn q)))), (e4, .inl (cJ, 61, .inr (.inl mce))), (e5, .inl (cJ, 244, .inr (.inl mfi))), (e6, .inl (cZ, 61, .inl mlk)), (e9, .inl (cJ, 4, .inr (.inl mw_161)))] H := hP
                have hD : va_D A [(g0, .inr (3, [.int mth, .int (nI mN), .int (nI mty), .ref e1, .ref e2, .int (nI mcl), .ref e3, .ref e4, .int (nI mrc), .ref e5, .ref e6, .ref e7, .ref e8, .int (nI mfc), .int (nI mlr), .int mld, .ref e9, .long mcv_161, .int 0])), (e1, .inl (cI, 21, .inl mp)), (e3, .inl (cI, 61, .inl (fun q => nI (mtn q)))), (e4, .inl (cJ, 61, .inr (.inl mce))), (e5, .inl (cJ, 244, .inr (.inl mfi))), (e6, .inl (cZ, 61, .inl mlk)), (e9, .inl (cJ, 4, .inr (.inl mw_161)))] := hD
                refine lv_iload hx hb dXM_goes_187 (lv_at hl 1 rfl) ?_
                refine lv_bipush (v := 6) hx hb dXM_goes_189 (by decide) ?_
                refine lv_icmp_ne (tgt := 214) hx hb dXM_goes_191 (by decide) (fun c_191 => ?_) (fun c_191 => absurd ((@nI_eq (acN pg i0) 6 (by omega) (by omega)  ).mp c_191) (by omega))
                refine lv_iload hx hb dXM_goes_214 (lv_at hl 1 rfl) ?_
                refine lv_bipush (v := 13) hx hb dXM_goes_216 (by decide) ?_
                refine lv_icmp_ne (tgt := 226) hx hb dXM_goes_218 (by decide) (fun c_218 => ?_) (fun c_218 => absurd ((@nI_eq (acN pg i0) 13 (by omega) (by omega)  ).mp c_218) (by omega))
                refine lv_iload hx hb dXM_goes_226 (lv_at hl 0 rfl) ?_
                refine lv_istore (lv' := [(4, .int (nI (i0 + 1))), (6, .int (nI (acN pg i0))), (5, .int (nI (k + 1))), (3, .int pg), (0, .ref g0), (1, .int (nI i)), (2, .int (nI j))]) hx hb dXM_goes_228 hl (by decide) rfl (fun ls hl => ?_)
                refine lv_goto (tgt := 92) hx hb dXM_goes_230 (by decide) ?_
                exact ih (i0 + 1) (k + 1) mw_161 mcv_161 0 _ _ ls (by omega) (by omega) (by rw [← hq]; conv => { rhs; rw [pM_perf] }; simp only [← hw_161]; simp [pM_nx, pM_lo, c_96, c_131, c_142, c_169]) hP hD hS (lv_sub hl [2, 0, 3, 4, 5, 6] rfl)
            · have c_142 : (uw 1) = 0 := (lg_cmp_eq (uw 1) 0).mp c_142
              refine lv_bipush (v := (-2)) hx hb dXM_goes_145 (by decide) ?_
              have hpost : (((-2) : Int32), uv, ul, uw) = pM_goes mN mcv mlo mp mtn mce mfi mlk mw i j := by rw [← hq]; conv => { rhs; rw [pM_perf] }; simp [c_96, c_131, c_142]
              exact W.iret (v := (-2)) hx hb hr (fun t ht hW => ⟨⟨(-2), (uv, ul, uw), rfl, hpost, by rw [ht]; exact hP, va_K.moved hW.alike hK, hD⟩, hS.F ht⟩) hS.2.2 dXM_goes_147
    exact loop _ mN 0 0 _ _ _ _ _ ls (by omega) (by omega) hst hP hD hS (lv_sub hl [0, 1, 2, 3, 4, 5] rfl)
  · refine lv_bipush (v := (-5)) hx hb dXM_goes_27 (by decide) ?_
    have hpost : (((-5) : Int32), mcv, mlo, mw) = pM_goes mN mcv mlo mp mtn mce mfi mlk mw i j := by first | (simp only [pM_goes, if_neg c_24]; done) | (simp only [pM_goes, if_neg c_24]; rfl) | rfl
    exact W.iret (v := (-5)) hx hb hr (fun t ht hW => ⟨⟨(-5), (mcv, mlo, mw), rfl, hpost, by rw [ht]; exact hP, va_K.moved hW.alike hK, hD⟩, hS.F ht⟩) hS.2.2 dXM_goes_29
