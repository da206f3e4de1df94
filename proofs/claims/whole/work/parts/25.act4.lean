set_option maxHeartbeats 8000000 in
set_option maxRecDepth 100000 in
theorem law_a9 {p : Program} {l : Launch} {e : Env} {s : State} {m : MethodId} {below : List Frame} {meth : Method} {c : Code} {dC : Nat → ClassId} {dI : Nat → Nat → Nat} {b L : Nat} {xs : Nat → Int32} (cI cZ cJ : ClassId) (hL : L ≤ 3073) (C0 : lw_At p s m meth c b L xs) (hN : nwB s) (sa sb : Nat) (hlt : l.stackTraces = false) (hT : thX sa sb s) (hSU : vx_Zq Bundle.tN "UNASSIGNED_STACK" Bundle.steD (fun q : Nat => s.heap.size ≤ q) s s.heap) (hSV : vx_Zq Bundle.tN "SUPPRESSED_SENTINEL" Bundle.listD (fun q : Nat => s.heap.size ≤ q) s s.heap) (hK : va_K (dC, dI) vwC2 [(cI, .int), (cZ, .boolean), (cJ, .long)] s) (h0 h1 h2 a1 a2 a3 a4 a5 a6 a7 a8 b1 b2 b3 g0 e1 e2 e3 e4 e5 e6 e7 e8 e9 oa : Nat) (n jj : Nat) (N0 : (Nat)) (ty : (Nat)) (cl : (Nat)) (rc : (Nat)) (lr : (Nat)) (ld : Int32) (ta : Int64) (tb : Int64) (tc : Int64) (td : Int64) (te : Int64) (tk : Int32) (cn : (Nat)) (pr : Nat → Int32) (sf : Nat → Int32) (tn : Nat → Nat) (ce : Nat → Int64) (gd : Nat → Nat) (fi : Nat → Int64) (lk : Nat → Int32) (db : Nat → Int64) (o1 : Nat → Int32) (o2 : Nat → Int32) (o3 : Nat → Int32) (mth : Int32) (mfc : (Nat)) (mcv : Int64) (mlo : Int32) (mp : Nat → Int32) (msf : Nat → Int32) (mtn : Nat → Nat) (mce : Nat → Int64) (mfi : Nat → Int64) (mlk : Nat → Int32) (mdn : Nat → Int32) (mfl : Nat → Int32) (mw : Nat → Int64) (ou : Nat → Int64) (H : Heap) (locs : List Loc) (ls : Array Slot) (ih : lawH p l e s m below meth c dC dI b L cI cZ cJ h0 h1 h2 a1 a2 a3 a4 a5 a6 a7 a8 b1 b2 b3 g0 e1 e2 e3 e4 e5 e6 e7 e8 e9 oa n) (hn : L ≤ 6 * (jj + (n + 1))) (c_40 : ¬ (L < 6 * jj + 1 + 6)) (hmf : mfc ≤ 60 * jj ∧ jj ≤ 512) (hR : RA N0 ty cl rc lr ld cn pr sf tn ce gd fi lk db o1 o2 o3 mfc mp msf mtn mce mfi mlk mdn mfl) (hP : va_P (dC, dI) vwC2 [(h0, .inr (2, [.int (nI N0), .ref h1, .ref h2, .int (nI ty), .ref a1, .ref a2, .int (nI cl), .ref a3, .ref a4, .ref a5, .int (nI rc), .ref a6, .ref a7, .ref a8, .int (nI lr), .int ld])), (h1, .inr (1, [.long ta, .long tb, .long tc, .long td, .long te, .int tk])), (h2, .inr (0, [.int (nI cn), .ref b1, .ref b2, .ref b3])), (a1, .inl (cI, 20, .inl pr)), (a2, .inl (cZ, 20, .inl sf)), (a3, .inl (cI, 60, .inl (fun q => nI (tn q)))), (a4, .inl (cJ, 60, .inr (.inl ce))), (a5, .inl (cI, 60, .inl (fun q => nI (gd q)))), (a6, .inl (cJ, 240, .inr (.inl fi))), (a7, .inl (cZ, 60, .inl lk)), (a8, .inl (cJ, 60, .inr (.inl db))), (b1, .inl (cI, 100, .inl o1)), (b2, .inl (cI, 100, .inl o2)), (b3, .inl (cI, 100, .inl o3)), (g0, .inr (3, [.int mth, .int (nI N0), .int (nI ty), .ref e1, .ref e2, .int (nI cl), .ref e3, .ref e4, .int (nI rc), .ref e5, .ref e6, .ref e7, .ref e8, .int (nI mfc), .int (nI lr), .int ld, .ref e9, .long mcv, .int mlo])), (e1, .inl (cI, 21, .inl mp)), (e2, .inl (cZ, 21, .inl msf)), (e3, .inl (cI, 61, .inl (fun q => nI (mtn q)))), (e4, .inl (cJ, 61, .inr (.inl mce))), (e5, .inl (cJ, 244, .inr (.inl mfi))), (e6, .inl (cZ, 61, .inl mlk)), (e7, .inl (cZ, 3721, .inl mdn)), (e8, .inl (cI, 300, .inl mfl)), (e9, .inl (cJ, 4, .inr (.inl mw))), (oa, .inl (cJ, 1, .inr (.inl ou)))] H) (hD : va_D (fun q : Nat => s.heap.size ≤ q) [(h0, .inr (2, [.int (nI N0), .ref h1, .ref h2, .int (nI ty), .ref a1, .ref a2, .int (nI cl), .ref a3, .ref a4, .ref a5, .int (nI rc), .ref a6, .ref a7, .ref a8, .int (nI lr), .int ld])), (h1, .inr (1, [.long ta, .long tb, .long tc, .long td, .long te, .int tk])), (h2, .inr (0, [.int (nI cn), .ref b1, .ref b2, .ref b3])), (a1, .inl (cI, 20, .inl pr)), (a2, .inl (cZ, 20, .inl sf)), (a3, .inl (cI, 60, .inl (fun q => nI (tn q)))), (a4, .inl (cJ, 60, .inr (.inl ce))), (a5, .inl (cI, 60, .inl (fun q => nI (gd q)))), (a6, .inl (cJ, 240, .inr (.inl fi))), (a7, .inl (cZ, 60, .inl lk)), (a8, .inl (cJ, 60, .inr (.inl db))), (b1, .inl (cI, 100, .inl o1)), (b2, .inl (cI, 100, .inl o2)), (b3, .inl (cI, 100, .inl o3)), (g0, .inr (3, [.int mth, .int (nI N0), .int (nI ty), .ref e1, .ref e2, .int (nI cl), .ref e3, .ref e4, .int (nI rc), .ref e5, .ref e6, .ref e7, .ref e8, .int (nI mfc), .int (nI lr), .int ld, .ref e9, .long mcv, .int mlo])), (e1, .inl (cI, 21, .inl mp)), (e2, .inl (cZ, 21, .inl msf)), (e3, .inl (cI, 61, .inl (fun q => nI (mtn q)))), (e4, .inl (cJ, 61, .inr (.inl mce))), (e5, .inl (cJ, 244, .inr (.inl mfi))), (e6, .inl (cZ, 61, .inl mlk)), (e7, .inl (cZ, 3721, .inl mdn)), (e8, .inl (cI, 300, .inl mfl)), (e9, .inl (cJ, 4, .inr (.inl mw))), (oa, .inl (cJ, 1, .inr (.inl ou)))]) (hS : va_S (fun q : Nat => s.heap.size ≤ q) s.heap H locs) (hl : lv_has ls 8 [(4, .int (nI (6 * jj + 1))), (3, .ref oa), (2, .ref g0), (1, .ref h0), (0, .ref b)]) : W p l e room_1 s m #[Value.ref b] below meth c H locs (25 + jj) (5420 + 6 * jj) (lw_Z below #[Value.ref b] s) (F0 m 459 ls []) := by
  obtain ⟨hx, hb, hr, hml, hown, hts, hX, hbl, hlocks, hgv⟩ := C0
  have htsT := hts
  have htsM := fun w h => hts w (wsML_in w h)
  have htsH := fun w h => hts w (wsHL_in w h)
  have hts := fun w h => hts w (wsL_law_in w h)
  have hA : ∀ q : Nat, s.heap.size ≤ q → (fun q : Nat => s.heap.size ≤ q) q := fun _ h => h
  have hbA : ¬ (fun q : Nat => s.heap.size ≤ q) b := Nat.not_le.mpr hbl
  have hcw := htsT (.constantLong RL 42 4294967295) (by decide +kernel)
  have hgd : ∀ q, q < 60 → gd q ≤ 60 := fun q hq => by rw [hR.2.2.2.2.2.2.2.1 q hq]; exact Nat.le_trans (pM_top_le mdn (q + 1) rc) hR.1.2.2.2.2.1
  have htm : ∀ q, 1 ≤ q → q ≤ cl → 1 ≤ mtn q ∧ mtn q ≤ 20 := fun q h1 h2 => by
    have u1 := hR.2.2.1.1 (q - 1) (by have := hR.1.2.2.2.1; omega)
    have u2 := hR.2.2.1.2 (q - 1) (by omega)
    rw [show q - 1 + 1 = q by omega] at u1
    have u3 := hR.1.2.2.1
    omega
  have hbN := hR.1.2.1
  have hbt := hR.1.2.2.1
  have hbc := hR.1.2.2.2.1
  have hbr := hR.1.2.2.2.2.1
  have hbl2 := hR.1.2.2.2.2.2.1
  refine lv_aload_n hx hb dL_law_459 rfl (lv_at hl 3 rfl) ?_
  refine lv_aload_n hx hb dL_law_460 rfl (lv_at hl 4 rfl) ?_
  refine lv_iload hx hb dL_law_461 (lv_at hl 0 rfl) ?_
  refine lv_iconst (v := 1) hx hb dL_law_463 (by decide) ?_
  refine lv_iadd hx hb dL_law_464 ?_
  refine lv_topi (fun z_464 ez_464 => ?_)
  obtain rfl : z_464 = nI ((6 * jj + 1) + 1) := ez_464.trans (nI_add (6 * jj + 1) 1)
  refine va_sld hx hb hX hbl hbA hS (vp_in_nI (by omega) (by omega)) dL_law_465 ?_
  refine lv_topi (fun z_465 ez_465 => ?_)
  obtain rfl : z_465 = xs ((6 * jj + 1) + 1) := ez_465.trans (by rw [nI_clamp (n := ((6 * jj + 1) + 1)) (by omega)])
  refine lv_aload_n hx hb dL_law_466 rfl (lv_at hl 4 rfl) ?_
  refine lv_iload hx hb dL_law_467 (lv_at hl 0 rfl) ?_
  refine lv_iconst (v := 2) hx hb dL_law_469 (by decide) ?_
  refine lv_iadd hx hb dL_law_470 ?_
  refine lv_topi (fun z_470 ez_470 => ?_)
  obtain rfl : z_470 = nI ((6 * jj + 1) + 2) := ez_470.trans (nI_add (6 * jj + 1) 2)
  refine va_sld hx hb hX hbl hbA hS (vp_in_nI (by omega) (by omega)) dL_law_471 ?_
  refine lv_topi (fun z_471 ez_471 => ?_)
  obtain rfl : z_471 = xs ((6 * jj + 1) + 2) := ez_471.trans (by rw [nI_clamp (n := ((6 * jj + 1) + 2)) (by omega)])
  refine lv_i2l (v := (xs ((6 * jj + 1) + 2)).toInt64) hx hb dL_law_472 rfl ?_
  refine lv_bipush (v := 32) hx hb dL_law_473 (by decide) ?_
  refine lv_lshl (v := (((xs ((6 * jj + 1) + 2)).toInt64) <<< ((32 : Int32).toInt64 &&& 63))) hx hb dL_law_475 rfl ?_
  refine lv_aload_n hx hb dL_law_476 rfl (lv_at hl 4 rfl) ?_
  refine lv_iload hx hb dL_law_477 (lv_at hl 0 rfl) ?_
  refine lv_iconst (v := 3) hx hb dL_law_479 (by decide) ?_
  refine lv_iadd hx hb dL_law_480 ?_
  refine lv_topi (fun z_480 ez_480 => ?_)
  obtain rfl : z_480 = nI ((6 * jj + 1) + 3) := ez_480.trans (nI_add (6 * jj + 1) 3)
  refine va_sld hx hb hX hbl hbA hS (vp_in_nI (by omega) (by omega)) dL_law_481 ?_
  refine lv_topi (fun z_481 ez_481 => ?_)
  obtain rfl : z_481 = xs ((6 * jj + 1) + 3) := ez_481.trans (by rw [nI_clamp (n := ((6 * jj + 1) + 3)) (by omega)])
  refine lv_i2l (v := (xs ((6 * jj + 1) + 3)).toInt64) hx hb dL_law_482 rfl ?_
  refine lv_ldc2 (v := 4294967295) hx hb hown hcw dL_law_483 ?_
  refine lv_land hx hb dL_law_486 ?_
  refine lv_lor hx hb dL_law_487 ?_
  refine lv_aload_n hx hb dL_law_488 rfl (lv_at hl 4 rfl) ?_
  refine lv_iload hx hb dL_law_489 (lv_at hl 0 rfl) ?_
  refine lv_iconst (v := 4) hx hb dL_law_491 (by decide) ?_
  refine lv_iadd hx hb dL_law_492 ?_
  refine lv_topi (fun z_492 ez_492 => ?_)
  obtain rfl : z_492 = nI ((6 * jj + 1) + 4) := ez_492.trans (nI_add (6 * jj + 1) 4)
  refine va_sld hx hb hX hbl hbA hS (vp_in_nI (by omega) (by omega)) dL_law_493 ?_
  refine lv_topi (fun z_493 ez_493 => ?_)
  obtain rfl : z_493 = xs ((6 * jj + 1) + 4) := ez_493.trans (by rw [nI_clamp (n := ((6 * jj + 1) + 4)) (by omega)])
  refine lv_i2l (v := (xs ((6 * jj + 1) + 4)).toInt64) hx hb dL_law_494 rfl ?_
  refine lv_bipush (v := 32) hx hb dL_law_495 (by decide) ?_
  refine lv_lshl (v := (((xs ((6 * jj + 1) + 4)).toInt64) <<< ((32 : Int32).toInt64 &&& 63))) hx hb dL_law_497 rfl ?_
  refine lv_aload_n hx hb dL_law_498 rfl (lv_at hl 4 rfl) ?_
  refine lv_iload hx hb dL_law_499 (lv_at hl 0 rfl) ?_
  refine lv_iconst (v := 5) hx hb dL_law_501 (by decide) ?_
  refine lv_iadd hx hb dL_law_502 ?_
  refine lv_topi (fun z_502 ez_502 => ?_)
  obtain rfl : z_502 = nI ((6 * jj + 1) + 5) := ez_502.trans (nI_add (6 * jj + 1) 5)
  refine va_sld hx hb hX hbl hbA hS (vp_in_nI (by omega) (by omega)) dL_law_503 ?_
  refine lv_topi (fun z_503 ez_503 => ?_)
  obtain rfl : z_503 = xs ((6 * jj + 1) + 5) := ez_503.trans (by rw [nI_clamp (n := ((6 * jj + 1) + 5)) (by omega)])
  refine lv_i2l (v := (xs ((6 * jj + 1) + 5)).toInt64) hx hb dL_law_504 rfl ?_
  refine lv_ldc2 (v := 4294967295) hx hb hown hcw dL_law_505 ?_
  refine lv_land hx hb dL_law_508 ?_
  refine lv_lor hx hb dL_law_509 ?_
  refine lv_aload_n hx hb dL_law_510 rfl (lv_at hl 1 rfl) ?_
  have hPc := hP.sub (ws' := [(h0, .inr (2, [.int (nI N0), .ref h1, .ref h2, .int (nI ty), .ref a1, .ref a2, .int (nI cl), .ref a3, .ref a4, .ref a5, .int (nI rc), .ref a6, .ref a7, .ref a8, .int (nI lr), .int ld])), (oa, .inl (cJ, 1, .inr (.inl ou)))]) [0, 24] rfl
  have hDc := hD.sub (ws' := [(h0, .inr (2, [.int (nI N0), .ref h1, .ref h2, .int (nI ty), .ref a1, .ref a2, .int (nI cl), .ref a3, .ref a4, .ref a5, .int (nI rc), .ref a6, .ref a7, .ref a8, .int (nI lr), .int ld])), (oa, .inl (cJ, 1, .inr (.inl ou)))]) [0, 24] (by decide) rfl
  have hFc := va_free (wc := [(h0, .inr (2, [.int (nI N0), .ref h1, .ref h2, .int (nI ty), .ref a1, .ref a2, .int (nI cl), .ref a3, .ref a4, .ref a5, .int (nI rc), .ref a6, .ref a7, .ref a8, .int (nI lr), .int ld])), (oa, .inl (cJ, 1, .inr (.inl ou)))]) hD hS hA [0, 24] rfl
  refine va_calli (vx_runSW (As := [.ref h0, .int (xs ((6 * jj + 1) + 1)), .long ((((xs ((6 * jj + 1) + 2)).toInt64) <<< ((32 : Int32).toInt64 &&& 63)) ||| (((xs ((6 * jj + 1) + 3)).toInt64) &&& 4294967295)), .long ((((xs ((6 * jj + 1) + 4)).toInt64) <<< ((32 : Int32).toInt64 &&& 63)) ||| (((xs ((6 * jj + 1) + 5)).toInt64) &&& 4294967295)), .ref oa]) (rest := []) ⟨hx, hb, hml, hown, hts⟩ (k_L_divide l dC dI cI cZ cJ H.size h0 h1 h2 a1 a2 a3 a4 a5 a6 a7 a8 sa sb oa N0 ty cl rc lr ld ou (xs ((6 * jj + 1) + 1)) ((((xs ((6 * jj + 1) + 2)).toInt64) <<< ((32 : Int32).toInt64 &&& 63)) ||| (((xs ((6 * jj + 1) + 3)).toInt64) &&& 4294967295)) ((((xs ((6 * jj + 1) + 4)).toInt64) <<< ((32 : Int32).toInt64 &&& 63)) ||| (((xs ((6 * jj + 1) + 5)).toInt64) &&& 4294967295)) hlt) (vx_cwSW 5 hts gL_law_L_divide rfl rfl rfl (by decide +kernel) ⟨Nat.le_of_ble_eq_true rfl, Nat.le_of_ble_eq_true rfl⟩) ⟨fun a U g mk q => by obtain ⟨q0, q1, qP, qK, qD, qX0, qX1, qX2⟩ := q; exact ⟨q0, q1, qP, va_K.moved (u := U) (U := U.calling g mk a) (Vm.Alike.refl U.vm) qK, qD, thX.blind qX0, (vx_Zq.moved (u := U) (U := U.calling g mk a) (Vm.Alike.refl U.vm) qX1), (vx_Zq.moved (u := U) (U := U.calling g mk a) (Vm.Alike.refl U.vm) qX2)⟩, fun U hU hW => ⟨rfl, by rw [hU], by rw [hU]; exact hPc, va_K.moved hW.alike hK, hDc.weaken (fun _ _ _ _ => trivial), thX.warm hW hT, (by rw [hU]; exact vx_Zq.moved hW.alike ((hSU.kept (fun a h1 h2 => hS.2.1 a h1 h2)).narrow hFc)), (by rw [hU]; exact vx_Zq.moved hW.alike ((hSV.kept (fun a h1 h2 => hS.2.1 a h1 h2)).narrow hFc))⟩⟩ rfl rfl hl.1 rfl (lv_room (Nat.le_of_ble_eq_true rfl)) dL_law_511 ⟨Nat.le_trans (m := 1051) (by omega) (Nat.le_of_ble_eq_true rfl), Nat.le_trans (m := 13624) (by omega) (Nat.le_of_ble_eq_true rfl)⟩) hS (fun q _ h => hFc q h) hFc (fun r_511 u t H1 locs ht hvm hw_511 hB hz1 hk1 hS => ?_)
  obtain ⟨ou_511, rfl⟩ : ∃ z, z = u := ⟨_, rfl⟩
  obtain ⟨hP1, hK1, hD1⟩ := hB
  rw [ht] at hP1
  try dsimp only at hw_511
  obtain ⟨hP, hD⟩ := va_join (wr := [(h1, .inr (1, [.long ta, .long tb, .long tc, .long td, .long te, .int tk])), (h2, .inr (0, [.int (nI cn), .ref b1, .ref b2, .ref b3])), (a1, .inl (cI, 20, .inl pr)), (a2, .inl (cZ, 20, .inl sf)), (a3, .inl (cI, 60, .inl (fun q => nI (tn q)))), (a4, .inl (cJ, 60, .inr (.inl ce))), (a5, .inl (cI, 60, .inl (fun q => nI (gd q)))), (a6, .inl (cJ, 240, .inr (.inl fi))), (a7, .inl (cZ, 60, .inl lk)), (a8, .inl (cJ, 60, .inr (.inl db))), (b1, .inl (cI, 100, .inl o1)), (b2, .inl (cI, 100, .inl o2)), (b3, .inl (cI, 100, .inl o3)), (g0, .inr (3, [.int mth, .int (nI N0), .int (nI ty), .ref e1, .ref e2, .int (nI cl), .ref e3, .ref e4, .int (nI rc), .ref e5, .ref e6, .ref e7, .ref e8, .int (nI mfc), .int (nI lr), .int ld, .ref e9, .long mcv, .int mlo])), (e1, .inl (cI, 21, .inl mp)), (e2, .inl (cZ, 21, .inl msf)), (e3, .inl (cI, 61, .inl (fun q => nI (mtn q)))), (e4, .inl (cJ, 61, .inr (.inl mce))), (e5, .inl (cJ, 244, .inr (.inl mfi))), (e6, .inl (cZ, 61, .inl mlk)), (e7, .inl (cZ, 3721, .inl mdn)), (e8, .inl (cI, 300, .inl mfl)), (e9, .inl (cJ, 4, .inr (.inl mw)))]) (w1 := [(h0, .inr (2, [.int (nI N0), .ref h1, .ref h2, .int (nI ty), .ref a1, .ref a2, .int (nI cl), .ref a3, .ref a4, .ref a5, .int (nI rc), .ref a6, .ref a7, .ref a8, .int (nI lr), .int ld])), (oa, .inl (cJ, 1, .inr (.inl ou_511)))]) hP hD [0, 24] [1, 2, 3, 4, 5, 6, 7, 8, 9, 10, 11, 12, 13, 14, 15, 16, 17, 18, 19, 20, 21, 22, 23] rfl rfl (by decide) (by decide) hk1 hFc hP1 hD1
  generalize H1 = H at hP hS ⊢
  have hP : va_P (dC, dI) vwC2 [(h0, .inr (2, [.int (nI N0), .ref h1, .ref h2, .int (nI ty), .ref a1, .ref a2, .int (nI cl), .ref a3, .ref a4, .ref a5, .int (nI rc), .ref a6, .ref a7, .ref a8, .int (nI lr), .int ld])), (h1, .inr (1, [.long ta, .long tb, .long tc, .long td, .long te, .int tk])), (h2, .inr (0, [.int (nI cn), .ref b1, .ref b2, .ref b3])), (a1, .inl (cI, 20, .inl pr)), (a2, .inl (cZ, 20, .inl sf)), (a3, .inl (cI, 60, .inl (fun q => nI (tn q)))), (a4, .inl (cJ, 60, .inr (.inl ce))), (a5, .inl (cI, 60, .inl (fun q => nI (gd q)))), (a6, .inl (cJ, 240, .inr (.inl fi))), (a7, .inl (cZ, 60, .inl lk)), (a8, .inl (cJ, 60, .inr (.inl db))), (b1, .inl (cI, 100, .inl o1)), (b2, .inl (cI, 100, .inl o2)), (b3, .inl (cI, 100, .inl o3)), (g0, .inr (3, [.int mth, .int (nI N0), .int (nI ty), .ref e1, .ref e2, .int (nI cl), .ref e3, .ref e4, .int (nI rc), .ref e5, .ref e6, .ref e7, .ref e8, .int (nI mfc), .int (nI lr), .int ld, .ref e9, .long mcv, .int mlo])), (e1, .inl (cI, 21, .inl mp)), (e2, .inl (cZ, 21, .inl msf)), (e3, .inl (cI, 61, .inl (fun q => nI (mtn q)))), (e4, .inl (cJ, 61, .inr (.inl mce))), (e5, .inl (cJ, 244, .inr (.inl mfi))), (e6, .inl (cZ, 61, .inl mlk)), (e7, .inl (cZ, 3721, .inl mdn)), (e8, .inl (cI, 300, .inl mfl)), (e9, .inl (cJ, 4, .inr (.inl mw))), (oa, .inl (cJ, 1, .inr (.inl ou_511)))] H := hP.sub [23, 0, 1, 2, 3, 4, 5, 6, 7, 8, 9, 10, 11, 12, 13, 14, 15, 16, 17, 18, 19, 20, 21, 22, 24] rfl
  have hD : va_D (fun q : Nat => s.heap.size ≤ q) [(h0, .inr (2, [.int (nI N0), .ref h1, .ref h2, .int (nI ty), .ref a1, .ref a2, .int (nI cl), .ref a3, .ref a4, .ref a5, .int (nI rc), .ref a6, .ref a7, .ref a8, .int (nI lr), .int ld])), (h1, .inr (1, [.long ta, .long tb, .long tc, .long td, .long te, .int tk])), (h2, .inr (0, [.int (nI cn), .ref b1, .ref b2, .ref b3])), (a1, .inl (cI, 20, .inl pr)), (a2, .inl (cZ, 20, .inl sf)), (a3, .inl (cI, 60, .inl (fun q => nI (tn q)))), (a4, .inl (cJ, 60, .inr (.inl ce))), (a5, .inl (cI, 60, .inl (fun q => nI (gd q)))), (a6, .inl (cJ, 240, .inr (.inl fi))), (a7, .inl (cZ, 60, .inl lk)), (a8, .inl (cJ, 60, .inr (.inl db))), (b1, .inl (cI, 100, .inl o1)), (b2, .inl (cI, 100, .inl o2)), (b3, .inl (cI, 100, .inl o3)), (g0, .inr (3, [.int mth, .int (nI N0), .int (nI ty), .ref e1, .ref e2, .int (nI cl), .ref e3, .ref e4, .int (nI rc), .ref e5, .ref e6, .ref e7, .ref e8, .int (nI mfc), .int (nI lr), .int ld, .ref e9, .long mcv, .int mlo])), (e1, .inl (cI, 21, .inl mp)), (e2, .inl (cZ, 21, .inl msf)), (e3, .inl (cI, 61, .inl (fun q => nI (mtn q)))), (e4, .inl (cJ, 61, .inr (.inl mce))), (e5, .inl (cJ, 244, .inr (.inl mfi))), (e6, .inl (cZ, 61, .inl mlk)), (e7, .inl (cZ, 3721, .inl mdn)), (e8, .inl (cI, 300, .inl mfl)), (e9, .inl (cJ, 4, .inr (.inl mw))), (oa, .inl (cJ, 1, .inr (.inl ou_511)))] := hD.sub [23, 0, 1, 2, 3, 4, 5, 6, 7, 8, 9, 10, 11, 12, 13, 14, 15, 16, 17, 18, 19, 20, 21, 22, 24] (by decide) rfl
  refine lv_istore (lv' := [(5, .int r_511), (4, .int (nI (6 * jj + 1))), (3, .ref oa), (2, .ref g0), (1, .ref h0), (0, .ref b)]) hx hb dL_law_514 hl (by decide) rfl (fun ls hl => ?_)
  refine lv_aload_n hx hb dL_law_516 rfl (lv_at hl 3 rfl) ?_
  refine lv_aload_n hx hb dL_law_517 rfl (lv_at hl 5 rfl) ?_
  refine lv_iload hx hb dL_law_518 (lv_at hl 1 rfl) ?_
  refine lv_iconst (v := 1) hx hb dL_law_520 (by decide) ?_
  refine lv_iadd hx hb dL_law_521 ?_
  refine lv_topi (fun z_521 ez_521 => ?_)
  obtain rfl : z_521 = nI ((6 * jj + 1) + 1) := ez_521.trans (nI_add (6 * jj + 1) 1)
  refine va_sld hx hb hX hbl hbA hS (vp_in_nI (by omega) (by omega)) dL_law_522 ?_
  refine lv_topi (fun z_522 ez_522 => ?_)
  obtain rfl : z_522 = xs ((6 * jj + 1) + 1) := ez_522.trans (by rw [nI_clamp (n := ((6 * jj + 1) + 1)) (by omega)])
  refine lv_aload_n hx hb dL_law_523 rfl (lv_at hl 5 rfl) ?_
  refine lv_iload hx hb dL_law_524 (lv_at hl 1 rfl) ?_
  refine lv_iconst (v := 2) hx hb dL_law_526 (by decide) ?_
  refine lv_iadd hx hb dL_law_527 ?_
  refine lv_topi (fun z_527 ez_527 => ?_)
  obtain rfl : z_527 = nI ((6 * jj + 1) + 2) := ez_527.trans (nI_add (6 * jj + 1) 2)
  refine va_sld hx hb hX hbl hbA hS (vp_in_nI (by omega) (by omega)) dL_law_528 ?_
  refine lv_topi (fun z_528 ez_528 => ?_)
  obtain rfl : z_528 = xs ((6 * jj + 1) + 2) := ez_528.trans (by rw [nI_clamp (n := ((6 * jj + 1) + 2)) (by omega)])
  refine lv_i2l (v := (xs ((6 * jj + 1) + 2)).toInt64) hx hb dL_law_529 rfl ?_
  refine lv_bipush (v := 32) hx hb dL_law_530 (by decide) ?_
  refine lv_lshl (v := (((xs ((6 * jj + 1) + 2)).toInt64) <<< ((32 : Int32).toInt64 &&& 63))) hx hb dL_law_532 rfl ?_
  refine lv_aload_n hx hb dL_law_533 rfl (lv_at hl 5 rfl) ?_
  refine lv_iload hx hb dL_law_534 (lv_at hl 1 rfl) ?_
  refine lv_iconst (v := 3) hx hb dL_law_536 (by decide) ?_
  refine lv_iadd hx hb dL_law_537 ?_
  refine lv_topi (fun z_537 ez_537 => ?_)
  obtain rfl : z_537 = nI ((6 * jj + 1) + 3) := ez_537.trans (nI_add (6 * jj + 1) 3)
  refine va_sld hx hb hX hbl hbA hS (vp_in_nI (by omega) (by omega)) dL_law_538 ?_
  refine lv_topi (fun z_538 ez_538 => ?_)
  obtain rfl : z_538 = xs ((6 * jj + 1) + 3) := ez_538.trans (by rw [nI_clamp (n := ((6 * jj + 1) + 3)) (by omega)])
  refine lv_i2l (v := (xs ((6 * jj + 1) + 3)).toInt64) hx hb dL_law_539 rfl ?_
  refine lv_ldc2 (v := 4294967295) hx hb hown hcw dL_law_540 ?_
  refine lv_land hx hb dL_law_543 ?_
  refine lv_lor hx hb dL_law_544 ?_
  refine lv_aload_n hx hb dL_law_545 rfl (lv_at hl 5 rfl) ?_
  refine lv_iload hx hb dL_law_546 (lv_at hl 1 rfl) ?_
  refine lv_iconst (v := 4) hx hb dL_law_548 (by decide) ?_
  refine lv_iadd hx hb dL_law_549 ?_
  refine lv_topi (fun z_549 ez_549 => ?_)
  obtain rfl : z_549 = nI ((6 * jj + 1) + 4) := ez_549.trans (nI_add (6 * jj + 1) 4)
  refine va_sld hx hb hX hbl hbA hS (vp_in_nI (by omega) (by omega)) dL_law_550 ?_
  refine lv_topi (fun z_550 ez_550 => ?_)
  obtain rfl : z_550 = xs ((6 * jj + 1) + 4) := ez_550.trans (by rw [nI_clamp (n := ((6 * jj + 1) + 4)) (by omega)])
  refine lv_i2l (v := (xs ((6 * jj + 1) + 4)).toInt64) hx hb dL_law_551 rfl ?_
  refine lv_bipush (v := 32) hx hb dL_law_552 (by decide) ?_
  refine lv_lshl (v := (((xs ((6 * jj + 1) + 4)).toInt64) <<< ((32 : Int32).toInt64 &&& 63))) hx hb dL_law_554 rfl ?_
  refine lv_aload_n hx hb dL_law_555 rfl (lv_at hl 5 rfl) ?_
  refine lv_iload hx hb dL_law_556 (lv_at hl 1 rfl) ?_
  refine lv_iconst (v := 5) hx hb dL_law_558 (by decide) ?_
  refine lv_iadd hx hb dL_law_559 ?_
  refine lv_topi (fun z_559 ez_559 => ?_)
  obtain rfl : z_559 = nI ((6 * jj + 1) + 5) := ez_559.trans (nI_add (6 * jj + 1) 5)
  refine va_sld hx hb hX hbl hbA hS (vp_in_nI (by omega) (by omega)) dL_law_560 ?_
  refine lv_topi (fun z_560 ez_560 => ?_)
  obtain rfl : z_560 = xs ((6 * jj + 1) + 5) := ez_560.trans (by rw [nI_clamp (n := ((6 * jj + 1) + 5)) (by omega)])
  refine lv_i2l (v := (xs ((6 * jj + 1) + 5)).toInt64) hx hb dL_law_561 rfl ?_
  refine lv_ldc2 (v := 4294967295) hx hb hown hcw dL_law_562 ?_
  refine lv_land hx hb dL_law_565 ?_
  refine lv_lor hx hb dL_law_566 ?_
  have hPc := hP.sub (ws' := [(g0, .inr (3, [.int mth, .int (nI N0), .int (nI ty), .ref e1, .ref e2, .int (nI cl), .ref e3, .ref e4, .int (nI rc), .ref e5, .ref e6, .ref e7, .ref e8, .int (nI mfc), .int (nI lr), .int ld, .ref e9, .long mcv, .int mlo])), (e1, .inl (cI, 21, .inl mp)), (e2, .inl (cZ, 21, .inl msf)), (e3, .inl (cI, 61, .inl (fun q => nI (mtn q)))), (e4, .inl (cJ, 61, .inr (.inl mce))), (e5, .inl (cJ, 244, .inr (.inl mfi))), (e6, .inl (cZ, 61, .inl mlk)), (e7, .inl (cZ, 3721, .inl mdn)), (e8, .inl (cI, 300, .inl mfl)), (e9, .inl (cJ, 4, .inr (.inl mw)))]) [14, 15, 16, 17, 18, 19, 20, 21, 22, 23] rfl
  have hDc := hD.sub (ws' := [(g0, .inr (3, [.int mth, .int (nI N0), .int (nI ty), .ref e1, .ref e2, .int (nI cl), .ref e3, .ref e4, .int (nI rc), .ref e5, .ref e6, .ref e7, .ref e8, .int (nI mfc), .int (nI lr), .int ld, .ref e9, .long mcv, .int mlo])), (e1, .inl (cI, 21, .inl mp)), (e2, .inl (cZ, 21, .inl msf)), (e3, .inl (cI, 61, .inl (fun q => nI (mtn q)))), (e4, .inl (cJ, 61, .inr (.inl mce))), (e5, .inl (cJ, 244, .inr (.inl mfi))), (e6, .inl (cZ, 61, .inl mlk)), (e7, .inl (cZ, 3721, .inl mdn)), (e8, .inl (cI, 300, .inl mfl)), (e9, .inl (cJ, 4, .inr (.inl mw)))]) [14, 15, 16, 17, 18, 19, 20, 21, 22, 23] (by decide) rfl
  have hFc := va_free (wc := [(g0, .inr (3, [.int mth, .int (nI N0), .int (nI ty), .ref e1, .ref e2, .int (nI cl), .ref e3, .ref e4, .int (nI rc), .ref e5, .ref e6, .ref e7, .ref e8, .int (nI mfc), .int (nI lr), .int ld, .ref e9, .long mcv, .int mlo])), (e1, .inl (cI, 21, .inl mp)), (e2, .inl (cZ, 21, .inl msf)), (e3, .inl (cI, 61, .inl (fun q => nI (mtn q)))), (e4, .inl (cJ, 61, .inr (.inl mce))), (e5, .inl (cJ, 244, .inr (.inl mfi))), (e6, .inl (cZ, 61, .inl mlk)), (e7, .inl (cZ, 3721, .inl mdn)), (e8, .inl (cI, 300, .inl mfl)), (e9, .inl (cJ, 4, .inr (.inl mw)))]) hD hS hA [14, 15, 16, 17, 18, 19, 20, 21, 22, 23] rfl
  refine va_calll (va_runV (As := [.int (xs ((6 * jj + 1) + 1)), .long ((((xs ((6 * jj + 1) + 2)).toInt64) <<< ((32 : Int32).toInt64 &&& 63)) ||| (((xs ((6 * jj + 1) + 3)).toInt64) &&& 4294967295)), .long ((((xs ((6 * jj + 1) + 4)).toInt64) <<< ((32 : Int32).toInt64 &&& 63)) ||| (((xs ((6 * jj + 1) + 5)).toInt64) &&& 4294967295))]) (rest := []) ⟨hx, hb, hml, hown, htsM⟩ (k_XM_divide l dC dI cI cZ cJ H.size g0 e1 e2 e3 e4 e5 e6 e7 e8 e9 mth N0 ty cl rc mfc lr ld mcv mlo mp msf mtn mce mfi mlk mdn mfl mw (xs ((6 * jj + 1) + 1)) ((((xs ((6 * jj + 1) + 2)).toInt64) <<< ((32 : Int32).toInt64 &&& 63)) ||| (((xs ((6 * jj + 1) + 3)).toInt64) &&& 4294967295)) ((((xs ((6 * jj + 1) + 4)).toInt64) <<< ((32 : Int32).toInt64 &&& 63)) ||| (((xs ((6 * jj + 1) + 5)).toInt64) &&& 4294967295))) (cwV 3 htsM gL_law_XM_divide rfl rfl rfl (by decide +kernel) ⟨Nat.le_of_ble_eq_true rfl, Nat.le_of_ble_eq_true rfl⟩) ⟨fun a U g mk q => by obtain ⟨q0, q1, qP, qK, qD⟩ := q; exact ⟨q0, q1, qP, va_K.moved (u := U) (U := U.calling g mk a) (Vm.Alike.refl U.vm) qK, qD⟩, va_recv hK hPc (ci := 3) (q0 := 0) rfl rfl, fun U hU hW => ⟨rfl, by rw [hU], by rw [hU]; exact hPc, va_K.moved hW.alike hK, hDc.weaken (fun _ _ _ _ => trivial)⟩⟩ rfl rfl hl.1 rfl (lv_room (Nat.le_of_ble_eq_true rfl)) dL_law_567 ⟨Nat.le_trans (m := 1051) (by omega) (Nat.le_of_ble_eq_true rfl), Nat.le_trans (m := 13624) (by omega) (Nat.le_of_ble_eq_true rfl)⟩) hS (fun q _ h => hFc q h) hFc (fun r_567 u t H1 locs ht hvm hw_567 hB hz1 hk1 hS => ?_)
  obtain ⟨mth_567, rfl⟩ : ∃ z, z = u := ⟨_, rfl⟩
  obtain ⟨hP1, hK1, hD1⟩ := hB
  rw [ht] at hP1
  try dsimp only at hw_567
  obtain ⟨hP, hD⟩ := va_join (wr := [(h0, .inr (2, [.int (nI N0), .ref h1, .ref h2, .int (nI ty), .ref a1, .ref a2, .int (nI cl), .ref a3, .ref a4, .ref a5, .int (nI rc), .ref a6, .ref a7, .ref a8, .int (nI lr), .int ld])), (h1, .inr (1, [.long ta, .long tb, .long tc, .long td, .long te, .int tk])), (h2, .inr (0, [.int (nI cn), .ref b1, .ref b2, .ref b3])), (a1, .inl (cI, 20, .inl pr)), (a2, .inl (cZ, 20, .inl sf)), (a3, .inl (cI, 60, .inl (fun q => nI (tn q)))), (a4, .inl (cJ, 60, .inr (.inl ce))), (a5, .inl (cI, 60, .inl (fun q => nI (gd q)))), (a6, .inl (cJ, 240, .inr (.inl fi))), (a7, .inl (cZ, 60, .inl lk)), (a8, .inl (cJ, 60, .inr (.inl db))), (b1, .inl (cI, 100, .inl o1)), (b2, .inl (cI, 100, .inl o2)), (b3, .inl (cI, 100, .inl o3)), (oa, .inl (cJ, 1, .inr (.inl ou_511)))]) (w1 := [(g0, .inr (3, [.int mth_567, .int (nI N0), .int (nI ty), .ref e1, .ref e2, .int (nI cl), .ref e3, .ref e4, .int (nI rc), .ref e5, .ref e6, .ref e7, .ref e8, .int (nI mfc), .int (nI lr), .int ld, .ref e9, .long mcv, .int mlo])), (e1, .inl (cI, 21, .inl mp)), (e2, .inl (cZ, 21, .inl msf)), (e3, .inl (cI, 61, .inl (fun q => nI (mtn q)))), (e4, .inl (cJ, 61, .inr (.inl mce))), (e5, .inl (cJ, 244, .inr (.inl mfi))), (e6, .inl (cZ, 61, .inl mlk)), (e7, .inl (cZ, 3721, .inl mdn)), (e8, .inl (cI, 300, .inl mfl)), (e9, .inl (cJ, 4, .inr (.inl mw)))]) hP hD [14, 15, 16, 17, 18, 19, 20, 21, 22, 23] [0, 1, 2, 3, 4, 5, 6, 7, 8, 9, 10, 11, 12, 13, 24] rfl rfl (by decide) (by decide) hk1 hFc hP1 hD1
  generalize H1 = H at hP hS ⊢
  have hP : va_P (dC, dI) vwC2 [(h0, .inr (2, [.int (nI N0), .ref h1, .ref h2, .int (nI ty), .ref a1, .ref a2, .int (nI cl), .ref a3, .ref a4, .ref a5, .int (nI rc), .ref a6, .ref a7, .ref a8, .int (nI lr), .int ld])), (h1, .inr (1, [.long ta, .long tb, .long tc, .long td, .long te, .int tk])), (h2, .inr (0, [.int (nI cn), .ref b1, .ref b2, .ref b3])), (a1, .inl (cI, 20, .inl pr)), (a2, .inl (cZ, 20, .inl sf)), (a3, .inl (cI, 60, .inl (fun q => nI (tn q)))), (a4, .inl (cJ, 60, .inr (.inl ce))), (a5, .inl (cI, 60, .inl (fun q => nI (gd q)))), (a6, .inl (cJ, 240, .inr (.inl fi))), (a7, .inl (cZ, 60, .inl lk)), (a8, .inl (cJ, 60, .inr (.inl db))), (b1, .inl (cI, 100, .inl o1)), (b2, .inl (cI, 100, .inl o2)), (b3, .inl (cI, 100, .inl o3)), (g0, .inr (3, [.int mth_567, .int (nI N0), .int (nI ty), .ref e1, .ref e2, .int (nI cl), .ref e3, .ref e4, .int (nI rc), .ref e5, .ref e6, .ref e7, .ref e8, .int (nI mfc), .int (nI lr), .int ld, .ref e9, .long mcv, .int mlo])), (e1, .inl (cI, 21, .inl mp)), (e2, .inl (cZ, 21, .inl msf)), (e3, .inl (cI, 61, .inl (fun q => nI (mtn q)))), (e4, .inl (cJ, 61, .inr (.inl mce))), (e5, .inl (cJ, 244, .inr (.inl mfi))), (e6, .inl (cZ, 61, .inl mlk)), (e7, .inl (cZ, 3721, .inl mdn)), (e8, .inl (cI, 300, .inl mfl)), (e9, .inl (cJ, 4, .inr (.inl mw))), (oa, .inl (cJ, 1, .inr (.inl ou_511)))] H := hP.sub [0, 1, 2, 3, 4, 5, 6, 7, 8, 9, 10, 11, 12, 13, 15, 16, 17, 18, 19, 20, 21, 22, 23, 24, 14] rfl
  have hD : va_D (fun q : Nat => s.heap.size ≤ q) [(h0, .inr (2, [.int (nI N0), .ref h1, .ref h2, .int (nI ty), .ref a1, .ref a2, .int (nI cl), .ref a3, .ref a4, .ref a5, .int (nI rc), .ref a6, .ref a7, .ref a8, .int (nI lr), .int ld])), (h1, .inr (1, [.long ta, .long tb, .long tc, .long td, .long te, .int tk])), (h2, .inr (0, [.int (nI cn), .ref b1, .ref b2, .ref b3])), (a1, .inl (cI, 20, .inl pr)), (a2, .inl (cZ, 20, .inl sf)), (a3, .inl (cI, 60, .inl (fun q => nI (tn q)))), (a4, .inl (cJ, 60, .inr (.inl ce))), (a5, .inl (cI, 60, .inl (fun q => nI (gd q)))), (a6, .inl (cJ, 240, .inr (.inl fi))), (a7, .inl (cZ, 60, .inl lk)), (a8, .inl (cJ, 60, .inr (.inl db))), (b1, .inl (cI, 100, .inl o1)), (b2, .inl (cI, 100, .inl o2)), (b3, .inl (cI, 100, .inl o3)), (g0, .inr (3, [.int mth_567, .int (nI N0), .int (nI ty), .ref e1, .ref e2, .int (nI cl), .ref e3, .ref e4, .int (nI rc), .ref e5, .ref e6, .ref e7, .ref e8, .int (nI mfc), .int (nI lr), .int ld, .ref e9, .long mcv, .int mlo])), (e1, .inl (cI, 21, .inl mp)), (e2, .inl (cZ, 21, .inl msf)), (e3, .inl (cI, 61, .inl (fun q => nI (mtn q)))), (e4, .inl (cJ, 61, .inr (.inl mce))), (e5, .inl (cJ, 244, .inr (.inl mfi))), (e6, .inl (cZ, 61, .inl mlk)), (e7, .inl (cZ, 3721, .inl mdn)), (e8, .inl (cI, 300, .inl mfl)), (e9, .inl (cJ, 4, .inr (.inl mw))), (oa, .inl (cJ, 1, .inr (.inl ou_511)))] := hD.sub [0, 1, 2, 3, 4, 5, 6, 7, 8, 9, 10, 11, 12, 13, 15, 16, 17, 18, 19, 20, 21, 22, 23, 24, 14] (by decide) rfl
  refine lv_lstore (lv' := [(6, .long r_567), (5, .int r_511), (4, .int (nI (6 * jj + 1))), (3, .ref oa), (2, .ref g0), (1, .ref h0), (0, .ref b)]) hx hb dL_law_570 hl (by decide) rfl (fun ls hl => ?_)
  refine lv_aload_n hx hb dL_law_572 rfl (lv_at hl 4 rfl) ?_
  have hPc := hP.sub (ws' := [(g0, .inr (3, [.int mth_567, .int (nI N0), .int (nI ty), .ref e1, .ref e2, .int (nI cl), .ref e3, .ref e4, .int (nI rc), .ref e5, .ref e6, .ref e7, .ref e8, .int (nI mfc), .int (nI lr), .int ld, .ref e9, .long mcv, .int mlo])), (e1, .inl (cI, 21, .inl mp)), (e2, .inl (cZ, 21, .inl msf)), (e3, .inl (cI, 61, .inl (fun q => nI (mtn q)))), (e4, .inl (cJ, 61, .inr (.inl mce))), (e5, .inl (cJ, 244, .inr (.inl mfi))), (e6, .inl (cZ, 61, .inl mlk)), (e7, .inl (cZ, 3721, .inl mdn)), (e8, .inl (cI, 300, .inl mfl)), (e9, .inl (cJ, 4, .inr (.inl mw)))]) [14, 15, 16, 17, 18, 19, 20, 21, 22, 23] rfl
  have hDc := hD.sub (ws' := [(g0, .inr (3, [.int mth_567, .int (nI N0), .int (nI ty), .ref e1, .ref e2, .int (nI cl), .ref e3, .ref e4, .int (nI rc), .ref e5, .ref e6, .ref e7, .ref e8, .int (nI mfc), .int (nI lr), .int ld, .ref e9, .long mcv, .int mlo])), (e1, .inl (cI, 21, .inl mp)), (e2, .inl (cZ, 21, .inl msf)), (e3, .inl (cI, 61, .inl (fun q => nI (mtn q)))), (e4, .inl (cJ, 61, .inr (.inl mce))), (e5, .inl (cJ, 244, .inr (.inl mfi))), (e6, .inl (cZ, 61, .inl mlk)), (e7, .inl (cZ, 3721, .inl mdn)), (e8, .inl (cI, 300, .inl mfl)), (e9, .inl (cJ, 4, .inr (.inl mw)))]) [14, 15, 16, 17, 18, 19, 20, 21, 22, 23] (by decide) rfl
  have hFc := va_free (wc := [(g0, .inr (3, [.int mth_567, .int (nI N0), .int (nI ty), .ref e1, .ref e2, .int (nI cl), .ref e3, .ref e4, .int (nI rc), .ref e5, .ref e6, .ref e7, .ref e8, .int (nI mfc), .int (nI lr), .int ld, .ref e9, .long mcv, .int mlo])), (e1, .inl (cI, 21, .inl mp)), (e2, .inl (cZ, 21, .inl msf)), (e3, .inl (cI, 61, .inl (fun q => nI (mtn q)))), (e4, .inl (cJ, 61, .inr (.inl mce))), (e5, .inl (cJ, 244, .inr (.inl mfi))), (e6, .inl (cZ, 61, .inl mlk)), (e7, .inl (cZ, 3721, .inl mdn)), (e8, .inl (cI, 300, .inl mfl)), (e9, .inl (cJ, 4, .inr (.inl mw)))]) hD hS hA [14, 15, 16, 17, 18, 19, 20, 21, 22, 23] rfl
  refine va_calli (va_runV (As := []) (rest := []) ⟨hx, hb, hml, hown, htsM⟩ (k_XM_thrown l dC dI cI cZ cJ H.size g0 e1 e2 e3 e4 e5 e6 e7 e8 e9 mth_567 N0 ty cl rc mfc lr ld mcv mlo mp msf mtn mce mfi mlk mdn mfl mw) (cwV 0 htsM gL_law_XM_thrown rfl rfl rfl (by decide +kernel) ⟨Nat.le_of_ble_eq_true rfl, Nat.le_of_ble_eq_true rfl⟩) ⟨fun a U g mk q => by obtain ⟨q0, q1, qP, qK, qD⟩ := q; exact ⟨q0, q1, qP, va_K.moved (u := U) (U := U.calling g mk a) (Vm.Alike.refl U.vm) qK, qD⟩, va_recv hK hPc (ci := 3) (q0 := 0) rfl rfl, fun U hU hW => ⟨rfl, by rw [hU], by rw [hU]; exact hPc, va_K.moved hW.alike hK, hDc.weaken (fun _ _ _ _ => trivial)⟩⟩ rfl rfl hl.1 rfl (lv_room (Nat.le_of_ble_eq_true rfl)) dL_law_573 ⟨Nat.le_trans (m := 1051) (by omega) (Nat.le_of_ble_eq_true rfl), Nat.le_trans (m := 13624) (by omega) (Nat.le_of_ble_eq_true rfl)⟩) hS (fun q _ h => hFc q h) hFc (fun r_573 u t H1 locs ht hvm hw_573 hB hz1 hk1 hS => ?_)
  obtain ⟨hP1, hK1, hD1⟩ := hB
  rw [ht] at hP1
  try dsimp only at hw_573
  obtain ⟨hP, hD⟩ := va_join (wr := [(h0, .inr (2, [.int (nI N0), .ref h1, .ref h2, .int (nI ty), .ref a1, .ref a2, .int (nI cl), .ref a3, .ref a4, .ref a5, .int (nI rc), .ref a6, .ref a7, .ref a8, .int (nI lr), .int ld])), (h1, .inr (1, [.long ta, .long tb, .long tc, .long td, .long te, .int tk])), (h2, .inr (0, [.int (nI cn), .ref b1, .ref b2, .ref b3])), (a1, .inl (cI, 20, .inl pr)), (a2, .inl (cZ, 20, .inl sf)), (a3, .inl (cI, 60, .inl (fun q => nI (tn q)))), (a4, .inl (cJ, 60, .inr (.inl ce))), (a5, .inl (cI, 60, .inl (fun q => nI (gd q)))), (a6, .inl (cJ, 240, .inr (.inl fi))), (a7, .inl (cZ, 60, .inl lk)), (a8, .inl (cJ, 60, .inr (.inl db))), (b1, .inl (cI, 100, .inl o1)), (b2, .inl (cI, 100, .inl o2)), (b3, .inl (cI, 100, .inl o3)), (oa, .inl (cJ, 1, .inr (.inl ou_511)))]) (w1 := [(g0, .inr (3, [.int mth_567, .int (nI N0), .int (nI ty), .ref e1, .ref e2, .int (nI cl), .ref e3, .ref e4, .int (nI rc), .ref e5, .ref e6, .ref e7, .ref e8, .int (nI mfc), .int (nI lr), .int ld, .ref e9, .long mcv, .int mlo])), (e1, .inl (cI, 21, .inl mp)), (e2, .inl (cZ, 21, .inl msf)), (e3, .inl (cI, 61, .inl (fun q => nI (mtn q)))), (e4, .inl (cJ, 61, .inr (.inl mce))), (e5, .inl (cJ, 244, .inr (.inl mfi))), (e6, .inl (cZ, 61, .inl mlk)), (e7, .inl (cZ, 3721, .inl mdn)), (e8, .inl (cI, 300, .inl mfl)), (e9, .inl (cJ, 4, .inr (.inl mw)))]) hP hD [14, 15, 16, 17, 18, 19, 20, 21, 22, 23] [0, 1, 2, 3, 4, 5, 6, 7, 8, 9, 10, 11, 12, 13, 24] rfl rfl (by decide) (by decide) hk1 hFc hP1 hD1
  generalize H1 = H at hP hS ⊢
  have hP : va_P (dC, dI) vwC2 [(h0, .inr (2, [.int (nI N0), .ref h1, .ref h2, .int (nI ty), .ref a1, .ref a2, .int (nI cl), .ref a3, .ref a4, .ref a5, .int (nI rc), .ref a6, .ref a7, .ref a8, .int (nI lr), .int ld])), (h1, .inr (1, [.long ta, .long tb, .long tc, .long td, .long te, .int tk])), (h2, .inr (0, [.int (nI cn), .ref b1, .ref b2, .ref b3])), (a1, .inl (cI, 20, .inl pr)), (a2, .inl (cZ, 20, .inl sf)), (a3, .inl (cI, 60, .inl (fun q => nI (tn q)))), (a4, .inl (cJ, 60, .inr (.inl ce))), (a5, .inl (cI, 60, .inl (fun q => nI (gd q)))), (a6, .inl (cJ, 240, .inr (.inl fi))), (a7, .inl (cZ, 60, .inl lk)), (a8, .inl (cJ, 60, .inr (.inl db))), (b1, .inl (cI, 100, .inl o1)), (b2, .inl (cI, 100, .inl o2)), (b3, .inl (cI, 100, .inl o3)), (g0, .inr (3, [.int mth_567, .int (nI N0), .int (nI ty), .ref e1, .ref e2, .int (nI cl), .ref e3, .ref e4, .int (nI rc), .ref e5, .ref e6, .ref e7, .ref e8, .int (nI mfc), .int (nI lr), .int ld, .ref e9, .long mcv, .int mlo])), (e1, .inl (cI, 21, .inl mp)), (e2, .inl (cZ, 21, .inl msf)), (e3, .inl (cI, 61, .inl (fun q => nI (mtn q)))), (e4, .inl (cJ, 61, .inr (.inl mce))), (e5, .inl (cJ, 244, .inr (.inl mfi))), (e6, .inl (cZ, 61, .inl mlk)), (e7, .inl (cZ, 3721, .inl mdn)), (e8, .inl (cI, 300, .inl mfl)), (e9, .inl (cJ, 4, .inr (.inl mw))), (oa, .inl (cJ, 1, .inr (.inl ou_511)))] H := hP.sub [0, 1, 2, 3, 4, 5, 6, 7, 8, 9, 10, 11, 12, 13, 15, 16, 17, 18, 19, 20, 21, 22, 23, 24, 14] rfl
  have hD : va_D (fun q : Nat => s.heap.size ≤ q) [(h0, .inr (2, [.int (nI N0), .ref h1, .ref h2, .int (nI ty), .ref a1, .ref a2, .int (nI cl), .ref a3, .ref a4, .ref a5, .int (nI rc), .ref a6, .ref a7, .ref a8, .int (nI lr), .int ld])), (h1, .inr (1, [.long ta, .long tb, .long tc, .long td, .long te, .int tk])), (h2, .inr (0, [.int (nI cn), .ref b1, .ref b2, .ref b3])), (a1, .inl (cI, 20, .inl pr)), (a2, .inl (cZ, 20, .inl sf)), (a3, .inl (cI, 60, .inl (fun q => nI (tn q)))), (a4, .inl (cJ, 60, .inr (.inl ce))), (a5, .inl (cI, 60, .inl (fun q => nI (gd q)))), (a6, .inl (cJ, 240, .inr (.inl fi))), (a7, .inl (cZ, 60, .inl lk)), (a8, .inl (cJ, 60, .inr (.inl db))), (b1, .inl (cI, 100, .inl o1)), (b2, .inl (cI, 100, .inl o2)), (b3, .inl (cI, 100, .inl o3)), (g0, .inr (3, [.int mth_567, .int (nI N0), .int (nI ty), .ref e1, .ref e2, .int (nI cl), .ref e3, .ref e4, .int (nI rc), .ref e5, .ref e6, .ref e7, .ref e8, .int (nI mfc), .int (nI lr), .int ld, .ref e9, .long mcv, .int mlo])), (e1, .inl (cI, 21, .inl mp)), (e2, .inl (cZ, 21, .inl msf)), (e3, .inl (cI, 61, .inl (fun q => nI (mtn q)))), (e4, .inl (cJ, 61, .inr (.inl mce))), (e5, .inl (cJ, 244, .inr (.inl mfi))), (e6, .inl (cZ, 61, .inl mlk)), (e7, .inl (cZ, 3721, .inl mdn)), (e8, .inl (cI, 300, .inl mfl)), (e9, .inl (cJ, 4, .inr (.inl mw))), (oa, .inl (cJ, 1, .inr (.inl ou_511)))] := hD.sub [0, 1, 2, 3, 4, 5, 6, 7, 8, 9, 10, 11, 12, 13, 15, 16, 17, 18, 19, 20, 21, 22, 23, 24, 14] (by decide) rfl
  subst hw_573
  refine lv_iload hx hb dL_law_576 (lv_at hl 1 rfl) ?_
  have hqd := div_rel hw_511 hw_567
  refine lv_icmp_eq (tgt := 583) hx hb dL_law_578 (by decide) (fun c_578 => ?_) (fun c_578 => absurd hqd.1 c_578)
  refine lv_iload hx hb dL_law_583 (lv_at hl 1 rfl) ?_
  refine lv_if_ne (tgt := 599) hx hb dL_law_585 (by decide) (fun c_585 => ?_) (fun c_585 => ?_)
  · refine lv_goto (tgt := 695) hx hb dL_law_599 (by decide) ?_
    refine lv_iinc (v := (nI ((6 * jj + 1) + 6))) (lv' := [(4, .int (nI ((6 * jj + 1) + 6))), (6, .long r_567), (5, .int r_511), (3, .ref oa), (2, .ref g0), (1, .ref h0), (0, .ref b)]) hx hb dL_law_695 hl (k := 2) rfl (nI_add (6 * jj + 1) 6) (by decide) rfl (fun ls hl => ?_)
    refine lv_goto (tgt := 33) hx hb dL_law_698 (by decide) ?_
    refine W.widen (k := 25 + (jj + 1)) (n := 5420 + 6 * (jj + 1)) (by omega) (by omega) ?_
    exact ih (jj + 1) N0 ty cl rc lr ld ta tb tc td te tk cn pr sf tn ce gd fi lk db o1 o2 o3 _ mfc mcv mlo mp msf mtn mce mfi mlk mdn mfl mw ou_511 _ _ ls (by omega) (by omega) hR hP hD hS (lv_sub hl [0, 3, 4, 5, 6] (by rw [show 6 * (jj + 1) + 1 = 6 * jj + 1 + 6 by omega]; rfl))
  · refine lv_aload_n hx hb dL_law_588 rfl (lv_at hl 3 rfl) ?_
    refine lv_iconst (v := 0) hx hb dL_law_589 (by decide) ?_
    refine va_lald hx hb hK hP 24 2 rfl rfl (vp_in_nI (n := 0) (by omega) (by omega)) dL_law_590 ?_
    refine lv_topl (fun z_590 ez_590 => ?_)
    obtain rfl : z_590 = ou_511 0 := ez_590
    refine lv_lload hx hb dL_law_591 (lv_at hl 0 rfl) ?_
    refine W.lcmp hx hb dL_law_593 ?_
    refine lv_if_eq (tgt := 599) hx hb dL_law_594 (by decide) (fun c_594 => ?_) (fun c_594 => absurd (hqd.2 c_585) (mt (lg_cmp_eq (ou_511 0) r_567).mpr c_594))
    refine lv_goto (tgt := 695) hx hb dL_law_599 (by decide) ?_
    refine lv_iinc (v := (nI ((6 * jj + 1) + 6))) (lv' := [(4, .int (nI ((6 * jj + 1) + 6))), (6, .long r_567), (5, .int r_511), (3, .ref oa), (2, .ref g0), (1, .ref h0), (0, .ref b)]) hx hb dL_law_695 hl (k := 2) rfl (nI_add (6 * jj + 1) 6) (by decide) rfl (fun ls hl => ?_)
    refine lv_goto (tgt := 33) hx hb dL_law_698 (by decide) ?_
    refine W.widen (k := 25 + (jj + 1)) (n := 5420 + 6 * (jj + 1)) (by omega) (by omega) ?_
    exact ih (jj + 1) N0 ty cl rc lr ld ta tb tc td te tk cn pr sf tn ce gd fi lk db o1 o2 o3 _ mfc mcv mlo mp msf mtn mce mfi mlk mdn mfl mw ou_511 _ _ ls (by omega) (by omega) hR hP hD hS (lv_sub hl [0, 3, 4, 5, 6] (by rw [show 6 * (jj + 1) + 1 = 6 * jj + 1 + 6 by omega]; rfl))
