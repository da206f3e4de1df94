set_option maxHeartbeats 8000000 in
set_option maxRecDepth 100000 in
theorem law_loop {p : Program} {l : Launch} {e : Env} {s : State} {m : MethodId} {below : List Frame} {meth : Method} {c : Code} {dC : Nat → ClassId} {dI : Nat → Nat → Nat} {b L : Nat} {xs : Nat → Int32} (cI cZ cJ : ClassId) (hL : L ≤ 3073) (C0 : lw_At p s m meth c b L xs) (hN : nwB s) (sa sb : Nat) (hlt : l.stackTraces = false) (hT : thX sa sb s) (hSU : vx_Zq Bundle.tN "UNASSIGNED_STACK" Bundle.steD (fun q : Nat => s.heap.size ≤ q) s s.heap) (hSV : vx_Zq Bundle.tN "SUPPRESSED_SENTINEL" Bundle.listD (fun q : Nat => s.heap.size ≤ q) s s.heap) (hK : va_K (dC, dI) vwC2 [(cI, .int), (cZ, .boolean), (cJ, .long)] s) (h0 h1 h2 a1 a2 a3 a4 a5 a6 a7 a8 b1 b2 b3 g0 e1 e2 e3 e4 e5 e6 e7 e8 e9 oa : Nat) : ∀ (n : Nat), lawH p l e s m below meth c dC dI b L cI cZ cJ h0 h1 h2 a1 a2 a3 a4 a5 a6 a7 a8 b1 b2 b3 g0 e1 e2 e3 e4 e5 e6 e7 e8 e9 oa n := by
  have C1 := C0
  obtain ⟨hx, hb, hr, hml, hown, hts, hX, hbl, hlocks, hgv⟩ := C0
  have htsT := hts
  have htsM := fun w h => hts w (wsML_in w h)
  have htsH := fun w h => hts w (wsHL_in w h)
  have hts := fun w h => hts w (wsL_law_in w h)
  have hA : ∀ q : Nat, s.heap.size ≤ q → (fun q : Nat => s.heap.size ≤ q) q := fun _ h => h
  have hbA : ¬ (fun q : Nat => s.heap.size ≤ q) b := Nat.not_le.mpr hbl
  intro n
  induction n with
  | zero =>
    intro jj N0 ty cl rc lr ld ta tb tc td te tk cn pr sf tn ce gd fi lk db o1 o2 o3 mth mfc mcv mlo mp msf mtn mce mfi mlk mdn mfl mw ou H locs ls hn hmf hR hP hD hS hl
    refine lv_iload hx hb dL_law_33 (lv_at hl 0 rfl) ?_
    refine lv_aload_n hx hb dL_law_35 rfl (lv_at hl 4 rfl) ?_
    refine va_slen hx hb hX hbl hbA hS dL_law_36 ?_
    refine lv_topi (fun z_36 ez_36 => ?_)
    obtain rfl : z_36 = nI L := ez_36
    refine lv_bipush (v := 6) hx hb dL_law_37 (by decide) ?_
    refine lv_isub hx hb dL_law_39 ?_
    refine lv_icmp_gt (tgt := 701) hx hb dL_law_40 (by decide) (fun c_40 => ?_) (fun c_40 => absurd (by omega) (mt (law_len (k := 6 * jj + 1) hL (by omega)  ).mpr c_40))
    refine lv_iconst (v := 1) hx hb dL_law_701 (by decide) ?_
    refine va_forget (fun q hq => hS.2.2 q hq) ?_
    refine W.widen (k := 1051) (n := 13624) (by omega) (by omega) ?_
    exact lw_ret hx hb hr hlocks dL_law_702
  | succ n ih =>
    intro jj N0 ty cl rc lr ld ta tb tc td te tk cn pr sf tn ce gd fi lk db o1 o2 o3 mth mfc mcv mlo mp msf mtn mce mfi mlk mdn mfl mw ou H locs ls hn hmf hR hP hD hS hl
    refine lv_iload hx hb dL_law_33 (lv_at hl 0 rfl) ?_
    refine lv_aload_n hx hb dL_law_35 rfl (lv_at hl 4 rfl) ?_
    refine va_slen hx hb hX hbl hbA hS dL_law_36 ?_
    refine lv_topi (fun z_36 ez_36 => ?_)
    obtain rfl : z_36 = nI L := ez_36
    refine lv_bipush (v := 6) hx hb dL_law_37 (by decide) ?_
    refine lv_isub hx hb dL_law_39 ?_
    refine lv_icmp_gt (tgt := 701) hx hb dL_law_40 (by decide) (fun c_40 => ?_) (fun c_40 => ?_)
    · have c_40 : L < 6 * jj + 1 + 6 := (law_len (k := 6 * jj + 1) hL (by omega)  ).mp c_40
      refine lv_iconst (v := 1) hx hb dL_law_701 (by decide) ?_
      refine va_forget (fun q hq => hS.2.2 q hq) ?_
      refine W.widen (k := 1051) (n := 13624) (by omega) (by omega) ?_
      exact lw_ret hx hb hr hlocks dL_law_702
    · have c_40 : ¬ (L < 6 * jj + 1 + 6) := mt (law_len (k := 6 * jj + 1) hL (by omega)  ).mpr c_40
      refine lv_aload_n hx hb dL_law_43 rfl (lv_at hl 4 rfl) ?_
      refine lv_iload hx hb dL_law_44 (lv_at hl 0 rfl) ?_
      refine va_sld hx hb hX hbl hbA hS (vp_in_nI (by omega) (by omega)) dL_law_46 ?_
      refine lv_topi (fun z_46 ez_46 => ?_)
      obtain rfl : z_46 = xs (6 * jj + 1) := ez_46.trans (by rw [nI_clamp (n := (6 * jj + 1)) (by omega)])
      refine lv_bipush (v := 15) hx hb dL_law_47 (by decide) ?_
      refine lv_iand hx hb dL_law_49 ?_
      refine lv_topi (fun z_50 ez_50 => ?_)
      obtain ⟨ac, hac, eac⟩ := pk_andE (xs (6 * jj + 1)) (m := 15) 4 (by decide)
      have hac : ac < 16 := hac
      obtain rfl : z_50 = nI ac := ez_50.trans eac
      rcases (show ac = 0 ∨ ac = 1 ∨ ac = 2 ∨ ac = 3 ∨ ac = 4 ∨ ac = 5 ∨ ac = 6 ∨ ac = 7 ∨ ac = 8 ∨ ac = 9 ∨ ac = 10 ∨ ac = 11 ∨ ac = 12 ∨ ac = 13 ∨ ac = 14 ∨ ac = 15 by omega) with rfl | rfl | rfl | rfl | rfl | rfl | rfl | rfl | rfl | rfl | rfl | rfl | rfl | rfl | rfl | rfl
      · refine lv_tableIn (x := nI 0) (tgt := 112) hx hb dL_law_50 (by decide +kernel) (by decide +kernel) rfl (by decide) ?_
        exact law_a0 cI cZ cJ hL C1 hN sa sb hlt hT hSU hSV hK h0 h1 h2 a1 a2 a3 a4 a5 a6 a7 a8 b1 b2 b3 g0 e1 e2 e3 e4 e5 e6 e7 e8 e9 oa n jj N0 ty cl rc lr ld ta tb tc td te tk cn pr sf tn ce gd fi lk db o1 o2 o3 mth mfc mcv mlo mp msf mtn mce mfi mlk mdn mfl mw ou H locs ls ih hn c_40 hmf hR hP hD hS (lv_sub hl [0, 1, 2, 3, 4] rfl)
      · refine lv_tableIn (x := nI 1) (tgt := 165) hx hb dL_law_50 (by decide +kernel) (by decide +kernel) rfl (by decide) ?_
        exact law_a1 cI cZ cJ hL C1 hN sa sb hlt hT hSU hSV hK h0 h1 h2 a1 a2 a3 a4 a5 a6 a7 a8 b1 b2 b3 g0 e1 e2 e3 e4 e5 e6 e7 e8 e9 oa n jj N0 ty cl rc lr ld ta tb tc td te tk cn pr sf tn ce gd fi lk db o1 o2 o3 mth mfc mcv mlo mp msf mtn mce mfi mlk mdn mfl mw ou H locs ls ih hn c_40 hmf hR hP hD hS (lv_sub hl [0, 1, 2, 3, 4] rfl)
      · refine lv_tableIn (x := nI 2) (tgt := 190) hx hb dL_law_50 (by decide +kernel) (by decide +kernel) rfl (by decide) ?_
        exact law_a2 cI cZ cJ hL C1 hN sa sb hlt hT hSU hSV hK h0 h1 h2 a1 a2 a3 a4 a5 a6 a7 a8 b1 b2 b3 g0 e1 e2 e3 e4 e5 e6 e7 e8 e9 oa n jj N0 ty cl rc lr ld ta tb tc td te tk cn pr sf tn ce gd fi lk db o1 o2 o3 mth mfc mcv mlo mp msf mtn mce mfi mlk mdn mfl mw ou H locs ls ih hn c_40 hmf hR hP hD hS (lv_sub hl [0, 1, 2, 3, 4] rfl)
      · refine lv_tableIn (x := nI 3) (tgt := 259) hx hb dL_law_50 (by decide +kernel) (by decide +kernel) rfl (by decide) ?_
        exact law_a3 cI cZ cJ hL C1 hN sa sb hlt hT hSU hSV hK h0 h1 h2 a1 a2 a3 a4 a5 a6 a7 a8 b1 b2 b3 g0 e1 e2 e3 e4 e5 e6 e7 e8 e9 oa n jj N0 ty cl rc lr ld ta tb tc td te tk cn pr sf tn ce gd fi lk db o1 o2 o3 mth mfc mcv mlo mp msf mtn mce mfi mlk mdn mfl mw ou H locs ls ih hn c_40 hmf hR hP hD hS (lv_sub hl [0, 1, 2, 3, 4] rfl)
      · refine lv_tableIn (x := nI 4) (tgt := 296) hx hb dL_law_50 (by decide +kernel) (by decide +kernel) rfl (by decide) ?_
        exact law_a4 cI cZ cJ hL C1 hN sa sb hlt hT hSU hSV hK h0 h1 h2 a1 a2 a3 a4 a5 a6 a7 a8 b1 b2 b3 g0 e1 e2 e3 e4 e5 e6 e7 e8 e9 oa n jj N0 ty cl rc lr ld ta tb tc td te tk cn pr sf tn ce gd fi lk db o1 o2 o3 mth mfc mcv mlo mp msf mtn mce mfi mlk mdn mfl mw ou H locs ls ih hn c_40 hmf hR hP hD hS (lv_sub hl [0, 1, 2, 3, 4] rfl)
      · refine lv_tableIn (x := nI 5) (tgt := 334) hx hb dL_law_50 (by decide +kernel) (by decide +kernel) rfl (by decide) ?_
        exact law_a5 cI cZ cJ hL C1 hN sa sb hlt hT hSU hSV hK h0 h1 h2 a1 a2 a3 a4 a5 a6 a7 a8 b1 b2 b3 g0 e1 e2 e3 e4 e5 e6 e7 e8 e9 oa n jj N0 ty cl rc lr ld ta tb tc td te tk cn pr sf tn ce gd fi lk db o1 o2 o3 mth mfc mcv mlo mp msf mtn mce mfi mlk mdn mfl mw ou H locs ls ih hn c_40 hmf hR hP hD hS (lv_sub hl [0, 1, 2, 3, 4] rfl)
      · refine lv_tableIn (x := nI 6) (tgt := 371) hx hb dL_law_50 (by decide +kernel) (by decide +kernel) rfl (by decide) ?_
        exact law_a6 cI cZ cJ hL C1 hN sa sb hlt hT hSU hSV hK h0 h1 h2 a1 a2 a3 a4 a5 a6 a7 a8 b1 b2 b3 g0 e1 e2 e3 e4 e5 e6 e7 e8 e9 oa n jj N0 ty cl rc lr ld ta tb tc td te tk cn pr sf tn ce gd fi lk db o1 o2 o3 mth mfc mcv mlo mp msf mtn mce mfi mlk mdn mfl mw ou H locs ls ih hn c_40 hmf hR hP hD hS (lv_sub hl [0, 1, 2, 3, 4] rfl)
      · refine lv_tableIn (x := nI 7) (tgt := 397) hx hb dL_law_50 (by decide +kernel) (by decide +kernel) rfl (by decide) ?_
        exact law_a7 cI cZ cJ hL C1 hN sa sb hlt hT hSU hSV hK h0 h1 h2 a1 a2 a3 a4 a5 a6 a7 a8 b1 b2 b3 g0 e1 e2 e3 e4 e5 e6 e7 e8 e9 oa n jj N0 ty cl rc lr ld ta tb tc td te tk cn pr sf tn ce gd fi lk db o1 o2 o3 mth mfc mcv mlo mp msf mtn mce mfi mlk mdn mfl mw ou H locs ls ih hn c_40 hmf hR hP hD hS (lv_sub hl [0, 1, 2, 3, 4] rfl)
      · refine lv_tableIn (x := nI 8) (tgt := 434) hx hb dL_law_50 (by decide +kernel) (by decide +kernel) rfl (by decide) ?_
        exact law_a8 cI cZ cJ hL C1 hN sa sb hlt hT hSU hSV hK h0 h1 h2 a1 a2 a3 a4 a5 a6 a7 a8 b1 b2 b3 g0 e1 e2 e3 e4 e5 e6 e7 e8 e9 oa n jj N0 ty cl rc lr ld ta tb tc td te tk cn pr sf tn ce gd fi lk db o1 o2 o3 mth mfc mcv mlo mp msf mtn mce mfi mlk mdn mfl mw ou H locs ls ih hn c_40 hmf hR hP hD hS (lv_sub hl [0, 1, 2, 3, 4] rfl)
      · refine lv_tableIn (x := nI 9) (tgt := 459) hx hb dL_law_50 (by decide +kernel) (by decide +kernel) rfl (by decide) ?_
        exact law_a9 cI cZ cJ hL C1 hN sa sb hlt hT hSU hSV hK h0 h1 h2 a1 a2 a3 a4 a5 a6 a7 a8 b1 b2 b3 g0 e1 e2 e3 e4 e5 e6 e7 e8 e9 oa n jj N0 ty cl rc lr ld ta tb tc td te tk cn pr sf tn ce gd fi lk db o1 o2 o3 mth mfc mcv mlo mp msf mtn mce mfi mlk mdn mfl mw ou H locs ls ih hn c_40 hmf hR hP hD hS (lv_sub hl [0, 1, 2, 3, 4] rfl)
      · refine lv_tableIn (x := nI 10) (tgt := 602) hx hb dL_law_50 (by decide +kernel) (by decide +kernel) rfl (by decide) ?_
        exact law_a10 cI cZ cJ hL C1 hN sa sb hlt hT hSU hSV hK h0 h1 h2 a1 a2 a3 a4 a5 a6 a7 a8 b1 b2 b3 g0 e1 e2 e3 e4 e5 e6 e7 e8 e9 oa n jj N0 ty cl rc lr ld ta tb tc td te tk cn pr sf tn ce gd fi lk db o1 o2 o3 mth mfc mcv mlo mp msf mtn mce mfi mlk mdn mfl mw ou H locs ls ih hn c_40 hmf hR hP hD hS (lv_sub hl [0, 1, 2, 3, 4] rfl)
      · refine lv_tableIn (x := nI 11) (tgt := 639) hx hb dL_law_50 (by decide +kernel) (by decide +kernel) rfl (by decide) ?_
        exact law_a11 cI cZ cJ hL C1 hN sa sb hlt hT hSU hSV hK h0 h1 h2 a1 a2 a3 a4 a5 a6 a7 a8 b1 b2 b3 g0 e1 e2 e3 e4 e5 e6 e7 e8 e9 oa n jj N0 ty cl rc lr ld ta tb tc td te tk cn pr sf tn ce gd fi lk db o1 o2 o3 mth mfc mcv mlo mp msf mtn mce mfi mlk mdn mfl mw ou H locs ls ih hn c_40 hmf hR hP hD hS (lv_sub hl [0, 1, 2, 3, 4] rfl)
      · refine lv_tableOut (x := nI 12) (tgt := 695) hx hb dL_law_50 (by decide +kernel) (by decide) ?_
        refine lv_iinc (v := (nI ((6 * jj + 1) + 6))) (lv' := [(4, .int (nI ((6 * jj + 1) + 6))), (3, .ref oa), (2, .ref g0), (1, .ref h0), (0, .ref b)]) hx hb dL_law_695 hl (k := 0) rfl (nI_add (6 * jj + 1) 6) (by decide) rfl (fun ls hl => ?_)
        refine lv_goto (tgt := 33) hx hb dL_law_698 (by decide) ?_
        refine W.widen (k := 25 + (jj + 1)) (n := 5420 + 6 * (jj + 1)) (by omega) (by omega) ?_
        exact ih (jj + 1) N0 ty cl rc lr ld ta tb tc td te tk cn pr sf tn ce gd fi lk db o1 o2 o3 _ mfc mcv mlo mp msf mtn mce mfi mlk mdn mfl mw ou _ _ ls (by omega) (by omega) hR hP hD hS (lv_sub hl [0, 1, 2, 3, 4] (by rw [show 6 * (jj + 1) + 1 = 6 * jj + 1 + 6 by omega]; rfl))
      · refine lv_tableOut (x := nI 13) (tgt := 695) hx hb dL_law_50 (by decide +kernel) (by decide) ?_
        refine lv_iinc (v := (nI ((6 * jj + 1) + 6))) (lv' := [(4, .int (nI ((6 * jj + 1) + 6))), (3, .ref oa), (2, .ref g0), (1, .ref h0), (0, .ref b)]) hx hb dL_law_695 hl (k := 0) rfl (nI_add (6 * jj + 1) 6) (by decide) rfl (fun ls hl => ?_)
        refine lv_goto (tgt := 33) hx hb dL_law_698 (by decide) ?_
        refine W.widen (k := 25 + (jj + 1)) (n := 5420 + 6 * (jj + 1)) (by omega) (by omega) ?_
        exact ih (jj + 1) N0 ty cl rc lr ld ta tb tc td te tk cn pr sf tn ce gd fi lk db o1 o2 o3 _ mfc mcv mlo mp msf mtn mce mfi mlk mdn mfl mw ou _ _ ls (by omega) (by omega) hR hP hD hS (lv_sub hl [0, 1, 2, 3, 4] (by rw [show 6 * (jj + 1) + 1 = 6 * jj + 1 + 6 by omega]; rfl))
      · refine lv_tableOut (x := nI 14) (tgt := 695) hx hb dL_law_50 (by decide +kernel) (by decide) ?_
        refine lv_iinc (v := (nI ((6 * jj + 1) + 6))) (lv' := [(4, .int (nI ((6 * jj + 1) + 6))), (3, .ref oa), (2, .ref g0), (1, .ref h0), (0, .ref b)]) hx hb dL_law_695 hl (k := 0) rfl (nI_add (6 * jj + 1) 6) (by decide) rfl (fun ls hl => ?_)
        refine lv_goto (tgt := 33) hx hb dL_law_698 (by decide) ?_
        refine W.widen (k := 25 + (jj + 1)) (n := 5420 + 6 * (jj + 1)) (by omega) (by omega) ?_
        exact ih (jj + 1) N0 ty cl rc lr ld ta tb tc td te tk cn pr sf tn ce gd fi lk db o1 o2 o3 _ mfc mcv mlo mp msf mtn mce mfi mlk mdn mfl mw ou _ _ ls (by omega) (by omega) hR hP hD hS (lv_sub hl [0, 1, 2, 3, 4] (by rw [show 6 * (jj + 1) + 1 = 6 * jj + 1 + 6 by omega]; rfl))
      · refine lv_tableOut (x := nI 15) (tgt := 695) hx hb dL_law_50 (by decide +kernel) (by decide) ?_
        refine lv_iinc (v := (nI ((6 * jj + 1) + 6))) (lv' := [(4, .int (nI ((6 * jj + 1) + 6))), (3, .ref oa), (2, .ref g0), (1, .ref h0), (0, .ref b)]) hx hb dL_law_695 hl (k := 0) rfl (nI_add (6 * jj + 1) 6) (by decide) rfl (fun ls hl => ?_)
        refine lv_goto (tgt := 33) hx hb dL_law_698 (by decide) ?_
        refine W.widen (k := 25 + (jj + 1)) (n := 5420 + 6 * (jj + 1)) (by omega) (by omega) ?_
        exact ih (jj + 1) N0 ty cl rc lr ld ta tb tc td te tk cn pr sf tn ce gd fi lk db o1 o2 o3 _ mfc mcv mlo mp msf mtn mce mfi mlk mdn mfl mw ou _ _ ls (by omega) (by omega) hR hP hD hS (lv_sub hl [0, 1, 2, 3, 4] (by rw [show 6 * (jj + 1) + 1 = 6 * jj + 1 + 6 by omega]; rfl))
