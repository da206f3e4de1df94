def uN (x : Int64) : Nat := x.toUInt64.toNat
theorem uN_lt (x : Int64) : uN x < 18446744073709551616 := x.toUInt64.toNat_lt
theorem uN_inj {x y : Int64} (h : uN x = uN y) : x = y := congrArg UInt64.toInt64 (UInt64.toNat_inj.mp h)
theorem uN_add (x y : Int64) : uN (x + y) = (uN x + uN y) % 18446744073709551616 := by
  show (x.toUInt64 + y.toUInt64).toNat = _
  exact UInt64.toNat_add _ _
theorem uN_shr (x : Int64) (s : UInt64) : uN (x.toUInt64 >>> s).toInt64 = uN x / 2 ^ (s.toNat % 64) := by
  show (x.toUInt64 >>> s).toNat = _
  rw [UInt64.toNat_shiftRight, Nat.shiftRight_eq_div_pow]
  rfl
theorem uN_and (x y : Int64) : uN (x &&& y) = uN x &&& uN y := by
  show (x.toUInt64 &&& y.toUInt64).toNat = _
  exact UInt64.toNat_and _ _
theorem uN_sub {x y : Int64} (h : uN y ≤ uN x) : uN (x - y) = uN x - uN y := by
  show (x.toUInt64 - y.toUInt64).toNat = _
  exact UInt64.toNat_sub_of_le _ _ (UInt64.le_iff_toNat_le.mpr h)
theorem uN_pJ1 (x : Int64) : uN (pJ1 x) = f1 8 (uN x) := by
  have e : uN ((x.toUInt64 >>> ((1 : Int32).toInt64.toUInt64 &&& Int64.toUInt64 63)).toInt64 &&& 6148914691236517205) = (uN x / 2) &&& mk8 85 8 := by
    rw [uN_and, uN_shr, show (((1 : Int32).toInt64.toUInt64 &&& Int64.toUInt64 63).toNat % 64) = 1 by decide, show uN 6148914691236517205 = mk8 85 8 by decide]
  unfold pJ1 f1
  rw [uN_sub, e]
  rw [e]
  exact Nat.le_trans Nat.and_le_left (Nat.div_le_self _ _)
theorem uN_pJ2 (x : Int64) : uN (pJ2 x) = g2 8 (uN x) ∧ g2 8 (uN x) ≤ 7378697629483820646 := by
  have hm : mk8 51 8 = 3689348814741910323 := by decide
  have h1 : uN x &&& mk8 51 8 ≤ 3689348814741910323 := by rw [← hm]; exact Nat.and_le_right
  have h2 : (uN x / 4) &&& mk8 51 8 ≤ 3689348814741910323 := by rw [← hm]; exact Nat.and_le_right
  unfold pJ2 g2
  rw [uN_add, uN_and, uN_and, uN_shr, show (((2 : Int32).toInt64.toUInt64 &&& Int64.toUInt64 63).toNat % 64) = 2 by decide, show uN 3689348814741910323 = mk8 51 8 by decide, show (2 : Nat) ^ 2 = 4 from rfl]
  generalize uN x &&& mk8 51 8 = a at *
  generalize (uN x / 4) &&& mk8 51 8 = b at *
  omega
theorem uN_pJ3 {x : Int64} (h : uN x ≤ 7378697629483820646) : uN (pJ3 x) = h3 8 (uN x) := by
  unfold pJ3 h3
  rw [uN_and, uN_add, uN_shr, show (((4 : Int32).toInt64.toUInt64 &&& Int64.toUInt64 63).toNat % 64) = 4 by decide, show uN 1085102592571150095 = mk8 15 8 by decide, show (2 : Nat) ^ 4 = 16 from rfl, Nat.mod_eq_of_lt (by omega)]
theorem uN_sum {x : Int64} {y : UInt64} {k d : Nat} (hk : y.toNat % 64 = k) (hd : 2 ^ k = d) (h : uN x + uN x / d < 2 ^ 63) : uN (x + (x.toUInt64 >>> y).toInt64) = uN x + uN x / d := by
  rw [uN_add, uN_shr, hk, hd, Nat.mod_eq_of_lt (by omega)]
theorem low7 (z : Int64) : (z.toInt32 &&& 127) = nI (uN z % 128) := by
  apply Int32.toBitVec_inj.mp
  apply BitVec.eq_of_toNat_eq
  rw [Int32.toBitVec_and, Int64.toBitVec_toInt32]
  show ((z.toBitVec.signExtend 32) &&& 127#32).toNat = (BitVec.ofNat 32 (uN z % 128)).toNat
  rw [BitVec.signExtend_eq_setWidth_of_le _ (by decide), BitVec.toNat_and, BitVec.toNat_setWidth, show (127#32).toNat = 2 ^ 7 - 1 by decide, Nat.and_two_pow_sub_one_eq_mod, BitVec.toNat_ofNat]
  show z.toBitVec.toNat % 2 ^ 32 % 2 ^ 7 = z.toBitVec.toNat % 128 % 2 ^ 32
  omega
theorem on8_le {b : Nat} (h : b < 256) : on8 b ≤ 8 := (d3 b h).2.2.2.2
theorem m256 (n : Nat) : n % 256 < 256 := Nat.mod_lt _ (by decide)
theorem tt_s (k n : Nat) : tt (k + 1) n = on8 (n % 256) + 256 * tt k (n / 256) := by
  have h := tt_step (m256 n) k (n / 256)
  rw [← split8 n] at h
  exact h
theorem ones_s (k n : Nat) : ones (k + 8) n = on8 (n % 256) + ones k (n / 256) := by
  have h := ones_8 (m256 n) k (n / 256)
  rw [← split8 n] at h
  exact h
theorem tt_0 (n : Nat) : tt 0 n = 0 := by
  unfold tt h3 mk8
  exact Nat.and_zero _
theorem tt_1 (n : Nat) : tt 1 n = on8 (n % 256) := by rw [tt_s, tt_0]; rfl
theorem ones_64 (n : Nat) : ones 64 n = on8 (n % 256) + on8 (n / 256 % 256) + on8 (n / 256 / 256 % 256) + on8 (n / 256 / 256 / 256 % 256) + on8 (n / 256 / 256 / 256 / 256 % 256) + on8 (n / 256 / 256 / 256 / 256 / 256 % 256) + on8 (n / 256 / 256 / 256 / 256 / 256 / 256 % 256) + on8 (n / 256 / 256 / 256 / 256 / 256 / 256 / 256 % 256) := by
  rw [ones_s 56, ones_s 48, ones_s 40, ones_s 32, ones_s 24, ones_s 16, ones_s 8, ones_s 0]
  simp only [ones]
  omega
theorem pop_tt (n w : Nat) (hw : w = tt 8 n) : (w + w / 256 + (w + w / 256) / 65536 + (w + w / 256 + (w + w / 256) / 65536) / 4294967296) % 128 = ones 64 n := by
  rw [ones_64]
  refine pop_sum (on8_le (m256 _)) (on8_le (m256 _)) (on8_le (m256 _)) (on8_le (m256 _)) (on8_le (m256 _)) (on8_le (m256 _)) (on8_le (m256 _)) (on8_le (m256 _)) (x1 := tt 7 (n / 256)) (x2 := tt 6 (n / 256 / 256)) (x3 := tt 5 (n / 256 / 256 / 256)) (x4 := tt 4 (n / 256 / 256 / 256 / 256)) (x5 := tt 3 (n / 256 / 256 / 256 / 256 / 256)) (x6 := tt 2 (n / 256 / 256 / 256 / 256 / 256 / 256)) (hw.trans (tt_s 7 _)) (tt_s 6 _) (tt_s 5 _) (tt_s 4 _) (tt_s 3 _) (tt_s 2 _) ?_
  rw [tt_s 1, tt_1]
theorem bc_ones (x : Int64) : pJ_bc x = nI (ones 64 (uN x)) := by
  obtain ⟨z, hz⟩ : ∃ z, z = pJ3 (pJ2 (pJ1 x)) := ⟨_, rfl⟩
  have h1 := uN_pJ2 (pJ1 x)
  have h2 : uN z = tt 8 (uN x) := by
    rw [hz, uN_pJ3 (by rw [h1.1]; exact h1.2), h1.1, uN_pJ1]
    rfl
  have h4 : uN z < 2 ^ 60 := by
    rw [h2]
    have : tt 8 (uN x) ≤ mk8 15 8 := Nat.and_le_right
    have e : mk8 15 8 = 1085102592571150095 := by decide
    omega
  obtain ⟨b1, b2, b3⟩ := pop_lt h4
  have e4 : uN (pJ4 z) = uN z + uN z / 256 := uN_sum (k := 8) (by decide) rfl (by omega)
  have e5 : uN (pJ5 (pJ4 z)) = uN z + uN z / 256 + (uN z + uN z / 256) / 65536 := by
    rw [← e4]
    exact uN_sum (k := 16) (by decide) rfl (by rw [e4]; omega)
  have e6 : uN (pJ6 (pJ5 (pJ4 z))) = uN z + uN z / 256 + (uN z + uN z / 256) / 65536 + (uN z + uN z / 256 + (uN z + uN z / 256) / 65536) / 4294967296 := by
    rw [← e5]
    exact uN_sum (k := 32) (by decide) rfl (by rw [e5]; omega)
  show ((pJ6 (pJ5 (pJ4 (pJ3 (pJ2 (pJ1 x)))))).toInt32 &&& 127) = _
  rw [← hz, low7, e6, pop_tt (uN x) (uN z) h2]
theorem ones_top : ∀ (k n : Nat), ones (k + 1) n = ones k n + n / 2 ^ k % 2
  | 0, n => by simp [ones]
  | k + 1, n => by
    rw [ones, ones_top k (n / 2), ones, Nat.div_div_eq_div_mul, Nat.pow_succ, Nat.mul_comm 2]
    omega
theorem bit_ones (x : Int64) (c : Nat) : uN x / 2 ^ c % 2 = if x.toBitVec.getLsbD c = true then 1 else 0 := by
  have e : x.toBitVec.getLsbD c = decide (uN x / 2 ^ c % 2 = 1) := Nat.testBit_eq_decide_div_mod_eq
  rw [e]
  by_cases h : uN x / 2 ^ c % 2 = 1
  · simp [h]
  · simp [h]
    omega
theorem cnt_ones {cl rc : Nat} {db : Nat → Int64} {mdn : Nat → Int32} (h : rD cl rc db mdn) {r : Nat} (hr : r < 60) : ∀ c, c ≤ 60 → pM_cnt mdn (r + 1) c = ones c (uN (db r))
  | 0, _ => rfl
  | c + 1, hc => by
    rw [pM_cnt, ones_top, cnt_ones h hr c (by omega), bit_ones]
    have q := h.1 c r (by omega) hr
    by_cases z : mdn (61 * (c + 1) + (r + 1)) = 0
    · rw [if_pos z, if_neg (fun w => q.mp w z)]
    · rw [if_neg z, if_pos (q.mpr z)]
theorem ones_up {cl rc : Nat} {db : Nat → Int64} {mdn : Nat → Int32} (h : rD cl rc db mdn) {r : Nat} (hr : r < 60) : ∀ d, ones (cl + d) (uN (db r)) = ones cl (uN (db r))
  | 0 => rfl
  | d + 1 => by
    have hn : ¬ (db r).toBitVec.getLsbD (cl + d) = true := by
      intro hb
      by_cases hc : cl + d < 60
      · have q := (h.1 (cl + d) r hc hr).mp hb
        have := (h.2.2 (cl + d + 1) (r + 1) (by omega) (by omega) (by omega) (by omega) q).1
        omega
      · rw [h.2.1 r hr (cl + d) (by omega)] at hb
        exact absurd hb (by decide)
    rw [← Nat.add_assoc, ones_top, ones_up h hr d, bit_ones, if_neg hn, Nat.add_zero]
theorem cnt_bc {cl rc : Nat} {db : Nat → Int64} {mdn : Nat → Int32} (h : rD cl rc db mdn) (hc : cl ≤ 60) {r : Nat} (hr : r < 60) : pJ_bc (db r) = nI (pM_cnt mdn (r + 1) cl) := by
  rw [bc_ones, cnt_ones h hr cl hc]
  have e := ones_up h hr (64 - cl)
  rw [show cl + (64 - cl) = 64 by omega] at e
  rw [e]
theorem div_rel {cl : Nat} {ou ou' : Nat → Int64} {xo r th : Int32} {xa xb b : Int64} (hB : (r, ou') = pW_div cl ou xo xa xb) (hM : (b, th) = pM_divide cl xo xa xb) : th = r ∧ (r = 0 → ou' 0 = b) := by
  unfold pW_div at hB
  unfold pM_divide at hM
  rw [isC_eq] at hB
  by_cases h1 : pM_isC cl xo = 0
  · rw [if_pos h1, Prod.mk.injEq] at hB hM
    rw [hB.1, hB.2, hM.1, hM.2]
    exact ⟨rfl, fun _ => rfl⟩
  · rw [if_neg h1] at hB hM
    by_cases h2 : xb = 0
    · rw [if_pos h2, Prod.mk.injEq] at hB hM
      rw [hB.1, hM.2]
      exact ⟨rfl, fun h => absurd h (by decide)⟩
    · rw [if_neg h2, Prod.mk.injEq] at hB hM
      rw [hB.1, hB.2, hM.1, hM.2]
      exact ⟨rfl, fun _ => rfl⟩
theorem han_eq {cl rc lr : Nat} {ld : Int32} {db ou ou' : Nat → Int64} {mdn : Nat → Int32} {xr r b th : Int32} (hD : rD cl rc db mdn) (hc : cl ≤ 60) (hrc : rc ≤ 60) (hlr : lr ≤ rc) (hB : (r, ou') = pW_han rc lr ld db ou xr) (hM : (b, th) = pM_handle cl lr ld mdn xr) : th = r ∧ (r = 0 → ou' 0 = b.toInt64) := by
  unfold pW_han at hB
  unfold pM_handle at hM
  by_cases h0 : lr = 0
  · rw [if_pos h0, Prod.mk.injEq] at hM
    have hz : pB_isR rc xr = 0 ∨ ¬ xr = nI lr ∨ ld = 0 := by
      by_cases h1 : xr = nI lr
      · refine Or.inl ?_
        rw [isR_eq, h1, h0]
        rfl
      · exact Or.inr (Or.inl h1)
    rw [if_pos hz, Prod.mk.injEq] at hB
    rw [hB.1, hM.2]
    exact ⟨rfl, fun h => absurd h (by decide)⟩
  · rw [if_neg h0] at hM
    by_cases h1 : xr = nI lr
    · rw [if_pos h1] at hM
      by_cases h2 : ld = 0
      · rw [if_pos h2, Prod.mk.injEq] at hM
        rw [if_pos (Or.inr (Or.inr h2)), Prod.mk.injEq] at hB
        rw [hB.1, hM.2]
        exact ⟨rfl, fun h => absurd h (by decide)⟩
      · rw [if_neg h2, Prod.mk.injEq] at hM
        have hz : ¬ (pB_isR rc xr = 0 ∨ ¬ xr = nI lr ∨ ld = 0) := by
          rintro (h | h | h)
          · rw [h1] at h
            exact isR_at (by omega) hlr (by omega) h
          · exact h h1
          · exact h2 h
        rw [if_neg hz, Prod.mk.injEq] at hB
        have e := cnt_bc hD hc (r := lr - 1) (by omega)
        rw [show lr - 1 + 1 = lr by omega] at e
        rw [hB.1, hB.2, hM.1, hM.2]
        refine ⟨rfl, fun _ => ?_⟩
        show (pB_han db lr).toInt64 = _
        rw [pB_han, e]
    · rw [if_neg h1, Prod.mk.injEq] at hM
      rw [if_pos (Or.inr (Or.inl h1)), Prod.mk.injEq] at hB
      rw [hB.1, hM.2]
      exact ⟨rfl, fun h => absurd h (by decide)⟩
section RAH
variable {N0 ty cl rc lr : Nat} {ld : Int32} {cn : Nat} {pr sf : Nat → Int32} {tn : Nat → Nat} {ce : Nat → Int64} {gd : Nat → Nat} {fi : Nat → Int64} {lk : Nat → Int32} {db : Nat → Int64} {o1 o2 o3 : Nat → Int32} {mfc : Nat} {mp msf : Nat → Int32} {mtn : Nat → Nat} {mce mfi : Nat → Int64} {mlk mdn mfl : Nat → Int32}
theorem han_rel {ou ou' : Nat → Int64} {xr r b th : Int32} (hR : RA N0 ty cl rc lr ld cn pr sf tn ce gd fi lk db o1 o2 o3 mfc mp msf mtn mce mfi mlk mdn mfl) (hB : (r, ou') = pW_han rc lr ld db ou xr) (hM : (b, th) = pM_handle cl lr ld mdn xr) : th = r ∧ (r = 0 → ou' 0 = b.toInt64) :=
  han_eq hR.2.2.2.2.2.2.1 hR.1.2.2.2.1 hR.1.2.2.2.2.1 hR.1.2.2.2.2.2.1 hB hM
end RAH
