-- the two runs of a program, act by act: Trial.perform and the reference's goes
theorem pM_perf_8 (n : Nat) (p : Int32) (w : Nat → Int64) (v : Int64) (lo : Int32) : pM_perf n p 8 w v lo = (1, v, lo, w) := by
  cases n <;> simp [pM_perf]
def sim (x : Int32 × Int64 × Int64 × Int64 × Int64 × Int64 × Int32) (y : Int32 × Int64 × Int32 × (Nat → Int64)) : Prop :=
  (x.1 = 0 ∧ y.1 = 1 ∧ y.2.1 = x.2.2.2.2.2.1 ∧ y.2.2.1 = x.2.2.2.2.2.2 ∧ y.2.2.2 0 = x.2.1 ∧ y.2.2.2 1 = x.2.2.1 ∧ y.2.2.2 2 = x.2.2.2.1 ∧ y.2.2.2 3 = x.2.2.2.2.1) ∨ ((x.1 = 2 ∨ x.1 = 3 ∨ x.1 = 4 ∨ x.1 = 5) ∧ y.1 = -x.1)
theorem sim_step {n : Nat} {p : Int32} {i : Nat} {a b c d e : Int64} {k : Int32} {w : Nat → Int64}
    (ih : ∀ (i : Nat) (a b c d e : Int64) (k : Int32) (w : Nat → Int64), i < 8 → w 0 = a → w 1 = b → w 2 = c → w 3 = d → (k = 0 ∨ k = 1) → sim (pT_perf n p i a b c d e k) (pM_perf n p i w e k))
    {a' b' c' d' e' : Int64} {k' : Int32} {w' : Nat → Int64} (hc : pT_change a b c d e k (acN p i) = (0, a', b', c', d', e', k')) (hr : pM_reckon e w (acN p i) = (e', w')) (h13 : ¬ acN p i = 13) (h4 : ¬ (acN p i = 4 ∧ w 1 = 0)) (h10 : ¬ acN p i = 10) (hi : i < 8)
    (hnx : pT_nx p i a c = pM_nx (acN p i) i w') (hle : pM_nx (acN p i) i w' ≤ 8) (hlo : pM_lo (acN p i) k = k') (w0 : w' 0 = a') (w1 : w' 1 = b') (w2 : w' 2 = c') (w3 : w' 3 = d') (hk' : k' = 0 ∨ k' = 1) : sim (pT_perf (n + 1) p i a b c d e k) (pM_perf (n + 1) p i w e k) := by
  rw [pT_perf, pM_perf, if_neg (show ¬ 8 ≤ i by omega), if_neg h13, if_neg h4, if_neg h10, hc, hr]
  dsimp only
  rw [if_pos rfl, hnx, hlo]
  by_cases h8 : pM_nx (acN p i) i w' < 8
  · rw [if_pos h8]
    exact ih _ _ _ _ _ _ _ _ h8 w0 w1 w2 w3 hk'
  · rw [if_neg h8, show pM_nx (acN p i) i w' = 8 by omega, pM_perf_8]
    exact Or.inl ⟨rfl, rfl, rfl, rfl, w0, w1, w2, w3⟩
theorem lo_same {j : Nat} {k : Int32} (hk : k = 0 ∨ k = 1) (hj : ¬ j = 7) : pM_lo j k = k := by
  rcases hk with rfl | rfl
  · rw [pM_lo, if_pos rfl, if_neg hj]
  · rw [pM_lo, if_neg (by decide)]
theorem nx_T {p : Int32} {i : Nat} {a c : Int64} (h6 : ¬ acN p i = 6) : pT_nx p i a c = i + 1 := if_neg h6
theorem nx_M {j i : Nat} {w : Nat → Int64} (h6 : ¬ j = 6) (h13 : ¬ j = 13) : pM_nx j i w = i + 1 := by rw [pM_nx, if_neg h6, if_neg h13]
theorem dbl (a : Int64) : a + a = a * 2 := by
  rw [← Int64.toInt_inj, Int64.toInt_add, Int64.toInt_mul, show (2 : Int64).toInt = 2 from rfl]
  congr 1
  omega
theorem perf_sim : ∀ (n : Nat) (p : Int32) (i : Nat) (a b c d e : Int64) (k : Int32) (w : Nat → Int64), i < 8 → w 0 = a → w 1 = b → w 2 = c → w 3 = d → (k = 0 ∨ k = 1) → sim (pT_perf n p i a b c d e k) (pM_perf n p i w e k) := by
  intro n p
  induction n with
  | zero =>
    intro i a b c d e k w hi h0 h1 h2 h3 hk
    rw [pT_perf, pM_perf, if_neg (show ¬ 8 ≤ i by omega)]
    exact Or.inr ⟨Or.inr (Or.inr (Or.inl rfl)), rfl⟩
  | succ n ih =>
    intro i a b c d e k w hi h0 h1 h2 h3 hk
    have hac := acN_lt p i
    have plain : ∀ {a' b' c' d' e' : Int64} {w' : Nat → Int64}, pT_change a b c d e k (acN p i) = (0, a', b', c', d', e', k) → pM_reckon e w (acN p i) = (e', w') → ¬ acN p i = 13 → ¬ acN p i = 4 → ¬ acN p i = 10 → ¬ acN p i = 6 → ¬ acN p i = 7 → w' 0 = a' → w' 1 = b' → w' 2 = c' → w' 3 = d' → sim (pT_perf (n + 1) p i a b c d e k) (pM_perf (n + 1) p i w e k) :=
      fun hc hr n13 n4 n10 n6 n7 w0 w1 w2 w3 => sim_step ih hc hr n13 (fun h => n4 h.1) n10 hi (by rw [nx_T n6, nx_M n6 n13]) (by rw [nx_M n6 n13]; omega) (lo_same hk n7) w0 w1 w2 w3 hk
    rcases (show acN p i = 0 ∨ acN p i = 1 ∨ acN p i = 2 ∨ acN p i = 3 ∨ acN p i = 4 ∨ acN p i = 5 ∨ acN p i = 6 ∨ acN p i = 7 ∨ acN p i = 8 ∨ acN p i = 9 ∨ acN p i = 10 ∨ acN p i = 11 ∨ acN p i = 12 ∨ acN p i = 13 ∨ acN p i = 14 ∨ acN p i = 15 by omega) with h | h | h | h | h | h | h | h | h | h | h | h | h | h | h | h
    · exact plain (by rw [h]; rfl) (by rw [h]; rfl) (by omega) (by omega) (by omega) (by omega) (by omega) h0 h1 h2 h3
    · exact plain (by rw [h]; rfl) (by rw [h]; rfl) (by omega) (by omega) (by omega) (by omega) (by omega) (by simp [vp_updL, h0]) (by simp [vp_updL, h1]) (by simp [vp_updL, h2]) (by simp [vp_updL, h3])
    · exact plain (by rw [h]; rfl) (by rw [h]; rfl) (by omega) (by omega) (by omega) (by omega) (by omega) (by simp [vp_updL, h0, dbl]) (by simp [vp_updL, h1]) (by simp [vp_updL, h2]) (by simp [vp_updL, h3])
    · exact plain (by rw [h]; rfl) (by rw [h]; rfl) (by omega) (by omega) (by omega) (by omega) (by omega) (by simp [vp_updL, h0]) (by simp [vp_updL, h0]) (by simp [vp_updL, h2]) (by simp [vp_updL, h3])
    · by_cases hb : b = 0
      · refine Or.inr ?_
        rw [pT_perf, pM_perf, if_neg (show ¬ 8 ≤ i by omega), if_neg (show ¬ acN p i = 13 by omega), if_pos ⟨h, h1.trans hb⟩, h]
        simp [pT_change, hb]
      · exact sim_step ih (a' := a / b) (b' := b) (c' := c) (d' := d) (e' := e) (k' := k) (w' := vp_updL w 0 (w 0 / w 1)) (by rw [h]; simp [pT_change, hb]) (by rw [h]; rfl) (by omega) (fun q => hb (h1.symm.trans q.2)) (by omega) hi (by rw [nx_T (by omega), nx_M (by omega) (by omega)]) (by rw [nx_M (by omega) (by omega)]; omega) (lo_same hk (by omega)) (by simp [vp_updL, h0, h1]) (by simp [vp_updL, h1]) (by simp [vp_updL, h2]) (by simp [vp_updL, h3]) hk
    · exact plain (by rw [h]; rfl) (by rw [h]; rfl) (by omega) (by omega) (by omega) (by omega) (by omega) (by simp [vp_updL, h1]) (by simp [vp_updL, h0]) (by simp [vp_updL, h2]) (by simp [vp_updL, h3])
    · exact sim_step ih (a' := a) (b' := b) (c' := c) (d' := d) (e' := e) (k' := k) (w' := w) (by rw [h]; rfl) (by rw [h]; rfl) (by omega) (fun q => by omega) (by omega) hi (by rw [pT_nx, pM_nx, if_pos h, if_pos h, h0, h2]) (by rw [pM_nx, if_pos h]; split <;> omega) (lo_same hk (by omega)) h0 h1 h2 h3 hk
    · exact sim_step ih (a' := a) (b' := b) (c' := c) (d' := d) (e' := e) (k' := 1) (w' := w) (by rw [h]; rfl) (by rw [h]; rfl) (by omega) (fun q => by omega) (by omega) hi (by rw [nx_T (by omega), nx_M (by omega) (by omega)]) (by rw [nx_M (by omega) (by omega)]; omega) (by rw [h, pM_lo]; split <;> simp) h0 h1 h2 h3 (Or.inr rfl)
    · exact plain (by rw [h]; rfl) (by rw [h]; show (e + w 0, w) = (e + a, w); rw [h0]) (by omega) (by omega) (by omega) (by omega) (by omega) h0 h1 h2 h3
    · exact plain (by rw [h]; rfl) (by rw [h]; rfl) (by omega) (by omega) (by omega) (by omega) (by omega) (by simp [vp_updL]) (by simp [vp_updL, h1]) (by simp [vp_updL, h2]) (by simp [vp_updL, h3])
    · refine Or.inr ?_
      rw [pT_perf, pM_perf, if_neg (show ¬ 8 ≤ i by omega), if_neg (show ¬ acN p i = 13 by omega), if_neg (show ¬ (acN p i = 4 ∧ w 1 = 0) from fun q => by omega), if_pos h, h]
      simp [pT_change]
    · exact plain (by rw [h]; rfl) (by rw [h]; rfl) (by omega) (by omega) (by omega) (by omega) (by omega) (by simp [vp_updL, h0]) (by simp [vp_updL, h1]) (by simp [vp_updL, h3]) (by simp [vp_updL, h3])
    · exact plain (by rw [h]; rfl) (by rw [h]; rfl) (by omega) (by omega) (by omega) (by omega) (by omega) (by simp [vp_updL, h0]) (by simp [vp_updL, h1]) (by simp [vp_updL, h2]) (by simp [vp_updL, h0, h2])
    · rw [pT_perf, pM_perf, if_neg (show ¬ 8 ≤ i by omega), if_pos h, if_neg (show ¬ (acN p i = 4 ∧ w 1 = 0) from fun q => by omega), if_neg (show ¬ acN p i = 10 by omega), show pM_reckon e w (acN p i) = (e, w) by rw [h]; rfl]
      dsimp only
      rw [show pM_nx (acN p i) i w = 8 by rw [pM_nx, if_neg (by omega), if_pos h], pM_perf_8, lo_same hk (by omega)]
      exact Or.inl ⟨rfl, rfl, rfl, rfl, h0, h1, h2, h3⟩
    · exact plain (by rw [h]; rfl) (by rw [h]; rfl) (by omega) (by omega) (by omega) (by omega) (by omega) h0 h1 h2 h3
    · exact plain (by rw [h]; rfl) (by rw [h]; rfl) (by omega) (by omega) (by omega) (by omega) (by omega) h0 h1 h2 h3
/-- a class's attempt on a record and the reference's -/
theorem att_sim {N0 i j : Nat} {ta tb tc td te : Int64} {tk : Int32} {pr : Nat → Int32} {tn : Nat → Nat} {ce fi : Nat → Int64} {lk : Nat → Int32} {mcv : Int64} {mlo : Int32} {mp : Nat → Int32} {mtn : Nat → Nat} {mce mfi : Nat → Int64} {mlk : Nat → Int32} {mw : Nat → Int64}
    (hl : lk (j - 1) = mlk j) (hp : pr (tn (i - 1) - 1) = mp (mtn i)) (hc : ce (i - 1) = mce i) (hf : ∀ f, f < 4 → fi ((j - 1) * 4 + f) = mfi (4 * j + f)) : sim (pB_attempt N0 ta tb tc td te tk pr tn ce fi lk i j) (pM_goes N0 mcv mlo mp mtn mce mfi mlk mw i j) := by
  rw [pB_attempt, pM_goes, hl]
  by_cases h : mlk j = 0
  · rw [if_pos h, if_pos h]
    simp only [pT_load, pT_perform]
    rw [hp, hc]
    have k := perf_sim N0 (mp (mtn i)) 0 (fi ((j - 1) * 4)) (fi ((j - 1) * 4 + 1)) (fi ((j - 1) * 4 + 2)) (fi ((j - 1) * 4 + 3)) (mce i) 0 (vp_updL (vp_updL (vp_updL (vp_updL mw 0 (mfi ((4 * j) + 0))) 1 (mfi ((4 * j) + 1))) 2 (mfi ((4 * j) + 2))) 3 (mfi ((4 * j) + 3))) (by omega)
      (by rw [show (j - 1) * 4 = (j - 1) * 4 + 0 from rfl, hf 0 (by omega)]; simp [vp_updL]) (by rw [hf 1 (by omega)]; simp [vp_updL]) (by rw [hf 2 (by omega)]; simp [vp_updL]) (by rw [hf 3 (by omega)]; simp [vp_updL]) (Or.inl rfl)
    exact k
  · rw [if_neg h, if_neg h]
    exact Or.inr ⟨Or.inr (Or.inr (Or.inr rfl)), rfl⟩
