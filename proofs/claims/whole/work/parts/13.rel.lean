theorem wb_tb (n : Nat) : (lN n).toBitVec = BitVec.ofNat 64 n := rfl
theorem wb_inj {a b : Int64} (h : a.toBitVec = b.toBitVec) : a = b := Int64.toBitVec_inj.mp h
theorem wb_tn {n : Nat} (h : n < 2 ^ 64) : (lN n).toBitVec.toNat = n := by rw [wb_tb, BitVec.toNat_ofNat, Nat.mod_eq_of_lt h]
theorem wb_of (x : Int64) : ∃ n, n < 2 ^ 64 ∧ x = lN n := ⟨x.toBitVec.toNat, x.toBitVec.isLt, wb_inj (by rw [wb_tb]; simp)⟩
theorem wb_of32 (x : Int32) : ∃ n, n < 2 ^ 32 ∧ x = nI n := ⟨x.toBitVec.toNat, x.toBitVec.isLt, Int32.toBitVec_inj.mp (by show _ = BitVec.ofNat 32 _; simp)⟩
theorem wb_c : ∀ k, k < 64 → ((nI k).toInt64 &&& 63) = lN k := by decide +kernel
theorem wb_cu : ∀ k, k < 64 → ((nI k).toInt64.toUInt64 &&& Int64.toUInt64 63) = UInt64.ofNat k := by decide +kernel
theorem wb_sm : ∀ k, k < 64 → (BitVec.ofNat 64 k).smod 64 = BitVec.ofNat 64 k := by decide +kernel
theorem wb_pw {a b : Nat} (h : a ≤ b) : 2 ^ b = 2 ^ a * 2 ^ (b - a) := by rw [← Nat.pow_add]; congr 1; omega
theorem wb_lt2 {a b : Nat} (h : a < b) : 2 ^ a < 2 ^ b := Nat.pow_lt_pow_right (by decide) h
theorem wb_mod (n : Nat) : lN n = lN (n % 2 ^ 64) := wb_inj (by rw [wb_tb, wb_tb]; apply BitVec.eq_of_toNat_eq; rw [BitVec.toNat_ofNat, BitVec.toNat_ofNat, Nat.mod_mod])
theorem wb_shl (n : Nat) {k : Nat} (hk : k < 64) : lN n <<< ((nI k).toInt64 &&& 63) = lN (n * 2 ^ k) := by
  rw [wb_c k hk]
  apply wb_inj
  rw [Int64.toBitVec_shiftLeft, wb_tb, wb_tb, wb_tb, wb_sm k hk]
  apply BitVec.eq_of_toNat_eq
  rw [BitVec.shiftLeft_eq', BitVec.toNat_shiftLeft, BitVec.toNat_ofNat, BitVec.toNat_ofNat, BitVec.toNat_ofNat, Nat.mod_eq_of_lt (show k < 2 ^ 64 by omega), Nat.shiftLeft_eq, Nat.mul_mod, Nat.mod_mod, ← Nat.mul_mod]
-- the class's state and the reference's: what ties them, and that each call keeps it
def rA (N0 ty cl rc lr : Nat) (ld : Int32) (cn mN mty mcl mrc mfc mlr : Nat) (mld : Int32) : Prop := mN = N0 ∧ mty = ty ∧ mcl = cl ∧ mrc = rc ∧ mlr = lr ∧ mld = ld ∧ cn = min mfc 100 ∧ N0 ≤ 200 ∧ ty ≤ 20 ∧ cl ≤ 60 ∧ rc ≤ 60 ∧ lr ≤ rc ∧ (lr = 0 → ld = 0)
def rP (pr sf mp msf : Nat → Int32) : Prop := ∀ q, q < 20 → pr q = mp (q + 1) ∧ sf q = msf (q + 1)
def rT (ty cl : Nat) (tn mtn : Nat → Nat) : Prop := (∀ q, q < 60 → tn q = mtn (q + 1)) ∧ ∀ q, q < cl → 1 ≤ tn q ∧ tn q ≤ ty
def rC (ce mce : Nat → Int64) : Prop := ∀ q, q < 60 → ce q = mce (q + 1)
def rF (fi mfi : Nat → Int64) : Prop := ∀ r f, r < 60 → f < 4 → fi (r * 4 + f) = mfi (4 * (r + 1) + f)
def rK (lk mlk : Nat → Int32) : Prop := ∀ r, r < 60 → lk r = mlk (r + 1)
def rD (cl rc : Nat) (db : Nat → Int64) (mdn : Nat → Int32) : Prop := (∀ c r, c < 60 → r < 60 → ((db r).toBitVec.getLsbD c = true ↔ ¬ mdn (61 * (c + 1) + (r + 1)) = 0)) ∧ (∀ r, r < 60 → ∀ c, 60 ≤ c → (db r).toBitVec.getLsbD c = false) ∧ ∀ c r, 1 ≤ c → c ≤ 60 → 1 ≤ r → r ≤ 60 → ¬ mdn (61 * c + r) = 0 → c ≤ cl ∧ r ≤ rc
def rG (rc : Nat) (gd : Nat → Nat) (mdn : Nat → Int32) : Prop := ∀ c, c < 60 → gd c = pM_top mdn (c + 1) rc
def rO (cn : Nat) (o1 o2 o3 mfl : Nat → Int32) : Prop := ∀ q, q < cn → o1 q = mfl (3 * q) ∧ o2 q = mfl (3 * q + 1) ∧ o3 q = mfl (3 * q + 2)
theorem lt1_le0 (x : Int32) : x < 1 ↔ x ≤ 0 := by
  rw [Int32.lt_iff_toInt_lt, Int32.le_iff_toInt_le, i32_1, Int32.toInt_zero]
  omega
theorem le4_lt3 (x : Int32) : 4 ≤ x ↔ 3 < x := by
  rw [Int32.lt_iff_toInt_lt, Int32.le_iff_toInt_le, show (4 : Int32).toInt = 4 from rfl, show (3 : Int32).toInt = 3 from rfl]
  omega
theorem isC_eq (cl : Nat) (x : Int32) : pB_isC cl x = pM_isC cl x := by
  unfold pB_isC pM_isC
  simp only [lt1_le0]
theorem isR_eq (rc : Nat) (x : Int32) : pB_isR rc x = pM_isR rc x := by
  unfold pB_isR pM_isR
  simp only [lt1_le0]
theorem isC_at {cl i : Nat} (h1 : 1 ≤ i) (h2 : i ≤ cl) (hc : cl < 2 ^ 31) : ¬ pB_isC cl (nI i) = 0 := by
  rw [isC_eq]
  exact misC_ok h1 h2 hc
theorem isR_at {rc j : Nat} (h1 : 1 ≤ j) (h2 : j ≤ rc) (hc : rc < 2 ^ 31) : ¬ pB_isR rc (nI j) = 0 := by
  rw [isR_eq]
  exact misR_ok h1 h2 hc
theorem type_rel {ty : Nat} {pr sf mp msf : Nat → Int32} {xd xs : Int32} (hty : ty ≤ 20) (hP : rP pr sf mp msf) {r r2 mt : Int32} {ty' mty' : Nat} {pr' sf' mp' msf' : Nat → Int32} (hB : (r, ty', pr', sf') = pB_type ty pr sf xd xs) (hM : (r2, mt, mty', mp', msf') = pM_type ty mp msf xd xs) : r = r2 ∧ mty' = ty' ∧ ty ≤ ty' ∧ ty' ≤ 20 ∧ rP pr' sf' mp' msf' := by
  unfold pB_type at hB
  unfold pM_type at hM
  by_cases h : ty < 20
  · rw [if_pos h] at hB
    rw [if_neg (by omega)] at hM
    simp only [Prod.mk.injEq] at hB hM
    obtain ⟨rfl, rfl, rfl, rfl⟩ := hB
    obtain ⟨rfl, rfl, rfl, rfl, rfl⟩ := hM
    refine ⟨rfl, rfl, by omega, by omega, fun q hq => ?_⟩
    by_cases e : q = ty
    · subst e
      simp [upd]
    · have e2 : ¬ q + 1 = ty + 1 := by omega
      simp [upd, e, hP q hq]
  · rw [if_neg h] at hB
    rw [if_pos (by omega)] at hM
    simp only [Prod.mk.injEq] at hB hM
    obtain ⟨rfl, rfl, rfl, rfl⟩ := hB
    obtain ⟨rfl, rfl, rfl, rfl, rfl⟩ := hM
    exact ⟨rfl, rfl, by omega, by omega, hP⟩
theorem make_rel {ty cl : Nat} {pr sf mp msf : Nat → Int32} {tn mtn : Nat → Nat} {x : Int32} (hty : ty ≤ 20) (hcl : cl ≤ 60) (hP : rP pr sf mp msf) (hT : rT ty cl tn mtn) {r r2 mt : Int32} {cl' mcl' : Nat} {tn' mtn' : Nat → Nat} (hB : (r, cl', tn') = pB_make ty cl sf tn x) (hM : (r2, mt, mcl', mtn') = pM_make ty cl msf mtn x) : r = r2 ∧ mcl' = cl' ∧ cl ≤ cl' ∧ cl' ≤ 60 ∧ rT ty cl' tn' mtn' := by
  unfold pB_make at hB
  unfold pM_make at hM
  have same : (r, cl', tn') = (-1, cl, tn) → (r2, mt, mcl', mtn') = (-1, 0, cl, mtn) → r = r2 ∧ mcl' = cl' ∧ cl ≤ cl' ∧ cl' ≤ 60 ∧ rT ty cl' tn' mtn' := by
    intro h1 h2
    simp only [Prod.mk.injEq] at h1 h2
    obtain ⟨rfl, rfl, rfl⟩ := h1
    obtain ⟨rfl, rfl, rfl, rfl⟩ := h2
    exact ⟨rfl, rfl, by omega, hcl, hT⟩
  by_cases h1 : x < 1
  · rw [if_pos h1] at hB hM
    exact same hB hM
  · rw [if_neg h1] at hB hM
    by_cases h2 : nI ty < x
    · rw [if_pos h2] at hB hM
      exact same hB hM
    · rw [if_neg h2] at hB hM
      obtain ⟨j, hj1, hj2, rfl⟩ := nat_of h1 h2 (by omega)
      rw [nI_clamp (by omega)] at hB hM
      have hs := (hP (j - 1) (by omega)).2
      rw [show j - 1 + 1 = j by omega] at hs
      rw [hs] at hB
      by_cases h3 : msf j = 0
      · rw [if_pos h3] at hB hM
        by_cases h4 : cl < 60
        · rw [if_pos h4] at hB
          rw [if_neg (by omega)] at hM
          simp only [Prod.mk.injEq] at hB hM
          obtain ⟨rfl, rfl, rfl⟩ := hB
          obtain ⟨rfl, rfl, rfl, rfl⟩ := hM
          refine ⟨rfl, rfl, by omega, by omega, fun q hq => ?_, fun q hq => ?_⟩
          · by_cases e : q = cl
            · subst e
              simp [va_up]
            · have e2 : ¬ q + 1 = cl + 1 := by omega
              simp [va_up, e, hT.1 q hq]
          · by_cases e : q = cl
            · subst e
              simp only [va_up, if_pos]
              omega
            · simp only [va_up, if_neg e]
              exact hT.2 q (by omega)
        · rw [if_neg h4] at hB
          rw [if_pos (by omega)] at hM
          exact same hB hM
      · rw [if_neg h3] at hB hM
        exact same hB hM
theorem isF_iff (x : Int32) : pB_isF x = 0 ↔ (x < 0 ∨ 3 < x) := by
  unfold pB_isF
  simp only [le4_lt3]
  by_cases h : x < 0
  · simp [h]
  · by_cases h2 : 3 < x
    · simp [h, h2]
    · simp [h, h2]
theorem record_rel {rc : Nat} {fi mfi : Nat → Int64} {xf : Int32} {xv : Int64} (hrc : rc ≤ 60) (hF : rF fi mfi) {r r2 mt : Int32} {rc' mrc' : Nat} {fi' mfi' : Nat → Int64} (hB : (r, rc', fi') = pB_record rc fi xf xv) (hM : (r2, mt, mrc', mfi') = pM_record rc mfi xf xv) : r = r2 ∧ mrc' = rc' ∧ rc ≤ rc' ∧ rc' ≤ 60 ∧ rc' ≤ rc + 1 ∧ rF fi' mfi' := by
  unfold pB_record at hB
  unfold pM_record at hM
  have same : (r, rc', fi') = (0, rc, fi) → (r2, mt, mrc', mfi') = (0, 0, rc, mfi) → r = r2 ∧ mrc' = rc' ∧ rc ≤ rc' ∧ rc' ≤ 60 ∧ rc' ≤ rc + 1 ∧ rF fi' mfi' := by
    intro h1 h2
    simp only [Prod.mk.injEq] at h1 h2
    obtain ⟨rfl, rfl, rfl⟩ := h1
    obtain ⟨rfl, rfl, rfl, rfl⟩ := h2
    exact ⟨rfl, rfl, by omega, hrc, by omega, hF⟩
  by_cases h1 : xf < 0
  · rw [if_pos ((isF_iff xf).mpr (Or.inl h1))] at hB
    rw [if_pos h1] at hM
    exact same hB hM
  · rw [if_neg h1] at hM
    by_cases h2 : 3 < xf
    · rw [if_pos ((isF_iff xf).mpr (Or.inr h2))] at hB
      rw [if_pos h2] at hM
      exact same hB hM
    · rw [if_neg (fun h => by rcases (isF_iff xf).mp h with q | q; exact h1 q; exact h2 q)] at hB
      rw [if_neg h2] at hM
      obtain ⟨j, -, hj, rfl⟩ := nat_le3 h1 h2
      rw [nI_clamp (by omega)] at hB hM
      by_cases h3 : rc < 60
      · rw [if_pos h3] at hB
        rw [if_neg (by omega)] at hM
        simp only [Prod.mk.injEq] at hB hM
        obtain ⟨rfl, rfl, rfl⟩ := hB
        obtain ⟨rfl, rfl, rfl, rfl⟩ := hM
        refine ⟨rfl, rfl, by omega, by omega, by omega, fun q f hq hf => ?_⟩
        by_cases e : q * 4 + f = rc * 4 + j
        · have e2 : 4 * (q + 1) + f = 4 * (rc + 1) + j := by omega
          simp only [vp_updL, if_pos e, if_pos e2]
        · have e2 : ¬ 4 * (q + 1) + f = 4 * (rc + 1) + j := by omega
          simp only [vp_updL, if_neg e, if_neg e2]
          exact hF q f hq hf
      · rw [if_neg h3] at hB
        rw [if_pos (by omega)] at hM
        exact same hB hM
theorem value_rel {rc : Nat} {fi mfi : Nat → Int64} {xr xf : Int32} (hrc : rc ≤ 60) (hF : rF fi mfi) {r2 : Int64} {mt : Int32} (hM : (r2, mt) = pM_value rc mfi xr xf) : pB_value rc fi xr xf = r2 := by
  unfold pM_value at hM
  unfold pB_value
  rw [isR_eq]
  by_cases h0 : pM_isR rc xr = 0
  · rw [if_pos h0] at hM ⊢
    exact (congrArg Prod.fst hM).symm
  · rw [if_neg h0] at hM ⊢
    by_cases h1 : xf < 0
    · rw [if_pos h1] at hM
      rw [if_pos ((isF_iff xf).mpr (Or.inl h1))]
      exact (congrArg Prod.fst hM).symm
    · rw [if_neg h1] at hM
      by_cases h2 : 3 < xf
      · rw [if_pos ((le4_lt3 xf).mpr h2)] at hM
        rw [if_pos ((isF_iff xf).mpr (Or.inr h2))]
        exact (congrArg Prod.fst hM).symm
      · rw [if_neg (fun h => h2 ((le4_lt3 xf).mp h))] at hM
        rw [if_neg (fun h => by rcases (isF_iff xf).mp h with q | q; exact h1 q; exact h2 q)]
        obtain ⟨f, -, hf, rfl⟩ := nat_le3 h1 h2
        obtain ⟨j, hj1, hj2, rfl⟩ := misR_nat h0 (by omega)
        rw [nI_clamp (by omega), nI_clamp (by omega)] at hM ⊢
        have k := hF (j - 1) f (by omega) (by omega)
        rw [show 4 * (j - 1 + 1) + f = 4 * j + f by omega] at k
        exact k.trans (congrArg Prod.fst hM).symm
theorem cell_rel {cl : Nat} {ce mce : Nat → Int64} {xo : Int32} (hcl : cl ≤ 60) (hC : rC ce mce) {r2 : Int64} {mt : Int32} (hM : (r2, mt) = pM_cell cl mce xo) : pB_cell cl ce xo = r2 := by
  unfold pM_cell at hM
  unfold pB_cell
  rw [isC_eq]
  by_cases h0 : pM_isC cl xo = 0
  · rw [if_pos h0] at hM ⊢
    exact (congrArg Prod.fst hM).symm
  · rw [if_neg h0] at hM ⊢
    obtain ⟨i, hi1, hi2, rfl⟩ := misC_nat h0 (by omega)
    rw [nI_clamp (by omega)] at hM ⊢
    have k := hC (i - 1) (by omega)
    rw [show i - 1 + 1 = i by omega] at k
    exact k.trans (congrArg Prod.fst hM).symm
theorem same_rel {ty cl : Nat} {tn mtn : Nat → Nat} {xa xb : Int32} (hcl : cl ≤ 60) (hT : rT ty cl tn mtn) {r2 mt : Int32} (hM : (r2, mt) = pM_same cl mtn xa xb) : pB_same cl tn xa xb = r2 := by
  unfold pM_same at hM
  unfold pB_same
  rw [isC_eq, isC_eq]
  by_cases h0 : pM_isC cl xa = 0
  · rw [if_pos h0] at hM ⊢
    exact (congrArg Prod.fst hM).symm
  · rw [if_neg h0] at hM ⊢
    by_cases h1 : pM_isC cl xb = 0
    · rw [if_pos h1] at hM ⊢
      exact (congrArg Prod.fst hM).symm
    · rw [if_neg h1] at hM ⊢
      obtain ⟨i, hi1, hi2, rfl⟩ := misC_nat h0 (by omega)
      obtain ⟨j, hj1, hj2, rfl⟩ := misC_nat h1 (by omega)
      rw [nI_clamp (by omega), nI_clamp (by omega)] at hM ⊢
      have k1 := hT.1 (i - 1) (by omega)
      have k2 := hT.1 (j - 1) (by omega)
      rw [show i - 1 + 1 = i by omega] at k1
      rw [show j - 1 + 1 = j by omega] at k2
      rw [k1, k2]
      by_cases h2 : mtn i = mtn j
      · rw [if_pos h2] at hM ⊢
        exact (congrArg Prod.fst hM).symm
      · rw [if_neg h2] at hM ⊢
        exact (congrArg Prod.fst hM).symm
theorem failed_rel {cn mfc : Nat} {o1 o2 o3 mfl : Nat → Int32} {xi xw : Int32} (hcn : cn = min mfc 100) (hO : rO cn o1 o2 o3 mfl) {r2 mt : Int32} (hM : (r2, mt) = pM_failed mfc mfl xi xw) : pB_failed cn o1 o2 o3 xi xw = r2 := by
  unfold pM_failed at hM
  unfold pB_failed pL_look
  by_cases h0 : xi < 0
  · rw [if_pos h0] at hM ⊢
    exact (congrArg Prod.fst hM).symm
  · rw [if_neg h0] at hM ⊢
    by_cases h1 : 99 < xi
    · rw [if_pos h1] at hM
      rw [if_neg (fun h => by
        obtain ⟨j, -, hj, rfl⟩ := nat_lt h0 h (by omega)
        rw [Int32.lt_iff_toInt_lt, show (99 : Int32).toInt = 99 from rfl, nI_toInt (by omega)] at h1
        omega)]
      exact (congrArg Prod.fst hM).symm
    · rw [if_neg h1] at hM
      obtain ⟨j, -, hj, rfl⟩ := nat_le99 h0 h1
      rw [nI_clamp (by omega)] at hM ⊢
      by_cases h2 : mfc ≤ j
      · rw [if_pos h2] at hM
        rw [if_neg (fun h => by have := (nI_ltI (by omega) (by omega)).mp h; omega)]
        exact (congrArg Prod.fst hM).symm
      · rw [if_neg h2] at hM
        rw [if_pos ((nI_ltI (by omega) (by omega)).mpr (by omega))]
        obtain ⟨k1, k2, k3⟩ := hO j (by omega)
        rcases sw_3 xw with rfl | rfl | rfl | ⟨hw, n0, n1, n2⟩
        · rw [if_neg (by decide), if_pos (by decide)] at hM
          rw [if_pos rfl, k1]
          exact (congrArg Prod.fst hM).symm
        · rw [if_neg (by decide), if_pos (by decide)] at hM
          rw [if_neg (by decide), if_pos rfl, k2]
          exact (congrArg Prod.fst hM).symm
        · rw [if_neg (by decide), if_pos (by decide)] at hM
          rw [if_neg (by decide), if_neg (by decide), if_pos rfl, k3]
          exact (congrArg Prod.fst hM).symm
        · rw [if_neg n0, if_neg n1, if_neg n2]
          by_cases h3 : xw < 0
          · rw [if_pos h3] at hM
            exact (congrArg Prod.fst hM).symm
          · rw [if_neg h3, if_neg (fun h => by
              rw [Int32.lt_iff_toInt_lt, Int32.toInt_zero] at h3
              rw [Int32.le_iff_toInt_le, show (2 : Int32).toInt = 2 from rfl] at h
              omega)] at hM
            exact (congrArg Prod.fst hM).symm
-- a run, and going on
theorem bit_set (x : Int64) {i : Nat} (hi : i < 60) (c : Nat) : (x ||| ((1 : Int64) <<< ((nI i).toInt64 &&& 63))).toBitVec.getLsbD c = (x.toBitVec.getLsbD c || decide (c = i)) := by
  have h1 : ((1 : Int64) <<< ((nI i).toInt64 &&& 63)) = lN (1 * 2 ^ i) := wb_shl 1 (by omega)
  rw [h1, Nat.one_mul, Int64.toBitVec_or, BitVec.getLsbD_or, wb_tb, BitVec.getLsbD_ofNat, Nat.testBit_two_pow]
  by_cases h : c = i
  · subst h
    simp
    omega
  · simp [h, Ne.symm h]
theorem top_upd (mdn : Nat → Int32) {i j : Nat} (hj1 : 1 ≤ j) (hj : j ≤ 60) (c : Nat) : ∀ n, n ≤ 60 → pM_top (upd mdn (61 * i + j) 1) c n = if c = i ∧ j ≤ n then (if pM_top mdn c n < j then j else pM_top mdn c n) else pM_top mdn c n := by
  intro n
  induction n with
  | zero =>
    intro _
    rw [if_neg (fun h => by omega)]
    rfl
  | succ n ih =>
    intro hn
    have ih := ih (by omega)
    have hle := pM_top_le mdn c (n + 1)
    have hle2 := pM_top_le mdn c n
    rw [pM_top]
    by_cases e : 61 * c + (n + 1) = 61 * i + j
    · have e1 : c = i := by omega
      have e2 : n + 1 = j := by omega
      rw [if_neg (by simp [upd, e]), if_pos ⟨e1, by omega⟩]
      split <;> omega
    · rw [show upd mdn (61 * i + j) 1 (61 * c + (n + 1)) = mdn (61 * c + (n + 1)) by simp [upd, e]]
      by_cases h0 : mdn (61 * c + (n + 1)) = 0
      · rw [if_pos h0, ih]
        rw [show pM_top mdn c (n + 1) = pM_top mdn c n by rw [pM_top, if_pos h0]]
        by_cases h1 : c = i ∧ j ≤ n
        · rw [if_pos h1, if_pos (show c = i ∧ j ≤ n + 1 from ⟨h1.1, by omega⟩)]
        · rw [if_neg h1, if_neg (show ¬ (c = i ∧ j ≤ n + 1) from fun h => h1 ⟨h.1, by omega⟩)]
      · rw [if_neg h0]
        have h2 : pM_top mdn c (n + 1) = n + 1 := by rw [pM_top, if_neg h0]
        rw [h2]
        by_cases h1 : c = i ∧ j ≤ n + 1
        · rw [if_pos h1, if_neg (by omega)]
        · rw [if_neg h1]
theorem fourL (f : Nat → Int64) (b q : Nat) (x0 x1 x2 x3 : Int64) : vp_updL (vp_updL (vp_updL (vp_updL f b x0) (b + 1) x1) (b + 2) x2) (b + 3) x3 q = if q = b + 3 then x3 else if q = b + 2 then x2 else if q = b + 1 then x1 else if q = b then x0 else f q := rfl
theorem one_rel {N0 ty cl rc cn i j mfc mlr : Nat} {ta tb tc td te : Int64} {tk : Int32} {pr sf : Nat → Int32} {tn : Nat → Nat} {ce : Nat → Int64} {gd : Nat → Nat} {fi : Nat → Int64} {lk : Nat → Int32} {db : Nat → Int64} {o1 o2 o3 : Nat → Int32}
    {mld : Int32} {mcv : Int64} {mlo : Int32} {mp msf : Nat → Int32} {mtn : Nat → Nat} {mce mfi : Nat → Int64} {mlk mdn mfl : Nat → Int32} {mw : Nat → Int64}
    (hty : ty ≤ 20) (hcl : cl ≤ 60) (hrc : rc ≤ 60) (hcn : cn = min mfc 100) (hi : 1 ≤ i ∧ i ≤ cl) (hj : 1 ≤ j ∧ j ≤ rc) (hP : rP pr sf mp msf) (hT : rT ty cl tn mtn) (hC : rC ce mce) (hF : rF fi mfi) (hK : rK lk mlk) (hD : rD cl rc db mdn) (hG : rG rc gd mdn) (hO : rO cn o1 o2 o3 mfl)
    {r : Int32} {lr' : Nat} {ld' : Int32} {ta' tb' tc' td' te' : Int64} {tk' : Int32} {cn' : Nat} {ce' : Nat → Int64} {gd' : Nat → Nat} {fi' : Nat → Int64} {lk' : Nat → Int32} {db' : Nat → Int64} {o1' o2' o3' : Nat → Int32}
    (hB : (r, lr', ld', ta', tb', tc', td', te', tk', cn', ce', gd', fi', lk', db', o1', o2', o3') = pB_runOne N0 ta tb tc td te tk cn pr tn ce gd fi lk db o1 o2 o3 i j)
    {r2 mt' : Int32} {mfc' mlr' : Nat} {mld' : Int32} {mcv' : Int64} {mlo' : Int32} {mce' mfi' : Nat → Int64} {mlk' mdn' mfl' : Nat → Int32} {mw' : Nat → Int64}
    (hM : (r2, mt', mfc', mlr', mld', mcv', mlo', mce', mfi', mlk', mdn', mfl', mw') = pM_run N0 mfc mlr mld mcv mlo mp mtn mce mfi mlk mdn mfl mw i j) :
    (r = 0 ∧ r2 = 1 ∨ ¬ r = 0 ∧ r2 = -r ∧ ¬ r2 = 1) ∧ lr' = j ∧ mlr' = j ∧ mld' = ld' ∧ cn' = min mfc' 100 ∧ mfc' ≤ mfc + 1 ∧ rC ce' mce' ∧ rF fi' mfi' ∧ rK lk' mlk' ∧ rD cl rc db' mdn' ∧ rG rc gd' mdn' ∧ rO cn' o1' o2' o3' mfl' := by
  have t1 := hT.1 (i - 1) (by omega)
  have t2 := hT.2 (i - 1) (by omega)
  have e1 : i - 1 + 1 = i := by omega
  have e2 : j - 1 + 1 = j := by omega
  rw [e1] at t1
  have p1 := (hP (tn (i - 1) - 1) (by omega)).1
  rw [show tn (i - 1) - 1 + 1 = mtn i by omega] at p1
  have c1 := hC (i - 1) (by omega)
  rw [e1] at c1
  have k1 := hK (j - 1) (by omega)
  rw [e2] at k1
  have f1 : ∀ f, f < 4 → fi ((j - 1) * 4 + f) = mfi (4 * j + f) := fun f hf => by
    have k := hF (j - 1) f (by omega) hf
    rw [e2] at k
    exact k
  have hs := att_sim (N0 := N0) (ta := ta) (tb := tb) (tc := tc) (td := td) (te := te) (tk := tk) (mcv := mcv) (mlo := mlo) (mw := mw) k1 p1 c1 f1
  unfold pB_runOne at hB
  unfold pM_run at hM
  rcases hx : pB_attempt N0 ta tb tc td te tk pr tn ce fi lk i j with ⟨r0, a0, b0, c0, d0, e0, k0⟩
  rcases hy : pM_goes N0 mcv mlo mp mtn mce mfi mlk mw i j with ⟨s0, v0, l0, w0⟩
  rw [hx] at hB hs
  rw [hy] at hM hs
  dsimp only at hB hM
  rcases hs with ⟨z1, z2, z3, z4, z5, z6, z7, z8⟩ | ⟨z1, z2⟩
  · dsimp only at z1 z2 z3 z4 z5 z6 z7 z8
    subst z1 z2 z3 z4
    rw [if_pos rfl] at hB
    rw [if_neg (by decide), if_pos rfl] at hM
    simp only [pB_keep, pT_store] at hB
    simp only [Prod.mk.injEq] at hB hM
    obtain ⟨rfl, hlr1, rfl, rfl, rfl, rfl, rfl, rfl, rfl, rfl, rfl, rfl, rfl, rfl, rfl, rfl, rfl, rfl⟩ := hB
    obtain ⟨rfl, rfl, rfl, hlr2, rfl, rfl, rfl, rfl, rfl, rfl, rfl, rfl, rfl⟩ := hM
    refine ⟨Or.inl ⟨rfl, rfl⟩, hlr1, hlr2, rfl, hcn, by omega, fun q hq => ?_, fun q f hq hf => ?_, fun q hq => ?_, ⟨fun c q hc hq => ?_, fun q hq c hc => ?_, fun c q hc1 hc2 hq1 hq2 h => ?_⟩, fun c hc => ?_, hO⟩
    · by_cases e : q = i - 1
      · have e3 : q + 1 = i := by omega
        simp only [vp_updL, if_pos e, if_pos e3]
      · have e3 : ¬ q + 1 = i := by omega
        simp only [vp_updL, if_neg e, if_neg e3]
        exact hC q hq
    · rw [fourL, show 4 * j + 0 = 4 * j from rfl, fourL]
      by_cases e : q = j - 1
      · have e3 : q + 1 = j := by omega
        rw [e3]
        rcases (show f = 0 ∨ f = 1 ∨ f = 2 ∨ f = 3 by omega) with rfl | rfl | rfl | rfl
        · rw [if_neg (by omega), if_neg (by omega), if_neg (by omega), if_pos (by omega), if_neg (by omega), if_neg (by omega), if_neg (by omega), if_pos (by omega), z5]
        · rw [if_neg (by omega), if_neg (by omega), if_pos (by omega), if_neg (by omega), if_neg (by omega), if_pos (by omega), z6]
        · rw [if_neg (by omega), if_pos (by omega), if_neg (by omega), if_pos (by omega), z7]
        · rw [if_pos (by omega), if_pos (by omega), z8]
      · rw [if_neg (by omega), if_neg (by omega), if_neg (by omega), if_neg (by omega), if_neg (by omega), if_neg (by omega), if_neg (by omega), if_neg (by omega)]
        exact hF q f hq hf
    · by_cases e : q = j - 1
      · have e3 : q + 1 = j := by omega
        simp only [upd, if_pos e, if_pos e3]
      · have e3 : ¬ q + 1 = j := by omega
        simp only [upd, if_neg e, if_neg e3]
        exact hK q hq
    · have hd := hD.1 c q hc hq
      by_cases e : q = j - 1
      · subst e
        rw [show vp_updL db (j - 1) (db (j - 1) ||| (1 : Int64) <<< ((nI (i - 1)).toInt64 &&& 63)) (j - 1) = db (j - 1) ||| (1 : Int64) <<< ((nI (i - 1)).toInt64 &&& 63) by simp [vp_updL], bit_set _ (by omega)]
        by_cases e4 : c = i - 1
        · have e5 : 61 * (c + 1) + (j - 1 + 1) = 61 * i + j := by omega
          rw [show upd mdn (61 * i + j) 1 (61 * (c + 1) + (j - 1 + 1)) = 1 by simp only [upd, if_pos e5]]
          simp [e4]
        · have e5 : ¬ 61 * (c + 1) + (j - 1 + 1) = 61 * i + j := by omega
          simp only [upd, if_neg e5, e4, decide_false, Bool.or_false]
          exact hd
      · have e5 : ¬ 61 * (c + 1) + (q + 1) = 61 * i + j := by omega
        simp only [vp_updL, if_neg e, upd, if_neg e5]
        exact hd
    · by_cases e : q = j - 1
      · subst e
        rw [show vp_updL db (j - 1) (db (j - 1) ||| (1 : Int64) <<< ((nI (i - 1)).toInt64 &&& 63)) (j - 1) = db (j - 1) ||| (1 : Int64) <<< ((nI (i - 1)).toInt64 &&& 63) by simp [vp_updL], bit_set _ (by omega), hD.2.1 _ hq c hc]
        simp
        omega
      · simp only [vp_updL, if_neg e]
        exact hD.2.1 q hq c hc
    · by_cases e : 61 * c + q = 61 * i + j
      · have e5 : c = i := by omega
        have e6 : q = j := by omega
        omega
      · simp only [upd, if_neg e] at h
        exact hD.2.2 c q hc1 hc2 hq1 hq2 h
    · have hg := hG c hc
      rw [top_upd mdn hj.1 (by omega) (c + 1) rc (by omega)]
      by_cases e : c = i - 1
      · have e3 : c + 1 = i := by omega
        rw [if_pos (show c + 1 = i ∧ j ≤ rc from ⟨e3, hj.2⟩), ← hg]
        simp only [va_up, if_pos e]
        rw [e]
      · rw [if_neg (show ¬ (c + 1 = i ∧ j ≤ rc) from fun h => by omega)]
        simp only [va_up, if_neg e]
        exact hg
  · dsimp only at z1 z2
    have n0 : ¬ r0 = 0 := by rcases z1 with rfl | rfl | rfl | rfl <;> decide
    have n1 : ¬ s0 = -1 := by rw [z2]; rcases z1 with rfl | rfl | rfl | rfl <;> decide
    have n2 : ¬ s0 = 1 := by rw [z2]; rcases z1 with rfl | rfl | rfl | rfl <;> decide
    have n3 : - s0 = r0 := by rw [z2]; rcases z1 with rfl | rfl | rfl | rfl <;> decide
    rw [if_neg n0] at hB
    rw [if_neg n1, if_neg n2] at hM
    simp only [pL_note] at hB
    by_cases h100 : cn < 100
    · rw [if_pos h100] at hB
      rw [if_neg (show ¬ 100 ≤ mfc by omega)] at hM
      simp only [Prod.mk.injEq] at hB hM
      obtain ⟨rfl, hlr1, rfl, rfl, rfl, rfl, rfl, rfl, rfl, rfl, rfl, rfl, rfl, rfl, rfl, rfl, rfl, rfl⟩ := hB
      obtain ⟨rfl, rfl, rfl, hlr2, rfl, rfl, rfl, rfl, rfl, rfl, rfl, rfl, rfl⟩ := hM
      refine ⟨Or.inr ⟨n0, z2, n2⟩, hlr1, hlr2, rfl, by omega, by omega, hC, hF, hK, hD, hG, fun q hq => ?_⟩
      have hm : mfc = cn := by omega
      subst hm
      by_cases e : q = mfc
      · subst e
        simp [upd, n3]
      · obtain ⟨q1, q2, q3⟩ := hO q (by omega)
        refine ⟨?_, ?_, ?_⟩
        · simp only [upd, if_neg e, if_neg (show ¬ 3 * q = 3 * mfc + 2 by omega), if_neg (show ¬ 3 * q = 3 * mfc + 1 by omega), if_neg (show ¬ 3 * q = 3 * mfc by omega)]
          exact q1
        · simp only [upd, if_neg e, if_neg (show ¬ 3 * q + 1 = 3 * mfc + 2 by omega), if_neg (show ¬ 3 * q + 1 = 3 * mfc + 1 by omega), if_neg (show ¬ 3 * q + 1 = 3 * mfc by omega)]
          exact q2
        · simp only [upd, if_neg e, if_neg (show ¬ 3 * q + 2 = 3 * mfc + 2 by omega), if_neg (show ¬ 3 * q + 2 = 3 * mfc + 1 by omega), if_neg (show ¬ 3 * q + 2 = 3 * mfc by omega)]
          exact q3
    · rw [if_neg h100] at hB
      rw [if_pos (show 100 ≤ mfc by omega)] at hM
      simp only [Prod.mk.injEq] at hB hM
      obtain ⟨rfl, hlr1, rfl, rfl, rfl, rfl, rfl, rfl, rfl, rfl, rfl, rfl, rfl, rfl, rfl, rfl, rfl, rfl⟩ := hB
      obtain ⟨rfl, rfl, rfl, hlr2, rfl, rfl, rfl, rfl, rfl, rfl, rfl, rfl, rfl⟩ := hM
      exact ⟨Or.inr ⟨n0, z2, n2⟩, hlr1, hlr2, rfl, by omega, by omega, hC, hF, hK, hD, hG, hO⟩
theorem res_rel {N0 ty cl rc i : Nat} {pr sf mp msf : Nat → Int32} {tn mtn : Nat → Nat} (hty : ty ≤ 20) (hcl : cl ≤ 60) (hrc : rc ≤ 60) (hi : 1 ≤ i ∧ i ≤ cl) (hP : rP pr sf mp msf) (hT : rT ty cl tn mtn) : ∀ (n k : Nat)
    {lr cn mfc mlr : Nat} {ld : Int32} {ta tb tc td te : Int64} {tk : Int32} {ce : Nat → Int64} {gd : Nat → Nat} {fi : Nat → Int64} {lk : Nat → Int32} {db : Nat → Int64} {o1 o2 o3 : Nat → Int32} {mt mld : Int32} {mcv : Int64} {mlo : Int32} {mce mfi : Nat → Int64} {mlk mdn mfl : Nat → Int32} {mw : Nat → Int64},
    1 ≤ k → k + n ≤ rc + 1 → cn = min mfc 100 → mlr = lr → mld = ld → lr ≤ rc → (lr = 0 → ld = 0) → rC ce mce → rF fi mfi → rK lk mlk → rD cl rc db mdn → rG rc gd mdn → rO cn o1 o2 o3 mfl →
    ∀ {r : Int32} {lr' : Nat} {ld' : Int32} {ta' tb' tc' td' te' : Int64} {tk' : Int32} {cn' : Nat} {ce' : Nat → Int64} {gd' : Nat → Nat} {fi' : Nat → Int64} {lk' : Nat → Int32} {db' : Nat → Int64} {o1' o2' o3' : Nat → Int32}
    {r2 mt' : Int32} {mfc' mlr' : Nat} {mld' : Int32} {mcv' : Int64} {mlo' : Int32} {mce' mfi' : Nat → Int64} {mlk' mdn' mfl' : Nat → Int32} {mw' : Nat → Int64},
    (r, lr', ld', ta', tb', tc', td', te', tk', cn', ce', gd', fi', lk', db', o1', o2', o3') = pB_res N0 pr tn i n k lr ld ta tb tc td te tk cn ce gd fi lk db o1 o2 o3 →
    (r2, mt', mfc', mlr', mld', mcv', mlo', mce', mfi', mlk', mdn', mfl', mw') = pM_res N0 mp mtn i n k mt mfc mlr mld mcv mlo mce mfi mlk mdn mfl mw →
    r = r2 ∧ mlr' = lr' ∧ mld' = ld' ∧ lr' ≤ rc ∧ (lr' = 0 → ld' = 0) ∧ cn' = min mfc' 100 ∧ mfc' ≤ mfc + n ∧ rC ce' mce' ∧ rF fi' mfi' ∧ rK lk' mlk' ∧ rD cl rc db' mdn' ∧ rG rc gd' mdn' ∧ rO cn' o1' o2' o3' mfl' := by
  intro n
  induction n with
  | zero =>
    intro k lr cn mfc mlr ld ta tb tc td te tk ce gd fi lk db o1 o2 o3 mt mld mcv mlo mce mfi mlk mdn mfl mw hk hkn hcn hlr hld hl1 hl2 hC hF hK hD hG hO r lr' ld' ta' tb' tc' td' te' tk' cn' ce' gd' fi' lk' db' o1' o2' o3' r2 mt' mfc' mlr' mld' mcv' mlo' mce' mfi' mlk' mdn' mfl' mw' hB hM
    simp only [pB_res, Prod.mk.injEq] at hB
    simp only [pM_res, Prod.mk.injEq] at hM
    obtain ⟨rfl, rfl, rfl, rfl, rfl, rfl, rfl, rfl, rfl, rfl, rfl, rfl, rfl, rfl, rfl, rfl, rfl, rfl⟩ := hB
    obtain ⟨rfl, rfl, rfl, rfl, rfl, rfl, rfl, rfl, rfl, rfl, rfl, rfl, rfl⟩ := hM
    exact ⟨rfl, hlr, hld, hl1, hl2, hcn, by omega, hC, hF, hK, hD, hG, hO⟩
  | succ n ih =>
    intro k lr cn mfc mlr ld ta tb tc td te tk ce gd fi lk db o1 o2 o3 mt mld mcv mlo mce mfi mlk mdn mfl mw hk hkn hcn hlr hld hl1 hl2 hC hF hK hD hG hO r lr' ld' ta' tb' tc' td' te' tk' cn' ce' gd' fi' lk' db' o1' o2' o3' r2 mt' mfc' mlr' mld' mcv' mlo' mce' mfi' mlk' mdn' mfl' mw' hB hM
    rw [pB_res] at hB
    rw [pM_res] at hM
    rcases hx : pB_runOne N0 ta tb tc td te tk cn pr tn ce gd fi lk db o1 o2 o3 i k with ⟨r0, lr0, ld0, ta0, tb0, tc0, td0, te0, tk0, cn0, ce0, gd0, fi0, lk0, db0, p1, p2, p3⟩
    rcases hy : pM_run N0 mfc mlr mld mcv mlo mp mtn mce mfi mlk mdn mfl mw i k with ⟨s0, mt0, mfc0, mlr0, mld0, mcv0, mlo0, mce0, mfi0, mlk0, mdn0, mfl0, mw0⟩
    rw [hx] at hB
    rw [hy] at hM
    dsimp only at hB hM
    obtain ⟨hr, g1, g2, g3, g4, g5, g6, g7, g8, g9, g10, g11⟩ := one_rel hty hcl hrc hcn hi ⟨hk, by omega⟩ hP hT hC hF hK hD hG hO hx.symm hy.symm
    have g12 : ld0 = 0 ∨ ¬ ld0 = 0 := Classical.em _
    rcases hr with ⟨rfl, rfl⟩ | ⟨n0, n1, n2⟩
    · rw [if_pos rfl] at hB hM
      obtain ⟨q1, q2, q3, q4, q5, q6, q7, q8⟩ := ih (k + 1) (by omega) (by omega) g4 (by omega) g3 (by omega) (fun h => by omega) g6 g7 g8 g9 g10 g11 hB hM
      exact ⟨q1, q2, q3, q4, q5, q6, by omega, q8⟩
    · rw [if_neg n0] at hB
      rw [if_neg n2] at hM
      simp only [Prod.mk.injEq] at hB hM
      obtain ⟨rfl, rfl, rfl, rfl, rfl, rfl, rfl, rfl, rfl, rfl, rfl, rfl, rfl, rfl, rfl, rfl, rfl, rfl⟩ := hB
      obtain ⟨rfl, rfl, rfl, rfl, rfl, rfl, rfl, rfl, rfl, rfl, rfl, rfl, rfl⟩ := hM
      exact ⟨rfl, by omega, g3, by omega, fun h => by omega, g4, by omega, g6, g7, g8, g9, g10, g11⟩
theorem dry_rel {N0 ty cl rc i j : Nat} {ta tb tc td te : Int64} {tk : Int32} {pr sf : Nat → Int32} {tn : Nat → Nat} {ce fi : Nat → Int64} {lk : Nat → Int32} {mcv : Int64} {mlo : Int32} {mp msf : Nat → Int32} {mtn : Nat → Nat} {mce mfi : Nat → Int64} {mlk : Nat → Int32} {mw : Nat → Int64}
    (hty : ty ≤ 20) (hcl : cl ≤ 60) (hrc : rc ≤ 60) (hi : 1 ≤ i ∧ i ≤ cl) (hj : 1 ≤ j ∧ j ≤ rc) (hP : rP pr sf mp msf) (hT : rT ty cl tn mtn) (hC : rC ce mce) (hF : rF fi mfi) (hK : rK lk mlk)
    {r : Int32} {ta' tb' tc' td' te' : Int64} {tk' : Int32} (hB : (r, ta', tb', tc', td', te', tk') = pB_dry N0 cl rc ta tb tc td te tk pr tn ce fi lk (nI i) (nI j))
    {r2 mt' : Int32} {mcv' : Int64} {mlo' : Int32} {mw' : Nat → Int64} (hM : (r2, mt', mcv', mlo', mw') = pM_dry N0 mcv mlo mp mtn mce mfi mlk mw i j) : r = r2 := by
  have t1 := hT.1 (i - 1) (by omega)
  have t2 := hT.2 (i - 1) (by omega)
  have e1 : i - 1 + 1 = i := by omega
  have e2 : j - 1 + 1 = j := by omega
  rw [e1] at t1
  have p1 := (hP (tn (i - 1) - 1) (by omega)).1
  rw [show tn (i - 1) - 1 + 1 = mtn i by omega] at p1
  have c1 := hC (i - 1) (by omega)
  rw [e1] at c1
  have k1 := hK (j - 1) (by omega)
  rw [e2] at k1
  have f1 : ∀ f, f < 4 → fi ((j - 1) * 4 + f) = mfi (4 * j + f) := fun f hf => by
    have k := hF (j - 1) f (by omega) hf
    rw [e2] at k
    exact k
  have hs := att_sim (N0 := N0) (ta := ta) (tb := tb) (tc := tc) (td := td) (te := te) (tk := tk) (mcv := mcv) (mlo := mlo) (mw := mw) k1 p1 c1 f1
  unfold pB_dry at hB
  unfold pM_dry at hM
  rw [if_neg (isC_at hi.1 hi.2 (by omega)), if_neg (isR_at hj.1 hj.2 (by omega)), nI_clamp (by omega), nI_clamp (by omega)] at hB
  rcases hx : pB_attempt N0 ta tb tc td te tk pr tn ce fi lk i j with ⟨r0, a0, b0, c0, d0, e0, k0⟩
  rcases hy : pM_goes N0 mcv mlo mp mtn mce mfi mlk mw i j with ⟨s0, v0, l0, w0⟩
  rw [hx] at hB hs
  rw [hy] at hM hs
  dsimp only at hB hM
  rcases hs with ⟨z1, z2, z3, z4, z5, z6, z7, z8⟩ | ⟨z1, z2⟩
  · dsimp only at z1 z2 z3 z4 z5 z6 z7 z8
    rw [if_pos z1] at hB
    rw [if_pos z2] at hM
    have h1 := congrArg Prod.fst hB
    have h2 := congrArg Prod.fst hM
    dsimp only at h1 h2
    rw [h1, h2, pT_count, pM_cnt4, z5, z6, z7, z8, ← f1 0 (by omega), ← f1 1 (by omega), ← f1 2 (by omega), ← f1 3 (by omega)]
    simp only [eq_comm (a := fi _), Nat.add_zero]
  · dsimp only at z1 z2
    have n0 : ¬ r0 = 0 := by rcases z1 with rfl | rfl | rfl | rfl <;> decide
    have n2 : ¬ s0 = 1 := by rw [z2]; rcases z1 with rfl | rfl | rfl | rfl <;> decide
    rw [if_neg n0] at hB
    rw [if_neg n2] at hM
    have h1 := congrArg Prod.fst hB
    have h2 := congrArg Prod.fst hM
    dsimp only at h1 h2
    rw [h1, h2, z2]
-- all that ties the two states, and every call of the face
def RA (N0 ty cl rc lr : Nat) (ld : Int32) (cn : Nat) (pr sf : Nat → Int32) (tn : Nat → Nat) (ce : Nat → Int64) (gd : Nat → Nat) (fi : Nat → Int64) (lk : Nat → Int32) (db : Nat → Int64) (o1 o2 o3 : Nat → Int32) (mfc : Nat) (mp msf : Nat → Int32) (mtn : Nat → Nat) (mce mfi : Nat → Int64) (mlk mdn mfl : Nat → Int32) : Prop :=
  (cn = min mfc 100 ∧ N0 ≤ 200 ∧ ty ≤ 20 ∧ cl ≤ 60 ∧ rc ≤ 60 ∧ lr ≤ rc ∧ (lr = 0 → ld = 0)) ∧ rP pr sf mp msf ∧ rT ty cl tn mtn ∧ rC ce mce ∧ rF fi mfi ∧ rK lk mlk ∧ rD cl rc db mdn ∧ rG rc gd mdn ∧ rO cn o1 o2 o3 mfl
section RAS
variable {N0 ty cl rc lr : Nat} {ld : Int32} {cn : Nat} {pr sf : Nat → Int32} {tn : Nat → Nat} {ce : Nat → Int64} {gd : Nat → Nat} {fi : Nat → Int64} {lk : Nat → Int32} {db : Nat → Int64} {o1 o2 o3 : Nat → Int32} {mfc : Nat} {mp msf : Nat → Int32} {mtn : Nat → Nat} {mce mfi : Nat → Int64} {mlk mdn mfl : Nat → Int32}
theorem RA.new (x : Int32) : RA (stN x) 0 0 0 0 0 0 (fun _ => 0) (fun _ => 0) (fun _ => 0) (fun _ => 0) (fun _ => 0) (fun _ => 0) (fun _ => 0) (fun _ => 0) (fun _ => 0) (fun _ => 0) (fun _ => 0) 0 (fun _ => 0) (fun _ => 0) (fun _ => 0) (fun _ => 0) (fun _ => 0) (fun _ => 0) (fun _ => 0) (fun _ => 0) := by
  refine ⟨⟨rfl, (stN_in x).2, by omega, by omega, by omega, by omega, fun _ => rfl⟩, fun _ _ => ⟨rfl, rfl⟩, ⟨fun _ _ => rfl, fun q h => by omega⟩, fun _ _ => rfl, fun _ _ _ _ => rfl, fun _ _ => rfl, ⟨fun c r _ _ => ?_, fun r _ c _ => ?_, fun c r _ _ _ _ h => absurd rfl h⟩, fun _ _ => rfl, fun q h => by omega⟩
  · rw [show ((0 : Int64).toBitVec) = 0#64 from rfl]
    simp
  · rw [show ((0 : Int64).toBitVec) = 0#64 from rfl]
    simp
theorem RA.type (h : RA N0 ty cl rc lr ld cn pr sf tn ce gd fi lk db o1 o2 o3 mfc mp msf mtn mce mfi mlk mdn mfl) {xd xs r r2 mt : Int32} {ty' mty' : Nat} {pr' sf' mp' msf' : Nat → Int32} (hB : (r, ty', pr', sf') = pB_type ty pr sf xd xs) (hM : (r2, mt, mty', mp', msf') = pM_type ty mp msf xd xs) : r = r2 ∧ mty' = ty' ∧ RA N0 ty' cl rc lr ld cn pr' sf' tn ce gd fi lk db o1 o2 o3 mfc mp' msf' mtn mce mfi mlk mdn mfl := by
  obtain ⟨⟨a1, a2, a3, a4, a5, a6, a7⟩, hP, hT, hC, hF, hK, hD, hG, hO⟩ := h
  obtain ⟨q1, q2, q3, q4, q5⟩ := type_rel a3 hP hB hM
  exact ⟨q1, q2, ⟨a1, a2, q4, a4, a5, a6, a7⟩, q5, ⟨hT.1, fun q hq => ⟨(hT.2 q hq).1, Nat.le_trans (hT.2 q hq).2 q3⟩⟩, hC, hF, hK, hD, hG, hO⟩
theorem RA.make (h : RA N0 ty cl rc lr ld cn pr sf tn ce gd fi lk db o1 o2 o3 mfc mp msf mtn mce mfi mlk mdn mfl) {x r r2 mt : Int32} {cl' mcl' : Nat} {tn' mtn' : Nat → Nat} (hB : (r, cl', tn') = pB_make ty cl sf tn x) (hM : (r2, mt, mcl', mtn') = pM_make ty cl msf mtn x) : r = r2 ∧ mcl' = cl' ∧ RA N0 ty cl' rc lr ld cn pr sf tn' ce gd fi lk db o1 o2 o3 mfc mp msf mtn' mce mfi mlk mdn mfl := by
  obtain ⟨⟨a1, a2, a3, a4, a5, a6, a7⟩, hP, hT, hC, hF, hK, hD, hG, hO⟩ := h
  obtain ⟨q1, q2, q3, q4, q5⟩ := make_rel a3 a4 hP hT hB hM
  exact ⟨q1, q2, ⟨a1, a2, a3, q4, a5, a6, a7⟩, hP, q5, hC, hF, hK, ⟨hD.1, hD.2.1, fun c r c1 c2 r1 r2 hd => ⟨Nat.le_trans (hD.2.2 c r c1 c2 r1 r2 hd).1 q3, (hD.2.2 c r c1 c2 r1 r2 hd).2⟩⟩, hG, hO⟩
theorem RA.record (h : RA N0 ty cl rc lr ld cn pr sf tn ce gd fi lk db o1 o2 o3 mfc mp msf mtn mce mfi mlk mdn mfl) {xf r r2 mt : Int32} {xv : Int64} {rc' mrc' : Nat} {fi' mfi' : Nat → Int64} (hB : (r, rc', fi') = pB_record rc fi xf xv) (hM : (r2, mt, mrc', mfi') = pM_record rc mfi xf xv) : r = r2 ∧ mrc' = rc' ∧ RA N0 ty cl rc' lr ld cn pr sf tn ce gd fi' lk db o1 o2 o3 mfc mp msf mtn mce mfi' mlk mdn mfl := by
  obtain ⟨⟨a1, a2, a3, a4, a5, a6, a7⟩, hP, hT, hC, hF, hK, hD, hG, hO⟩ := h
  obtain ⟨q1, q2, q3, q4, q5, q6⟩ := record_rel a5 hF hB hM
  refine ⟨q1, q2, ⟨a1, a2, a3, a4, q4, by omega, a7⟩, hP, hT, hC, q6, hK, ⟨hD.1, hD.2.1, fun c r c1 c2 r1 r2 hd => ⟨(hD.2.2 c r c1 c2 r1 r2 hd).1, Nat.le_trans (hD.2.2 c r c1 c2 r1 r2 hd).2 q3⟩⟩, fun c hc => ?_, hO⟩
  rcases (show rc' = rc ∨ rc' = rc + 1 by omega) with e | e
  · rw [e]
    exact hG c hc
  · rw [e, pM_top, if_pos (Classical.byContradiction fun hd => by
      have := (hD.2.2 (c + 1) (rc + 1) (by omega) (by omega) (by omega) (by omega) hd).2
      omega)]
    exact hG c hc
theorem RA.run0 {ta tb tc td te : Int64} {tk : Int32} {xo xr : Int32} (hbad : pM_isC cl xo = 0 ∨ pM_isR rc xr = 0) {r : Int32} {lr' : Nat} {ld' : Int32} {ta' tb' tc' td' te' : Int64} {tk' : Int32} {cn' : Nat} {ce' : Nat → Int64} {gd' : Nat → Nat} {fi' : Nat → Int64} {lk' : Nat → Int32} {db' : Nat → Int64} {o1' o2' o3' : Nat → Int32}
    (hB : (r, lr', ld', ta', tb', tc', td', te', tk', cn', ce', gd', fi', lk', db', o1', o2', o3') = pB_run N0 cl rc lr ld ta tb tc td te tk cn pr tn ce gd fi lk db o1 o2 o3 xo xr) : (r, lr', ld', ta', tb', tc', td', te', tk', cn', ce', gd', fi', lk', db', o1', o2', o3') = (-1, lr, ld, ta, tb, tc, td, te, tk, cn, ce, gd, fi, lk, db, o1, o2, o3) := by
  rw [hB, pB_run, isC_eq, isR_eq]
  by_cases h : pM_isC cl xo = 0
  · rw [if_pos h]
  · rw [if_neg h, if_pos (hbad.resolve_left h)]
theorem RA.run (h : RA N0 ty cl rc lr ld cn pr sf tn ce gd fi lk db o1 o2 o3 mfc mp msf mtn mce mfi mlk mdn mfl) {i j : Nat} (hi : 1 ≤ i ∧ i ≤ cl) (hj : 1 ≤ j ∧ j ≤ rc) {ta tb tc td te : Int64} {tk : Int32} {mcv : Int64} {mlo : Int32} {mw : Nat → Int64}
    {r : Int32} {lr' : Nat} {ld' : Int32} {ta' tb' tc' td' te' : Int64} {tk' : Int32} {cn' : Nat} {ce' : Nat → Int64} {gd' : Nat → Nat} {fi' : Nat → Int64} {lk' : Nat → Int32} {db' : Nat → Int64} {o1' o2' o3' : Nat → Int32}
    (hB : (r, lr', ld', ta', tb', tc', td', te', tk', cn', ce', gd', fi', lk', db', o1', o2', o3') = pB_run N0 cl rc lr ld ta tb tc td te tk cn pr tn ce gd fi lk db o1 o2 o3 (nI i) (nI j))
    {r2 mt' : Int32} {mfc' mlr' : Nat} {mld' : Int32} {mcv' : Int64} {mlo' : Int32} {mce' mfi' : Nat → Int64} {mlk' mdn' mfl' : Nat → Int32} {mw' : Nat → Int64}
    (hM : (r2, mt', mfc', mlr', mld', mcv', mlo', mce', mfi', mlk', mdn', mfl', mw') = pM_run N0 mfc lr ld mcv mlo mp mtn mce mfi mlk mdn mfl mw i j) : r = r2 ∧ mlr' = lr' ∧ mld' = ld' ∧ mfc' ≤ mfc + 1 ∧ RA N0 ty cl rc lr' ld' cn' pr sf tn ce' gd' fi' lk' db' o1' o2' o3' mfc' mp msf mtn mce' mfi' mlk' mdn' mfl' := by
  obtain ⟨⟨a1, a2, a3, a4, a5, a6, a7⟩, hP, hT, hC, hF, hK, hD, hG, hO⟩ := h
  unfold pB_run at hB
  rw [if_neg (isC_at hi.1 hi.2 (by omega)), if_neg (isR_at hj.1 hj.2 (by omega)), nI_clamp (by omega), nI_clamp (by omega)] at hB
  rcases hx : pB_runOne N0 ta tb tc td te tk cn pr tn ce gd fi lk db o1 o2 o3 i j with ⟨r0, lr0, ld0, ta0, tb0, tc0, td0, te0, tk0, cn0, ce0, gd0, fi0, lk0, db0, p1, p2, p3⟩
  rw [hx] at hB
  dsimp only at hB
  obtain ⟨hr, g1, g2, g3, g4, g5, g6, g7, g8, g9, g10, g11⟩ := one_rel a3 a4 a5 a1 hi hj hP hT hC hF hK hD hG hO hx.symm hM
  rcases hr with ⟨z0, z1⟩ | ⟨z0, z1, z2⟩
  · rw [if_pos z0] at hB
    simp only [Prod.mk.injEq] at hB
    obtain ⟨rfl, rfl, rfl, rfl, rfl, rfl, rfl, rfl, rfl, rfl, rfl, rfl, rfl, rfl, rfl, rfl, rfl, rfl⟩ := hB
    exact ⟨z1.symm, by omega, g3, g5, ⟨g4, a2, a3, a4, a5, by omega, fun h => by omega⟩, hP, hT, g6, g7, g8, g9, g10, g11⟩
  · rw [if_neg z0] at hB
    simp only [Prod.mk.injEq] at hB
    obtain ⟨rfl, rfl, rfl, rfl, rfl, rfl, rfl, rfl, rfl, rfl, rfl, rfl, rfl, rfl, rfl, rfl, rfl, rfl⟩ := hB
    exact ⟨z1.symm, by omega, g3, g5, ⟨g4, a2, a3, a4, a5, by omega, fun h => by omega⟩, hP, hT, g6, g7, g8, g9, g10, g11⟩
theorem RA.resume (h : RA N0 ty cl rc lr ld cn pr sf tn ce gd fi lk db o1 o2 o3 mfc mp msf mtn mce mfi mlk mdn mfl) {xo : Int32} {ta tb tc td te : Int64} {tk : Int32} {mt : Int32} {mcv : Int64} {mlo : Int32} {mw : Nat → Int64}
    {r : Int32} {lr' : Nat} {ld' : Int32} {ta' tb' tc' td' te' : Int64} {tk' : Int32} {cn' : Nat} {ce' : Nat → Int64} {gd' : Nat → Nat} {fi' : Nat → Int64} {lk' : Nat → Int32} {db' : Nat → Int64} {o1' o2' o3' : Nat → Int32}
    (hB : (r, lr', ld', ta', tb', tc', td', te', tk', cn', ce', gd', fi', lk', db', o1', o2', o3') = pB_resume N0 cl rc lr ld ta tb tc td te tk cn pr tn ce gd fi lk db o1 o2 o3 xo)
    {r2 mt' : Int32} {mfc' mlr' : Nat} {mld' : Int32} {mcv' : Int64} {mlo' : Int32} {mce' mfi' : Nat → Int64} {mlk' mdn' mfl' : Nat → Int32} {mw' : Nat → Int64}
    (hM : (r2, mt', mfc', mlr', mld', mcv', mlo', mce', mfi', mlk', mdn', mfl', mw') = pM_resume N0 cl rc mfc lr ld mcv mlo mp mtn mce mfi mlk mdn mfl mw xo) : r = r2 ∧ mlr' = lr' ∧ mld' = ld' ∧ mfc' ≤ mfc + 60 ∧ RA N0 ty cl rc lr' ld' cn' pr sf tn ce' gd' fi' lk' db' o1' o2' o3' mfc' mp msf mtn mce' mfi' mlk' mdn' mfl' := by
  obtain ⟨⟨a1, a2, a3, a4, a5, a6, a7⟩, hP, hT, hC, hF, hK, hD, hG, hO⟩ := h
  unfold pB_resume at hB
  unfold pM_resume at hM
  rw [isC_eq] at hB
  by_cases h0 : pM_isC cl xo = 0
  · rw [if_pos h0] at hB hM
    simp only [Prod.mk.injEq] at hB hM
    obtain ⟨rfl, rfl, rfl, rfl, rfl, rfl, rfl, rfl, rfl, rfl, rfl, rfl, rfl, rfl, rfl, rfl, rfl, rfl⟩ := hB
    obtain ⟨rfl, rfl, rfl, rfl, rfl, rfl, rfl, rfl, rfl, rfl, rfl, rfl, rfl⟩ := hM
    exact ⟨rfl, rfl, rfl, by omega, ⟨a1, a2, a3, a4, a5, a6, a7⟩, hP, hT, hC, hF, hK, hD, hG, hO⟩
  · rw [if_neg h0] at hB hM
    obtain ⟨i, hi1, hi2, rfl⟩ := misC_nat h0 (by omega)
    rw [nI_clamp (by omega)] at hB hM
    have hg := hG (i - 1) (by omega)
    rw [show i - 1 + 1 = i by omega] at hg
    rw [← hg] at hM
    have hle := pM_top_le mdn i rc
    obtain ⟨q1, q2, q3, q4, q5, q6, q7, q8, q9, q10, q11, q12, q13⟩ := res_rel a3 a4 a5 ⟨hi1, hi2⟩ hP hT (rc - gd (i - 1)) (gd (i - 1) + 1) (by omega) (by omega) a1 rfl rfl a6 a7 hC hF hK hD hG hO hB hM
    exact ⟨q1, q2, q3, by omega, ⟨q6, a2, a3, a4, a5, q4, q5⟩, hP, hT, q8, q9, q10, q11, q12, q13⟩
theorem RA.dry0 {ta tb tc td te : Int64} {tk : Int32} {xo xr : Int32} (hbad : pM_isC cl xo = 0 ∨ pM_isR rc xr = 0) {r : Int32} {ta' tb' tc' td' te' : Int64} {tk' : Int32} (hB : (r, ta', tb', tc', td', te', tk') = pB_dry N0 cl rc ta tb tc td te tk pr tn ce fi lk xo xr) : r = -1 := by
  rw [pB_dry, isC_eq, isR_eq] at hB
  by_cases h : pM_isC cl xo = 0
  · rw [if_pos h] at hB
    exact congrArg Prod.fst hB
  · rw [if_neg h, if_pos (hbad.resolve_left h)] at hB
    exact congrArg Prod.fst hB
end RAS
