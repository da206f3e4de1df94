-- Long.bitCount counts: the masks, byte by byte
theorem land_split (w a b u v : Nat) (ha : a < 2 ^ w) (hu : u < 2 ^ w) : (a + 2 ^ w * b) &&& (u + 2 ^ w * v) = (a &&& u) + 2 ^ w * (b &&& v) := by
  apply Nat.eq_of_testBit_eq
  intro j
  rw [Nat.testBit_and, Nat.add_comm a, Nat.add_comm u, Nat.testBit_two_pow_mul_add _ ha, Nat.testBit_two_pow_mul_add _ hu, Nat.add_comm (a &&& u), Nat.testBit_two_pow_mul_add _ (Nat.and_lt_two_pow _ hu)]
  split <;> simp [Nat.testBit_and]
def mk8 (c : Nat) : Nat → Nat
  | 0 => 0
  | k + 1 => c + 256 * mk8 c k
def f1 (k n : Nat) : Nat := n - ((n / 2) &&& mk8 85 k)
def g2 (k n : Nat) : Nat := (n &&& mk8 51 k) + ((n / 4) &&& mk8 51 k)
def h3 (k n : Nat) : Nat := (n + n / 16) &&& mk8 15 k
def p1 (b : Nat) : Nat := b - (b / 2 &&& 85)
def p2 (b : Nat) : Nat := (b &&& 51) + (b / 4 &&& 51)
def p3 (b : Nat) : Nat := (b + b / 16) % 16
def on8 (b : Nat) : Nat := b % 2 + b / 2 % 2 + b / 4 % 2 + b / 8 % 2 + b / 16 % 2 + b / 32 % 2 + b / 64 % 2 + b / 128 % 2
theorem d1 : ∀ b, b < 256 → ∀ t, t < 2 → (b / 2 + 128 * t) &&& 85 = b / 2 &&& 85 := by decide +kernel
theorem d2 : ∀ b, b < 256 → ∀ t, t < 4 → (b / 4 + 64 * t) &&& 51 = b / 4 &&& 51 := by decide +kernel
theorem d3 : ∀ b, b < 256 → p1 b < 256 ∧ p2 (p1 b) % 16 ≤ 4 ∧ p2 (p1 b) / 16 ≤ 4 ∧ p3 (p2 (p1 b)) = on8 b ∧ on8 b ≤ 8 := by decide +kernel
theorem f1_step {b : Nat} (hb : b < 256) (k m : Nat) : f1 (k + 1) (b + 256 * m) = p1 b + 256 * f1 k m := by
  have e : (b + 256 * m) / 2 = (b / 2 + 128 * (m % 2)) + 2 ^ 8 * (m / 2) := by omega
  have h1 : b / 2 &&& 85 ≤ b := Nat.le_trans Nat.and_le_left (Nat.div_le_self _ _)
  have h2 : m / 2 &&& mk8 85 k ≤ m := Nat.le_trans Nat.and_le_left (Nat.div_le_self _ _)
  unfold f1 p1
  rw [e, show mk8 85 (k + 1) = 85 + 2 ^ 8 * mk8 85 k from rfl, land_split 8 _ _ _ _ (by omega) (by decide), d1 b hb (m % 2) (by omega)]
  omega
theorem g2_step {b : Nat} (hb : b < 256) (k m : Nat) : g2 (k + 1) (b + 256 * m) = p2 b + 256 * g2 k m := by
  have e : (b + 256 * m) / 4 = (b / 4 + 64 * (m % 4)) + 2 ^ 8 * (m / 4) := by omega
  unfold g2 p2
  rw [e, show mk8 51 (k + 1) = 51 + 2 ^ 8 * mk8 51 k from rfl, show b + 256 * m = b + 2 ^ 8 * m from rfl, land_split 8 b m 51 (mk8 51 k) hb (by decide), land_split 8 (b / 4 + 64 * (m % 4)) (m / 4) 51 (mk8 51 k) (by omega) (by decide), d2 b hb (m % 4) (by omega)]
  omega
theorem h3_step {b m : Nat} (h1 : b % 16 ≤ 4) (h2 : b / 16 ≤ 4) (h4 : m % 16 ≤ 4) (k : Nat) : h3 (k + 1) (b + 256 * m) = p3 b + 256 * h3 k m := by
  have e : b + 256 * m + (b + 256 * m) / 16 = (b + b / 16 + 16 * (m % 16)) + 2 ^ 8 * (m + m / 16) := by omega
  unfold h3 p3
  rw [e, show mk8 15 (k + 1) = 15 + 2 ^ 8 * mk8 15 k from rfl, land_split 8 _ _ _ _ (by omega) (by decide), show (15 : Nat) = 2 ^ 4 - 1 from rfl, Nat.and_two_pow_sub_one_eq_mod]
  omega
theorem split8 (m : Nat) : m = m % 256 + 256 * (m / 256) := by omega
theorem q16 (k m : Nat) : g2 k (f1 k m) % 16 ≤ 4 := by
  cases k with
  | zero => simp [g2, mk8]
  | succ k =>
    rw [split8 m, f1_step (Nat.mod_lt _ (by decide)), g2_step (d3 _ (Nat.mod_lt _ (by decide))).1]
    have h := (d3 (m % 256) (Nat.mod_lt _ (by decide))).2.1
    omega
def tt (k n : Nat) : Nat := h3 k (g2 k (f1 k n))
theorem tt_step {b : Nat} (hb : b < 256) (k m : Nat) : tt (k + 1) (b + 256 * m) = on8 b + 256 * tt k m := by
  obtain ⟨q1, q2, q3, q4, q5⟩ := d3 b hb
  unfold tt
  rw [f1_step hb, g2_step q1, h3_step q2 q3 (q16 k m), q4]
def ones : Nat → Nat → Nat
  | 0, _ => 0
  | k + 1, n => n % 2 + ones k (n / 2)
theorem ones_8 {b : Nat} (hb : b < 256) (k m : Nat) : ones (k + 8) (b + 256 * m) = on8 b + ones k m := by
  simp only [ones]
  rw [show (b + 256 * m) / 2 / 2 / 2 / 2 / 2 / 2 / 2 / 2 = m by omega]
  unfold on8
  omega
theorem q_w {c0 x w : Nat} (h : w = c0 + 256 * x) (b0 : c0 ≤ 8) : w / 256 = x := by omega
theorem q_v {a b y v : Nat} (hv : v = a + 256 * (b + 256 * y)) (ha : a ≤ 16) (hb : b ≤ 16) : v / 65536 = y := by omega
theorem q_u {a b y u : Nat} (hu : u = a + 65536 * (b + 65536 * y)) (ha : a ≤ 10000) (hb : b ≤ 10000) : u / 4294967296 = y := by omega
theorem q_t {s z t : Nat} (ht : t = s + 256 * z) (hs : s ≤ 64) : t % 128 = s := by omega
theorem pop_sum {c0 c1 c2 c3 c4 c5 c6 c7 x1 x2 x3 x4 x5 x6 w : Nat} (b0 : c0 ≤ 8) (b1 : c1 ≤ 8) (b2 : c2 ≤ 8) (b3 : c3 ≤ 8) (b4 : c4 ≤ 8) (b5 : c5 ≤ 8) (b6 : c6 ≤ 8) (b7 : c7 ≤ 8)
    (h0 : w = c0 + 256 * x1) (h1 : x1 = c1 + 256 * x2) (h2 : x2 = c2 + 256 * x3) (h3 : x3 = c3 + 256 * x4) (h4 : x4 = c4 + 256 * x5) (h5 : x5 = c5 + 256 * x6) (h6 : x6 = c6 + 256 * c7) :
    (w + w / 256 + (w + w / 256) / 65536 + (w + w / 256 + (w + w / 256) / 65536) / 4294967296) % 128 = c0 + c1 + c2 + c3 + c4 + c5 + c6 + c7 := by
  rw [q_w h0 b0]
  obtain ⟨v, hv⟩ : ∃ v, v = w + x1 := ⟨_, rfl⟩
  rw [← hv]
  have ev : v = (c0 + c1) + 256 * ((c1 + c2) + 256 * (x2 + x3)) := by omega
  rw [q_v ev (by omega) (by omega)]
  obtain ⟨u, hu⟩ : ∃ u, u = v + (x2 + x3) := ⟨_, rfl⟩
  rw [← hu]
  have e23 : x2 + x3 = (c2 + c3) + 256 * ((c3 + c4) + 256 * (x4 + x5)) := by omega
  have e45 : x4 + x5 = (c4 + c5) + 256 * ((c5 + c6) + 256 * (x6 + c7)) := by omega
  have e67 : x6 + c7 = (c6 + c7) + 256 * c7 := by omega
  clear h0 h1 h2 h3 h4 h5 h6
  generalize x2 + x3 = y2 at *
  generalize x4 + x5 = y4 at *
  generalize x6 + c7 = y6 at *
  have eu : u = ((c0 + c1 + c2 + c3) + 256 * (c1 + c2 + c3 + c4)) + 65536 * (((c2 + c3 + c4 + c5) + 256 * (c3 + c4 + c5 + c6)) + 65536 * (y4 + y6)) := by omega
  rw [q_u eu (by omega) (by omega)]
  refine q_t (z := (c1 + c2 + c3 + c4) + 256 * (((c2 + c3 + c4 + c5) + 256 * (c3 + c4 + c5 + c6)) + 65536 * (y4 + y6)) + ((c5 + c6) + 256 * y6) + c7) ?_ (by omega)
  omega
theorem pop_lt {w : Nat} (h : w < 2 ^ 60) : w + w / 256 < 2 ^ 61 ∧ w + w / 256 + (w + w / 256) / 65536 < 2 ^ 62 ∧ w + w / 256 + (w + w / 256) / 65536 + (w + w / 256 + (w + w / 256) / 65536) / 4294967296 < 2 ^ 63 := by
  have a1 : w / 256 ≤ w := Nat.div_le_self _ _
  have a2 : (w + w / 256) / 65536 ≤ w + w / 256 := Nat.div_le_self _ _
  have a3 : (w + w / 256 + (w + w / 256) / 65536) / 4294967296 ≤ w + w / 256 + (w + w / 256) / 65536 := Nat.div_le_self _ _
  generalize w / 256 = p at *
  generalize (w + p) / 65536 = q at *
  generalize (w + p + q) / 4294967296 = r at *
  omega
