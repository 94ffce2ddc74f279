/-! Long.bitCount counts bits. -/
def cb : Nat → Nat → Nat
  | 0, _ => 0
  | n + 1, m => cb n (m / 2) + m % 2
theorem cb_or : ∀ (n q m : Nat), q < n → m / 2 ^ q % 2 = 0 → cb n (m ||| 2 ^ q) = cb n m + 1
  | 0, q, m, h, _ => absurd h (Nat.not_lt_zero _)
  | n + 1, 0, m, _, h0 => by
    have h0 : m % 2 = 0 := by rw [Nat.pow_zero, Nat.div_one] at h0; exact h0
    show cb n ((m ||| 1) / 2) + (m ||| 1) % 2 = cb n (m / 2) + m % 2 + 1
    have e1 : (m ||| 1) / 2 = m / 2 := by rw [Nat.or_div_two]; show m / 2 ||| 0 = m / 2; exact Nat.or_zero _
    have e2 : (m ||| 1) % 2 = 1 := by
      have h := Nat.or_mod_two_pow (a := m) (b := 1) (n := 1)
      rw [show 2 ^ 1 = 2 from rfl, h0] at h
      exact h
    rw [e1, e2, h0]
  | n + 1, q + 1, m, h, h0 => by
    show cb n ((m ||| 2 ^ (q + 1)) / 2) + (m ||| 2 ^ (q + 1)) % 2 = cb n (m / 2) + m % 2 + 1
    have e0 : 2 ^ (q + 1) / 2 = 2 ^ q := by rw [Nat.pow_succ, Nat.mul_div_cancel _ (by decide)]
    have e9 : 2 ^ (q + 1) % 2 = 0 := by rw [Nat.pow_succ, Nat.mul_mod_left]
    have e1 : (m ||| 2 ^ (q + 1)) / 2 = m / 2 ||| 2 ^ q := by rw [Nat.or_div_two, e0]
    have e2 : (m ||| 2 ^ (q + 1)) % 2 = m % 2 := by
      have h := Nat.or_mod_two_pow (a := m) (b := 2 ^ (q + 1)) (n := 1)
      rw [show 2 ^ 1 = 2 from rfl, e9] at h
      rw [h]
      exact Nat.or_zero _
    have h1 : m / 2 / 2 ^ q % 2 = 0 := by rw [Nat.div_div_eq_div_mul, show 2 * 2 ^ q = 2 ^ (q + 1) by rw [Nat.pow_succ]; omega]; exact h0
    rw [e1, e2, cb_or n q (m / 2) (by omega) h1]
    omega
theorem cb_lt : ∀ (n k m : Nat), m < 2 ^ k → cb n m ≤ k
  | 0, k, m, _ => Nat.zero_le _
  | n + 1, 0, m, h => by
    have h : m = 0 := by rw [Nat.pow_zero] at h; omega
    subst h
    show cb n (0 / 2) + 0 % 2 ≤ 0
    have := cb_lt n 0 0 (by decide)
    rw [Nat.zero_div, Nat.zero_mod]
    omega
  | n + 1, k + 1, m, h => by
    show cb n (m / 2) + m % 2 ≤ k + 1
    have := cb_lt n k (m / 2) (by rw [Nat.pow_succ] at h; omega)
    omega
theorem cb_room {m q : Nat} (hm : m < 2 ^ 60) (hq : q < 60) (h0 : m / 2 ^ q % 2 = 0) : cb 64 m < 60 := by
  have h1 := cb_or 64 q m (by omega) h0
  have h2 := cb_lt 64 60 (m ||| 2 ^ q) (Nat.or_lt_two_pow hm (Nat.pow_lt_pow_right (by decide) hq))
  omega
theorem and_256 {a b u v : Nat} (hb : b < 256) (hv : v < 256) : (256 * a + b) &&& (256 * u + v) = 256 * (a &&& u) + (b &&& v) := by
  have hb : b < 2 ^ 8 := hb
  have hv : v < 2 ^ 8 := hv
  have hbv : b &&& v < 2 ^ 8 := Nat.and_lt_two_pow _ hv
  show (2 ^ 8 * a + b) &&& (2 ^ 8 * u + v) = 2 ^ 8 * (a &&& u) + (b &&& v)
  apply Nat.eq_of_testBit_eq
  intro i
  rw [Nat.testBit_and, Nat.testBit_two_pow_mul_add a hb, Nat.testBit_two_pow_mul_add u hv, Nat.testBit_two_pow_mul_add (a &&& u) hbv]
  by_cases h : i < 8
  · simp [h, Nat.testBit_and]
  · simp [h, Nat.testBit_and]
/-- masks of n bytes -/
def mk8 (c : Nat) : Nat → Nat
  | 0 => 0
  | n + 1 => 256 * mk8 c n + c
def p1 (n m : Nat) : Nat := m - (m / 2 &&& mk8 85 n)
def p2 (n m : Nat) : Nat := (m &&& mk8 51 n) + (m / 4 &&& mk8 51 n)
def p3 (n m : Nat) : Nat := (m + m / 16) &&& mk8 15 n
def s1 (b : Nat) : Nat := b - (b / 2 &&& 85)
def s2 (b : Nat) : Nat := (b &&& 51) + (b / 4 &&& 51)
def s3 (b : Nat) : Nat := (b + b / 16) &&& 15
theorem t85 : ∀ a, a < 2 → ∀ b, b < 256 → ((a * 128 + b / 2) &&& 85 = b / 2 &&& 85) ∧ (b / 2 &&& 85) ≤ b := by decide +kernel
theorem t51 : ∀ a, a < 4 → ∀ b, b < 256 → ((a * 64 + b / 4) &&& 51 = b / 4 &&& 51) := by decide +kernel
theorem ts1 : ∀ b, b < 256 → s1 b < 256 := by decide +kernel
theorem ts2 : ∀ b, b < 256 → s2 (s1 b) < 69 ∧ s2 (s1 b) % 16 ≤ 4 ∧ s3 (s2 (s1 b)) = cb 8 b ∧ s3 (s2 (s1 b)) ≤ 8 := by decide +kernel
theorem t15 : ∀ a, a < 5 → ∀ b, b < 69 → 16 * a + b + b / 16 < 256 ∧ ((16 * a + b + b / 16) &&& 15 = s3 b) := by decide +kernel
theorem p1_s {n a b : Nat} (hb : b < 256) : p1 (n + 1) (256 * a + b) = 256 * p1 n a + s1 b := by
  obtain ⟨h1, h2⟩ := t85 (a % 2) (Nat.mod_lt _ (by decide)) b hb
  unfold p1
  have e : (256 * a + b) / 2 = 256 * (a / 2) + (a % 2 * 128 + b / 2) := by omega
  have e2 : (256 * a + b) / 2 &&& mk8 85 (n + 1) = 256 * (a / 2 &&& mk8 85 n) + (b / 2 &&& 85) := by
    rw [e]; show (256 * (a / 2) + (a % 2 * 128 + b / 2)) &&& (256 * mk8 85 n + 85) = _
    rw [and_256 (by omega) (by decide), h1]
  have h3 : (a / 2 &&& mk8 85 n) ≤ a / 2 := Nat.and_le_left
  rw [e2]
  unfold s1
  omega
theorem p2_s {n a b : Nat} (hb : b < 256) : p2 (n + 1) (256 * a + b) = 256 * p2 n a + s2 b := by
  have h1 := t51 (a % 4) (Nat.mod_lt _ (by decide)) b hb
  unfold p2
  have e : (256 * a + b) / 4 = 256 * (a / 4) + (a % 4 * 64 + b / 4) := by omega
  have e2 : (256 * a + b) / 4 &&& mk8 51 (n + 1) = 256 * (a / 4 &&& mk8 51 n) + (b / 4 &&& 51) := by
    rw [e]; show (256 * (a / 4) + (a % 4 * 64 + b / 4)) &&& (256 * mk8 51 n + 51) = _
    rw [and_256 (by omega) (by decide), h1]
  have e3 : (256 * a + b) &&& mk8 51 (n + 1) = 256 * (a &&& mk8 51 n) + (b &&& 51) := and_256 hb (by decide)
  rw [e2, e3]
  unfold s2
  omega
theorem p3_s {n a b : Nat} (hb : b < 69) (ha : a % 16 ≤ 4) : p3 (n + 1) (256 * a + b) = 256 * p3 n a + s3 b := by
  obtain ⟨h1, h2⟩ := t15 (a % 16) (by omega) b hb
  unfold p3
  have e : 256 * a + b + (256 * a + b) / 16 = 256 * (a + a / 16) + (16 * (a % 16) + b + b / 16) := by omega
  rw [e]
  show (256 * (a + a / 16) + (16 * (a % 16) + b + b / 16)) &&& (256 * mk8 15 n + 15) = _
  rw [and_256 h1 (by decide), h2]
def bs : Nat → Nat → Nat
  | 0, _ => 0
  | n + 1, m => 256 * bs n (m / 256) + s3 (s2 (s1 (m % 256)))
theorem p12_low : ∀ n m : Nat, p2 n (p1 n m) % 16 ≤ 4
  | 0, m => by
    show ((p1 0 m &&& 0) + (p1 0 m / 4 &&& 0)) % 16 ≤ 4
    rw [Nat.and_zero, Nat.and_zero]; decide
  | n + 1, m => by
    have hb := Nat.mod_lt m (show 0 < 256 by decide)
    have e : m = 256 * (m / 256) + m % 256 := by omega
    rw [e, p1_s hb, p2_s (ts1 _ hb)]
    have := (ts2 _ hb).2.1
    omega
theorem bs_p : ∀ n m : Nat, p3 n (p2 n (p1 n m)) = bs n m
  | 0, m => by show (_ &&& 0) = 0; exact Nat.and_zero _
  | n + 1, m => by
    have hb := Nat.mod_lt m (show 0 < 256 by decide)
    have e : m = 256 * (m / 256) + m % 256 := by omega
    show _ = 256 * bs n (m / 256) + s3 (s2 (s1 (m % 256)))
    rw [← bs_p n (m / 256)]
    conv => lhs; rw [e]
    rw [p1_s hb, p2_s (ts1 _ hb), p3_s (ts2 _ hb).1 (p12_low _ _)]
theorem cb_8 (n m : Nat) : cb (n + 8) m = cb n (m / 256) + cb 8 (m % 256) := by
  show cb n (m / 2 / 2 / 2 / 2 / 2 / 2 / 2 / 2) + m / 2 / 2 / 2 / 2 / 2 / 2 / 2 % 2 + m / 2 / 2 / 2 / 2 / 2 / 2 % 2 + m / 2 / 2 / 2 / 2 / 2 % 2 + m / 2 / 2 / 2 / 2 % 2 + m / 2 / 2 / 2 % 2 + m / 2 / 2 % 2 + m / 2 % 2 + m % 2 = cb n (m / 256) + (0 + m % 256 / 2 / 2 / 2 / 2 / 2 / 2 / 2 % 2 + m % 256 / 2 / 2 / 2 / 2 / 2 / 2 % 2 + m % 256 / 2 / 2 / 2 / 2 / 2 % 2 + m % 256 / 2 / 2 / 2 / 2 % 2 + m % 256 / 2 / 2 / 2 % 2 + m % 256 / 2 / 2 % 2 + m % 256 / 2 % 2 + m % 256 % 2)
  rw [show m / 2 / 2 / 2 / 2 / 2 / 2 / 2 / 2 = m / 256 by omega]
  omega
theorem bs_cb (n m : Nat) : bs (n + 1) m = 256 * bs n (m / 256) + cb 8 (m % 256) ∧ cb 8 (m % 256) ≤ 8 := by
  have h := ts2 _ (Nat.mod_lt m (show 0 < 256 by decide))
  refine ⟨?_, by rw [← h.2.2.1]; exact h.2.2.2⟩
  show 256 * bs n (m / 256) + s3 (s2 (s1 (m % 256))) = _
  rw [h.2.2.1]
