-- ===== pure: the greatest common divisor, lowest terms =====
theorem lg_cmp0 {b : Nat} (hb : b < 2 ^ 63) : lg_cmp (lN b) 0 = 0 ↔ b = 0 := by
  constructor
  · intro h
    rcases Nat.eq_zero_or_pos b with e | e
    · exact e
    · have h1 : (0 : Int64) < lN b := (pk_lLT (a := 0) (by decide) hb).mpr e
      rw [lg_cmp, if_pos h1] at h
      exact absurd h (by decide)
  · intro h
    subst h
    decide
theorem gcd_step0 {k i a : Nat} {x0 x2 : Int64} : fF_commonDivisor_9 k i x0 x2 (lN a) (lN 0) = lN a := by
  cases k with
  | zero => rfl
  | succ k => rw [fF_commonDivisor_9, if_pos (by decide)]
theorem gcd_step {k i a b : Nat} {x0 x2 : Int64} (ha : a < 2 ^ 63) (hb : b < 2 ^ 63) (h0 : 0 < b) : fF_commonDivisor_9 (k + 1) i x0 x2 (lN a) (lN b) = fF_commonDivisor_9 k (i + 1) x0 x2 (lN b) (lN (a % b)) := by
  rw [fF_commonDivisor_9, if_neg (fun h => by have := (lg_cmp0 hb).mp h; omega), pk_lRem ha h0 hb]
theorem gcd_loop : ∀ (j k i a b : Nat) (x0 x2 : Int64), a < 2 ^ 63 → b < 2 ^ j → j ≤ 62 → 2 * j ≤ k → fF_commonDivisor_9 k i x0 x2 (lN a) (lN b) = lN (Nat.gcd a b) := by
  intro j
  induction j with
  | zero =>
    intro k i a b x0 x2 ha hb hj hk
    have : b = 0 := by simpa using hb
    subst this
    rw [gcd_step0, Nat.gcd_zero_right]
  | succ j ih =>
    intro k i a b x0 x2 ha hb hj hk
    obtain ⟨k, rfl⟩ : ∃ k', k = k' + 2 := ⟨k - 2, by omega⟩
    have h62 : (2 : Nat) ^ (j + 1) ≤ 2 ^ 62 := Nat.pow_le_pow_right (by decide) hj
    have e62 : (2 : Nat) ^ 62 < 2 ^ 63 := by decide
    rcases Nat.eq_zero_or_pos b with e | e
    · subst e
      rw [gcd_step0, Nat.gcd_zero_right]
    · have hb63 : b < 2 ^ 63 := by omega
      rw [gcd_step ha hb63 e]
      have hr : a % b < b := Nat.mod_lt _ e
      rcases Nat.eq_zero_or_pos (a % b) with e2 | e2
      · rw [e2, gcd_step0]
        rw [Nat.gcd_comm, Nat.gcd_rec, e2, Nat.gcd_zero_left]
      · rw [gcd_step hb63 (by omega) e2]
        have h2 : b % (a % b) < 2 ^ j := by
          have h3 : b % (a % b) < a % b := Nat.mod_lt _ e2
          have h4 := Nat.div_add_mod b (a % b)
          have h5 : 1 ≤ b / (a % b) := Nat.div_pos (Nat.le_of_lt hr) e2
          have h6 : a % b ≤ a % b * (b / (a % b)) := Nat.le_mul_of_pos_right _ h5
          rw [Nat.pow_succ] at hb
          omega
        rw [ih k _ _ _ x0 x2 (by omega) h2 (by omega) (by omega)]
        congr 1
        rw [Nat.gcd_comm a b, Nat.gcd_rec b a, Nat.gcd_rec (a % b) b, Nat.gcd_comm]
theorem gcd_all {a b : Nat} (ha : a < 2 ^ 63) (hb : b < 2 ^ 50) : fF_commonDivisor (lN a) (lN b) = lN (Nat.gcd a b) := gcd_loop 50 100 0 a b _ _ ha hb (by decide) (by decide)
theorem lowest_all {a b : Nat} {q : Int32} (ha : a < 2 ^ 63) (hb : b < 2 ^ 50) (h0 : 0 < b) : fF_lowest (lN a) (lN b) q = if q = 0 then lN (a / Nat.gcd a b) else lN (b / Nat.gcd a b) := by
  have hg : 0 < Nat.gcd a b := Nat.gcd_pos_of_pos_right _ h0
  have hgl : Nat.gcd a b ≤ b := Nat.gcd_le_right _ h0
  have h50 : (2 : Nat) ^ 50 < 2 ^ 63 := by decide
  rw [fF_lowest, gcd_all ha hb, if_pos]
  · rw [pk_lDiv ha hg (by omega), pk_lDiv (by omega) hg (by omega)]
  · rw [lg_cmp_ge]
    exact (pk_lLE (a := 1) (by decide) (by omega)).mpr hg
-- the reference's lowest terms
theorem lg_cmp0le {b : Nat} (hb : b < 2 ^ 63) : lg_cmp (lN b) 0 ≤ 0 ↔ b = 0 := by
  constructor
  · intro h
    rcases Nat.eq_zero_or_pos b with e | e
    · exact e
    · have h1 : (0 : Int64) < lN b := (pk_lLT (a := 0) (by decide) hb).mpr e
      rw [lg_cmp, if_pos h1] at h
      exact absurd h (by decide)
  · intro h
    subst h
    decide
theorem lN_ne0 {b : Nat} (hb : b < 2 ^ 63) (h : 0 < b) : ¬ lN b = 0 := fun e => by
  have := (pk_lEQ (b := 0) hb (by decide)).mp e
  omega
theorem rl_step0 {k x : Nat} {A B : Int64} {q : Int32} (hx : x < 2 ^ 63) (h0 : 0 < x) : fR_lowest_6 (k + 1) A B q (lN x) (lN 0) = some (if q = 0 then A / lN x else B / lN x) := by
  rw [fR_lowest_6, if_pos (by decide)]
  split
  · rw [if_neg (lN_ne0 hx h0)]
  · rw [if_neg (lN_ne0 hx h0)]
theorem rl_step {k x y : Nat} {A B : Int64} {q : Int32} (hx : x < 2 ^ 63) (hy : y < 2 ^ 63) (h0 : 0 < y) : fR_lowest_6 (k + 1) A B q (lN x) (lN y) = fR_lowest_6 k A B q (lN y) (lN (x % y)) := by
  rw [fR_lowest_6, if_neg (fun h => by have := (lg_cmp0le hy).mp h; omega), pk_lRem hx h0 hy]
theorem rl_loop {A B : Int64} {q : Int32} : ∀ (j k x y : Nat), x < 2 ^ 63 → y < 2 ^ j → j ≤ 62 → 2 * j + 1 ≤ k → 0 < Nat.gcd x y → fR_lowest_6 k A B q (lN x) (lN y) = some (if q = 0 then A / lN (Nat.gcd x y) else B / lN (Nat.gcd x y)) := by
  intro j
  induction j with
  | zero =>
    intro k x y hx hy hj hk hg
    have : y = 0 := by simpa using hy
    subst this
    rw [Nat.gcd_zero_right] at hg ⊢
    obtain ⟨k, rfl⟩ : ∃ k', k = k' + 1 := ⟨k - 1, by omega⟩
    exact rl_step0 hx hg
  | succ j ih =>
    intro k x y hx hy hj hk hg
    obtain ⟨k, rfl⟩ : ∃ k', k = k' + 3 := ⟨k - 3, by omega⟩
    have h62 : (2 : Nat) ^ (j + 1) ≤ 2 ^ 62 := Nat.pow_le_pow_right (by decide) hj
    have e62 : (2 : Nat) ^ 62 < 2 ^ 63 := by decide
    rcases Nat.eq_zero_or_pos y with e | e
    · subst e
      rw [Nat.gcd_zero_right] at hg ⊢
      exact rl_step0 hx hg
    · have hy63 : y < 2 ^ 63 := by omega
      rw [rl_step hx hy63 e]
      have hr : x % y < y := Nat.mod_lt _ e
      have eg : Nat.gcd x y = Nat.gcd y (x % y) := by rw [Nat.gcd_comm x y, Nat.gcd_rec y x, Nat.gcd_comm]
      rcases Nat.eq_zero_or_pos (x % y) with e2 | e2
      · rw [e2, Nat.gcd_zero_right] at eg
        rw [e2, eg]
        exact rl_step0 hy63 e
      · rw [rl_step hy63 (by omega) e2]
        have h2 : y % (x % y) < 2 ^ j := by
          have h3 : y % (x % y) < x % y := Nat.mod_lt _ e2
          have h4 := Nat.div_add_mod y (x % y)
          have h5 : 1 ≤ y / (x % y) := Nat.div_pos (Nat.le_of_lt hr) e2
          have h6 : x % y ≤ x % y * (y / (x % y)) := Nat.le_mul_of_pos_right _ h5
          rw [Nat.pow_succ] at hy
          omega
        have eg2 : Nat.gcd x y = Nat.gcd (x % y) (y % (x % y)) := by rw [eg, Nat.gcd_comm y, Nat.gcd_rec (x % y) y, Nat.gcd_comm]
        rw [eg2] at hg ⊢
        exact ih (k + 1) _ _ (by omega) h2 (by omega) (by omega) hg
theorem rlow {a b : Nat} {q : Int32} (ha : a < 2 ^ 62) (hb : b < 2 ^ 62) (h0 : 0 < b) : fR_lowest (lN a) (lN b) q = some (if q = 0 then lN (a / Nat.gcd a b) else lN (b / Nat.gcd a b)) := by
  have hg : 0 < Nat.gcd b a := Nat.gcd_pos_of_pos_left _ h0
  have e62 : (2 : Nat) ^ 62 < 2 ^ 63 := by decide
  have hgb : Nat.gcd b a ≤ b := Nat.gcd_le_left _ h0
  rw [fR_lowest, rl_loop 62 200 b a (by omega) ha (by decide) (by decide) hg]
  rw [pk_lDiv (by omega) hg (by omega), pk_lDiv (by omega) hg (by omega), Nat.gcd_comm]
/-- a fraction widened by c tells the same lowest terms -/
theorem low_rel {a b c : Nat} {q : Int32} (hc : 0 < c) (h0 : 0 < b) (hb : b < 2 ^ 50) (ha : a < 2 ^ 62) (hca : c * a < 2 ^ 62) (hcb : c * b < 2 ^ 62) : fR_lowest (lN (c * a)) (lN (c * b)) q = some (fF_lowest (lN a) (lN b) q) := by
  have e62 : (2 : Nat) ^ 62 < 2 ^ 63 := by decide
  rw [rlow hca hcb (Nat.mul_pos hc h0), lowest_all (by omega) hb h0, Nat.gcd_mul_left, Nat.mul_div_mul_left _ _ hc, Nat.mul_div_mul_left _ _ hc]
