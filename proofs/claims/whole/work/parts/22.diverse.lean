-- ===== diverse =====
def tv (x : Int64) : Nat := x.toInt.toNat
theorem tv_lN {t : Nat} (h : t < 2 ^ 63) : tv (lN t) = t := by rw [tv, pk_lT h]; rfl
theorem Sc.tv {d : Nat} {x y : Int64} (h : Sc d x y) : x = lN (tv x) ∧ y = lN (2 ^ 20 * tv x) ∧ tv x ≤ 2 ^ 30 := by
  obtain ⟨t, h1, -, rfl, rfl⟩ := h
  have b : (2 : Nat) ^ 30 < 2 ^ 63 := by decide
  rw [tv_lN (by omega)]
  exact ⟨rfl, rfl, h1⟩
theorem sm_congr {f g : Nat → Nat} : ∀ n, (∀ i, i < n → f i = g i) → sm f n = sm g n
  | 0, _ => rfl
  | n + 1, h => by rw [sm, sm, sm_congr n (fun i hi => h i (by omega)), h n (by omega)]
theorem sm_mul {f : Nat → Nat} {c : Nat} : ∀ n, sm (fun i => c * f i) n = c * sm f n
  | 0 => rfl
  | n + 1 => by rw [sm, sm, sm_mul n, Nat.mul_add]
theorem sm_mulr {f : Nat → Nat} {c : Nat} : ∀ n, sm (fun i => f i * c) n = sm f n * c
  | 0 => by simp [sm]
  | n + 1 => by rw [sm, sm, sm_mulr n, Nat.add_mul]
def wl (d : Nat → Int32) (a : Nat) : Nat := if d a = 0 then 1 else 0
theorem wl_le (d : Nat → Int32) (a : Nat) : wl d a ≤ 1 := by unfold wl; split <;> omega
theorem kwl {n : Nat} {S : vK} {t : Nat → Nat → Nat} (hn : n ≤ 24) (ht : ∀ a b, a < n → b < n → fP_kinOf n (g_P S) (nI a) (nI b) = lN (t a b)) {a : Nat} (ha : a < n) : ∀ (k i : Nat), i + k = n → fK_kinWithLiving_5 n S k i (nI a) (lN (sm (fun b => wl (g_dd S) b * t a b) i)) = lN (sm (fun b => wl (g_dd S) b * t a b) n) := by
  intro k
  induction k with
  | zero => intro i hi; rw [fK_kinWithLiving_5, show i = n by omega]
  | succ k ih =>
    intro i hi
    rw [fK_kinWithLiving_5, nI_clamp (by omega)]
    have e := ih (i + 1) (by omega)
    rw [sm] at e
    by_cases c : g_dd S i = 0
    · rw [if_pos c, ht a i ha (by omega), lN_add]
      rw [wl, if_pos c, Nat.one_mul] at e
      exact e
    · rw [if_neg c]
      rw [wl, if_neg c, Nat.zero_mul, Nat.add_zero] at e
      exact e
theorem div_k {n : Nat} {S : vK} {t : Nat → Nat → Nat} {q : Int32} (hn : n ≤ 24) (ht : ∀ a b, a < n → b < n → fP_kinOf n (g_P S) (nI a) (nI b) = lN (t a b)) : ∀ (k i : Nat), i + k = n → fK_diverse_19 n S k i q (lN (sm (wl (g_dd S)) i)) (lN (sm (fun a => wl (g_dd S) a * sm (fun b => wl (g_dd S) b * t a b) n) i)) = fK_diverse_19 n S 0 n q (lN (sm (wl (g_dd S)) n)) (lN (sm (fun a => wl (g_dd S) a * sm (fun b => wl (g_dd S) b * t a b) n) n)) := by
  generalize hF : fK_diverse_19 n S 0 n q (lN (sm (wl (g_dd S)) n)) (lN (sm (fun a => wl (g_dd S) a * sm (fun b => wl (g_dd S) b * t a b) n) n)) = F
  intro k
  induction k with
  | zero => intro i hi; rw [show i = n by omega]; exact hF
  | succ k ih =>
    intro i hi
    rw [fK_diverse_19, nI_clamp (by omega)]
    have e := ih (i + 1) (by omega)
    rw [sm, sm] at e
    by_cases c : g_dd S i = 0
    · have h0 := kwl hn ht (a := i) (by omega) n 0 (by omega)
      rw [if_pos c, fK_kinWithLiving]
      rw [show (0 : Int64) = lN (sm (fun b => wl (g_dd S) b * t i b) 0) from rfl, h0, lN_1, lN_add]
      rw [show wl (g_dd S) i = 1 by rw [wl, if_pos c], Nat.one_mul] at e
      exact e
    · rw [if_neg c]
      rw [show wl (g_dd S) i = 0 by rw [wl, if_neg c], Nat.zero_mul, Nat.add_zero, Nat.add_zero] at e
      exact e
theorem rdiv_in {n : Nat} {T : vR} {d : Nat → Int32} {t : Nat → Nat → Nat} {q : Int32} (hn : n ≤ 24) (hd : g_rgo T = d) (ht : ∀ a b, a < n → b < n → fR_kinOf n T (nI a) (nI b) = some (lN (2 ^ 20 * t a b))) {a : Nat} (ha : a < n) (X Y : Nat) : ∀ (k i : Nat), i + k = n → fR_diverse_35 n k i q (lN (X + 2 ^ 20 * sm (fun b => wl d a * (wl d b * t a b)) i)) (lN (Y + sm (fun b => wl d a * wl d b) i)) a T = some (lN (X + 2 ^ 20 * sm (fun b => wl d a * (wl d b * t a b)) n), lN (Y + sm (fun b => wl d a * wl d b) n), T) := by
  intro k
  induction k with
  | zero => intro i hi; rw [fR_diverse_35, show i = n by omega]
  | succ k ih =>
    intro i hi
    have e := ih (i + 1) (by omega)
    rw [fR_diverse_35, if_neg (ob_nI (by omega) (by omega)), nI_clamp (by omega), nI_clamp (by omega), hd]
    rw [sm, sm] at e
    by_cases c : d a = 0
    · rw [if_pos c]
      by_cases c2 : d i = 0
      · rw [if_pos c2, ht a i ha (by omega), bs, lN_add, lN_1]
        rw [show wl d a = 1 by rw [wl, if_pos c], show wl d i = 1 by rw [wl, if_pos c2], Nat.one_mul, Nat.one_mul, Nat.mul_add, ← Nat.add_assoc, ← Nat.add_assoc] at e
        rw [show wl d a = 1 by rw [wl, if_pos c]]
        exact e
      · rw [if_neg c2]
        rw [show wl d i = 0 by rw [wl, if_neg c2], Nat.zero_mul, Nat.mul_zero, Nat.add_zero, Nat.add_zero] at e
        exact e
    · rw [if_neg c]
      rw [show wl d a = 0 by rw [wl, if_neg c], Nat.zero_mul, Nat.zero_mul, Nat.add_zero, Nat.add_zero] at e
      rw [show wl d a = 0 by rw [wl, if_neg c]]
      exact e
theorem rdiv_out {n : Nat} {T : vR} {d : Nat → Int32} {t : Nat → Nat → Nat} {q : Int32} (hn : n ≤ 24) (hd : g_rgo T = d) (ht : ∀ a b, a < n → b < n → fR_kinOf n T (nI a) (nI b) = some (lN (2 ^ 20 * t a b))) : ∀ (k i : Nat), i + k = n → fR_diverse_23 n k i q (lN (2 ^ 20 * sm (fun a => sm (fun b => wl d a * (wl d b * t a b)) n) i)) (lN (sm (fun a => sm (fun b => wl d a * wl d b) n) i)) T = fR_diverse_23 n 0 n q (lN (2 ^ 20 * sm (fun a => sm (fun b => wl d a * (wl d b * t a b)) n) n)) (lN (sm (fun a => sm (fun b => wl d a * wl d b) n) n)) T := by
  generalize hF : fR_diverse_23 n 0 n q (lN (2 ^ 20 * sm (fun a => sm (fun b => wl d a * (wl d b * t a b)) n) n)) (lN (sm (fun a => sm (fun b => wl d a * wl d b) n) n)) T = F
  intro k
  induction k with
  | zero => intro i hi; rw [show i = n by omega]; exact hF
  | succ k ih =>
    intro i hi
    have e := ih (i + 1) (by omega)
    have h0 := rdiv_in (q := q) hn hd ht (a := i) (by omega) (2 ^ 20 * sm (fun a => sm (fun b => wl d a * (wl d b * t a b)) n) i) (sm (fun a => sm (fun b => wl d a * wl d b) n) i) n 0 (by omega)
    rw [show sm (fun b => wl d i * (wl d b * t i b)) 0 = 0 from rfl, show sm (fun b => wl d i * wl d b) 0 = 0 from rfl, Nat.mul_zero, Nat.add_zero, Nat.add_zero] at h0
    rw [fR_diverse_23, h0, bs]
    rw [sm, sm, Nat.mul_add] at e
    exact e
theorem rel_diverse {n : Nat} {S : vK} {T : vR} (hR : Rel n S T) (a1 : Int32) : ∃ v : Int64 × vR, fR_diverse n T a1 = some v ∧ v.1 = fK_diverse n S a1 ∧ Rel n S v.2 := by
  have hn := hR.1
  rw [fR_diverse, fK_diverse, ip_eq]
  by_cases c3 : fR_isPart a1 = 0
  · rw [if_pos c3, if_pos c3]; exact ⟨_, rfl, rfl, hR⟩
  · rw [if_neg c3, if_neg c3]
    obtain ⟨T', lv, hP, e1, em, ef, eg, e3, e4⟩ := hR.findKin'
    have hd := hR.2.2.2.1
    have vv : ∀ a, a < n → (nI a = -1 ∨ ∃ p, p < n ∧ nI a = nI p) := fun a ha => Or.inr ⟨a, ha, rfl⟩
    obtain ⟨t, ht⟩ : ∃ t : Nat → Nat → Nat, t = fun a b => tv (kq (g_kt (g_P S)) (nI a) (nI b)) := ⟨_, rfl⟩
    have t1 : ∀ a b, a < n → b < n → fP_kinOf n (g_P S) (nI a) (nI b) = lN (t a b) := fun a b ha hb => by
      rw [kinOf_kq (i := 0) (lv := lv) hn (vv a ha) (vv b hb), ht]
      exact (e3 _ _ (vv a ha) (vv b hb)).tv.1
    have t2 : ∀ a b, a < n → b < n → fR_kinOf n T' (nI a) (nI b) = some (lN (2 ^ 20 * t a b)) := fun a b ha hb => by
      rw [rkinOf_kq hn (vv a ha) (vv b hb), ht]
      exact congrArg some (e3 _ _ (vv a ha) (vv b hb)).tv.2.1
    have t3 : ∀ a b, a < n → b < n → t a b ≤ 2 ^ 30 := fun a b ha hb => by
      rw [ht]
      exact (e3 _ _ (vv a ha) (vv b hb)).tv.2.2
    refine ⟨(fK_diverse_19 n S n 0 a1 0 0, T'), ?_, fst_mk _ _, e4⟩
    rw [e1, bs]
    have r1 := rdiv_out (q := a1) hn (eg.trans hd.symm) t2 n 0 (by omega)
    have r2 := div_k (q := a1) hn t1 n 0 (by omega)
    have z1 : lN (2 ^ 20 * sm (fun a => sm (fun b => wl (g_dd S) a * (wl (g_dd S) b * t a b)) n) 0) = 0 := rfl
    have z2 : lN (sm (fun a => sm (fun b => wl (g_dd S) a * wl (g_dd S) b) n) 0) = 0 := rfl
    have z3 : lN (sm (wl (g_dd S)) 0) = 0 := rfl
    have z4 : lN (sm (fun a => wl (g_dd S) a * sm (fun b => wl (g_dd S) b * t a b) n) 0) = 0 := rfl
    rw [z1, z2] at r1
    rw [z3, z4] at r2
    rw [r1, r2, fR_diverse_23, fK_diverse_19]
    have w1 : sm (fun a => sm (fun b => wl (g_dd S) a * wl (g_dd S) b) n) n = sm (wl (g_dd S)) n * sm (wl (g_dd S)) n := by
      rw [sm_congr (g := fun a => wl (g_dd S) a * sm (wl (g_dd S)) n) n (fun i _ => sm_mul n), sm_mulr]
    have w2 : sm (fun a => sm (fun b => wl (g_dd S) a * (wl (g_dd S) b * t a b)) n) n = sm (fun a => wl (g_dd S) a * sm (fun b => wl (g_dd S) b * t a b) n) n := sm_congr n (fun i _ => sm_mul n)
    rw [w1, w2]
    have bW := sm_bd (f := wl (g_dd S)) (c := 1) n (fun i _ => wl_le _ i)
    have bX : sm (fun a => wl (g_dd S) a * sm (fun b => wl (g_dd S) b * t a b) n) n ≤ n * (n * 2 ^ 30) := sm_bd n (fun i hi => by
      have h1 : sm (fun b => wl (g_dd S) b * t i b) n ≤ n * 2 ^ 30 := sm_bd n (fun j hj => by
        have h2 := Nat.mul_le_mul (wl_le (g_dd S) j) (t3 i j hi hj)
        rw [Nat.one_mul] at h2
        exact h2)
      have h3 := Nat.mul_le_mul (wl_le (g_dd S) i) h1
      rw [Nat.one_mul] at h3
      exact h3)
    generalize sm (wl (g_dd S)) n = W at bW ⊢
    generalize sm (fun a => wl (g_dd S) a * sm (fun b => wl (g_dd S) b * t a b) n) n = X at bX ⊢
    have n30 : (2 : Nat) ^ 30 = 1073741824 := by decide
    have n20 : (2 : Nat) ^ 20 = 1048576 := by decide
    have n50 : (2 : Nat) ^ 50 = 1125899906842624 := by decide
    have n62 : (2 : Nat) ^ 62 = 4611686018427387904 := by decide
    have n63 : (2 : Nat) ^ 63 = 9223372036854775808 := by decide
    have bn : n * (n * 2 ^ 30) ≤ 24 * (24 * 2 ^ 30) := Nat.mul_le_mul hn (Nat.mul_le_mul_right _ hn)
    have bWW : W * W ≤ 24 * 24 := Nat.mul_le_mul (by omega) (by omega)
    have iff1 : lg_cmp (lN W) 0 = 0 ↔ W = 0 := lg_cmp0 (by omega)
    have iff2 : lg_cmp (lN (W * W)) 0 = 0 ↔ W * W = 0 := lg_cmp0 (by omega)
    rcases Nat.eq_zero_or_pos W with h | h
    · subst h
      rw [if_pos (by decide), if_pos (by decide)]
    · have hp : 0 < W * W := Nat.mul_pos h h
      rw [if_neg (fun e => by have := iff2.mp e; omega), if_neg (fun e => by have := iff1.mp e; omega)]
      have e30 : (1073741824 : Int64) = lN (2 ^ 30) := by decide
      have e50 : (1125899906842624 : Int64) = lN (2 ^ 50) := by decide
      have e5 : W * W * 2 ^ 50 = 2 ^ 20 * (W * W * 2 ^ 30) := by rw [n50, n20, n30]; omega
      rw [e30, e50, lN_mul, lN_mul, lN_mul, e5]
      rw [low_rel (by decide) (by rw [n30]; omega) (by rw [n30, n50]; omega) (by rw [n62]; rw [n30] at bn bX; omega) (by rw [n62, n20]; rw [n30] at bn bX; omega) (by rw [n62, n20, n30]; omega), bs]
