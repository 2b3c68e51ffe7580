-- ===== pure: pedigrees, levels =====
def pOk (n : Nat) (f : Nat → Int32) : Prop := ∀ a, a < n → f a = -1 ∨ ∃ p, p < n ∧ f a = nI p
def pl (lv : Nat → Nat) (x : Int32) : Nat := if x < 0 then 0 else lv x.toNatClampNeg + 1
def mx (a b : Nat) : Nat := if a ≤ b then b else a
theorem mx_le {a b c : Nat} : mx a b ≤ c ↔ a ≤ c ∧ b ≤ c := by unfold mx; split <;> omega
theorem mx_l (a b : Nat) : a ≤ mx a b := by unfold mx; split <;> omega
theorem mx_r (a b : Nat) : b ≤ mx a b := by unfold mx; split <;> omega
theorem mx_or (a b : Nat) : mx a b = a ∨ mx a b = b := by unfold mx; split <;> simp
def Fl (mo fa : Nat → Int32) (s : Nat → Nat) (a : Nat) : Nat := mx (pl s (mo a)) (pl s (fa a))
def Lev (n : Nat) (mo fa : Nat → Int32) (lv : Nat → Nat) : Prop := ∀ a, a < n → lv a = Fl mo fa lv a
theorem pl_m1 (lv : Nat → Nat) : pl lv (-1) = 0 := by rw [pl, if_pos (by decide)]
theorem pl_nI (lv : Nat → Nat) {p : Nat} (hp : p < 2 ^ 31) : pl lv (nI p) = lv p + 1 := by rw [pl, if_neg (nI_pos hp), nI_clamp hp]
theorem pl_le {n : Nat} {s t : Nat → Nat} {x : Int32} (hn : n ≤ 24) (hx : x = -1 ∨ ∃ p, p < n ∧ x = nI p) (h : ∀ p, p < n → s p ≤ t p) : pl s x ≤ pl t x := by
  rcases hx with rfl | ⟨p, hp, rfl⟩
  · rw [pl_m1, pl_m1]; omega
  · rw [pl_nI _ (by omega), pl_nI _ (by omega)]
    have := h p hp
    omega
theorem pl_eq {n : Nat} {s t : Nat → Nat} {x : Int32} (hn : n ≤ 24) (hx : x = -1 ∨ ∃ p, p < n ∧ x = nI p) (h : ∀ p, p < n → x = nI p → s p = t p) : pl s x = pl t x := by
  rcases hx with rfl | ⟨p, hp, rfl⟩
  · rw [pl_m1, pl_m1]
  · rw [pl_nI _ (by omega), pl_nI _ (by omega), h p hp rfl]
theorem par_lt {n : Nat} {mo fa : Nat → Int32} {lv : Nat → Nat} (hn : n ≤ 24) (hL : Lev n mo fa lv) {a p : Nat} (ha : a < n) (hp : p < n) (h : mo a = nI p ∨ fa a = nI p) : lv p < lv a := by
  rw [hL a ha, Fl]
  rcases h with h | h
  · have := mx_l (pl lv (mo a)) (pl lv (fa a))
    rw [h, pl_nI _ (by omega)] at this
    rw [h, pl_nI _ (by omega)]
    omega
  · have := mx_r (pl lv (mo a)) (pl lv (fa a))
    rw [h, pl_nI _ (by omega)] at this
    rw [h, pl_nI _ (by omega)]
    omega
/-- levels are one -/
theorem Lev.uniq {n : Nat} {mo fa : Nat → Int32} {l1 l2 : Nat → Nat} (hn : n ≤ 24) (hm : pOk n mo) (hf : pOk n fa) (h1 : Lev n mo fa l1) (h2 : Lev n mo fa l2) : ∀ (k a : Nat), a < n → l1 a < k → l2 a = l1 a := by
  intro k
  induction k with
  | zero => intro a _ h; omega
  | succ k ih =>
    intro a ha hk
    rw [h1 a ha, h2 a ha, Fl, Fl]
    rw [pl_eq (t := l1) hn (hm a ha) (fun p hp e => ih p hp (by have := par_lt hn h1 ha hp (Or.inl e); omega)), pl_eq (t := l1) hn (hf a ha) (fun p hp e => ih p hp (by have := par_lt hn h1 ha hp (Or.inr e); omega))]
-- counting
def cn (p : Nat → Bool) : Nat → Nat
  | 0 => 0
  | n + 1 => cn p n + (if p n = true then 1 else 0)
theorem cn_le (p : Nat → Bool) : ∀ n, cn p n ≤ n
  | 0 => Nat.le_refl _
  | n + 1 => by
    have := cn_le p n
    rw [cn]
    split <;> omega
theorem cn_mono {p q : Nat → Bool} : ∀ n, (∀ i, i < n → p i = true → q i = true) → cn p n ≤ cn q n
  | 0, _ => Nat.le_refl _
  | n + 1, h => by
    have h1 := cn_mono n (fun i hi => h i (by omega))
    have h2 := h n (by omega)
    rw [cn, cn]
    by_cases hp : p n = true
    · rw [if_pos hp, if_pos (h2 hp)]; omega
    · rw [if_neg hp]; omega
theorem cn_lt {p q : Nat → Bool} : ∀ n, (∀ i, i < n → p i = true → q i = true) → (∃ j, j < n ∧ q j = true ∧ p j = false) → cn p n < cn q n
  | 0, _, h => by obtain ⟨j, hj, _⟩ := h; omega
  | n + 1, h, ⟨j, hj, hq, hp⟩ => by
    have h2 := h n (by omega)
    rw [cn, cn]
    by_cases e : j = n
    · subst e
      have h1 := cn_mono j (fun i hi => h i (by omega))
      rw [if_pos hq, hp]
      simp
      omega
    · have h1 := cn_lt n (fun i hi => h i (by omega)) ⟨j, by omega, hq, hp⟩
      by_cases hp : p n = true
      · rw [if_pos hp, if_pos (h2 hp)]; omega
      · rw [if_neg hp]; omega
theorem cn_congr {p q : Nat → Bool} {n : Nat} (h : ∀ i, i < n → p i = q i) : cn p n = cn q n := Nat.le_antisymm (cn_mono n fun i hi e => by rw [← h i hi]; exact e) (cn_mono n fun i hi e => by rw [h i hi]; exact e)
/-- a level has so many animals below it -/
theorem Lev.cnt {n : Nat} {mo fa : Nat → Int32} {lv : Nat → Nat} (hn : n ≤ 24) (hm : pOk n mo) (hf : pOk n fa) (hL : Lev n mo fa lv) : ∀ (l a : Nat), a < n → lv a = l → l + 1 ≤ cn (fun b => decide (lv b ≤ l)) n := by
  intro l
  induction l with
  | zero =>
    intro a ha h
    have h0 : cn (fun _ => false) n = 0 := by
      clear hn hm hf hL ha h
      induction n with
      | zero => rfl
      | succ n ih => rw [cn, ih]; rfl
    have := cn_lt (p := fun _ => false) (q := fun b => decide (lv b ≤ 0)) n (fun i _ e => by cases e) ⟨a, ha, by simp [h], rfl⟩
    omega
  | succ l ih =>
    intro a ha h
    have hpar : ∃ p, p < n ∧ lv p = l := by
      have h1 := hL a ha
      rw [h, Fl] at h1
      rcases mx_or (pl lv (mo a)) (pl lv (fa a)) with e | e
      · rw [e] at h1
        rcases hm a ha with q | ⟨p, hp, q⟩
        · rw [q, pl_m1] at h1; omega
        · rw [q, pl_nI _ (by omega)] at h1
          exact ⟨p, hp, by omega⟩
      · rw [e] at h1
        rcases hf a ha with q | ⟨p, hp, q⟩
        · rw [q, pl_m1] at h1; omega
        · rw [q, pl_nI _ (by omega)] at h1
          exact ⟨p, hp, by omega⟩
    obtain ⟨p, hp, hlp⟩ := hpar
    have h2 := ih p hp hlp
    have h3 := cn_lt (p := fun b => decide (lv b ≤ l)) (q := fun b => decide (lv b ≤ l + 1)) n (fun i _ e => by simp at e ⊢; omega) ⟨a, ha, by simp [h], by simp; omega⟩
    omega
theorem Lev.lt {n : Nat} {mo fa : Nat → Int32} {lv : Nat → Nat} (hn : n ≤ 24) (hm : pOk n mo) (hf : pOk n fa) (hL : Lev n mo fa lv) {a : Nat} (ha : a < n) : lv a < n := by
  have h1 := hL.cnt hn hm hf (lv a) a ha rfl
  have h2 := cn_le (fun b => decide (lv b ≤ lv a)) n
  omega
/-- any rank makes levels -/
def lvN (mo fa : Nat → Int32) : Nat → Nat → Nat
  | 0, _ => 0
  | k + 1, a => Fl mo fa (lvN mo fa k) a
theorem lvN_stable {n : Nat} {mo fa : Nat → Int32} {r : Nat → Nat} (hn : n ≤ 24) (hm : pOk n mo) (hf : pOk n fa) (hr : ∀ a p, a < n → p < n → (mo a = nI p ∨ fa a = nI p) → r p < r a) : ∀ (k a j : Nat), a < n → r a < k → k ≤ j → lvN mo fa j a = lvN mo fa k a := by
  intro k
  induction k with
  | zero => intro a j _ h; omega
  | succ k ih =>
    intro a j ha hk hj
    obtain ⟨j, rfl⟩ : ∃ j', j = j' + 1 := ⟨j - 1, by omega⟩
    rw [lvN, lvN, Fl, Fl]
    rw [pl_eq (t := lvN mo fa k) hn (hm a ha) (fun p hp e => ih p j hp (by have := hr a p ha hp (Or.inl e); omega) (by omega)), pl_eq (t := lvN mo fa k) hn (hf a ha) (fun p hp e => ih p j hp (by have := hr a p ha hp (Or.inr e); omega) (by omega))]
theorem Lev.exists {n : Nat} {mo fa : Nat → Int32} {r : Nat → Nat} (hn : n ≤ 24) (hm : pOk n mo) (hf : pOk n fa) (hr : ∀ a p, a < n → p < n → (mo a = nI p ∨ fa a = nI p) → r p < r a) (B : Nat) (hB : ∀ a, a < n → r a < B) : ∃ lv, Lev n mo fa lv := by
  refine ⟨lvN mo fa B, fun a ha => ?_⟩
  have h := lvN_stable hn hm hf hr B a (B + 1) ha (hB a ha) (by omega)
  rw [← h, lvN]
-- ===== the class's steps =====
theorem has_m1 (n : Nat) : fP_has n (-1) = 0 := by rw [fP_has, if_pos (by decide)]
theorem has_nI {n p : Nat} (hn : n ≤ 24) (hp : p < n) : fP_has n (nI p) = 1 := by rw [fP_has, if_neg (nI_pos (by omega)), if_neg (nI_ge hp (by omega))]
theorem one_ne : ¬ (1 : Int32) = 0 := by decide
theorem stepsOf_m1 (n : Nat) (S : vP) : fP_stepsOf n S (-1) = -1 := by rw [fP_stepsOf, has_m1, if_pos rfl]
theorem stepsOf_nI {n p : Nat} (S : vP) (hn : n ≤ 24) (hp : p < n) : fP_stepsOf n S (nI p) = g_st S p := by rw [fP_stepsOf, has_nI hn hp, if_neg one_ne, nI_clamp (by omega)]
theorem above_eq {n : Nat} {S : vP} {s : Nat → Nat} {x y : Int32} (hn : n ≤ 24) (hs : ∀ a, a < n → g_st S a = nI (s a)) (hb : ∀ a, a < n → s a < 1000) (hx : x = -1 ∨ ∃ p, p < n ∧ x = nI p) (hy : y = -1 ∨ ∃ p, p < n ∧ y = nI p) : fJ_max (fP_stepsOf n S x) (fP_stepsOf n S y) + 1 = nI (mx (pl s x) (pl s y)) := by
  rcases hx with rfl | ⟨p, hp, rfl⟩ <;> rcases hy with rfl | ⟨q, hq, rfl⟩
  · rw [stepsOf_m1, pl_m1]
    decide
  · have hq2 := hb q hq
    rw [stepsOf_m1, stepsOf_nI S hn hq, hs q hq, pl_m1, pl_nI _ (by omega)]
    rw [fJ_max, if_pos, nI_1]
    · congr 1
    · rw [Int32.lt_iff_toInt_lt, nI_toInt (by omega)]
      have : (-1 : Int32).toInt = -1 := by decide
      omega
  · have hp2 := hb p hp
    rw [stepsOf_m1, stepsOf_nI S hn hp, hs p hp, pl_m1, pl_nI _ (by omega)]
    rw [fJ_max, if_neg, nI_1]
    · congr 1
    · rw [Int32.lt_iff_toInt_lt, nI_toInt (by omega)]
      have : (-1 : Int32).toInt = -1 := by decide
      omega
  · have hp2 := hb p hp
    have hq2 := hb q hq
    rw [stepsOf_nI S hn hp, stepsOf_nI S hn hq, hs p hp, hs q hq, pl_nI _ (by omega), pl_nI _ (by omega), fJ_max]
    by_cases h : nI (s p) < nI (s q)
    · rw [if_pos h, nI_1]
      rw [nI_ltI (by omega) (by omega)] at h
      congr 1
      unfold mx
      split <;> omega
    · rw [if_neg h, nI_1]
      rw [nI_ltI (by omega) (by omega)] at h
      congr 1
      unfold mx
      split <;> omega
