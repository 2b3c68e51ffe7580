-- ===== the order =====
theorem cn_add1 {p q : Nat → Bool} {i : Nat} : ∀ n, i < n → (∀ j, j < n → j ≠ i → p j = q j) → p i = false → q i = true → cn q n = cn p n + 1
  | 0, h, _, _, _ => by omega
  | n + 1, h, hj, hp, hq => by
    rw [cn, cn]
    by_cases e : i = n
    · subst e
      rw [cn_congr (p := p) (q := q) (fun j h => hj j (by omega) (by omega)), hp, hq]
      simp
    · rw [cn_add1 n (by omega) (fun j h => hj j (by omega)) hp hq, hj n (by omega) (by omega)]
      omega
def Dn (lv : Nat → Nat) (n s i : Nat) : Nat := cn (fun b => decide (lv b < s ∨ (lv b = s ∧ b < i))) n
def ps (lv : Nat → Nat) (n a : Nat) : Nat := Dn lv n (lv a) a
theorem Dn_in {lv : Nat → Nat} {n s i : Nat} (hi : i < n) (h : lv i = s) : Dn lv n s (i + 1) = Dn lv n s i + 1 := by
  refine cn_add1 n hi (fun j hj hne => ?_) ?_ ?_
  · have : (lv j < s ∨ (lv j = s ∧ j < i)) ↔ (lv j < s ∨ (lv j = s ∧ j < i + 1)) := by omega
    simp only [this]
  · simp; omega
  · simp; omega
theorem Dn_out {lv : Nat → Nat} {n s i : Nat} (h : ¬ lv i = s) : Dn lv n s (i + 1) = Dn lv n s i := by
  refine cn_congr (fun j hj => ?_)
  have : (lv j < s ∨ (lv j = s ∧ j < i + 1)) ↔ (lv j < s ∨ (lv j = s ∧ j < i)) := by
    by_cases e : j = i
    · subst e; omega
    · omega
  simp only [this]
theorem Dn_next {lv : Nat → Nat} {n s : Nat} : Dn lv n (s + 1) 0 = Dn lv n s n := by
  refine cn_congr (fun j hj => ?_)
  have : (lv j < s + 1 ∨ (lv j = s + 1 ∧ j < 0)) ↔ (lv j < s ∨ (lv j = s ∧ j < n)) := by omega
  simp only [this]
theorem cn_none : ∀ n, cn (fun _ => false) n = 0
  | 0 => rfl
  | n + 1 => by rw [cn, cn_none n]; rfl
theorem cn_all : ∀ n, cn (fun _ => true) n = n
  | 0 => rfl
  | n + 1 => by rw [cn, cn_all n]; rfl
theorem Dn_0 {lv : Nat → Nat} {n : Nat} : Dn lv n 0 0 = 0 := by
  rw [Dn, cn_congr (q := fun _ => false), cn_none]
  intro i _
  simp
theorem Dn_n {lv : Nat → Nat} {n : Nat} (h : ∀ a, a < n → lv a < n) : Dn lv n n 0 = n := by
  rw [Dn, cn_congr (q := fun _ => true), cn_all]
  intro i hi
  have := h i hi
  simp; omega
theorem Dn_lt {lv : Nat → Nat} {n s i : Nat} (hi : i < n) (h : lv i = s) : Dn lv n s i < n := by
  have h1 := Dn_in hi h
  have h2 := cn_le (fun b => decide (lv b < s ∨ (lv b = s ∧ b < i + 1))) n
  unfold Dn at h1 ⊢
  omega
theorem ps_lt {lv : Nat → Nat} {n a : Nat} (ha : a < n) : ps lv n a < n := Dn_lt ha rfl
theorem ps_mono {lv : Nat → Nat} {n a b : Nat} (ha : a < n) (h : lv a < lv b ∨ (lv a = lv b ∧ a < b)) : ps lv n a < ps lv n b := by
  refine cn_lt n (fun i _ e => ?_) ⟨a, ha, ?_, ?_⟩
  · simp at e ⊢; omega
  · simp; omega
  · simp
theorem ps_inj {lv : Nat → Nat} {n a b : Nat} (ha : a < n) (hb : b < n) (h : ps lv n a = ps lv n b) : a = b := by
  rcases Nat.lt_trichotomy (lv a) (lv b) with q | q | q
  · have := ps_mono (n := n) ha (Or.inl q); omega
  · rcases Nat.lt_trichotomy a b with r | r | r
    · have := ps_mono (n := n) ha (Or.inr ⟨q, r⟩); omega
    · exact r
    · have := ps_mono (n := n) hb (Or.inr ⟨q.symm, r⟩); omega
  · have := ps_mono (n := n) hb (Or.inl q); omega
/-- the array sq holds the animals by levels, of one level by number -/
def Ord (n : Nat) (lv : Nat → Nat) (m : Nat) (sq : Nat → Int32) : Prop := ∀ k, k < m → ∃ a, a < n ∧ ps lv n a = k ∧ sq k = nI a
theorem Ord.push {n : Nat} {lv : Nat → Nat} {m a : Nat} {sq : Nat → Int32} (h : Ord n lv m sq) (ha : a < n) (e : ps lv n a = m) : Ord n lv (m + 1) (upd sq m (nI a)) := by
  intro k hk
  by_cases c : k = m
  · subst c
    exact ⟨a, ha, e, pk_us⟩
  · obtain ⟨b, h1, h2, h3⟩ := h k (by omega)
    exact ⟨b, h1, h2, by rw [pk_un c]; exact h3⟩
theorem Ord.same {n : Nat} {lv : Nat → Nat} {s1 s2 : Nat → Int32} (h1 : Ord n lv n s1) (h2 : Ord n lv n s2) {k : Nat} (hk : k < n) : s1 k = s2 k := by
  obtain ⟨a, a1, a2, a3⟩ := h1 k hk
  obtain ⟨b, b1, b2, b3⟩ := h2 k hk
  rw [a3, b3, ps_inj a1 b1 (a2.trans b2.symm)]
theorem Ord.at {n : Nat} {lv : Nat → Nat} {sq : Nat → Int32} (h : Ord n lv n sq) {a : Nat} (ha : a < n) : sq (ps lv n a) = nI a := by
  obtain ⟨b, b1, b2, b3⟩ := h _ (ps_lt ha)
  rw [b3, ps_inj b1 ha b2]
-- the class's
theorem order_in {n : Nat} {lv : Nat → Nat} (hn : n ≤ 24) (hl : ∀ a, a < n → lv a < n) {s : Nat} (hs : s < n) : ∀ (k i x1 : Nat) (S : vP), i + k = n → (∀ a, a < n → g_st S a = nI (lv a)) → x1 = Dn lv n s i → Ord n lv x1 (g_sq S) → ∃ sq', fP_reckonOrder_14 n k i x1 s S = (Dn lv n s n, p_sq S sq') ∧ Ord n lv (Dn lv n s n) sq' := by
  intro k
  induction k with
  | zero =>
    intro i x1 S hi hst hx hO
    have : i = n := by omega
    subst this
    rw [hx] at hO
    exact ⟨g_sq S, by rw [fP_reckonOrder_14, hx], hO⟩
  | succ k ih =>
    intro i x1 S hi hst hx hO
    have hin : i < n := by omega
    have := hl i hin
    rw [fP_reckonOrder_14, nI_clamp (by omega), hst i hin]
    by_cases c : nI (lv i) = nI s
    · rw [if_pos c]
      rw [nI_eq (by omega) (by omega)] at c
      have hlt := Dn_lt hin c
      rw [← hx] at hlt
      rw [if_neg (nI_ge hlt (by omega)), nI_clamp (by omega)]
      exact ih (i + 1) (x1 + 1) _ (by omega) hst (by rw [Dn_in hin c, hx]) (hO.push hin (by rw [ps, c, hx]))
    · rw [if_neg c]
      rw [nI_eq (by omega) (by omega)] at c
      exact ih (i + 1) x1 S (by omega) hst (by rw [Dn_out c, hx]) hO
theorem order_out {n : Nat} {lv : Nat → Nat} (hn : n ≤ 24) (hl : ∀ a, a < n → lv a < n) : ∀ (k i x1 : Nat) (S : vP), i + k = n → (∀ a, a < n → g_st S a = nI (lv a)) → x1 = Dn lv n i 0 → Ord n lv x1 (g_sq S) → ∃ sq', fP_reckonOrder_4 n k i x1 S = p_sq S sq' ∧ Ord n lv n sq' := by
  intro k
  induction k with
  | zero =>
    intro i x1 S hi hst hx hO
    have : i = n := by omega
    subst this
    rw [Dn_n hl] at hx
    subst hx
    exact ⟨g_sq S, rfl, hO⟩
  | succ k ih =>
    intro i x1 S hi hst hx hO
    obtain ⟨sq', e1, e2⟩ := order_in hn hl (s := i) (by omega) n 0 x1 S (by omega) hst hx hO
    rw [fP_reckonOrder_4, e1]
    obtain ⟨sq2, g1, g2⟩ := ih (i + 1) (Dn lv n i n) (p_sq S sq') (by omega) hst Dn_next.symm e2
    exact ⟨sq2, g1, g2⟩
theorem order_all {n : Nat} {lv : Nat → Nat} {S : vP} (hn : n ≤ 24) (hl : ∀ a, a < n → lv a < n) (hst : ∀ a, a < n → g_st S a = nI (lv a)) : ∃ sq', fP_reckonOrder n S = p_sq S sq' ∧ Ord n lv n sq' := order_out hn hl n 0 0 S (by omega) hst Dn_0.symm (fun k hk => by omega)
-- the reference's
theorem ob_nI {x N : Nat} (h : x < N) (hN : N ≤ 2000) : ¬ ob (nI x) N := by
  have := vp_in_nI h (by omega : N < 2 ^ 31)
  exact this
theorem rorder_in {n : Nat} {lv : Nat → Nat} (hn : n ≤ 24) (hl : ∀ a, a < n → lv a < n) {s : Nat} (hs : s < n) : ∀ (k i x1 : Nat) (S : vR), i + k = n → (∀ a, a < n → g_rst S a = nI (lv a)) → x1 = Dn lv n s i → Ord n lv x1 (g_rro S) → ∃ sq', fR_find_248 n k i x1 s S = some (Dn lv n s n, r_rro S sq') ∧ Ord n lv (Dn lv n s n) sq' := by
  intro k
  induction k with
  | zero =>
    intro i x1 S hi hst hx hO
    have : i = n := by omega
    subst this
    rw [hx] at hO
    exact ⟨g_rro S, by rw [fR_find_248, hx], hO⟩
  | succ k ih =>
    intro i x1 S hi hst hx hO
    have hin : i < n := by omega
    have := hl i hin
    rw [fR_find_248, nI_clamp (by omega), hst i hin]
    by_cases c : nI (lv i) = nI s
    · rw [if_pos c]
      rw [nI_eq (by omega) (by omega)] at c
      have hlt := Dn_lt hin c
      rw [← hx] at hlt
      rw [if_neg (ob_nI (by omega) (by omega)), nI_clamp (by omega)]
      exact ih (i + 1) (x1 + 1) _ (by omega) hst (by rw [Dn_in hin c, hx]) (hO.push hin (by rw [ps, c, hx]))
    · rw [if_neg c]
      rw [nI_eq (by omega) (by omega)] at c
      exact ih (i + 1) x1 S (by omega) hst (by rw [Dn_out c, hx]) hO
theorem rorder_out {n : Nat} {lv : Nat → Nat} (hn : n ≤ 24) (hl : ∀ a, a < n → lv a < n) : ∀ (k i x1 : Nat) (S : vR), i + k = n → (∀ a, a < n → g_rst S a = nI (lv a)) → x1 = Dn lv n i 0 → Ord n lv x1 (g_rro S) → ∃ sq', fR_find_237 n k i x1 S = some (r_rro S sq') ∧ Ord n lv n sq' := by
  intro k
  induction k with
  | zero =>
    intro i x1 S hi hst hx hO
    have : i = n := by omega
    subst this
    rw [Dn_n hl] at hx
    subst hx
    exact ⟨g_rro S, rfl, hO⟩
  | succ k ih =>
    intro i x1 S hi hst hx hO
    obtain ⟨sq', e1, e2⟩ := rorder_in hn hl (s := i) (by omega) n 0 x1 S (by omega) hst hx hO
    rw [fR_find_237, e1]
    obtain ⟨sq2, g1, g2⟩ := ih (i + 1) (Dn lv n i n) (r_rro S sq') (by omega) hst Dn_next.symm e2
    exact ⟨sq2, g1, g2⟩
theorem rorder_all {n : Nat} {lv : Nat → Nat} {S : vR} (hn : n ≤ 24) (hl : ∀ a, a < n → lv a < n) (hst : ∀ a, a < n → g_rst S a = nI (lv a)) : ∃ sq', fR_find_237 n n 0 0 S = some (r_rro S sq') ∧ Ord n lv n sq' := rorder_out hn hl n 0 0 S (by omega) hst Dn_0.symm (fun k hk => by omega)
