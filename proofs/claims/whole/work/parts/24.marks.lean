-- ===== marks: left, like =====
theorem mhas_nI {n a m : Nat} (hn : n ≤ 24) (ha : a < n) (hm : m < 4) : fM_has n (nI a) (nI m) = 1 := by
  rw [fM_has, if_neg (nI_pos (by omega)), if_neg (nI_ge ha (by omega)), if_neg (nI_pos (by omega)), if_neg (show ¬ (4 : Int32) ≤ nI m from nI_ge (b := 4) (by omega) (by decide))]
theorem ix4 {a m : Nat} : (4 : Int32) * nI a + nI m = nI (4 * a + m) := by
  show nI 4 * nI a + nI m = _
  rw [pk_mul, nI_add]
theorem formOf_nI {n a m : Nat} {M : vM} (hn : n ≤ 24) (ha : a < n) (hm : m < 4) : fM_formOf n M (nI a) (nI m) = M (4 * a + m) := by
  rw [fM_formOf, mhas_nI hn ha hm, if_neg one_ne]
  congr 1
  show (nI a * nI 4 + nI m).toNatClampNeg = _
  rw [pk_mul, nI_add, nI_clamp (by omega), Nat.mul_comm]
def FoOk (M : vM) : Prop := ∀ i, i < 96 → M i = -1 ∨ M i = 0 ∨ M i = 1 ∨ M i = 2
theorem leftOut_eq {n c o : Nat} {M : vM} {T : vR} (hn : n ≤ 24) (hM : M = g_rfo T) (hF : FoOk M) (hc : c < n) (ho : o < n) : ∀ (k i : Nat), i + k = 4 → fR_isLeftOut_2 n T k i (nI o) (nI c) = some (fM_isLeftOut_2 n M k i (nI c) (nI o)) := by
  intro k
  induction k with
  | zero => intro i _; rfl
  | succ k ih =>
    intro i hi
    rw [fR_isLeftOut_2, fM_isLeftOut_2, fM_isKnownOfBoth, fM_difference, formOf_nI hn hc (by omega), formOf_nI hn ho (by omega), ix4, ix4, if_neg (ob_nI (by omega) (by omega)), if_neg (ob_nI (by omega) (by omega)), nI_clamp (by omega), nI_clamp (by omega), ← hM, ih (i + 1) (by omega)]
    generalize fM_isLeftOut_2 n M k (i + 1) (nI c) (nI o) = Z
    rcases hF (4 * c + i) (by omega) with h | h | h | h <;> rcases hF (4 * o + i) (by omega) with g | g | g | g <;> rw [h, g] <;> rfl
theorem leftOut_01 {n : Nat} {M : vM} {c o : Int32} : ∀ (k i : Nat), fM_isLeftOut_2 n M k i c o = 0 ∨ fM_isLeftOut_2 n M k i c o = 1 := by
  intro k
  induction k with
  | zero => intro i; exact Or.inl rfl
  | succ k ih =>
    intro i
    rw [fM_isLeftOut_2]
    split
    · exact ih _
    · split
      · exact Or.inr rfl
      · exact ih _
theorem left_loop {n c : Nat} {S : vK} {T : vR} {x2 : Int32} (hn : n ≤ 24) (hs : g_sx S = g_rsx T) (hM : g_M S = g_rfo T) (hF : FoOk (g_M S)) (hc : c < n) : ∀ (k i : Nat) (x : Int32), i + k = n → fR_left_25 n T k i (nI c) x2 x = some (fK_left_37 n S k i (nI c) x2 (3 - x2) x) := by
  intro k
  induction k with
  | zero => intro i x _; rfl
  | succ k ih =>
    intro i x hi
    rw [fR_left_25, fK_left_37, nI_clamp (by omega), ← hs, fR_isLeftOut, leftOut_eq hn hM hF hc (by omega) 4 0 (by omega), bs, fM_isLeftOut, ih (i + 1) x (by omega), ih (i + 1) (x + 1) (by omega)]
    by_cases c1 : nI i = nI c
    · rw [if_pos c1, if_pos c1]
    · rw [if_neg c1, if_neg c1]
      by_cases c2 : g_sx S i = 3 - x2
      · rw [if_pos c2, if_pos c2]
      · rw [if_neg c2, if_neg c2]
        by_cases c3 : fM_isLeftOut_2 n (g_M S) 4 0 (nI c) (nI i) = 0
        · rw [if_pos c3, if_pos c3]
        · rw [if_neg c3, if_neg c3]
theorem rel_left {n : Nat} {S : vK} {T : vR} (hR : Rel n S T) (a1 a2 : Int32) : fR_left n T a1 a2 = some (fK_left n S a1 a2) := by
  obtain ⟨hn, hsx, -, -, -, -, hM, -, -, hF, -⟩ := id hR
  rw [fR_left, fK_left, is_eq]
  by_cases c1 : fR_is n a1 = 0
  · rw [if_pos c1, if_pos c1]
  · rw [if_neg c1, if_neg c1]
    obtain ⟨p, hp, rfl⟩ := is_nat hn c1
    by_cases d1 : a2 = 1
    · rw [if_pos d1, d1, if_neg (by decide), if_pos (by decide)]
      exact left_loop hn hsx hM hF hp n 0 0 (by omega)
    · rw [if_neg d1]
      by_cases d2 : a2 = 2
      · rw [if_pos d2, d2, if_neg (by decide), if_pos (by decide)]
        exact left_loop hn hsx hM hF hp n 0 0 (by omega)
      · rw [if_neg d2]
        by_cases c2 : a2 < 1
        · rw [if_pos c2]
        · rw [if_neg c2, if_neg]
          intro c3
          rw [Int32.lt_iff_toInt_lt] at c2
          rw [Int32.le_iff_toInt_le] at c3
          have t1 : (1 : Int32).toInt = 1 := by decide
          have t2 : (2 : Int32).toInt = 2 := by decide
          rw [t1] at c2
          rw [t2] at c3
          have : a2.toInt = 1 ∨ a2.toInt = 2 := by omega
          rcases this with h | h
          · exact d1 (Int32.toInt_inj.mp (h.trans t1.symm))
          · exact d2 (Int32.toInt_inj.mp (h.trans t2.symm))
def sco (x y : Int32) : Nat := if x = y then 2 else if x = 1 then 1 else if y = 1 then 1 else 0
theorem sco_le (x y : Int32) : sco x y ≤ 2 := by
  unfold sco
  split
  · omega
  · split
    · omega
    · split <;> omega
theorem kn_m1 : (-1 : Int32) < 0 := by decide
theorem like_loop {n a b : Nat} {M : vM} {T : vR} {q : Int32} (hn : n ≤ 24) (hM : M = g_rfo T) (hF : FoOk M) (ha : a < n) (hb : b < n) : ∀ (k i s t : Nat), i + k = 4 → t ≤ i → s ≤ 2 * i → fR_like_36 n T k i (nI a) (nI b) q (nI (2 * t)) (nI s) = some (fM_likenessOf_9 n M k i (nI a) (nI b) q (lN s) (lN t)) := by
  intro k
  induction k with
  | zero =>
    intro i s t hi ht hs
    rw [fR_like_36, fM_likenessOf_9]
    rcases Nat.eq_zero_or_pos t with h | h
    · subst h
      rw [if_pos (show nI (2 * 0) = 0 from rfl), if_pos (by decide)]
    · rw [if_neg (nI_ne0 (by omega) (by omega)), if_neg (fun e => by
        have := (lg_cmp0 (by omega)).mp e
        omega), nI_l (by omega), nI_l (by omega), show (2 : Int64) = lN 2 from rfl, lN_mul]
      have := low_rel (a := s) (b := 2 * t) (c := 1) (q := q) (by decide) (by omega) (by omega) (by omega) (by omega) (by omega)
      rw [Nat.one_mul, Nat.one_mul] at this
      rw [this, bs]
  | succ k ih =>
    intro i s t hi ht hs
    rw [fR_like_36, fM_likenessOf_9, fM_isKnownOfBoth, fM_difference, formOf_nI hn ha (by omega), formOf_nI hn hb (by omega), ix4, ix4, if_neg (ob_nI (by omega) (by omega)), if_neg (ob_nI (by omega) (by omega)), nI_clamp (by omega), nI_clamp (by omega), ← hM]
    have hx := hF (4 * a + i) (by omega)
    have hy := hF (4 * b + i) (by omega)
    generalize M (4 * a + i) = x at hx ⊢
    generalize M (4 * b + i) = y at hy ⊢
    have i0 := ih (i + 1) s t (by omega) (by omega) (by omega)
    have i1 := ih (i + 1) (s + sco x y) (t + 1) (by omega) (by omega) (by have := sco_le x y; omega)
    by_cases kx : x = -1
    · subst kx
      rw [if_pos kn_m1, if_pos rfl, if_pos rfl]
      exact i0
    · have kx0 : ¬ x < 0 := by rcases hx with h | h | h | h <;> first | exact absurd h kx | (rw [h]; decide)
      rw [if_neg kx0, if_neg kx]
      by_cases ky : y = -1
      · subst ky
        rw [if_neg (by decide), if_pos rfl, if_pos rfl]
        exact i0
      · have ky0 : 0 ≤ y := by rcases hy with h | h | h | h <;> first | exact absurd h ky | (rw [h]; decide)
        rw [if_pos ky0, if_neg ky, if_neg one_ne]
        have e1 : ((2 - fJ_abs (x - y)) : Int32).toInt64 = lN (sco x y) := by
          rcases hx with h | h | h | h <;> rcases hy with g | g | g | g <;> first | exact absurd h kx | exact absurd g ky | (rw [h, g]; decide)
        have e2 : (if y ≤ x then (2 - x) + y else (2 - y) + x) = nI (sco x y) := by
          rcases hx with h | h | h | h <;> rcases hy with g | g | g | g <;> first | exact absurd h kx | exact absurd g ky | (rw [h, g]; decide)
        have e3 : nI (2 * t) + 2 = nI (2 * (t + 1)) := by
          show nI (2 * t) + nI 2 = _
          rw [nI_add, Nat.mul_add]
        rw [e1, lN_add, lN_1, e3]
        by_cases c : y ≤ x
        · rw [if_pos c] at e2 ⊢
          rw [e2, nI_add]
          exact i1
        · rw [if_neg c] at e2 ⊢
          rw [e2, nI_add]
          exact i1
theorem rel_like {n : Nat} {S : vK} {T : vR} (hR : Rel n S T) (a1 a2 a3 : Int32) : fR_like n T a1 a2 a3 = some (fK_like n S a1 a2 a3) := by
  obtain ⟨hn, hsx, -, -, -, -, hM, -, -, hF, -⟩ := id hR
  rw [fR_like, fK_like, is_eq, is_eq, ip_eq]
  by_cases c1 : fR_is n a1 = 0
  · rw [if_pos c1, if_pos c1]
  · rw [if_neg c1, if_neg c1]
    by_cases c2 : fR_is n a2 = 0
    · rw [if_pos c2, if_pos c2]
    · rw [if_neg c2, if_neg c2]
      by_cases c3 : fR_isPart a3 = 0
      · rw [if_pos c3, if_pos c3]
      · rw [if_neg c3, if_neg c3]
        obtain ⟨p, hp, rfl⟩ := is_nat hn c1
        obtain ⟨q, hq, rfl⟩ := is_nat hn c2
        exact like_loop hn hM hF hp hq 4 0 0 0 (by omega) (by omega) (by omega)
