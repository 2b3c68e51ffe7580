-- ===== chance =====
theorem Rel.findKin' {n : Nat} {S : vK} {T : vR} (hR : Rel n S T) : ∃ (T' : vR) (lv : Nat → Nat), PI n (g_P S) lv ∧ fR_findKin n T = some T' ∧ g_rmo T' = g_rmo T ∧ g_rfa T' = g_rfa T ∧ g_rgo T' = g_rgo T ∧ (∀ x y, (x = -1 ∨ ∃ p, p < n ∧ x = nI p) → (y = -1 ∨ ∃ p, p < n ∧ y = nI p) → Sc 6 (kq (g_kt (g_P S)) x y) (kq (g_rki T') x y)) ∧ Rel n S T' := by
  obtain ⟨ab, st, ro, κ, lv, hP, e1, e2, e3, e4⟩ := hR.findKin
  exact ⟨_, lv, hP, e1, rfl, rfl, rfl, e3, e4⟩
theorem Rel.find' {n : Nat} {S : vK} {T : vR} (hR : Rel n S T) : ∃ (T' : vR) (lv : Nat → Nat), PI n (g_P S) lv ∧ fR_find n T = some T' ∧ g_rmo T' = g_rmo T ∧ g_rfa T' = g_rfa T ∧ g_rgo T' = g_rgo T ∧ (∀ x a, x < n → a < n → (g_rab T' (24 * x + a) = 0 ∧ ¬ Bt (g_P S) x a) ∨ (g_rab T' (24 * x + a) = 1 ∧ Bt (g_P S) x a)) ∧ Ord n lv n (g_rro T') ∧ Rel n S T' := by
  obtain ⟨ab, st, ro, lv, hP, e1, e2, e3, e4, e5⟩ := hR.find
  exact ⟨_, lv, hP, e1, rfl, rfl, rfl, e2, e4, e5⟩
theorem settled {n : Nat} {P : vP} {mo fa : Nat → Int32} {κ : Nat → Int64} (hn : n ≤ 24) (hm : pOk n mo) (hf : pOk n fa) (em : g_mo P = mo) (ef : g_fa P = fa) (hs : ∀ x y, (x = -1 ∨ ∃ p, p < n ∧ x = nI p) → (y = -1 ∨ ∃ p, p < n ∧ y = nI p) → Sc 6 (kq (g_kt P) x y) (kq κ x y)) {y : Int32} (hy : y = -1 ∨ ∃ p, p < n ∧ y = nI p) :
    ∃ k u s : Nat, k ≤ 1 ∧ u ≤ 2 ^ 30 ∧ 4 * s = k * 2 ^ 30 + u ∧ fP_settledBy n P y = lN s ∧ (if y < 0 then 0 else kq κ (mo y.toNatClampNeg) (fa y.toNatClampNeg)) = lN (2 ^ 20 * u) ∧ (y < 0 ↔ k = 0) := by
  rcases hy with rfl | ⟨p, hp, rfl⟩
  · refine ⟨0, 0, 0, by decide, by decide, by decide, ?_, ?_, by decide⟩
    · rw [fP_settledBy, has_m1, if_pos rfl]; rfl
    · rw [if_pos (by decide)]; rfl
  · obtain ⟨u, h1, ⟨w, hw⟩, h3, h4⟩ := hs (mo p) (fa p) (hm p hp) (hf p hp)
    refine ⟨1, u, (2 ^ 30 + u) / 4, by decide, h1, ?_, ?_, ?_, ?_⟩
    · have : (2 : Nat) ^ 6 = 4 * 16 := by decide
      have e30 : (2 : Nat) ^ 30 = 4 * 2 ^ 28 := by decide
      omega
    · rw [fP_settledBy, has_nI hn hp, if_neg one_ne, inbOf hn (by rw [em]; exact hm) (by rw [ef]; exact hf) hp, em, ef, h3]
      have e1 : (1073741824 : Int64) = lN (2 ^ 30) := by decide
      have e4 : (4 : Int64) = lN 4 := by decide
      have b : (2 : Nat) ^ 30 + 2 ^ 30 < 2 ^ 63 := by decide
      rw [e1, e4, lN_add, pk_lDiv (by omega) (by decide) (by decide)]
    · rw [if_neg (nI_pos (by omega)), nI_clamp (by omega), h4]
    · constructor
      · intro h; exact absurd h (nI_pos (by omega))
      · intro h; omega
theorem chance_low {k1 u1 s1 k2 u2 s2 : Nat} {q : Int32} (a1 : k1 ≤ 1) (b1 : u1 ≤ 2 ^ 30) (c1 : 4 * s1 = k1 * 2 ^ 30 + u1) (a2 : k2 ≤ 1) (b2 : u2 ≤ 2 ^ 30) (c2 : 4 * s2 = k2 * 2 ^ 30 + u2) (A : Int64) (hA : A = lN (2 ^ 50 * (4 - (k1 + k2)))) : fR_lowest (A - (lN (2 ^ 20 * u1) + lN (2 ^ 20 * u2))) 4503599627370496 q = some (fF_lowest ((1073741824 - lN s1) - lN s2) 1073741824 q) := by
  have e1 : (1073741824 : Int64) = lN (2 ^ 30) := by decide
  have e2 : (4503599627370496 : Int64) = lN (2 ^ 22 * 2 ^ 30) := by decide
  have n30 : (2 : Nat) ^ 30 = 1073741824 := by decide
  have n20 : (2 : Nat) ^ 20 = 1048576 := by decide
  have n22 : (2 : Nat) ^ 22 = 4194304 := by decide
  have n50 : (2 : Nat) ^ 50 = 1125899906842624 := by decide
  have n62 : (2 : Nat) ^ 62 = 4611686018427387904 := by decide
  have k1' : k1 = 0 ∨ k1 = 1 := by omega
  have k2' : k2 = 0 ∨ k2 = 1 := by omega
  have hs : s1 + s2 ≤ 2 ^ 30 := by
    rw [n30] at *
    rcases k1' with rfl | rfl <;> rcases k2' with rfl | rfl <;> omega
  have hv : 2 ^ 20 * u1 + 2 ^ 20 * u2 ≤ 2 ^ 50 * (4 - (k1 + k2)) ∧ 2 ^ 50 * (4 - (k1 + k2)) - (2 ^ 20 * u1 + 2 ^ 20 * u2) = 2 ^ 22 * (2 ^ 30 - s1 - s2) := by
    rw [n30] at *
    rw [n20, n22, n50]
    rcases k1' with rfl | rfl <;> rcases k2' with rfl | rfl <;> omega
  rw [hA, lN_add, lN_sub hv.1, hv.2, e1, e2, lN_sub (by omega), lN_sub (by omega)]
  refine low_rel (by decide) (by decide) (by decide) ?_ ?_ (by decide)
  · rw [n30, n62]; omega
  · rw [n30, n22, n62]; omega
theorem rel_chance {n : Nat} {S : vK} {T : vR} (hR : Rel n S T) (a1 a2 : Int32) : ∃ v : Int64 × vR, fR_chance n T a1 a2 = some v ∧ v.1 = fK_chance n S a1 a2 ∧ Rel n S v.2 := by
  have hn := hR.1
  rw [fR_chance, fK_chance, is_eq, ip_eq]
  by_cases c1 : fR_is n a1 = 0
  · rw [if_pos c1, if_pos c1]; exact ⟨_, rfl, rfl, hR⟩
  · rw [if_neg c1, if_neg c1]
    by_cases c3 : fR_isPart a2 = 0
    · rw [if_pos c3, if_pos c3]; exact ⟨_, rfl, rfl, hR⟩
    · rw [if_neg c3, if_neg c3]
      obtain ⟨p, hp, rfl⟩ := is_nat hn c1
      obtain ⟨T', lv, hP, e1, em, ef, -, e3, e4⟩ := hR.findKin'
      obtain ⟨-, -, -, -, hm, hf, -⟩ := id hR
      have q1 := hP.1
      have q2 := hP.2.1
      rw [hm] at q1
      rw [hf] at q2
      refine ⟨(fF_lowest (fP_chanceOf n (g_P S) (nI p)) 1073741824 a2, T'), ?_, fst_mk _ _, e4⟩
      obtain ⟨k1, u1, s1, x1, x2, x3, x4, x5, x6⟩ := settled hn q1 q2 hm hf e3 (q1 p hp)
      obtain ⟨k2, u2, s2, y1, y2, y3, y4, y5, y6⟩ := settled hn q1 q2 hm hf e3 (q2 p hp)
      have i1 : fR_inbredOf n T' (g_rmo T p) = some (lN (2 ^ 20 * u1)) := by rw [rinbredOf hn (by rw [em]; exact q1) (by rw [ef]; exact q2) (q1 p hp), em, ef, x5]
      have i2 : fR_inbredOf n T' (g_rfa T p) = some (lN (2 ^ 20 * u2)) := by rw [rinbredOf hn (by rw [em]; exact q1) (by rw [ef]; exact q2) (q2 p hp), em, ef, y5]
      rw [e1, bs, nI_clamp (by omega), em, ef, i1, bs, i2, bs, fP_chanceOf, motherOf_nI hn hp, fatherOf_nI hn hp, hm, hf, x4, y4]
      by_cases d1 : g_rmo T p < 0
      · have z1 := x6.mp d1
        subst z1
        rw [if_pos d1]
        by_cases d2 : g_rfa T p < 0
        · have z2 := y6.mp d2
          subst z2
          rw [if_pos d2]; (try rw [bs]); (try rw [bs]); rw [chance_low x1 x2 x3 y1 y2 y3 _ (by decide), bs]
        · have z2 : k2 = 1 := by
            have : ¬ k2 = 0 := fun h => d2 (y6.mpr h)
            omega
          subst z2
          rw [if_neg d2]; (try rw [bs]); (try rw [bs]); rw [chance_low x1 x2 x3 y1 y2 y3 _ (by decide), bs]
      · have z1 : k1 = 1 := by
          have : ¬ k1 = 0 := fun h => d1 (x6.mpr h)
          omega
        subst z1
        rw [if_neg d1]
        by_cases d2 : g_rfa T p < 0
        · have z2 := y6.mp d2
          subst z2
          rw [if_pos d2]; (try rw [bs]); (try rw [bs]); rw [chance_low x1 x2 x3 y1 y2 y3 _ (by decide), bs]
        · have z2 : k2 = 1 := by
            have : ¬ k2 = 0 := fun h => d2 (y6.mpr h)
            omega
          subst z2
          rw [if_neg d2]; (try rw [bs]); (try rw [bs]); rw [chance_low x1 x2 x3 y1 y2 y3 _ (by decide), bs]
