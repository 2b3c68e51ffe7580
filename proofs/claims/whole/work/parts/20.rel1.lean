-- ===== the two objects side by side =====
def Rel (n : Nat) (S : vK) (T : vR) : Prop := n ≤ 24 ∧ g_sx S = g_rsx T ∧ g_dy S = g_rdy T ∧ g_dd S = g_rgo T ∧ g_mo (g_P S) = g_rmo T ∧ g_fa (g_P S) = g_rfa T ∧ g_M S = g_rfo T ∧ (∃ lv, PI n (g_P S) lv) ∧ (∀ i, i < 24 → g_dy S i = -1 ∨ 0 ≤ g_dy S i) ∧ (∀ i, i < 96 → g_M S i = -1 ∨ g_M S i = 0 ∨ g_M S i = 1 ∨ g_M S i = 2) ∧ (∃ r, r ≤ 25 ∧ g_rl (g_P S) = nI r ∧ g_rrg T = nI r ∧ ∀ i, i < r → g_rr (g_P S) i = g_rri T i)
theorem is_eq (n : Nat) (a : Int32) : fK_isAnimal n a = fR_is n a := rfl
theorem ip_eq (a : Int32) : fF_isPart a = fR_isPart a := rfl
theorem has_is (n : Nat) (a : Int32) : fP_has n a = fR_is n a := rfl
theorem is_nI {n p : Nat} (hn : n ≤ 24) (hp : p < n) : fR_is n (nI p) = 1 := has_nI hn hp
theorem Rel.find {n : Nat} {S : vK} {T : vR} (hR : Rel n S T) : ∃ ab st ro lv, PI n (g_P S) lv ∧ fR_find n T = some (r_rro (r_rst (r_rab T ab) st) ro) ∧ (∀ x a, x < n → a < n → (ab (24 * x + a) = 0 ∧ ¬ Bt (g_P S) x a) ∨ (ab (24 * x + a) = 1 ∧ Bt (g_P S) x a)) ∧ (∀ a, a < n → st a = nI (lv a)) ∧ Ord n lv n ro ∧ Rel n S (r_rro (r_rst (r_rab T ab) st) ro) := by
  obtain ⟨hn, -, -, -, hm, hf, -, ⟨lv, hP⟩, -⟩ := id hR
  obtain ⟨p1, p2, p3, p4, p5, p6, p7⟩ := id hP
  rw [hm] at p1 p3 p6
  rw [hf] at p2 p3 p6
  obtain ⟨ab, st, ro, e1, e2, e3, e4⟩ := find_spec hn p1 p2 p3 p6
  exact ⟨ab, st, ro, lv, hP, e1, e2, e3, e4, hR⟩
theorem Rel.findKin {n : Nat} {S : vK} {T : vR} (hR : Rel n S T) : ∃ ab st ro κ lv, PI n (g_P S) lv ∧ fR_findKin n T = some (r_rki (r_rro (r_rst (r_rab T ab) st) ro) κ) ∧ KE n (g_rmo T) (g_rfa T) lv 1125899906842624 κ n ∧ (∀ x y, (x = -1 ∨ ∃ p, p < n ∧ x = nI p) → (y = -1 ∨ ∃ p, p < n ∧ y = nI p) → Sc 6 (kq (g_kt (g_P S)) x y) (kq κ x y)) ∧ Rel n S (r_rki (r_rro (r_rst (r_rab T ab) st) ro) κ) := by
  obtain ⟨hn, -, -, -, hm, hf, -, ⟨lv, hP⟩, -⟩ := id hR
  obtain ⟨p1, p2, p3, p4, p5, p6, p7⟩ := id hP
  rw [hm] at p1 p3 p6 p7
  rw [hf] at p2 p3 p6 p7
  obtain ⟨ab, st, ro, κ, e1, e2⟩ := findKin_spec hn p1 p2 p3 p6
  exact ⟨ab, st, ro, κ, lv, hP, e1, e2, fun x y hx hy => kq_sc hn p1 p2 p3 p7 e2 hx hy, hR⟩
theorem fst_mk {α β : Type} (a : α) (b : β) : (a, b).1 = a := rfl
theorem bs {α β : Type} (a : α) (f : α → Option β) : (some a).bind f = f a := rfl
theorem rel_ring {n : Nat} {S : vK} {T : vR} (hR : Rel n S T) (a1 : Int32) : fR_ring n T a1 = some (fK_ring n S a1) := by
  obtain ⟨r, hr, e1, e2, e3⟩ := hR.2.2.2.2.2.2.2.2.2.2
  rw [fR_ring, fK_ring, fP_ringAt]
  by_cases c : a1 < 0
  · rw [if_pos c, if_pos c]
  · rw [if_neg c, if_neg c]
    obtain ⟨j, hj, rfl⟩ := nI_of c
    rw [e1, e2]
    by_cases d : r ≤ j
    · rw [if_pos (nI_le d hj), if_neg (nI_nlt d hj)]
    · rw [if_neg (nI_ge (by omega) (by omega)), if_pos (nI_lt (by omega) (by omega)), if_neg (ob_nI (by omega) (by omega)), if_neg (show ¬ (25 : Int32) ≤ nI j from nI_ge (b := 25) (by omega) (by decide)), nI_clamp hj, e3 j (by omega)]
theorem rel_kin {n : Nat} {S : vK} {T : vR} (hR : Rel n S T) (a1 a2 a3 : Int32) : ∃ v : Int64 × vR, fR_kin n T a1 a2 a3 = some v ∧ v.1 = fK_kin n S a1 a2 a3 ∧ Rel n S v.2 := by
  have hn := hR.1
  rw [fR_kin, fK_kin, is_eq, is_eq, ip_eq]
  by_cases c1 : fR_is n a1 = 0
  · rw [if_pos c1, if_pos c1]; exact ⟨_, rfl, rfl, hR⟩
  · rw [if_neg c1, if_neg c1]
    by_cases c2 : fR_is n a2 = 0
    · rw [if_pos c2, if_pos c2]; exact ⟨_, rfl, rfl, hR⟩
    · rw [if_neg c2, if_neg c2]
      by_cases c3 : fR_isPart a3 = 0
      · rw [if_pos c3, if_pos c3]; exact ⟨_, rfl, rfl, hR⟩
      · rw [if_neg c3, if_neg c3]
        obtain ⟨p, hp, rfl⟩ := is_nat hn c1
        obtain ⟨q, hq, rfl⟩ := is_nat hn c2
        obtain ⟨ab, st, ro, κ, lv, hP, e1, e2, e3, e4⟩ := hR.findKin
        have vp : nI p = -1 ∨ ∃ p', p' < n ∧ nI p = nI p' := Or.inr ⟨p, hp, rfl⟩
        have vq : nI q = -1 ∨ ∃ p', p' < n ∧ nI q = nI p' := Or.inr ⟨q, hq, rfl⟩
        refine ⟨(fF_lowest (fP_kinOf n (g_P S) (nI p) (nI q)) 1073741824 a3, r_rki (r_rro (r_rst (r_rab T ab) st) ro) κ), ?_, fst_mk _ _, e4⟩
        rw [e1, bs, rkinOf_kq (S := r_rki (r_rro (r_rst (r_rab T ab) st) ro) κ) hn vp vq, bs, (e3 _ _ vp vq).low, bs, kinOf_kq (i := 0) (lv := lv) hn vp vq]
theorem rinbredOf {n : Nat} {T : vR} {y : Int32} (hn : n ≤ 24) (hm : pOk n (g_rmo T)) (hf : pOk n (g_rfa T)) (hy : y = -1 ∨ ∃ p, p < n ∧ y = nI p) : fR_inbredOf n T y = some (if y < 0 then 0 else kq (g_rki T) (g_rmo T y.toNatClampNeg) (g_rfa T y.toNatClampNeg)) := by
  rcases hy with rfl | ⟨p, hp, rfl⟩
  · rw [fR_inbredOf, if_neg (by decide), if_pos (by decide)]
  · have o : ¬ ob (nI p) 24 := ob_nI (by omega) (by omega)
    rw [fR_inbredOf, if_pos (nI_pos' (by omega)), if_neg o, if_neg o, if_neg (nI_pos (by omega)), nI_clamp (by omega), rkinOf_kq hn (hm p hp) (hf p hp)]
    rfl
theorem inbOf {n p : Nat} {P : vP} (hn : n ≤ 24) (hm : pOk n (g_mo P)) (hf : pOk n (g_fa P)) (hp : p < n) : fP_inbreedingOf n P (nI p) = kq (g_kt P) (g_mo P p) (g_fa P p) := by
  rw [fP_inbreedingOf, motherOf_nI hn hp, fatherOf_nI hn hp, kinOf_kq (i := 0) (lv := fun _ => 0) hn (hm p hp) (hf p hp)]
theorem rel_inbred {n : Nat} {S : vK} {T : vR} (hR : Rel n S T) (a1 a2 : Int32) : ∃ v : Int64 × vR, fR_inbred n T a1 a2 = some v ∧ v.1 = fK_inbred n S a1 a2 ∧ Rel n S v.2 := by
  have hn := hR.1
  rw [fR_inbred, fK_inbred, is_eq, ip_eq]
  by_cases c1 : fR_is n a1 = 0
  · rw [if_pos c1, if_pos c1]; exact ⟨_, rfl, rfl, hR⟩
  · rw [if_neg c1, if_neg c1]
    by_cases c3 : fR_isPart a2 = 0
    · rw [if_pos c3, if_pos c3]; exact ⟨_, rfl, rfl, hR⟩
    · rw [if_neg c3, if_neg c3]
      obtain ⟨p, hp, rfl⟩ := is_nat hn c1
      obtain ⟨ab, st, ro, κ, lv, hP, e1, e2, e3, e4⟩ := hR.findKin
      obtain ⟨-, -, -, -, hm, hf, -⟩ := id hR
      have p1 := hP.1
      have p2 := hP.2.1
      have q1 := p1
      have q2 := p2
      rw [hm] at q1
      rw [hf] at q2
      refine ⟨(fF_lowest (fP_inbreedingOf n (g_P S) (nI p)) 1073741824 a2, r_rki (r_rro (r_rst (r_rab T ab) st) ro) κ), ?_, fst_mk _ _, e4⟩
      rw [e1, bs, rinbredOf (T := r_rki (r_rro (r_rst (r_rab T ab) st) ro) κ) hn q1 q2 (Or.inr ⟨p, hp, rfl⟩), bs, if_neg (nI_pos (by omega)), nI_clamp (by omega), inbOf hn p1 p2 hp, hm, hf]
      show (fR_lowest (kq κ (g_rmo T p) (g_rfa T p)) 1125899906842624 a2).bind (fun r32 => some (r32, r_rki (r_rro (r_rst (r_rab T ab) st) ro) κ)) = _
      rw [(e3 _ _ (q1 p hp) (q2 p hp)).low, bs]
theorem rel_isForbear {n : Nat} {S : vK} {T : vR} (hR : Rel n S T) (a1 a2 : Int32) : ∃ v : Int32 × vR, fR_isForbear n T a1 a2 = some v ∧ v.1 = fK_isForbear n S a1 a2 ∧ Rel n S v.2 := by
  have hn := hR.1
  rw [fR_isForbear, fK_isForbear]
  by_cases c1 : fR_is n a1 = 0
  · rw [if_pos c1]
    refine ⟨_, rfl, ?_, hR⟩
    rw [fP_hasForbear, has_is, has_is]
    split <;> first | rfl | (rw [if_pos c1])
  · rw [if_neg c1]
    by_cases c2 : fR_is n a2 = 0
    · rw [if_pos c2]
      refine ⟨_, rfl, ?_, hR⟩
      rw [fP_hasForbear, has_is, if_pos c2]
    · rw [if_neg c2]
      obtain ⟨p, hp, rfl⟩ := is_nat hn c1
      obtain ⟨q, hq, rfl⟩ := is_nat hn c2
      obtain ⟨ab, st, ro, lv, hP, e1, e2, e3, e4, e5⟩ := hR.find
      rw [e1]
      show ∃ v, (if ob (24 * nI p + nI q) 576 then none else (if ab (24 * nI p + nI q).toNatClampNeg = 0 ∨ ab (24 * nI p + nI q).toNatClampNeg = 1 then some (ab (24 * nI p + nI q).toNatClampNeg, r_rro (r_rst (r_rab T ab) st) ro) else none)) = _ ∧ _
      rw [ix24, if_neg (ob_nI (by omega) (by omega)), nI_clamp (by omega)]
      rcases e2 p q hp hq with ⟨h1, h2⟩ | ⟨h1, h2⟩
      · rw [if_pos (Or.inl h1)]
        refine ⟨_, rfl, ?_, e5⟩
        rcases hasF (S := g_P S) hn hq hp with ⟨g1, g2⟩ | ⟨g1, g2⟩
        · rw [g1]; exact h1
        · exact absurd g2 h2
      · rw [if_pos (Or.inr h1)]
        refine ⟨_, rfl, ?_, e5⟩
        rcases hasF (S := g_P S) hn hq hp with ⟨g1, g2⟩ | ⟨g1, g2⟩
        · exact absurd h2 g2
        · rw [g1]; exact h1
theorem rel_order {n : Nat} {S : vK} {T : vR} (hR : Rel n S T) (a1 : Int32) : ∃ v : Int32 × vR, fR_order n T a1 = some v ∧ v.1 = fK_order n S a1 ∧ Rel n S v.2 := by
  have hn := hR.1
  rw [fR_order, fK_order, fP_inOrder, fP_has]
  by_cases c1 : a1 < 0
  · rw [if_pos c1, if_pos c1, if_pos rfl]; exact ⟨_, rfl, rfl, hR⟩
  · rw [if_neg c1, if_neg c1]
    obtain ⟨j, hj, rfl⟩ := nI_of c1
    by_cases d : n ≤ j
    · rw [if_neg (nI_nlt d hj), if_pos (nI_le d hj), if_pos rfl]; exact ⟨_, rfl, rfl, hR⟩
    · rw [if_pos (nI_lt (by omega) (by omega)), if_neg (nI_ge (by omega) (by omega)), if_neg one_ne]
      obtain ⟨ab, st, ro, lv, hP, e1, e2, e3, e4, e5⟩ := hR.find
      rw [e1]
      show ∃ v, (if ob (nI j) 24 then none else some (ro (nI j).toNatClampNeg, r_rro (r_rst (r_rab T ab) st) ro)) = _ ∧ _
      rw [if_neg (ob_nI (by omega) (by omega))]
      refine ⟨_, rfl, ?_, e5⟩
      show ro (nI j).toNatClampNeg = _
      rw [nI_clamp hj]
      exact e4.same hP.2.2.2.2.1 (by omega)
theorem rel_animal {n : Nat} {S : vK} {T : vR} (hR : Rel n S T) (a1 a2 : Int32) : ∃ v : Int32 × vR, fR_animal n T a1 a2 = some v ∧ v.1 = fK_animal n S a1 a2 ∧ Rel n S v.2 := by
  obtain ⟨hn, hsx, hdy, hdd, hm, hf, -⟩ := id hR
  rw [fR_animal, fK_animal, is_eq]
  by_cases c1 : fR_is n a1 = 0
  · rw [if_pos c1, if_pos c1]; exact ⟨_, rfl, rfl, hR⟩
  · rw [if_neg c1, if_neg c1]
    obtain ⟨p, hp, rfl⟩ := is_nat hn c1
    have hne : ∀ k : Int32, (a2 < 0 ∨ ¬ a2 ≤ 5) → (0 ≤ k ∧ k ≤ 5) → ¬ a2 = k := fun k h hk e => by
      subst e
      rcases h with h | h
      · rw [Int32.lt_iff_toInt_lt] at h
        have := hk.1
        rw [Int32.le_iff_toInt_le] at this
        omega
      · exact h hk.2
    by_cases c2 : a2 < 0
    · rw [if_pos c2, if_neg (hne 0 (Or.inl c2) (by decide)), if_neg (hne 1 (Or.inl c2) (by decide)), if_neg (hne 2 (Or.inl c2) (by decide)), if_neg (hne 3 (Or.inl c2) (by decide)), if_neg (hne 4 (Or.inl c2) (by decide)), if_neg (hne 5 (Or.inl c2) (by decide))]
      exact ⟨_, rfl, rfl, hR⟩
    · rw [if_neg c2]
      by_cases c3 : a2 ≤ 5
      · rw [if_pos c3]
        obtain ⟨ab, st, ro, lv, hP, e1, e2, e3, e4, e5⟩ := hR.find
        rw [e1]
        show ∃ v, (if a2 = 0 then some (g_rmo T (nI p).toNatClampNeg, r_rro (r_rst (r_rab T ab) st) ro) else (if a2 = 1 then some (g_rfa T (nI p).toNatClampNeg, r_rro (r_rst (r_rab T ab) st) ro) else (if a2 = 2 then some (g_rsx T (nI p).toNatClampNeg, r_rro (r_rst (r_rab T ab) st) ro) else (if a2 = 3 then some (g_rdy T (nI p).toNatClampNeg, r_rro (r_rst (r_rab T ab) st) ro) else (if a2 = 4 then (if g_rgo T (nI p).toNatClampNeg = 0 then some (1, r_rro (r_rst (r_rab T ab) st) ro) else some (0, r_rro (r_rst (r_rab T ab) st) ro)) else some (st (nI p).toNatClampNeg, r_rro (r_rst (r_rab T ab) st) ro)))))) = _ ∧ _
        rw [motherOf_nI hn hp, fatherOf_nI hn hp, stepsOf_nI _ hn hp, nI_clamp (by omega), hm, hf, hsx, hdy, hdd]
        by_cases d0 : a2 = 0
        · rw [if_pos d0, if_pos d0]; exact ⟨_, rfl, rfl, e5⟩
        · rw [if_neg d0, if_neg d0]
          by_cases d1 : a2 = 1
          · rw [if_pos d1, if_pos d1]; exact ⟨_, rfl, rfl, e5⟩
          · rw [if_neg d1, if_neg d1]
            by_cases d2 : a2 = 2
            · rw [if_pos d2, if_pos d2]; exact ⟨_, rfl, rfl, e5⟩
            · rw [if_neg d2, if_neg d2]
              by_cases d3 : a2 = 3
              · rw [if_pos d3, if_pos d3]; exact ⟨_, rfl, rfl, e5⟩
              · rw [if_neg d3, if_neg d3]
                by_cases d4 : a2 = 4
                · rw [if_pos d4, if_pos d4]
                  by_cases d6 : g_rgo T p = 0
                  · rw [if_pos d6, if_pos d6]; exact ⟨_, rfl, rfl, e5⟩
                  · rw [if_neg d6, if_neg d6]; exact ⟨_, rfl, rfl, e5⟩
                · rw [if_neg d4, if_neg d4]
                  have d5 : a2 = 5 := by
                    obtain ⟨j, hj, rfl⟩ := nI_of c2
                    have h5 : j ≤ 5 := (nI_leI (b := 5) hj (by decide)).mp c3
                    have n0 : j ≠ 0 := fun e => d0 (by subst e; rfl)
                    have n1 : j ≠ 1 := fun e => d1 (by subst e; rfl)
                    have n2 : j ≠ 2 := fun e => d2 (by subst e; rfl)
                    have n3 : j ≠ 3 := fun e => d3 (by subst e; rfl)
                    have n4 : j ≠ 4 := fun e => d4 (by subst e; rfl)
                    have : j = 5 := by omega
                    subst this
                    rfl
                  rw [if_pos d5]
                  refine ⟨_, rfl, ?_, e5⟩
                  show st p = _
                  rw [e3 p hp, hP.2.2.2.1 p hp]
      · rw [if_neg c3, if_neg (hne 0 (Or.inr c3) (by decide)), if_neg (hne 1 (Or.inr c3) (by decide)), if_neg (hne 2 (Or.inr c3) (by decide)), if_neg (hne 3 (Or.inr c3) (by decide)), if_neg (hne 4 (Or.inr c3) (by decide)), if_neg (hne 5 (Or.inr c3) (by decide))]
        exact ⟨_, rfl, rfl, hR⟩
theorem rel_lives {n : Nat} {S : vK} {T : vR} (hR : Rel n S T) (a1 a2 : Int32) (h2 : a2 = 0 ∨ a2 = 1) : (fR_lives n T a1 a2).1 = (fK_lives n S a1 a2).1 ∧ Rel n (fK_lives n S a1 a2).2 (fR_lives n T a1 a2).2 := by
  obtain ⟨hn, hsx, hdy, hdd, hm, hf, hfo, hP, h1, h3, h4⟩ := id hR
  rw [fR_lives, fK_lives, is_eq]
  by_cases c1 : fR_is n a1 = 0
  · rw [if_pos c1, if_pos c1]; exact ⟨rfl, hR⟩
  · rw [if_neg c1, if_neg c1]
    by_cases c2 : a2 = 0
    · rw [if_pos c2, if_pos c2]
      exact ⟨rfl, hn, hsx, hdy, by show upd (g_dd S) _ _ = upd (g_rgo T) _ _; rw [hdd], hm, hf, hfo, hP, h1, h3, h4⟩
    · rw [if_neg c2, if_neg c2]
      exact ⟨rfl, hn, hsx, hdy, by show upd (g_dd S) _ _ = upd (g_rgo T) _ _; rw [hdd], hm, hf, hfo, hP, h1, h3, h4⟩
theorem rel_mark {n : Nat} {S : vK} {T : vR} (hR : Rel n S T) (a1 a2 a3 : Int32) : ∃ v : Int32 × vR, fR_mark n T a1 a2 a3 = some v ∧ v.1 = (fK_mark n S a1 a2 a3).1 ∧ Rel n (fK_mark n S a1 a2 a3).2 v.2 := by
  obtain ⟨hn, hsx, hdy, hdd, hm, hf, hfo, hP, h1, h3, h4⟩ := id hR
  have same : Rel n (s_M S (g_M S)) T := hR
  rw [fR_mark, fK_mark, fM_setForm, fM_has]
  by_cases c1 : fR_is n a1 = 0
  · rw [if_pos c1]
    have : (if a1 < 0 then (0 : Int32) else (if nI n ≤ a1 then 0 else (if a2 < 0 then 0 else (if 4 ≤ a2 then 0 else 1)))) = 0 := by
      rw [fR_is] at c1
      by_cases d : a1 < 0
      · rw [if_pos d]
      · rw [if_neg d] at c1 ⊢
        by_cases d2 : nI n ≤ a1
        · rw [if_pos d2]
        · rw [if_neg d2] at c1; exact absurd c1 one_ne
    rw [this, if_pos rfl]
    exact ⟨_, rfl, rfl, same⟩
  · rw [if_neg c1]
    obtain ⟨p, hp, rfl⟩ := is_nat hn c1
    rw [if_neg (nI_pos (by omega)), if_neg (nI_ge hp (by omega))]
    by_cases d2 : a2 < 0
    · rw [if_pos d2, if_pos d2, if_pos rfl]; exact ⟨_, rfl, rfl, same⟩
    · rw [if_neg d2, if_neg d2]
      obtain ⟨q, hq, rfl⟩ := nI_of d2
      by_cases d3 : q ≤ 3
      · rw [if_neg (show ¬ (3 : Int32) < nI q from nI_nlt (a := 3) (by omega) (by decide)), if_neg (show ¬ (4 : Int32) ≤ nI q from nI_ge (b := 4) (by omega) (by decide)), if_neg one_ne]
        by_cases d4 : a3 < -1
        · rw [if_pos d4, if_pos d4]; exact ⟨_, rfl, rfl, same⟩
        · rw [if_neg d4, if_neg d4]
          by_cases d5 : a3 ≤ 2
          · have ix : (4 : Int32) * nI p + nI q = nI (4 * p + q) := by
              show nI 4 * nI p + nI q = _
              rw [pk_mul, nI_add]
            have ix2 : nI p * (4 : Int32) + nI q = nI (4 * p + q) := by
              show nI p * nI 4 + nI q = _
              rw [pk_mul, nI_add, Nat.mul_comm]
            rw [if_pos d5, if_pos d5, ix, ix2, if_neg (ob_nI (by omega) (by omega)), nI_clamp (by omega)]
            refine ⟨_, rfl, rfl, hn, hsx, hdy, hdd, hm, hf, ?_, hP, h1, ?_, h4⟩
            · show upd (g_M S) _ _ = upd (g_rfo T) _ _
              rw [hfo]
            · intro i hi
              show upd (g_M S) (4 * p + q) a3 i = -1 ∨ _
              by_cases e : i = 4 * p + q
              · rw [e]
                show upd (g_M S) (4 * p + q) a3 (4 * p + q) = -1 ∨ upd (g_M S) (4 * p + q) a3 (4 * p + q) = 0 ∨ upd (g_M S) (4 * p + q) a3 (4 * p + q) = 1 ∨ upd (g_M S) (4 * p + q) a3 (4 * p + q) = 2
                rw [pk_us]
                rw [Int32.lt_iff_toInt_lt] at d4
                rw [Int32.le_iff_toInt_le] at d5
                have t1 : (-1 : Int32).toInt = -1 := by decide
                have t2 : (2 : Int32).toInt = 2 := by decide
                rw [t1] at d4
                rw [t2] at d5
                have : a3.toInt = -1 ∨ a3.toInt = 0 ∨ a3.toInt = 1 ∨ a3.toInt = 2 := by omega
                rcases this with h | h | h | h
                · exact Or.inl (Int32.toInt_inj.mp (h.trans t1.symm))
                · exact Or.inr (Or.inl (Int32.toInt_inj.mp (h.trans (by decide))))
                · exact Or.inr (Or.inr (Or.inl (Int32.toInt_inj.mp (h.trans (by decide)))))
                · exact Or.inr (Or.inr (Or.inr (Int32.toInt_inj.mp (h.trans t2.symm))))
              · show upd (g_M S) (4 * p + q) a3 i = -1 ∨ upd (g_M S) (4 * p + q) a3 i = 0 ∨ upd (g_M S) (4 * p + q) a3 i = 1 ∨ upd (g_M S) (4 * p + q) a3 i = 2
                rw [pk_un e]
                exact h3 i hi
          · rw [if_neg d5, if_neg d5]; exact ⟨_, rfl, rfl, same⟩
      · rw [if_pos (show (3 : Int32) < nI q from nI_lt (a := 3) (by omega) hq), if_pos (show (4 : Int32) ≤ nI q from nI_le (a := 4) (by omega) hq), if_pos rfl]; exact ⟨_, rfl, rfl, same⟩
