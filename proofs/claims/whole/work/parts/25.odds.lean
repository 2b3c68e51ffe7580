-- ===== odds =====
theorem sm_ge {f : Nat → Nat} {j : Nat} : ∀ n, j < n → f j ≤ sm f n
  | 0, h => by omega
  | n + 1, h => by
    rw [sm]
    by_cases e : j = n
    · subst e; omega
    · have := sm_ge (f := f) n (by omega : j < n)
      omega
theorem sm_add {f g : Nat → Nat} : ∀ n, sm (fun i => f i + g i) n = sm f n + sm g n
  | 0 => rfl
  | n + 1 => by rw [sm, sm, sm, sm_add n]; omega
def kf (x : Int32) : Nat := if x = -1 then 0 else 1
def fv (x : Int32) : Nat := if x = 1 then 1 else if x = 2 then 2 else 0
def av (x : Int32) : Nat := if x = 0 then 2 else if x = 1 then 1 else 0
theorem av_fv {x : Int32} (h : x = -1 ∨ x = 0 ∨ x = 1 ∨ x = 2) : av x + fv x = 2 * kf x := by rcases h with h | h | h | h <;> rw [h] <;> decide
theorem fv_max {x : Int32} (h : x = -1 ∨ x = 0 ∨ x = 1 ∨ x = 2) : fJ_max 0 x = nI (fv x) := by rcases h with h | h | h | h <;> rw [h] <;> decide
theorem fv_l {x : Int32} (h : x = -1 ∨ x = 0 ∨ x = 1 ∨ x = 2) (hn : ¬ x = -1) : x.toInt64 = lN (fv x) := by rcases h with h | h | h | h <;> first | exact absurd h hn | (rw [h]; decide)
theorem kf_le (x : Int32) : kf x ≤ 1 := by unfold kf; split <;> omega
theorem known_loop {n m : Nat} {M : vM} (hn : n ≤ 24) (hm : m < 4) : ∀ (k i : Nat), i + k = n → fM_knownForms_4 n M k i (nI m) (nI (sm (fun a => kf (M (4 * a + m))) i)) = nI (sm (fun a => kf (M (4 * a + m))) n) := by
  intro k
  induction k with
  | zero => intro i hi; rw [fM_knownForms_4, show i = n by omega]
  | succ k ih =>
    intro i hi
    have e := ih (i + 1) (by omega)
    rw [sm] at e
    rw [fM_knownForms_4, formOf_nI hn (by omega) hm]
    by_cases c : M (4 * i + m) = -1
    · rw [if_pos c]
      rw [show kf (M (4 * i + m)) = 0 by rw [kf, if_pos c], Nat.add_zero] at e
      exact e
    · rw [if_neg c, nI_1]
      rw [show kf (M (4 * i + m)) = 1 by rw [kf, if_neg c]] at e
      exact e
theorem letters_loop {n m : Nat} {M : vM} (hn : n ≤ 24) (hm : m < 4) (hF : FoOk M) : ∀ (k i : Nat), i + k = n → fM_lettersB_4 n M k i (nI m) (nI (sm (fun a => fv (M (4 * a + m))) i)) = nI (sm (fun a => fv (M (4 * a + m))) n) := by
  intro k
  induction k with
  | zero => intro i hi; rw [fM_lettersB_4, show i = n by omega]
  | succ k ih =>
    intro i hi
    have e := ih (i + 1) (by omega)
    rw [sm] at e
    rw [fM_lettersB_4, formOf_nI hn (by omega) hm, fv_max (hF _ (by omega)), nI_add]
    exact e
theorem rletters_loop {n m : Nat} {T : vR} {M : vM} (hn : n ≤ 24) (hm : m < 4) (hM : M = g_rfo T) (hF : FoOk M) {x1 x2 x3 x9 x10 : Int32} {x4 x6 : Int64} : ∀ (k i : Nat), i + k = n → fR_odds_95 n T k i x1 x2 x3 x4 x6 m x9 x10 (lN (2 * sm (fun a => kf (M (4 * a + m))) i)) (lN (sm (fun a => fv (M (4 * a + m))) i)) = some (lN (2 * sm (fun a => kf (M (4 * a + m))) n), lN (sm (fun a => fv (M (4 * a + m))) n)) := by
  intro k
  induction k with
  | zero => intro i hi; rw [fR_odds_95, show i = n by omega]
  | succ k ih =>
    intro i hi
    have e := ih (i + 1) (by omega)
    rw [sm, sm] at e
    have hx := hF (4 * i + m) (by omega)
    have o : ¬ ob (nI (4 * i + m)) 96 := ob_nI (by omega) (by omega)
    rw [fR_odds_95, ix4, if_neg o, if_neg o, nI_clamp (by omega), ← hM]
    by_cases c : M (4 * i + m) = -1
    · rw [if_neg (by rw [c]; decide)]
      rw [show kf (M (4 * i + m)) = 0 by rw [kf, if_pos c], show fv (M (4 * i + m)) = 0 by rw [c]; decide, Nat.add_zero, Nat.add_zero] at e
      exact e
    · rw [if_pos (by rcases hx with h | h | h | h <;> first | exact absurd h c | (rw [h]; decide)), fv_l hx c, lN_add, show (2 : Int64) = lN 2 from rfl, lN_add]
      rw [show kf (M (4 * i + m)) = 1 by rw [kf, if_neg c], Nat.mul_add] at e
      exact e
theorem ab_bd : ∀ A, A < 49 → ∀ B, B < 49 → A + B ≤ 48 → 4 * (A * B) ≤ 4608 := by decide +kernel
/-- one mark's part: the class's numbers are the reference's, both times over f -/
theorem odds_mark {A B g : Nat} {c : Int32} (hAB : A + B ≤ 48) (hg : g ≤ 2) (hc : (c = 0 ∧ 0 < A) ∨ (c = 1 ∧ 0 < A ∧ 0 < B) ∨ (c = 2 ∧ 0 < B)) :
    ∃ hN tN f : Nat, 0 < tN ∧ 0 < f ∧ hN * f ≤ 4608 ∧ tN * f ≤ 4608 ∧ fM_amongChildren c (nI g) (lN A) (lN B) * lN (A + B) = lN (hN * f) ∧ fM_amongStrangers c (lN A) (lN B) * 2 = lN (tN * f) ∧ (∀ x4 x6 : Int64, ∀ K : Int64 → Int64 → Option Int64, (if c = 0 then K (x4 * ((((2 - nI g) : Int32).toInt64) * lN (A + B))) (x6 * (2 * lN A)) else (if c = 2 then K (x4 * ((nI g : Int32).toInt64 * lN (A + B))) (x6 * (2 * lN B)) else K (x4 * ((((nI g : Int32).toInt64 * lN A) + ((((2 - nI g) : Int32).toInt64) * lN B)) * lN (A + B))) (x6 * ((4 * lN B) * lN A)))) = K (x4 * lN hN) (x6 * lN tN)) := by
  have e1 : ((2 - nI g) : Int32).toInt64 = lN (2 - g) := by
    show (nI 2 - nI g).toInt64 = _
    rw [pk_sub hg, nI_l (by omega)]
  have e2 : (nI g).toInt64 = lN g := nI_l (by omega)
  have e3 : lN (A + B) - lN B = lN A := by rw [lN_sub (by omega), Nat.add_sub_cancel]
  have l2 : (2 : Int64) = lN 2 := rfl
  have l4 : (4 : Int64) = lN 4 := rfl
  have bd : 4 * (A * B) ≤ 4608 := ab_bd A (by omega) B (by omega) hAB
  have b1 : (2 - g) * (A + B) ≤ 2 * 48 := Nat.mul_le_mul (by omega) hAB
  have b2 : g * (A + B) ≤ 2 * 48 := Nat.mul_le_mul hg hAB
  have b3 : A * A ≤ 48 * 48 := Nat.mul_le_mul (by omega) (by omega)
  have b4 : B * B ≤ 48 * 48 := Nat.mul_le_mul (by omega) (by omega)
  rcases hc with ⟨rfl, hA⟩ | ⟨rfl, hA, hB⟩ | ⟨rfl, hB⟩
  · refine ⟨(2 - g) * (A + B), 2 * A, A, by omega, hA, ?_, ?_, ?_, ?_, fun x4 x6 K => ?_⟩
    · have := Nat.mul_le_mul b1 (show A ≤ 48 by omega)
      omega
    · rw [Nat.mul_assoc]; omega
    · rw [fM_amongChildren, if_pos rfl, e1, lN_mul, lN_mul, Nat.mul_assoc, Nat.mul_assoc, Nat.mul_comm A]
    · rw [fM_amongStrangers, if_pos rfl, l2, lN_mul, lN_mul, Nat.mul_comm, Nat.mul_assoc]
    · rw [if_pos rfl, e1, l2, lN_mul, lN_mul]
  · have b5 : g * A + (2 - g) * B ≤ 2 * (A + B) := by
      have h1 := Nat.mul_le_mul_right A hg
      have h2 := Nat.mul_le_mul_right B (show 2 - g ≤ 2 by omega)
      omega
    refine ⟨(g * A + (2 - g) * B) * (A + B), 4 * B * A, 1, ?_, by decide, ?_, ?_, ?_, ?_, fun x4 x6 K => ?_⟩
    · exact Nat.mul_pos (by omega) hA
    · have := Nat.mul_le_mul b5 hAB
      omega
    · rw [Nat.mul_one, Nat.mul_assoc, Nat.mul_comm B A]; exact bd
    · rw [fM_amongChildren, if_neg one_ne, if_pos rfl, e1, e2, lN_mul, lN_mul, lN_add, lN_mul, Nat.mul_one]
    · rw [fM_amongStrangers, if_neg one_ne, if_pos rfl, l2, lN_mul, lN_mul, lN_mul, Nat.mul_one]
      congr 1
      rw [Nat.mul_assoc 2 A B, Nat.mul_assoc 4 B A, Nat.mul_comm B A]
      omega
    · rw [if_neg one_ne, if_neg (by decide), e1, e2, l4, lN_mul, lN_mul, lN_add, lN_mul, lN_mul, lN_mul]
  · refine ⟨g * (A + B), 2 * B, B, by omega, hB, ?_, ?_, ?_, ?_, fun x4 x6 K => ?_⟩
    · have := Nat.mul_le_mul b2 (show B ≤ 48 by omega)
      omega
    · rw [Nat.mul_assoc]; omega
    · rw [fM_amongChildren, if_neg (by decide), if_neg (by decide), e2, lN_mul, lN_mul, Nat.mul_assoc, Nat.mul_assoc, Nat.mul_comm B]
    · rw [fM_amongStrangers, if_neg (by decide), if_neg (by decide), l2, lN_mul, lN_mul, Nat.mul_comm, Nat.mul_assoc]
    · rw [if_neg (by decide), if_pos rfl, e2, l2, lN_mul, lN_mul]
theorem odds_loop {n a b : Nat} {M : vM} {T : vR} {q : Int32} (hn : n ≤ 24) (hM : M = g_rfo T) (hF : FoOk M) (ha : a < n) (hb : b < n) : ∀ (k i U V u d w : Nat), i + k = 4 → U = u * w → V = d * w → 0 < V → Nat.gcd u d = 1 → U ≤ 4608 ^ i → V ≤ 4608 ^ i → fR_odds_41 n T k i (nI a) (nI b) q (lN u) (lN d) = some (fM_oddsOf_9 n M k i (nI a) (nI b) q (lN U) (lN V)) := by
  have n62 : (2 : Nat) ^ 62 = 4611686018427387904 := by decide
  have n63 : (2 : Nat) ^ 63 = 9223372036854775808 := by decide
  have n50 : (2 : Nat) ^ 50 = 1125899906842624 := by decide
  have n4 : (4608 : Nat) ^ 4 = 450868486864896 := by decide
  intro k
  induction k with
  | zero =>
    intro i U V u d w hi hU hV h0 hg bU bV
    have hw : 0 < w := by
      rcases Nat.eq_zero_or_pos w with h | h
      · subst h; omega
      · exact h
    rw [show i = 4 by omega, n4] at bU bV
    rw [fR_odds_41, fM_oddsOf_9, lowest_all (by omega) (by omega) h0]
    have e : Nat.gcd U V = w := by rw [hU, hV, Nat.gcd_mul_right, hg, Nat.one_mul]
    rw [e]
    have e1 : U / w = u := by rw [hU, Nat.mul_div_cancel _ hw]
    have e2 : V / w = d := by rw [hV, Nat.mul_div_cancel _ hw]
    rw [e1, e2]
    by_cases c : q = 0
    · rw [if_pos c, if_pos c]
    · rw [if_neg c, if_neg c]
  | succ k ih =>
    intro i U V u d w hi hU hV h0 hg bU bV
    have hw : 0 < w := by
      rcases Nat.eq_zero_or_pos w with h | h
      · subst h; omega
      · exact h
    have hd : 0 < d := by
      rcases Nat.eq_zero_or_pos d with h | h
      · subst h; omega
      · exact h
    have o1 : ¬ ob (nI (4 * a + i)) 96 := ob_nI (by omega) (by omega)
    have o2 : ¬ ob (nI (4 * b + i)) 96 := ob_nI (by omega) (by omega)
    have hx := hF (4 * a + i) (by omega)
    have hy := hF (4 * b + i) (by omega)
    have pw : (4608 : Nat) ^ i ≤ 4608 ^ 3 := Nat.pow_le_pow_right (by decide) (by omega)
    have n3 : (4608 : Nat) ^ 3 = 97844723712 := by decide
    rw [fR_odds_41, fM_oddsOf_9, fM_isKnownOfBoth, formOf_nI hn ha (by omega), formOf_nI hn hb (by omega), ix4, ix4, if_neg o1, if_neg o2, nI_clamp (by omega), nI_clamp (by omega), ← hM]
    have i0 := ih (i + 1) U V u d w (by omega) hU hV h0 hg (Nat.le_trans bU (Nat.pow_le_pow_right (by decide) (by omega))) (Nat.le_trans bV (Nat.pow_le_pow_right (by decide) (by omega)))
    by_cases kx : M (4 * a + i) = -1
    · rw [if_pos (by rw [kx]; decide), if_pos kx, if_pos rfl]
      exact i0
    · rw [if_neg (by rcases hx with h | h | h | h <;> first | exact absurd h kx | (rw [h]; decide)), if_neg kx]
      by_cases ky : M (4 * b + i) = -1
      · rw [if_neg (by rw [ky]; decide), if_pos ky, if_pos rfl]
        exact i0
      · rw [if_pos (by rcases hy with h | h | h | h <;> first | exact absurd h ky | (rw [h]; decide)), if_neg ky, if_neg one_ne]
        -- the letters
        have hk := known_loop (M := M) hn (m := i) (by omega) n 0 (by omega)
        have hl := letters_loop (M := M) hn (m := i) (by omega) hF n 0 (by omega)
        have hr := rletters_loop (T := T) hn (m := i) (by omega) hM hF (x1 := nI a) (x2 := nI b) (x3 := q) (x9 := M (4 * a + i)) (x10 := M (4 * b + i)) (x4 := lN u) (x6 := lN d) n 0 (by omega)
        have z1 : nI (sm (fun a => kf (M (4 * a + i))) 0) = 0 := rfl
        have z2 : nI (sm (fun a => fv (M (4 * a + i))) 0) = 0 := rfl
        have z3 : lN (2 * sm (fun a => kf (M (4 * a + i))) 0) = 0 := rfl
        have z4 : lN (sm (fun a => fv (M (4 * a + i))) 0) = 0 := rfl
        rw [z1] at hk
        rw [z2] at hl
        rw [z3, z4] at hr
        have sAB : sm (fun a => av (M (4 * a + i))) n + sm (fun a => fv (M (4 * a + i))) n = 2 * sm (fun a => kf (M (4 * a + i))) n := by
          rw [← sm_add, ← sm_mul]
          exact sm_congr n (fun j hj => av_fv (hF _ (by omega)))
        have bK := sm_bd (f := fun a => kf (M (4 * a + i))) (c := 1) n (fun j _ => kf_le _)
        have gA := sm_ge (f := fun a => av (M (4 * a + i))) n ha
        have gB := sm_ge (f := fun a => fv (M (4 * a + i))) n ha
        rw [fM_knownForms, fM_lettersB, hk, hl, hr, bs]
        dsimp only
        rw [← sAB]
        generalize sm (fun a => kf (M (4 * a + i))) n = K at *
        generalize sm (fun a => fv (M (4 * a + i))) n = B at *
        generalize sm (fun a => av (M (4 * a + i))) n = A at *
        have hy2 : ∃ g, g ≤ 2 ∧ M (4 * b + i) = nI g := by
          rcases hy with h | h | h | h
          · exact absurd h ky
          · exact ⟨0, by decide, h⟩
          · exact ⟨1, by decide, h⟩
          · exact ⟨2, by decide, h⟩
        obtain ⟨g, hg2, eg⟩ := hy2
        rw [eg]
        have hc : (M (4 * a + i) = 0 ∧ 0 < A) ∨ (M (4 * a + i) = 1 ∧ 0 < A ∧ 0 < B) ∨ (M (4 * a + i) = 2 ∧ 0 < B) := by
          rcases hx with h | h | h | h
          · exact absurd h kx
          · refine Or.inl ⟨h, ?_⟩
            rw [h] at gA
            have : av 0 = 2 := by decide
            omega
          · refine Or.inr (Or.inl ⟨h, ?_, ?_⟩)
            · rw [h] at gA
              have : av 1 = 1 := by decide
              omega
            · rw [h] at gB
              have : fv 1 = 1 := by decide
              omega
          · refine Or.inr (Or.inr ⟨h, ?_⟩)
            rw [h] at gB
            have : fv 2 = 2 := by decide
            omega
        generalize M (4 * a + i) = c at hc ⊢
        obtain ⟨hN, tN, f, f1, f2, f3, f4, f5, f6, f7⟩ := odds_mark (A := A) (B := B) (g := g) (c := c) (by omega) hg2 hc
        have eL : 2 * (nI K).toInt64 = lN (A + B) := by rw [nI_l (by omega), show (2 : Int64) = lN 2 from rfl, lN_mul, sAB]
        have eB : (nI B).toInt64 = lN B := nI_l (by omega)
        have eA : lN (A + B) - lN B = lN A := by rw [lN_sub (by omega), Nat.add_sub_cancel]
        rw [eL, eB, eA, f5, f6, lN_mul, lN_mul]
        refine (f7 (lN u) (lN d) (fun X Z => (fR_lowest X Z 0).bind (fun r273 => (fR_lowest X Z 1).bind (fun r283 => fR_odds_41 n T k (i + 1) (nI a) (nI b) q r273 r283)))).trans ?_
        have hf1 : hN ≤ 4608 := Nat.le_trans (Nat.le_mul_of_pos_right hN f2) f3
        have ht1 : tN ≤ 4608 := Nat.le_trans (Nat.le_mul_of_pos_right tN f2) f4
        have hu : u ≤ U := by rw [hU]; exact Nat.le_mul_of_pos_right u hw
        have hd2 : d ≤ V := by rw [hV]; exact Nat.le_mul_of_pos_right d hw
        have bu : u * hN ≤ 97844723712 * 4608 := Nat.mul_le_mul (by omega) hf1
        have bd : d * tN ≤ 97844723712 * 4608 := Nat.mul_le_mul (by omega) ht1
        have p0 : 0 < d * tN := Nat.mul_pos hd f1
        rw [lN_mul, lN_mul, rlow (by omega) (by omega) p0, bs, rlow (by omega) (by omega) p0, bs, if_pos rfl, if_neg one_ne]
        have hG : 0 < Nat.gcd (u * hN) (d * tN) := Nat.gcd_pos_of_pos_right _ p0
        obtain ⟨G, eG⟩ : ∃ G, G = Nat.gcd (u * hN) (d * tN) := ⟨_, rfl⟩
        have d1 : G ∣ u * hN := by rw [eG]; exact Nat.gcd_dvd_left _ _
        have d2 : G ∣ d * tN := by rw [eG]; exact Nat.gcd_dvd_right _ _
        have hcop : Nat.gcd (u * hN / Nat.gcd (u * hN) (d * tN)) (d * tN / Nat.gcd (u * hN) (d * tN)) = 1 := by rw [Nat.gcd_div (Nat.gcd_dvd_left _ _) (Nat.gcd_dvd_right _ _), Nat.div_self hG]
        rw [← eG] at hcop hG ⊢
        refine ih (i + 1) (U * (hN * f)) (V * (tN * f)) (u * hN / G) (d * tN / G) (G * (w * f)) (by omega) ?_ ?_ ?_ hcop ?_ ?_
        · rw [← Nat.mul_assoc (u * hN / G), Nat.div_mul_cancel d1, hU]
          simp only [Nat.mul_assoc, Nat.mul_comm, Nat.mul_left_comm]
        · rw [← Nat.mul_assoc (d * tN / G), Nat.div_mul_cancel d2, hV]
          simp only [Nat.mul_assoc, Nat.mul_comm, Nat.mul_left_comm]
        · exact Nat.mul_pos h0 (Nat.mul_pos f1 f2)
        · rw [Nat.pow_succ]; exact Nat.mul_le_mul bU f3
        · rw [Nat.pow_succ]; exact Nat.mul_le_mul bV f4
theorem rel_odds {n : Nat} {S : vK} {T : vR} (hR : Rel n S T) (a1 a2 a3 : Int32) : fR_odds n T a1 a2 a3 = some (fK_odds n S a1 a2 a3) := by
  obtain ⟨hn, hsx, -, -, -, -, hM, -, -, hF, -⟩ := id hR
  rw [fR_odds, fK_odds, is_eq, is_eq, ip_eq]
  by_cases c1 : fR_is n a1 = 0
  · rw [if_pos c1, if_pos c1]
  · rw [if_neg c1, if_neg c1]
    by_cases c2 : fR_is n a2 = 0
    · rw [if_pos c2, if_pos c2]
    · rw [if_neg c2, if_neg c2]
      by_cases c4 : a1 = a2
      · rw [if_pos c4, if_pos c4]
      · rw [if_neg c4, if_neg c4]
        by_cases c3 : fR_isPart a3 = 0
        · rw [if_pos c3, if_pos c3]
        · rw [if_neg c3, if_neg c3]
          obtain ⟨p, hp, rfl⟩ := is_nat hn c1
          obtain ⟨q, hq, rfl⟩ := is_nat hn c2
          exact odds_loop hn hM hF hp hq 4 0 1 1 1 1 1 (by omega) rfl rfl (by decide) rfl (by decide) (by decide)
