theorem steps_in {n : Nat} {mo fa : Nat → Int32} {lv : Nat → Nat} (hn : n ≤ 24) (hm : pOk n mo) (hf : pOk n fa) (hL : Lev n mo fa lv) {r x2 : Nat} : ∀ (k i : Nat) (x1 : Int32) (S : vP) (s : Nat → Nat), i + k = n → g_mo S = mo → g_fa S = fa → (∀ a, a < n → g_st S a = nI (s a)) → (∀ a, a < n → s a ≤ lv a) → (∀ a, a < n → lv a < r → s a = lv a) → (∀ a, a < i → lv a < r + 1 → s a = lv a) → (x1 = 0 → ∀ a, a < i → Fl mo fa s a = s a) →
    ∃ (x' : Int32) (st' : Nat → Int32) (s' : Nat → Nat), fP_reckonSteps_28 n k i x1 x2 S = (x', p_st S st') ∧ (∀ a, a < n → st' a = nI (s' a)) ∧ (∀ a, a < n → s' a ≤ lv a) ∧ (∀ a, a < n → lv a < r + 1 → s' a = lv a) ∧ (x' = 0 → ∀ a, a < n → Fl mo fa s' a = s' a) := by
  intro k
  induction k with
  | zero =>
    intro i x1 S s hi hmo hfa hs hle h1 h2 hx
    have : i = n := by omega
    subst this
    exact ⟨x1, g_st S, s, rfl, hs, hle, fun a ha => h2 a ha, hx⟩
  | succ k ih =>
    intro i x1 S s hi hmo hfa hs hle h1 h2 hx
    have hin : i < n := by omega
    have hb : ∀ a, a < n → s a < 1000 := fun a ha => by
      have := hle a ha
      have := hL.lt hn hm hf ha
      omega
    have hab := above_eq (S := S) hn hs hb (hm i hin) (hf i hin)
    have hc : ((nI i) : Int32).toNatClampNeg = i := nI_clamp (by omega)
    -- the new steps of i
    have hF : Fl mo fa s i ≤ lv i := by
      rw [hL i hin, Fl, Fl, mx_le]
      exact ⟨Nat.le_trans (pl_le hn (hm i hin) hle) (mx_l _ _), Nat.le_trans (pl_le hn (hf i hin) hle) (mx_r _ _)⟩
    have hF2 : lv i < r + 1 → Fl mo fa s i = lv i := fun h => by
      rw [hL i hin, Fl, Fl]
      rw [pl_eq (t := lv) hn (hm i hin) (fun p hp e => h1 p hp (by have := par_lt hn hL hin hp (Or.inl e); omega)), pl_eq (t := lv) hn (hf i hin) (fun p hp e => h1 p hp (by have := par_lt hn hL hin hp (Or.inr e); omega))]
    obtain ⟨s2, hs2⟩ : ∃ s2 : Nat → Nat, s2 = fun a => if a = i then Fl mo fa s i else s a := ⟨_, rfl⟩
    have es : ∀ a, s2 a = if a = i then Fl mo fa s i else s a := fun a => by rw [hs2]
    have key : ∀ x' : Int32, (x' = 0 → x1 = 0 ∧ Fl mo fa s i = s i) → ∃ (x'' : Int32) (st' : Nat → Int32) (s' : Nat → Nat), fP_reckonSteps_28 n k (i + 1) x' x2 (p_st S (upd (g_st S) i (nI (Fl mo fa s i)))) = (x'', p_st (p_st S (upd (g_st S) i (nI (Fl mo fa s i)))) st') ∧ (∀ a, a < n → st' a = nI (s' a)) ∧ (∀ a, a < n → s' a ≤ lv a) ∧ (∀ a, a < n → lv a < r + 1 → s' a = lv a) ∧ (x'' = 0 → ∀ a, a < n → Fl mo fa s' a = s' a) := by
      intro x' hx'
      refine ih (i + 1) x' _ s2 (by omega) hmo hfa (fun a ha => ?_) (fun a ha => ?_) (fun a ha h => ?_) (fun a ha h => ?_) (fun e a ha => ?_)
      · show upd (g_st S) i (nI (Fl mo fa s i)) a = _
        rw [es]
        by_cases e : a = i
        · rw [if_pos e, e, pk_us]
        · rw [if_neg e, pk_un e]; exact hs a ha
      · rw [es]
        by_cases e : a = i
        · rw [if_pos e, e]; exact hF
        · rw [if_neg e]; exact hle a ha
      · rw [es]
        by_cases e : a = i
        · rw [if_pos e, e]; exact hF2 (by rw [← e]; omega)
        · rw [if_neg e]; exact h1 a ha h
      · rw [es]
        by_cases e : a = i
        · rw [if_pos e, e]; exact hF2 (by rw [← e]; exact h)
        · rw [if_neg e]; exact h2 a (by omega) h
      · obtain ⟨e1, e2⟩ := hx' e
        have e3 : s2 = s := by
          funext b
          rw [es]
          by_cases q : b = i
          · rw [if_pos q, q, e2]
          · rw [if_neg q]
        rw [e3]
        by_cases q : a = i
        · rw [q]; exact e2
        · exact hx e1 a (by omega)
    have e0 : mx (pl s (mo i)) (pl s (fa i)) = Fl mo fa s i := rfl
    rw [fP_reckonSteps_28, hc, hmo, hfa, hab, e0]
    by_cases c1 : x1 = 0
    · rw [if_pos c1]
      by_cases c2 : nI (Fl mo fa s i) = g_st S i
      · rw [if_pos c2]
        refine key 0 (fun _ => ⟨c1, ?_⟩)
        rw [hs i hin] at c2
        have := hb i hin
        have := hL.lt hn hm hf hin
        exact (nI_eq (by omega) (by omega)).mp c2
      · rw [if_neg c2]
        exact key 1 (fun e => absurd e one_ne)
    · rw [if_neg c1]
      exact key 1 (fun e => absurd e one_ne)
theorem steps_out {n : Nat} {mo fa : Nat → Int32} {lv : Nat → Nat} (hn : n ≤ 24) (hm : pOk n mo) (hf : pOk n fa) (hL : Lev n mo fa lv) : ∀ (k i : Nat) (x1 : Int32) (S : vP) (s : Nat → Nat), i + k = n → g_mo S = mo → g_fa S = fa → (∀ a, a < n → g_st S a = nI (s a)) → (∀ a, a < n → s a ≤ lv a) → (∀ a, a < n → lv a < i → s a = lv a) → (x1 = 0 → ∀ a, a < n → Fl mo fa s a = s a) →
    ∃ st' : Nat → Int32, fP_reckonSteps_12 n k i x1 S = p_st S st' ∧ ∀ a, a < n → st' a = nI (lv a) := by
  intro k
  induction k with
  | zero =>
    intro i x1 S s hi hmo hfa hs hle h1 hx
    refine ⟨g_st S, rfl, fun a ha => ?_⟩
    rw [hs a ha, h1 a ha (by have := hL.lt hn hm hf ha; omega)]
  | succ k ih =>
    intro i x1 S s hi hmo hfa hs hle h1 hx
    rw [fP_reckonSteps_12]
    by_cases c : x1 = 0
    · rw [if_pos c]
      refine ⟨g_st S, rfl, fun a ha => ?_⟩
      have hs' : Lev n mo fa s := fun a ha => (hx c a ha).symm
      rw [hs a ha, ← Lev.uniq hn hm hf hs' hL (s a + 1) a ha (by omega)]
    · rw [if_neg c]
      obtain ⟨x', st', s', e1, e2, e3, e4, e5⟩ := steps_in hn hm hf hL (r := i) (x2 := i) n 0 0 S s (by omega) hmo hfa hs hle h1 (fun a ha => by omega) (fun _ a ha => by omega)
      rw [e1]
      obtain ⟨st2, g1, g2⟩ := ih (i + 1) x' (p_st S st') s' (by omega) hmo hfa e2 e3 e4 e5
      exact ⟨st2, g1, g2⟩
theorem fill_in {n : Nat} {x : Int32} : ∀ (k i x3 : Nat) (f : Nat → Int32), i + k < 1000 → ∀ a, fA_fill_5 n k i x x3 f a = if i ≤ a ∧ a < i + k then x else f a := by
  intro k
  induction k with
  | zero => intro i x3 f _ a; rw [fA_fill_5, if_neg (by omega)]
  | succ k ih =>
    intro i x3 f h a
    rw [fA_fill_5, ih (i + 1) x3 _ (by omega) a, nI_clamp (by omega)]
    by_cases c : a = i
    · subst c
      rw [if_neg (by omega), if_pos (by omega), pk_us]
    · rw [pk_un c]
      by_cases d : i ≤ a ∧ a < i + (k + 1)
      · rw [if_pos d, if_pos (by omega)]
      · rw [if_neg d, if_neg (by omega)]
theorem fill_all {n : Nat} {x : Int32} {f : Nat → Int32} (h : n < 1000) (a : Nat) : fA_fill n f x a = if a < n then x else f a := by
  rw [fA_fill, fill_in n 0 n f (by omega) a]
  by_cases c : a < n
  · rw [if_pos (by omega), if_pos c]
  · rw [if_neg (by omega), if_neg c]
theorem steps_all {n : Nat} {S : vP} {lv : Nat → Nat} (hn : n ≤ 24) (hm : pOk n (g_mo S)) (hf : pOk n (g_fa S)) (hL : Lev n (g_mo S) (g_fa S) lv) : ∃ st' : Nat → Int32, fP_reckonSteps n S = p_st S st' ∧ ∀ a, a < n → st' a = nI (lv a) := by
  rw [fP_reckonSteps]
  obtain ⟨st', e1, e2⟩ := steps_out hn hm hf hL n 0 1 (p_st S (fA_fill 24 (g_st S) 0)) (fun _ => 0) (by omega) rfl rfl (fun a ha => by
    show fA_fill 24 (g_st S) 0 a = _
    rw [fill_all (by decide), if_pos (by omega)]; rfl) (fun a _ => Nat.zero_le _) (fun a _ h => by omega) (fun h => absurd h one_ne)
  exact ⟨st', e1, e2⟩
