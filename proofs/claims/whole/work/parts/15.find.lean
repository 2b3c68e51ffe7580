-- ===== forbears =====
def Pv (n : Nat) (R : Nat → Nat → Prop) (x : Nat) (p : Int32) : Prop := ∃ q, q < n ∧ p = nI q ∧ (x = q ∨ R x q)
def FbEq (n : Nat) (mo fa : Nat → Int32) (R : Nat → Nat → Prop) : Prop := ∀ a, a < n → ∀ x, x < n → (R x a ↔ Pv n R x (mo a) ∨ Pv n R x (fa a))
theorem nI_inj {a b : Nat} (ha : a < 2 ^ 31) (hb : b < 2 ^ 31) (h : nI a = nI b) : a = b := (nI_eq ha hb).mp h
theorem FbEq.up {n : Nat} {mo fa : Nat → Int32} {R : Nat → Nat → Prop} (h : FbEq n mo fa R) {a x p : Nat} (ha : a < n) (hx : x < n) (hp : p < n) (he : mo a = nI p ∨ fa a = nI p) (hr : x = p ∨ R x p) : R x a := by
  rw [h a ha x hx]
  rcases he with e | e
  · exact Or.inl ⟨p, hp, e, hr⟩
  · exact Or.inr ⟨p, hp, e, hr⟩
theorem FbEq.lv {n : Nat} {mo fa : Nat → Int32} {R : Nat → Nat → Prop} {lv : Nat → Nat} (hn : n ≤ 24) (hL : Lev n mo fa lv) (h : FbEq n mo fa R) : ∀ (k a x : Nat), a < n → x < n → lv a < k → R x a → lv x < lv a := by
  intro k
  induction k with
  | zero => intro a x _ _ h; omega
  | succ k ih =>
    intro a x ha hx hk hr
    have one : ∀ p, p < n → (mo a = nI p ∨ fa a = nI p) → (x = p ∨ R x p) → lv x < lv a := fun p hp e hr => by
      have := par_lt hn hL ha hp e
      rcases hr with r | r
      · subst r; exact this
      · have := ih p x hp hx (by omega) r
        omega
    rcases (h a ha x hx).mp hr with ⟨q, h1, h2, h3⟩ | ⟨q, h1, h2, h3⟩
    · exact one q h1 (Or.inl h2) h3
    · exact one q h1 (Or.inr h2) h3
theorem FbEq.uniq {n : Nat} {mo fa : Nat → Int32} {R Q : Nat → Nat → Prop} {lv : Nat → Nat} (hn : n ≤ 24) (hL : Lev n mo fa lv) (h1 : FbEq n mo fa R) (h2 : FbEq n mo fa Q) : ∀ (k a x : Nat), a < n → x < n → lv a < k → (R x a ↔ Q x a) := by
  intro k
  induction k with
  | zero => intro a x _ _ h; omega
  | succ k ih =>
    intro a x ha hx hk
    have one : ∀ p, p < n → (mo a = nI p ∨ fa a = nI p) → (R x p ↔ Q x p) := fun p hp e => ih p x hp hx (by have := par_lt hn hL ha hp e; omega)
    rw [h1 a ha x hx, h2 a ha x hx]
    constructor
    · rintro (⟨q, a1, a2, a3⟩ | ⟨q, a1, a2, a3⟩)
      · exact Or.inl ⟨q, a1, a2, a3.imp id (one q a1 (Or.inl a2)).mp⟩
      · exact Or.inr ⟨q, a1, a2, a3.imp id (one q a1 (Or.inr a2)).mp⟩
    · rintro (⟨q, a1, a2, a3⟩ | ⟨q, a1, a2, a3⟩)
      · exact Or.inl ⟨q, a1, a2, a3.imp id (one q a1 (Or.inl a2)).mpr⟩
      · exact Or.inr ⟨q, a1, a2, a3.imp id (one q a1 (Or.inr a2)).mpr⟩
-- ===== the reference's find =====
def sm (f : Nat → Nat) : Nat → Nat
  | 0 => 0
  | n + 1 => sm f n + f n
theorem sm_le {f g : Nat → Nat} : ∀ n, (∀ i, i < n → f i ≤ g i) → sm f n ≤ sm g n
  | 0, _ => Nat.le_refl _
  | n + 1, h => by
    have := sm_le n (fun i hi => h i (by omega))
    have := h n (by omega)
    rw [sm, sm]; omega
theorem sm_lt {f g : Nat → Nat} : ∀ n, (∀ i, i < n → f i ≤ g i) → (∃ j, j < n ∧ f j < g j) → sm f n < sm g n
  | 0, _, h => by obtain ⟨j, hj, _⟩ := h; omega
  | n + 1, h, ⟨j, hj, hf⟩ => by
    have hn := h n (by omega)
    rw [sm, sm]
    by_cases e : j = n
    · subst e
      have := sm_le j (fun i hi => h i (by omega))
      omega
    · have := sm_lt n (fun i hi => h i (by omega)) ⟨j, by omega, hf⟩
      omega
theorem sm_bd {f : Nat → Nat} {c : Nat} : ∀ n, (∀ i, i < n → f i ≤ c) → sm f n ≤ n * c
  | 0, _ => by simp [sm]
  | n + 1, h => by
    have := sm_bd n (fun i hi => h i (by omega))
    have := h n (by omega)
    rw [sm, Nat.succ_mul]; omega
theorem nar1 : vp_nar .boolean 1 = 1 := by decide
theorem nar0 : vp_nar .boolean 0 = 0 := by decide
theorem ix24 {x a : Nat} : (24 : Int32) * nI x + nI a = nI (24 * x + a) := by
  show nI 24 * nI x + nI a = _
  rw [pk_mul, nI_add]
def mu (n : Nat) (S : vR) : Nat := cn (fun j => decide (g_rab S j = 0)) 576 + sm (fun a => 24 - (g_rst S a).toNatClampNeg) n
/-- what stands all along: the pedigree, steps and forbears that are no more than they should be, and all else as it was -/
def FI (n : Nat) (mo fa : Nat → Int32) (lv : Nat → Nat) (R : Nat → Nat → Prop) (S0 S : vR) : Prop := g_rmo S = mo ∧ g_rfa S = fa ∧ (∀ a, a < n → ∃ v, v ≤ lv a ∧ g_rst S a = nI v) ∧ (∀ x a, x < n → a < n → g_rab S (24 * x + a) = 0 ∨ (g_rab S (24 * x + a) = 1 ∧ R x a)) ∧ S = r_rst (r_rab S0 (g_rab S)) (g_rst S)
theorem FI.ab {n : Nat} {mo fa : Nat → Int32} {lv : Nat → Nat} {R : Nat → Nat → Prop} {S0 S : vR} (hn : n ≤ 24) (h : FI n mo fa lv R S0 S) {x a : Nat} (hx : x < n) (ha : a < n) (hr : R x a) (hz : g_rab S (24 * x + a) = 0) : FI n mo fa lv R S0 (r_rab S (upd (g_rab S) (24 * x + a) 1)) ∧ mu n (r_rab S (upd (g_rab S) (24 * x + a) 1)) < mu n S := by
  obtain ⟨h1, h2, h3, h4, h5⟩ := h
  refine ⟨⟨h1, h2, h3, fun y b hy hb => ?_, ?_⟩, ?_⟩
  · show upd (g_rab S) (24 * x + a) 1 (24 * y + b) = 0 ∨ _ ∧ _
    by_cases e : 24 * y + b = 24 * x + a
    · have e1 : y = x := by omega
      have e2 : b = a := by omega
      subst e1; subst e2
      exact Or.inr ⟨pk_us, hr⟩
    · have := h4 y b hy hb
      rw [← pk_un (f := g_rab S) (x := 1) e] at this
      exact this
  · rw [h5]
  · have h6 := cn_lt (p := fun j => decide (upd (g_rab S) (24 * x + a) 1 j = 0)) (q := fun j => decide (g_rab S j = 0)) 576 (fun j _ e => by
      simp only [decide_eq_true_eq] at e ⊢
      by_cases c : j = 24 * x + a
      · rw [c, pk_us] at e; exact absurd e one_ne
      · rw [pk_un c] at e; exact e) ⟨24 * x + a, by omega, by simp only [decide_eq_true_eq]; exact hz, by rw [pk_us]; decide⟩
    show cn (fun j => decide (upd (g_rab S) (24 * x + a) 1 j = 0)) 576 + _ < _
    unfold mu
    exact Nat.add_lt_add_right h6 _
theorem FI.st {n : Nat} {mo fa : Nat → Int32} {lv : Nat → Nat} {R : Nat → Nat → Prop} {S0 S : vR} (hn : n ≤ 24) (hl : ∀ a, a < n → lv a < n) (h : FI n mo fa lv R S0 S) {a v w : Nat} (ha : a < n) (hw : g_rst S a = nI w) (hwv : w < v) (hv : v ≤ lv a) : FI n mo fa lv R S0 (r_rst S (upd (g_rst S) a (nI v))) ∧ mu n (r_rst S (upd (g_rst S) a (nI v))) < mu n S := by
  obtain ⟨h1, h2, h3, h4, h5⟩ := h
  have hla := hl a ha
  refine ⟨⟨h1, h2, fun b hb => ?_, h4, ?_⟩, ?_⟩
  · show ∃ u, u ≤ lv b ∧ upd (g_rst S) a (nI v) b = nI u
    by_cases e : b = a
    · subst e
      exact ⟨v, hv, pk_us⟩
    · rw [pk_un e]; exact h3 b hb
  · rw [h5]
  · have h6 := sm_lt (f := fun b => 24 - (upd (g_rst S) a (nI v) b).toNatClampNeg) (g := fun b => 24 - (g_rst S b).toNatClampNeg) n (fun b hb => by
      by_cases c : b = a
      · rw [c, pk_us, hw, nI_clamp (by omega), nI_clamp (by omega)]; omega
      · rw [pk_un c]; omega) ⟨a, ha, by rw [pk_us, hw, nI_clamp (by omega), nI_clamp (by omega)]; omega⟩
    show _ + sm (fun b => 24 - (upd (g_rst S) a (nI v) b).toNatClampNeg) n < _
    unfold mu
    exact Nat.add_lt_add_left h6 _
/-- closed for x, a and the parent p -/
def ClB (S : vR) (x a p : Nat) : Prop := (x = p ∨ g_rab S (24 * x + p) = 1) → g_rab S (24 * x + a) = 1
theorem find_x {n : Nat} {mo fa : Nat → Int32} {lv : Nat → Nat} {R : Nat → Nat → Prop} {S0 : vR} (hn : n ≤ 24) (hE : FbEq n mo fa R) {a p sd : Nat} (ha : a < n) (hp : p < n) (he : mo a = nI p ∨ fa a = nI p) : ∀ (k i : Nat) (x1 : Int32) (S : vR), i + k = n → FI n mo fa lv R S0 S →
    ∃ (x' : Int32) (S' : vR), fR_find_135 n k i x1 a sd (nI p) S = some (x', S') ∧ FI n mo fa lv R S0 S' ∧ mu n S' ≤ mu n S ∧ (x' = 0 → x1 = 0 ∧ S' = S ∧ ∀ x, i ≤ x → x < n → ClB S x a p) ∧ (¬ x' = 0 → ¬ x1 = 0 ∨ mu n S' < mu n S) := by
  intro k
  induction k with
  | zero =>
    intro i x1 S hi hF
    exact ⟨x1, S, rfl, hF, Nat.le_refl _, fun h => ⟨h, rfl, fun x h1 h2 => by omega⟩, fun h => Or.inl h⟩
  | succ k ih =>
    intro i x1 S hi hF
    have hin : i < n := by omega
    have h4 := hF.2.2.2.1
    have o1 : ¬ ob (((24 * (nI i)) + (nI a)) : Int32) 576 := by rw [ix24]; exact ob_nI (by omega) (by omega)
    have o2 : ¬ ob (((24 * (nI i)) + (nI p)) : Int32) 576 := by rw [ix24]; exact ob_nI (by omega) (by omega)
    have c1 : (((24 * (nI i)) + (nI a)) : Int32).toNatClampNeg = 24 * i + a := by rw [ix24]; exact nI_clamp (by omega)
    have c2 : (((24 * (nI i)) + (nI p)) : Int32).toNatClampNeg = 24 * i + p := by rw [ix24]; exact nI_clamp (by omega)
    rw [fR_find_135, if_neg o1, if_neg o1, if_neg o2, c1, c2, nar1]
    -- i is a forbear: set it, unless it is
    have setit : (i = p ∨ g_rab S (24 * i + p) = 1) → g_rab S (24 * i + a) = 0 → ∃ (x' : Int32) (S' : vR), fR_find_135 n k (i + 1) 1 a sd (nI p) (r_rab S (upd (g_rab S) (24 * i + a) 1)) = some (x', S') ∧ FI n mo fa lv R S0 S' ∧ mu n S' ≤ mu n S ∧ (x' = 0 → x1 = 0 ∧ S' = S ∧ ∀ x, i ≤ x → x < n → ClB S x a p) ∧ (¬ x' = 0 → ¬ x1 = 0 ∨ mu n S' < mu n S) := fun hh hz => by
      have hr : R i a := hE.up ha hin hp he (hh.imp id (fun e => by
        rcases h4 i p hin hp with q | q
        · rw [q] at e; exact absurd e (by decide)
        · exact q.2))
      obtain ⟨g1, g2⟩ := hF.ab hn hin ha hr hz
      obtain ⟨x', S', e1, e2, e3, e4, e5⟩ := ih (i + 1) 1 _ (by omega) g1
      exact ⟨x', S', e1, e2, by omega, fun h => absurd (e4 h).1 one_ne, fun h => Or.inr (by omega)⟩
    have skip : ClB S i a p → ∃ (x' : Int32) (S' : vR), fR_find_135 n k (i + 1) x1 a sd (nI p) S = some (x', S') ∧ FI n mo fa lv R S0 S' ∧ mu n S' ≤ mu n S ∧ (x' = 0 → x1 = 0 ∧ S' = S ∧ ∀ x, i ≤ x → x < n → ClB S x a p) ∧ (¬ x' = 0 → ¬ x1 = 0 ∨ mu n S' < mu n S) := fun hc => by
      obtain ⟨x', S', e1, e2, e3, e4, e5⟩ := ih (i + 1) x1 S (by omega) hF
      refine ⟨x', S', e1, e2, e3, fun h => ?_, e5⟩
      obtain ⟨q1, q2, q3⟩ := e4 h
      refine ⟨q1, q2, fun x h1 h2 => ?_⟩
      by_cases e : x = i
      · subst e; exact hc
      · exact q3 x (by omega) h2
    by_cases d1 : nI i = nI p
    · rw [if_pos d1]
      have d1 := nI_inj (by omega) (by omega) d1
      by_cases d2 : g_rab S (24 * i + a) = 0
      · rw [if_pos d2]; exact setit (Or.inl d1) d2
      · rw [if_neg d2]
        exact skip (fun _ => by
          rcases h4 i a hin ha with q | q
          · exact absurd q d2
          · exact q.1)
    · rw [if_neg d1]
      by_cases d3 : g_rab S (24 * i + p) = 0
      · rw [if_pos d3]
        exact skip (fun h => by
          rcases h with h | h
          · subst h; exact absurd rfl d1
          · rw [d3] at h; exact absurd h (by decide))
      · rw [if_neg d3]
        have d3 : g_rab S (24 * i + p) = 1 := by
          rcases h4 i p hin hp with q | q
          · exact absurd q d3
          · exact q.1
        by_cases d2 : g_rab S (24 * i + a) = 0
        · rw [if_pos d2]; exact setit (Or.inr d3) d2
        · rw [if_neg d2]
          exact skip (fun _ => by
            rcases h4 i a hin ha with q | q
            · exact absurd q d2
            · exact q.1)
/-- one side of an animal: what is done for the parent y -/
def sdF (n a i : Nat) (y x1 : Int32) (S : vR) : Option (Int32 × vR) := if 0 ≤ y then (if ob y 24 then none else (if g_rst S y.toNatClampNeg < g_rst S a then fR_find_135 n n 0 x1 a i y S else fR_find_135 n n 0 1 a i y (r_rst S (upd (g_rst S) a (g_rst S y.toNatClampNeg + 1))))) else some (x1, S)
theorem find_sdF {n a k i : Nat} {x1 : Int32} {S : vR} (ha : a < 24) : fR_find_65 n (k + 1) i x1 a S = (sdF n a i (if nI i = 0 then g_rmo S a else g_rfa S a) x1 S).bind (fun r => fR_find_65 n k (i + 1) r.1 a r.2) := by
  have o1 : ¬ ob (nI a) 24 := ob_nI ha (by omega)
  have c1 : (nI a).toNatClampNeg = a := nI_clamp (by omega)
  rw [fR_find_65, if_neg o1, if_neg o1, if_neg o1, if_neg o1, if_neg o1, if_neg o1, c1]
  by_cases d : nI i = 0
  · rw [if_pos d, if_pos d, sdF]
    by_cases e : 0 ≤ g_rmo S a
    · rw [if_pos e, if_pos e]
      by_cases f : ob (g_rmo S a) 24
      · rw [if_pos f, if_pos f]; rfl
      · rw [if_neg f, if_neg f, if_neg f]
        by_cases g : g_rst S (g_rmo S a).toNatClampNeg < g_rst S a
        · rw [if_pos g, if_pos g]
        · rw [if_neg g, if_neg g]
    · rw [if_neg e, if_neg e]; rfl
  · rw [if_neg d, if_neg d, sdF]
    by_cases e : 0 ≤ g_rfa S a
    · rw [if_pos e, if_pos e]
      by_cases f : ob (g_rfa S a) 24
      · rw [if_pos f, if_pos f]; rfl
      · rw [if_neg f, if_neg f, if_neg f]
        by_cases g : g_rst S (g_rfa S a).toNatClampNeg < g_rst S a
        · rw [if_pos g, if_pos g]
        · rw [if_neg g, if_neg g]
    · rw [if_neg e, if_neg e]; rfl
/-- closed for a and its parent value y -/
def ClP (n : Nat) (S : vR) (a : Nat) (y : Int32) : Prop := ∀ p, p < n → y = nI p → (g_rst S p < g_rst S a ∧ ∀ x, x < n → ClB S x a p)
theorem find_sd {n : Nat} {mo fa : Nat → Int32} {lv : Nat → Nat} {R : Nat → Nat → Prop} {S0 : vR} (hn : n ≤ 24) (hm : pOk n mo) (hf : pOk n fa) (hL : Lev n mo fa lv) (hE : FbEq n mo fa R) {a sd : Nat} (ha : a < n) {y x1 : Int32} {S : vR} (hy : y = mo a ∨ y = fa a) (hF : FI n mo fa lv R S0 S) :
    ∃ (x' : Int32) (S' : vR), sdF n a sd y x1 S = some (x', S') ∧ FI n mo fa lv R S0 S' ∧ mu n S' ≤ mu n S ∧ (x' = 0 → x1 = 0 ∧ S' = S ∧ ClP n S a y) ∧ (¬ x' = 0 → ¬ x1 = 0 ∨ mu n S' < mu n S) := by
  have hl : ∀ a, a < n → lv a < n := fun a ha => hL.lt hn hm hf ha
  have hyv : y = -1 ∨ ∃ p, p < n ∧ y = nI p := by
    rcases hy with e | e
    · rw [e]; exact hm a ha
    · rw [e]; exact hf a ha
  rw [sdF]
  rcases hyv with e | ⟨p, hp, e⟩
  · rw [if_neg (by rw [e]; decide)]
    exact ⟨x1, S, rfl, hF, Nat.le_refl _, fun h => ⟨h, rfl, fun p hp q => by
      rw [e] at q
      have h0 := nI_pos (n := p) (by omega)
      rw [← q] at h0
      exact absurd (by decide) h0⟩, fun h => Or.inl h⟩
  · have he : mo a = nI p ∨ fa a = nI p := hy.imp (fun h => by rw [← h, e]) (fun h => by rw [← h, e])
    rw [e, if_pos (nI_pos' (by omega)), if_neg (ob_nI (by omega) (by omega)), nI_clamp (by omega)]
    obtain ⟨va, hva, ea⟩ := hF.2.2.1 a ha
    obtain ⟨vp, hvp, ep⟩ := hF.2.2.1 p hp
    have hlp := par_lt hn hL ha hp he
    have hla := hl a ha
    by_cases c : g_rst S p < g_rst S a
    · rw [if_pos c]
      obtain ⟨x', S', e1, e2, e3, e4, e5⟩ := find_x hn hE (sd := sd) ha hp he n 0 x1 S (by omega) hF
      refine ⟨x', S', e1, e2, e3, fun h => ?_, e5⟩
      obtain ⟨q1, q2, q3⟩ := e4 h
      refine ⟨q1, q2, fun p' hp' ep' => ?_⟩
      have : p' = p := (nI_inj (by omega) (by omega) ep').symm
      subst this
      exact ⟨c, fun x hx => q3 x (Nat.zero_le _) hx⟩
    · rw [if_neg c]
      rw [ep, ea, nI_ltI (by omega) (by omega)] at c
      rw [ep, nI_1]
      obtain ⟨g1, g2⟩ := hF.st hn hl (v := vp + 1) ha ea (by omega) (by omega)
      obtain ⟨x', S', e1, e2, e3, e4, e5⟩ := find_x hn hE (sd := sd) ha hp he n 0 1 _ (by omega) g1
      exact ⟨x', S', e1, e2, by omega, fun h => absurd (e4 h).1 one_ne, fun h => Or.inr (by omega)⟩
theorem find_a {n : Nat} {mo fa : Nat → Int32} {lv : Nat → Nat} {R : Nat → Nat → Prop} {S0 : vR} (hn : n ≤ 24) (hm : pOk n mo) (hf : pOk n fa) (hL : Lev n mo fa lv) (hE : FbEq n mo fa R) {a : Nat} (ha : a < n) {x1 : Int32} {S : vR} (hF : FI n mo fa lv R S0 S) :
    ∃ (x' : Int32) (S' : vR), fR_find_65 n 2 0 x1 a S = some (x', S') ∧ FI n mo fa lv R S0 S' ∧ mu n S' ≤ mu n S ∧ (x' = 0 → x1 = 0 ∧ S' = S ∧ ClP n S a (mo a) ∧ ClP n S a (fa a)) ∧ (¬ x' = 0 → ¬ x1 = 0 ∨ mu n S' < mu n S) := by
  rw [find_sdF (by omega), if_pos (by decide), hF.1]
  obtain ⟨u1, S1, a1, a2, a3, a4, a5⟩ := find_sd hn hm hf hL hE (sd := 0) ha (x1 := x1) (Or.inl rfl) hF
  rw [a1]
  show ∃ (x' : Int32) (S' : vR), fR_find_65 n 1 1 u1 a S1 = some (x', S') ∧ _
  rw [find_sdF (by omega), if_neg (by decide), a2.2.1]
  obtain ⟨u2, S2, b1, b2, b3, b4, b5⟩ := find_sd hn hm hf hL hE (sd := 1) ha (x1 := u1) (Or.inr rfl) a2
  rw [b1]
  refine ⟨u2, S2, rfl, b2, by omega, fun h => ?_, fun h => ?_⟩
  · obtain ⟨q1, q2, q3⟩ := b4 h
    obtain ⟨r1, r2, r3⟩ := a4 q1
    subst r2
    exact ⟨r1, q2, r3, q3⟩
  · rcases b5 h with q | q
    · rcases a5 q with r | r
      · exact Or.inl r
      · exact Or.inr (by omega)
    · exact Or.inr (by omega)
theorem find_as {n : Nat} {mo fa : Nat → Int32} {lv : Nat → Nat} {R : Nat → Nat → Prop} {S0 : vR} (hn : n ≤ 24) (hm : pOk n mo) (hf : pOk n fa) (hL : Lev n mo fa lv) (hE : FbEq n mo fa R) : ∀ (k i : Nat) (x1 : Int32) (S : vR), i + k = n → FI n mo fa lv R S0 S →
    ∃ (x' : Int32) (S' : vR), fR_find_55 n k i x1 S = some (x', S') ∧ FI n mo fa lv R S0 S' ∧ mu n S' ≤ mu n S ∧ (x' = 0 → x1 = 0 ∧ S' = S ∧ ∀ a, i ≤ a → a < n → ClP n S a (mo a) ∧ ClP n S a (fa a)) ∧ (¬ x' = 0 → ¬ x1 = 0 ∨ mu n S' < mu n S) := by
  intro k
  induction k with
  | zero =>
    intro i x1 S hi hF
    exact ⟨x1, S, rfl, hF, Nat.le_refl _, fun h => ⟨h, rfl, fun x h1 h2 => by omega⟩, fun h => Or.inl h⟩
  | succ k ih =>
    intro i x1 S hi hF
    obtain ⟨u1, S1, a1, a2, a3, a4, a5⟩ := find_a hn hm hf hL hE (a := i) (by omega) (x1 := x1) hF
    rw [fR_find_55, a1]
    obtain ⟨u2, S2, b1, b2, b3, b4, b5⟩ := ih (i + 1) u1 S1 (by omega) a2
    refine ⟨u2, S2, b1, b2, by omega, fun h => ?_, fun h => ?_⟩
    · obtain ⟨q1, q2, q3⟩ := b4 h
      obtain ⟨r1, r2, r3⟩ := a4 q1
      subst r2
      refine ⟨r1, q2, fun a h1 h2 => ?_⟩
      by_cases e : a = i
      · subst e; exact r3
      · exact q3 a (by omega) h2
    · rcases b5 h with q | q
      · rcases a5 q with r | r
        · exact Or.inl r
        · exact Or.inr (by omega)
      · exact Or.inr (by omega)
/-- the loop until nothing more comes -/
theorem find_w {n : Nat} {mo fa : Nat → Int32} {lv : Nat → Nat} {R : Nat → Nat → Prop} {S0 : vR} (hn : n ≤ 24) (hm : pOk n mo) (hf : pOk n fa) (hL : Lev n mo fa lv) (hE : FbEq n mo fa R) : ∀ (k : Nat) (x1 : Int32) (S : vR), FI n mo fa lv R S0 S → mu n S + 1 < k → (x1 = 0 → ∀ a, a < n → ClP n S a (mo a) ∧ ClP n S a (fa a)) →
    ∃ S' : vR, fR_find_47 n k x1 S = some S' ∧ FI n mo fa lv R S0 S' ∧ ∀ a, a < n → ClP n S' a (mo a) ∧ ClP n S' a (fa a) := by
  intro k
  induction k with
  | zero => intro x1 S _ h; omega
  | succ k ih =>
    intro x1 S hF hk hx
    rw [fR_find_47]
    by_cases c : x1 = 0
    · rw [if_pos c]
      exact ⟨S, rfl, hF, hx c⟩
    · rw [if_neg c]
      obtain ⟨u1, S1, a1, a2, a3, a4, a5⟩ := find_as hn hm hf hL hE n 0 0 S (by omega) hF
      rw [a1]
      by_cases d : u1 = 0
      · obtain ⟨q1, q2, q3⟩ := a4 d
        subst q2
        obtain ⟨k, rfl⟩ : ∃ k', k = k' + 1 := ⟨k - 1, by omega⟩
        refine ⟨S1, ?_, a2, fun a ha => q3 a (Nat.zero_le _) ha⟩
        show fR_find_47 n (k + 1) u1 S1 = _
        rw [fR_find_47, if_pos d]
      · have hlt : mu n S1 < mu n S := by
          rcases a5 d with q | q
          · exact absurd rfl q
          · exact q
        exact ih u1 S1 a2 (by omega) (fun h => absurd h d)
