-- ===== parents =====
theorem m1_ne {p : Nat} (hp : p < 2 ^ 31) : ¬ (-1 : Int32) = nI p := fun e => by
  have h0 := nI_pos hp
  rw [← e] at h0
  exact absurd (by decide) h0
theorem lt_m1 {n c : Nat} {P : vP} (hc : c < 2 ^ 31) : fP_leadsTo n P (-1) (nI c) = 0 := by
  rw [fP_leadsTo, if_neg (m1_ne hc), fP_hasForbear, has_m1, if_pos rfl, if_pos rfl]
theorem lt_nI {n p c : Nat} {P : vP} (hn : n ≤ 24) (hp : p < n) (hc : c < n) : (fP_leadsTo n P (nI p) (nI c) = 0 ∧ ¬ (c = p ∨ Bt P c p)) ∨ (fP_leadsTo n P (nI p) (nI c) = 1 ∧ (c = p ∨ Bt P c p)) := by
  rw [fP_leadsTo]
  by_cases e : nI p = nI c
  · rw [if_pos e]
    exact Or.inr ⟨rfl, Or.inl (nI_inj (by omega) (by omega) e).symm⟩
  · rw [if_neg e]
    rcases hasF (S := P) hn hp hc with ⟨h1, h2⟩ | ⟨h1, h2⟩
    · rw [h1, if_pos rfl]
      refine Or.inl ⟨rfl, fun h => ?_⟩
      rcases h with h | h
      · subst h; exact e rfl
      · exact h2 h
    · rw [h1, if_neg one_ne]
      exact Or.inr ⟨rfl, Or.inr h2⟩
def AbOk (n : Nat) (T : vR) (P : vP) : Prop := ∀ x a, x < n → a < n → (g_rab T (24 * x + a) = 0 ∧ ¬ Bt P x a) ∨ (g_rab T (24 * x + a) = 1 ∧ Bt P x a)
theorem rleads {n c : Nat} {P : vP} {T : vR} {y : Int32} (hn : n ≤ 24) (hab : AbOk n T P) (hc : c < n) (hy : y = -1 ∨ ∃ p, p < n ∧ y = nI p) : fR_leads n T (nI c) y = some (if fP_leadsTo n P y (nI c) = 0 then -1 else y) := by
  rcases hy with rfl | ⟨p, hp, rfl⟩
  · rw [fR_leads, if_pos (by decide), lt_m1 (by omega), if_pos rfl]
  · rw [fR_leads, if_neg (nI_pos (by omega)), ix24, if_neg (ob_nI (by omega) (by omega)), nI_clamp (by omega)]
    rcases lt_nI (P := P) hn hp hc with ⟨h1, h2⟩ | ⟨h1, h2⟩
    · rw [h1, if_pos rfl, if_neg (fun e => h2 (Or.inl (nI_inj (by omega) (by omega) e).symm))]
      rcases hab c p hc hp with ⟨g1, g2⟩ | ⟨g1, g2⟩
      · rw [if_pos g1]
      · exact absurd (Or.inr g2) h2
    · rw [h1, if_neg one_ne]
      by_cases e : nI p = nI c
      · rw [if_pos e]
      · rw [if_neg e]
        rcases hab c p hc hp with ⟨g1, g2⟩ | ⟨g1, g2⟩
        · rcases h2 with h | h
          · subst h; exact absurd rfl e
          · exact absurd h g2
        · rw [if_neg (by rw [g1]; decide)]
theorem leadsTo_fb {n : Nat} {P Q : vP} {y z : Int32} (h : g_fb P = g_fb Q) : fP_leadsTo n P y z = fP_leadsTo n Q y z := by
  rw [fP_leadsTo, fP_leadsTo, fP_hasForbear, fP_hasForbear, h]
theorem ring_loop {n c : Nat} {P0 : vP} {T0 : vR} {lv : Nat → Nat} {x2 x3 y2 : Int32} (hn : n ≤ 24) (hm : pOk n (g_mo P0)) (hf : pOk n (g_fa P0)) (hL : Lev n (g_mo P0) (g_fa P0) lv) (hE : FbEq n (g_mo P0) (g_fa P0) (Bt P0)) (hab : AbOk n T0 P0) (em : g_mo P0 = g_rmo T0) (ef : g_fa P0 = g_rfa T0) (hc : c < n) :
    ∀ (d k k' i s : Nat) (rr ri : Nat → Int32) (rl : Int32), lv s ≤ d → i + k = 25 → i + lv s ≤ 24 → d + 1 ≤ k' → s < n → (c = s ∨ Bt P0 c s) → (∀ j, j < i → rr j = ri j) →
    ∃ (rr' ri' : Nat → Int32) (r : Nat), fP_keepRing_31 n k i (nI c) x2 x3 (nI s) (p_rl (p_rr P0 rr) rl) = p_rl (p_rr P0 rr') (nI r) ∧ fR_tellRing_14 n k' (nI c) y2 (nI s) (r_rrg (r_rri T0 ri) (nI i)) = some (r_rrg (r_rri T0 ri') (nI r)) ∧ r ≤ 25 ∧ ∀ j, j < r → rr' j = ri' j := by
  intro d
  induction d with
  | zero =>
    intro k k' i s rr ri rl hd hk hi hk' hs hr hj
    have hsc : s = c := by
      rcases hr with h | h
      · exact h.symm
      · have := hE.lv hn hL (lv s + 1) s c hs hc (by omega) h
        omega
    subst hsc
    obtain ⟨k, rfl⟩ : ∃ x, k = x + 1 := ⟨k - 1, by omega⟩
    obtain ⟨k', rfl⟩ : ∃ x, k' = x + 1 := ⟨k' - 1, by omega⟩
    refine ⟨upd rr i (nI s), upd ri i (nI s), i + 1, ?_, ?_, by omega, ?_⟩
    · rw [fP_keepRing_31, has_nI hn hs, if_neg one_ne, if_pos rfl, nI_clamp (by omega), nI_1]
    · rw [fR_tellRing_14, if_pos rfl]
      show (if ob (nI i) 30 then none else some (r_rrg (r_rri T0 (upd ri (nI i).toNatClampNeg (nI s))) (nI i + 1))) = _
      rw [if_neg (ob_nI (by omega) (by omega)), nI_clamp (by omega), nI_1]
    · intro j hj2
      by_cases e : j = i
      · rw [e, pk_us, pk_us]
      · rw [pk_un e, pk_un e]; exact hj j (by omega)
  | succ d ih =>
    intro k k' i s rr ri rl hd hk hi hk' hs hr hj
    obtain ⟨k, rfl⟩ : ∃ x, k = x + 1 := ⟨k - 1, by omega⟩
    obtain ⟨k', rfl⟩ : ∃ x, k' = x + 1 := ⟨k' - 1, by omega⟩
    have hj' : ∀ j, j < i + 1 → upd rr i (nI s) j = upd ri i (nI s) j := fun j hj2 => by
      by_cases e : j = i
      · rw [e, pk_us, pk_us]
      · rw [pk_un e, pk_un e]; exact hj j (by omega)
    by_cases hsc : s = c
    · subst hsc
      refine ⟨upd rr i (nI s), upd ri i (nI s), i + 1, ?_, ?_, by omega, hj'⟩
      · rw [fP_keepRing_31, has_nI hn hs, if_neg one_ne, if_pos rfl, nI_clamp (by omega), nI_1]
      · rw [fR_tellRing_14, if_pos rfl]
        show (if ob (nI i) 30 then none else some (r_rrg (r_rri T0 (upd ri (nI i).toNatClampNeg (nI s))) (nI i + 1))) = _
        rw [if_neg (ob_nI (by omega) (by omega)), nI_clamp (by omega), nI_1]
    · have hb : Bt P0 c s := by
        rcases hr with h | h
        · exact absurd h.symm hsc
        · exact h
      have hne : ¬ nI s = nI c := fun e => hsc (nI_inj (by omega) (by omega) e)
      -- the next one
      have nxt : ∃ s', s' < n ∧ lv s' < lv s ∧ (c = s' ∨ Bt P0 c s') ∧ ((fP_leadsTo n P0 (g_mo P0 s) (nI c) = 0 ∧ g_fa P0 s = nI s') ∨ (¬ fP_leadsTo n P0 (g_mo P0 s) (nI c) = 0 ∧ g_mo P0 s = nI s')) := by
        by_cases c1 : fP_leadsTo n P0 (g_mo P0 s) (nI c) = 0
        · rcases (hE s hs c hc).mp hb with ⟨q, h1, h2, h3⟩ | ⟨q, h1, h2, h3⟩
          · rw [h2] at c1
            rcases lt_nI (P := P0) hn h1 hc with ⟨g1, g2⟩ | ⟨g1, g2⟩
            · exact absurd h3 g2
            · rw [g1] at c1; exact absurd c1 one_ne
          · exact ⟨q, h1, par_lt hn hL hs h1 (Or.inr h2), h3, Or.inl ⟨c1, h2⟩⟩
        · rcases hm s hs with e | ⟨q, h1, h2⟩
          · rw [e, lt_m1 (by omega)] at c1; exact absurd rfl c1
          · refine ⟨q, h1, par_lt hn hL hs h1 (Or.inl h2), ?_, Or.inr ⟨c1, h2⟩⟩
            rw [h2] at c1
            rcases lt_nI (P := P0) hn h1 hc with ⟨g1, g2⟩ | ⟨g1, g2⟩
            · exact absurd g1 c1
            · exact g2
      obtain ⟨s', n1, n2, n3, n4⟩ := nxt
      obtain ⟨rr', ri', r, g1, g2, g3, g4⟩ := ih k k' (i + 1) s' (upd rr i (nI s)) (upd ri i (nI s)) (nI (i + 1)) (by omega) (by omega) (by omega) (by omega) n1 n3 hj'
      refine ⟨rr', ri', r, ?_, ?_, g3, g4⟩
      · rw [fP_keepRing_31, has_nI hn hs, if_neg one_ne, if_neg hne, nI_clamp (n := i) (by omega), nI_clamp (n := s) (by omega), nI_1]
        show (if fP_leadsTo n (p_rl (p_rr P0 (upd rr i (nI s))) (nI (i + 1))) (g_mo P0 s) (nI c) = 0 then fP_keepRing_31 n k (i + 1) (nI c) x2 x3 (g_fa P0 s) (p_rl (p_rr P0 (upd rr i (nI s))) (nI (i + 1))) else fP_keepRing_31 n k (i + 1) (nI c) x2 x3 (g_mo P0 s) (p_rl (p_rr P0 (upd rr i (nI s))) (nI (i + 1)))) = _
        rw [leadsTo_fb (P := p_rl (p_rr P0 (upd rr i (nI s))) (nI (i + 1))) (Q := P0) rfl]
        rcases n4 with ⟨q1, q2⟩ | ⟨q1, q2⟩
        · rw [if_pos q1, q2]; exact g1
        · rw [if_neg q1, q2]; exact g1
      · have o : ¬ ob (nI s) 24 := ob_nI (by omega) (by omega)
        rw [fR_tellRing_14, if_neg hne]
        simp only [if_neg o]
        show (if ob (nI i) 30 then none else ((fR_leads n (r_rrg (r_rri T0 (upd ri (nI i).toNatClampNeg (nI s))) (nI i + 1)) (nI c) (g_rmo T0 (nI s).toNatClampNeg)).bind (fun r47 => (if r47 < 0 then fR_tellRing_14 n k' (nI c) y2 (g_rfa T0 (nI s).toNatClampNeg) (r_rrg (r_rri T0 (upd ri (nI i).toNatClampNeg (nI s))) (nI i + 1)) else fR_tellRing_14 n k' (nI c) y2 r47 (r_rrg (r_rri T0 (upd ri (nI i).toNatClampNeg (nI s))) (nI i + 1)))))) = _
        rw [if_neg (ob_nI (by omega) (by omega)), nI_clamp (n := i) (by omega), nI_clamp (n := s) (by omega), nI_1, rleads (P := P0) (T := r_rrg (r_rri T0 (upd ri i (nI s))) (nI (i + 1))) (y := g_rmo T0 s) hn hab hc (by rw [← em]; exact hm s hs), bs, ← em, ← ef]
        rcases n4 with ⟨q1, q2⟩ | ⟨q1, q2⟩
        · rw [if_pos q1, if_pos (by decide), q2]; exact g2
        · rw [if_neg q1, q2, if_neg (nI_pos (by omega))]; exact g2
/-- the ring, kept and told -/
theorem ring_all {n c s : Nat} {P0 : vP} {T0 : vR} {lv : Nat → Nat} {m f : Int32} (hn : n ≤ 24) (hm : pOk n (g_mo P0)) (hf : pOk n (g_fa P0)) (hL : Lev n (g_mo P0) (g_fa P0) lv) (hE : FbEq n (g_mo P0) (g_fa P0) (Bt P0)) (hab : AbOk n T0 P0) (em : g_mo P0 = g_rmo T0) (ef : g_fa P0 = g_rfa T0) (hc : c < n) (hs : s < n) (hr : c = s ∨ Bt P0 c s) (hsel : (if fP_leadsTo n P0 m (nI c) = 0 then f else m) = nI s) :
    ∃ (rr' ri' : Nat → Int32) (r : Nat), fP_keepRing n P0 (nI c) m f = p_rl (p_rr P0 rr') (nI r) ∧ fR_tellRing n T0 (nI c) (nI s) = some (r_rrg (r_rri T0 ri') (nI r)) ∧ r ≤ 25 ∧ ∀ j, j < r → rr' j = ri' j := by
  have hls := hL.lt hn hm hf hs
  obtain ⟨rr', ri', r, g1, g2, g3, g4⟩ := ring_loop (x2 := m) (x3 := f) (y2 := nI s) hn hm hf hL hE hab em ef hc (lv s) 24 40 1 s (upd (g_rr P0) 0 (nI c)) (upd (g_rri T0) 0 (nI c)) 1 (by omega) (by omega) (by omega) (by omega) hs hr (fun j hj => by
    have : j = 0 := by omega
    subst this
    rw [pk_us, pk_us])
  have z0 : (0 : Int32).toNatClampNeg = 0 := by decide
  refine ⟨rr', ri', r, ?_, ?_, g3, g4⟩
  · rw [fP_keepRing, z0, show 25 - 1 = 24 from rfl, leadsTo_fb (P := p_rl (p_rr P0 (upd (g_rr P0) 0 (nI c))) 1) (Q := P0) rfl]
    by_cases q : fP_leadsTo n P0 m (nI c) = 0
    · rw [if_pos q] at hsel ⊢
      rw [hsel] at g1 ⊢
      exact g1
    · rw [if_neg q] at hsel ⊢
      rw [hsel] at g1 ⊢
      exact g1
  · rw [fR_tellRing, z0]
    exact g2
