-- ===== lost =====
theorem neg_m1 {n : Nat} {y : Int32} (hn : n ≤ 24) (hy : y = -1 ∨ ∃ p, p < n ∧ y = nI p) : (0 ≤ y ∧ ¬ y = -1) ∨ (¬ 0 ≤ y ∧ y = -1) := by
  rcases hy with rfl | ⟨p, hp, rfl⟩
  · exact Or.inr ⟨by decide, rfl⟩
  · refine Or.inl ⟨nI_pos' (by omega), fun e => ?_⟩
    have h0 := nI_pos (n := p) (by omega)
    rw [e] at h0
    exact absurd (by decide) h0
theorem founder_eq {n p : Nat} {P : vP} {T : vR} (hn : n ≤ 24) (hm : pOk n (g_rmo T)) (hf : pOk n (g_rfa T)) (em : g_mo P = g_rmo T) (ef : g_fa P = g_rfa T) (hp : p < n) : fR_isFounder n T (nI p) = some (fP_isFounder n P (nI p)) := by
  have o : ¬ ob (nI p) 24 := ob_nI (by omega) (by omega)
  rw [fR_isFounder, if_neg o, if_neg o, fP_isFounder, has_nI hn hp, if_neg one_ne, nI_clamp (by omega), em, ef]
  rcases neg_m1 hn (hm p hp) with ⟨h1, h2⟩ | ⟨h1, h2⟩
  · rw [if_pos h1, if_neg h2]
  · rw [if_neg h1, if_pos h2]
    rcases neg_m1 hn (hf p hp) with ⟨h1, h2⟩ | ⟨h1, h2⟩
    · rw [if_pos h1, if_neg h2]
    · rw [if_neg h1, if_pos h2]
theorem lost_in {n : Nat} {S : vK} {T : vR} (hn : n ≤ 24) (hg : g_dd S = g_rgo T) (hab : ∀ x a, x < n → a < n → (g_rab T (24 * x + a) = 0 ∧ ¬ Bt (g_P S) x a) ∨ (g_rab T (24 * x + a) = 1 ∧ Bt (g_P S) x a)) {a : Nat} (ha : a < n) {x1 x2 : Int32} : ∀ (k i : Nat) (x4 : Int32), i + k = n → (x4 = 0 ∨ x4 = 1) → fR_lost_49 n k i x1 x2 a x4 T = some (if x4 = 0 then 0 else fK_isLost_32 n S k i (nI a), T) := by
  intro k
  induction k with
  | zero =>
    intro i x4 hi hx
    rw [fR_lost_49, fK_isLost_32]
    rcases hx with rfl | rfl <;> rfl
  | succ k ih =>
    intro i x4 hi hx
    rw [fR_lost_49]
    rcases hx with rfl | rfl
    · rw [if_pos rfl, if_pos rfl, ih (i + 1) 0 (by omega) (Or.inl rfl), if_pos rfl]
    · rw [if_neg one_ne, if_neg one_ne, ix24, if_neg (ob_nI (by omega) (by omega)), nI_clamp (by omega), nI_clamp (by omega), fK_isLost_32, nI_clamp (by omega), hg]
      rcases hab a i ha (by omega) with ⟨h1, h2⟩ | ⟨h1, h2⟩
      · rw [if_pos h1, ih (i + 1) 1 (by omega) (Or.inr rfl), if_neg one_ne]
        rcases hasF (S := g_P S) hn (a := i) (x := a) (by omega) ha with ⟨g1, g2⟩ | ⟨g1, g2⟩
        · rw [g1, if_pos rfl, ite_self]
        · exact absurd g2 h2
      · rw [if_neg (by rw [h1]; decide)]
        rcases hasF (S := g_P S) hn (a := i) (x := a) (by omega) ha with ⟨g1, g2⟩ | ⟨g1, g2⟩
        · exact absurd h2 g2
        · rw [g1, if_neg one_ne]
          by_cases c : g_rgo T i = 0
          · rw [if_pos c, if_pos c, ih (i + 1) 0 (by omega) (Or.inl rfl), if_pos rfl]
          · rw [if_neg c, if_neg c, ih (i + 1) 1 (by omega) (Or.inr rfl), if_neg one_ne]
theorem isLost_at {n i : Nat} {S : vK} (hn : n ≤ 24) (hi : i < n) : fK_isLost n S (nI i) = (if fP_isFounder n (g_P S) (nI i) = 0 then 0 else (if g_dd S i = 0 then 0 else fK_isLost_32 n S n 0 (nI i))) := by
  rw [fK_isLost, is_eq, is_nI hn hi, if_neg one_ne, nI_clamp (by omega)]
theorem lost_out {n K : Nat} {S : vK} {T : vR} (hn : n ≤ 24) (hm : pOk n (g_rmo T)) (hf : pOk n (g_rfa T)) (em : g_mo (g_P S) = g_rmo T) (ef : g_fa (g_P S) = g_rfa T) (hg : g_dd S = g_rgo T) (hab : ∀ x a, x < n → a < n → (g_rab T (24 * x + a) = 0 ∧ ¬ Bt (g_P S) x a) ∨ (g_rab T (24 * x + a) = 1 ∧ Bt (g_P S) x a)) (hK : K < 2 ^ 31) : ∀ (k i r : Nat), i + k = n → r ≤ i → r ≤ K → fR_lost_14 n k i (nI K) (nI (K - r)) T = some (fK_lost_4 n S k i (nI K) (nI r), T) := by
  intro k
  induction k with
  | zero => intro i r _ _ _; rfl
  | succ k ih =>
    intro i r hi hr hrK
    have hin : i < n := by omega
    rw [fR_lost_14, founder_eq hn hm hf em ef hin, bs, fK_lost_4, isLost_at hn hin, nI_clamp (by omega), ← hg]
    rw [lost_in hn hg hab hin n 0 0 (by omega) (Or.inl rfl), lost_in hn hg hab hin n 0 1 (by omega) (Or.inr rfl), if_pos rfl, if_neg one_ne, bs, bs, if_pos rfl]
    have cont : ∀ z : Int32, (if z = 0 then fR_lost_14 n k (i + 1) (nI K) (nI (K - r)) T else (if nI (K - r) = 0 then some (nI i, T) else fR_lost_14 n k (i + 1) (nI K) (nI (K - r) + -1) T)) = some (if z = 0 then fK_lost_4 n S k (i + 1) (nI K) (nI r) else (if nI r = nI K then nI i else fK_lost_4 n S k (i + 1) (nI K) (nI r + 1)), T) := fun z => by
      by_cases c : z = 0
      · rw [if_pos c, if_pos c]
        exact ih (i + 1) r (by omega) (by omega) hrK
      · rw [if_neg c, if_neg c]
        by_cases d : r = K
        · subst d
          rw [Nat.sub_self, if_pos nI_0, if_pos rfl]
        · rw [if_neg (nI_ne0 (by omega) (by omega)), if_neg (fun e => d (nI_inj (by omega) hK e)), sb_m1 (by omega), nI_1, show K - r - 1 = K - (r + 1) by omega]
          exact ih (i + 1) (r + 1) (by omega) (by omega) (by omega)
    by_cases c1 : fP_isFounder n (g_P S) (nI i) = 0
    · rw [if_pos c1, if_pos c1, if_pos rfl]
      exact ih (i + 1) r (by omega) (by omega) hrK
    · rw [if_neg c1, if_neg c1]
      by_cases c2 : g_dd S i = 0
      · rw [if_pos c2, if_pos c2, if_pos rfl]
        exact ih (i + 1) r (by omega) (by omega) hrK
      · rw [if_neg c2, if_neg c2]
        exact cont _
theorem lost_neg {n : Nat} {S : vK} {x1 : Int32} (h : x1 < 0) : ∀ (k i r : Nat), r + k < 1000 → fK_lost_4 n S k i x1 (nI r) = -1 := by
  intro k
  induction k with
  | zero => intro i r _; rfl
  | succ k ih =>
    intro i r hr
    have hne : ¬ nI r = x1 := fun e => nI_pos (n := r) (by omega) (by rw [e]; exact h)
    rw [fK_lost_4, ih (i + 1) r (by omega), nI_1, ih (i + 1) (r + 1) (by omega), if_neg hne, ite_self]
theorem rel_lost {n : Nat} {S : vK} {T : vR} (hR : Rel n S T) (a1 : Int32) : ∃ v : Int32 × vR, fR_lost n T a1 = some v ∧ v.1 = fK_lost n S a1 ∧ Rel n S v.2 := by
  have hn := hR.1
  rw [fR_lost, fK_lost]
  by_cases c : a1 < 0
  · have c2 : ¬ 0 ≤ a1 := by
      rw [Int32.le_iff_toInt_le]
      rw [Int32.lt_iff_toInt_lt] at c
      omega
    rw [if_neg c2]
    exact ⟨_, rfl, (lost_neg c n 0 0 (by omega)).symm, hR⟩
  · obtain ⟨K, hK, rfl⟩ := nI_of c
    rw [if_pos (nI_pos' hK)]
    obtain ⟨T', lv, hP, e1, em, ef, eg, e2, e4, e5⟩ := hR.find'
    obtain ⟨-, -, -, hdd, hm, hf, -⟩ := id e5
    have q1 := hP.1
    have q2 := hP.2.1
    rw [hm] at q1
    rw [hf] at q2
    rw [e1, bs]
    have := lost_out hn q1 q2 hm hf hdd e2 hK n 0 0 (by omega) (by omega) (by omega)
    exact ⟨_, this, fst_mk _ _, e5⟩
-- ===== share =====
def rv (κ : Nat → Int64) (y : Int32) : Int64 := if 0 ≤ y then κ y.toNatClampNeg else 0
theorem share_step {n k i a : Nat} {x1 x2 q : Int32} {T : vR} (hn : n ≤ 24) (hm : pOk n (g_rmo T)) (hf : pOk n (g_rfa T)) (ha : a < n) (hi : i < n) (e : g_rro T i = nI a) : fR_share_48 n (k + 1) i x1 x2 q T = fR_share_48 n k (i + 1) x1 x2 q (r_rki T (vp_updL (g_rki T) a (if nI a = x2 then 1125899906842624 else (rv (g_rki T) (g_rmo T a) + rv (g_rki T) (g_rfa T a)) / 2))) := by
  have o1 : ¬ ob (nI a) 24 := ob_nI (by omega) (by omega)
  have o2 : ¬ ob (nI a) 576 := ob_nI (by omega) (by omega)
  rw [fR_share_48, nI_clamp (n := i) (by omega), e]
  simp only [if_neg o1, if_neg o2]
  rw [nI_clamp (n := a) (by omega)]
  have op : ∀ y, (y = -1 ∨ ∃ p, p < n ∧ y = nI p) → 0 ≤ y → ¬ ob y 576 := fun y hy h0 => by
    rcases hy with rfl | ⟨p, hp, rfl⟩
    · exact absurd h0 (by decide)
    · exact ob_nI (by omega) (by omega)
  by_cases c1 : 0 ≤ g_rmo T a
  · rw [if_pos c1, if_neg (op _ (hm a ha) c1), rv, if_pos c1]
    by_cases c2 : 0 ≤ g_rfa T a
    · rw [if_pos c2, if_neg (op _ (hf a ha) c2), rv, if_pos c2]
      by_cases c3 : nI a = x2
      · rw [if_pos c3, if_pos c3]
      · rw [if_neg c3, if_neg c3]
    · rw [if_neg c2, rv, if_neg c2]
      by_cases c3 : nI a = x2
      · rw [if_pos c3, if_pos c3]
      · rw [if_neg c3, if_neg c3]
  · rw [if_neg c1, rv, if_neg c1]
    by_cases c2 : 0 ≤ g_rfa T a
    · rw [if_pos c2, if_neg (op _ (hf a ha) c2), rv, if_pos c2]
      by_cases c3 : nI a = x2
      · rw [if_pos c3, if_pos c3]
      · rw [if_neg c3, if_neg c3]
    · rw [if_neg c2, rv, if_neg c2]
      by_cases c3 : nI a = x2
      · rw [if_pos c3, if_pos c3]
      · rw [if_neg c3, if_neg c3]
theorem shareRow_nI {n p : Nat} {P : vP} (hn : n ≤ 24) (hp : p < n) : fP_shareRow n P (nI p) = g_sh P p := by rw [fP_shareRow, has_nI hn hp, if_neg one_ne, nI_clamp (by omega)]
theorem shareRow_sc {n i d : Nat} {lv : Nat → Nat} {P : vP} {κ : Nat → Int64} {y : Int32} (hn : n ≤ 24) (hs : ∀ b, b < n → ps lv n b < i → Sc d (g_sh P b) (κ b)) (hy : Bef n lv i y) : Sc d (fP_shareRow n P y) (rv κ y) := by
  rcases hy with rfl | ⟨p, h1, h2, rfl⟩
  · rw [fP_shareRow, has_m1, if_pos rfl, rv, if_neg (by decide)]
    exact Sc.zero d
  · rw [shareRow_nI hn h1, rv, if_pos (nI_pos' (by omega)), nI_clamp (by omega)]
    exact hs p h1 h2
theorem share_loop {n : Nat} {lv : Nat → Nat} {mo fa : Nat → Int32} (hn : n ≤ 24) (hm : pOk n mo) (hf : pOk n fa) (hL : Lev n mo fa lv) {a : Nat} (ha : a < n) {x2 q : Int32} : ∀ (k i : Nat) (P : vP) (T : vR), i + k = n → g_mo P = mo → g_fa P = fa → g_rmo T = mo → g_rfa T = fa → Ord n lv n (g_sq P) → Ord n lv n (g_rro T) → (∀ b, b < n → ps lv n b < i → Sc (30 - i) (g_sh P b) (g_rki T b)) →
    ∃ sh κ, fP_shareOf_2 n k i (nI a) x2 P = (sh a, p_sh P sh) ∧ fR_share_48 n k i (nI a) x2 q T = (fR_lowest (κ a) 1125899906842624 q).bind (fun r => some (r, r_rki T κ)) ∧ Sc 6 (sh a) (κ a) := by
  intro k
  induction k with
  | zero =>
    intro i P T hi _ _ _ _ _ _ hs
    have : i = n := by omega
    subst this
    refine ⟨g_sh P, g_rki T, by rw [fP_shareOf_2, shareRow_nI hn ha], ?_, (hs a ha (ps_lt ha)).weak (by omega)⟩
    rw [fR_share_48, if_neg (ob_nI (by omega) (by omega)), nI_clamp (by omega)]
  | succ k ih =>
    intro i P T hi em ef rm rf hO hQ hs
    obtain ⟨b, hb, pb, eb⟩ := hO i (by omega)
    have eb2 : g_rro T i = nI b := by rw [← hO.same hQ (by omega), eb]
    rw [share_step hn (by rw [rm]; exact hm) (by rw [rf]; exact hf) hb (by omega) eb2, rm, rf]
    rw [fP_shareOf_2, inOrder_at hn (by omega), eb, has_nI hn hb, if_neg one_ne, motherOf_nI hn hb, fatherOf_nI hn hb, nI_clamp (by omega), em, ef]
    obtain ⟨b1, b2⟩ := par_bef hn hm hf hL hb
    rw [pb] at b1 b2
    have ed : 30 - i = 30 - (i + 1) + 1 := by omega
    have go : ∀ x y : Int64, Sc (30 - (i + 1)) x y → ∃ sh κ, fP_shareOf_2 n k (i + 1) (nI a) x2 (p_sh P (vp_updL (g_sh P) b x)) = (sh a, p_sh P sh) ∧ fR_share_48 n k (i + 1) (nI a) x2 q (r_rki T (vp_updL (g_rki T) b y)) = (fR_lowest (κ a) 1125899906842624 q).bind (fun r => some (r, r_rki T κ)) ∧ Sc 6 (sh a) (κ a) := fun x y hxy => by
      obtain ⟨sh, κ, g1, g2, g3⟩ := ih (i + 1) (p_sh P (vp_updL (g_sh P) b x)) (r_rki T (vp_updL (g_rki T) b y)) (by omega) em ef rm rf hO hQ (fun c hc hci => by
        show Sc _ (vp_updL (g_sh P) b x c) (vp_updL (g_rki T) b y c)
        by_cases e : c = b
        · subst e
          rw [updL_us, updL_us]
          exact hxy
        · rw [pk_uLn e, pk_uLn e]
          have : ps lv n c ≠ i := fun h => e (ps_inj (lv := lv) hc hb (h.trans pb.symm))
          exact (hs c hc (by omega)).weak (by omega))
      exact ⟨sh, κ, g1, g2, g3⟩
    have h1 := shareRow_sc hn hs b1
    have h2 := shareRow_sc hn hs b2
    rw [ed] at h1 h2
    by_cases c : nI b = x2
    · rw [if_pos c, if_pos c]
      exact go _ _ (Sc.one (by omega))
    · rw [if_neg c, if_neg c]
      exact go _ _ (h1.half h2)
theorem rel_share {n : Nat} {S : vK} {T : vR} (hR : Rel n S T) (a1 a2 a3 : Int32) : ∃ v : Int64 × vR, fR_share n T a1 a2 a3 = some v ∧ v.1 = (fK_share n S a1 a2 a3).1 ∧ Rel n (fK_share n S a1 a2 a3).2 v.2 := by
  have hn := hR.1
  obtain ⟨-, -, -, -, hm, hf, -, ⟨lv0, hP0⟩, -⟩ := id hR
  rw [fR_share, fK_share, is_eq, ip_eq]
  by_cases c1 : fR_is n a1 = 0
  · rw [if_pos c1, if_pos c1]; exact ⟨_, rfl, rfl, hR⟩
  · rw [if_neg c1, if_neg c1]
    by_cases c2 : fR_is n a2 = 0
    · have : fP_isFounder n (g_P S) a2 = 0 := by rw [fP_isFounder, has_is, if_pos c2]
      rw [if_pos c2, if_pos this]; exact ⟨_, rfl, rfl, hR⟩
    · rw [if_neg c2]
      obtain ⟨p, hp, rfl⟩ := is_nat hn c1
      obtain ⟨f, hfn, rfl⟩ := is_nat hn c2
      have q1 := hP0.1
      have q2 := hP0.2.1
      rw [hm] at q1
      rw [hf] at q2
      rw [founder_eq hn q1 q2 hm hf hfn, bs]
      by_cases c4 : fP_isFounder n (g_P S) (nI f) = 0
      · rw [if_pos c4, if_pos c4]; exact ⟨_, rfl, rfl, hR⟩
      · rw [if_neg c4, if_neg c4]
        by_cases c3 : fR_isPart a3 = 0
        · rw [if_pos c3, if_pos c3]; exact ⟨_, rfl, rfl, hR⟩
        · rw [if_neg c3, if_neg c3]
          obtain ⟨T', lv, hP, e1, em, ef, eg, e2, e4, e5⟩ := hR.find'
          obtain ⟨p1, p2, p3, p4, p5, p6, p7⟩ := id hP
          rw [e1, bs, fP_shareOf]
          obtain ⟨sh, κ, g1, g2, g3⟩ := share_loop (q := a3) (x2 := nI f) hn p1 p2 p3 hp n 0 (g_P S) T' (by omega) rfl rfl (em.trans hm.symm) (ef.trans hf.symm) p5 e4 (fun b _ h => by omega)
          rw [g1, g2, g3.low, bs]
          exact ⟨_, rfl, fst_mk _ _, e5⟩
