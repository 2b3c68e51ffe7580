/-- new parents that close no ring: there are levels again -/
theorem new_levels {n c : Nat} {P : vP} {lv : Nat → Nat} {m f : Int32} (hn : n ≤ 24) (hm : pOk n (g_mo P)) (hf : pOk n (g_fa P)) (hL : Lev n (g_mo P) (g_fa P) lv) (hE : FbEq n (g_mo P) (g_fa P) (Bt P)) (hc : c < n) (vm : m = -1 ∨ ∃ p, p < n ∧ m = nI p) (vf : f = -1 ∨ ∃ p, p < n ∧ f = nI p) (hlm : fP_leadsTo n P m (nI c) = 0) (hlf : fP_leadsTo n P f (nI c) = 0) : pOk n (upd (g_mo P) c m) ∧ pOk n (upd (g_fa P) c f) ∧ ∃ lv', Lev n (upd (g_mo P) c m) (upd (g_fa P) c f) lv' := by
  have hl : ∀ a, a < n → lv a < n := fun a ha => hL.lt hn hm hf ha
  have o1 : pOk n (upd (g_mo P) c m) := fun a ha => by
    by_cases e : a = c
    · rw [e, pk_us]; exact vm
    · rw [pk_un e]; exact hm a ha
  have o2 : pOk n (upd (g_fa P) c f) := fun a ha => by
    by_cases e : a = c
    · rw [e, pk_us]; exact vf
    · rw [pk_un e]; exact hf a ha
  refine ⟨o1, o2, ?_⟩
  have notd : ∀ y, fP_leadsTo n P y (nI c) = 0 → ∀ p, p < n → y = nI p → ¬ (p = c ∨ Bt P c p) := fun y hy p hp e => by
    rw [e] at hy
    rcases lt_nI (P := P) hn hp hc with ⟨g1, g2⟩ | ⟨g1, g2⟩
    · exact fun h => g2 (h.imp Eq.symm id)
    · rw [g1] at hy; exact absurd hy one_ne
  obtain ⟨r, hr⟩ : ∃ r : Nat → Nat, ∀ a, ((a = c ∨ Bt P c a) → r a = lv a + n) ∧ (¬ (a = c ∨ Bt P c a) → r a = lv a) := by
    refine ⟨fun a => if a = c then lv a + n else if bt (g_fb P a) c = true then lv a + n else lv a, fun a => ⟨fun h => ?_, fun h => ?_⟩⟩
    · dsimp only
      by_cases e : a = c
      · rw [if_pos e]
      · rw [if_neg e]
        rcases h with h | h
        · exact absurd h e
        · rw [if_pos (show bt (g_fb P a) c = true from h)]
    · dsimp only
      rw [if_neg (fun e => h (Or.inl e)), if_neg (show ¬ bt (g_fb P a) c = true from fun e => h (Or.inr e))]
  refine Lev.exists hn o1 o2 (r := r) (fun a p ha hp he => ?_) (n + n) (fun a ha => ?_)
  · have hlp := hl p hp
    by_cases e : a = c
    · subst e
      rw [pk_us, pk_us] at he
      have nd : ¬ (p = a ∨ Bt P a p) := by
        rcases he with h | h
        · exact notd m hlm p hp h
        · exact notd f hlf p hp h
      rw [(hr p).2 nd, (hr a).1 (Or.inl rfl)]
      omega
    · rw [pk_un e, pk_un e] at he
      have hlt := par_lt hn hL ha hp he
      by_cases d : a = c ∨ Bt P c a
      · rw [(hr a).1 d]
        by_cases d2 : p = c ∨ Bt P c p
        · rw [(hr p).1 d2]; omega
        · rw [(hr p).2 d2]; omega
      · have d2 : ¬ (p = c ∨ Bt P c p) := fun h => d (Or.inr (hE.up ha hc hp he (h.imp Eq.symm id)))
        rw [(hr a).2 d, (hr p).2 d2]
        exact hlt
  · have := hl a ha
    by_cases d : a = c ∨ Bt P c a
    · rw [(hr a).1 d]; omega
    · rw [(hr a).2 d]; omega
theorem orNone {n : Nat} {a : Int32} (hn : n ≤ 24) (h : ¬ fR_isOrNone n a = 0) : a = -1 ∨ ∃ p, p < n ∧ a = nI p := by
  rw [fR_isOrNone] at h
  by_cases c : a = -1
  · exact Or.inl c
  · rw [if_neg c] at h
    by_cases d : fR_is n a = 0
    · rw [if_pos d] at h; exact absurd rfl h
    · exact Or.inr (is_nat hn d)
/-- what the reference asks of sexes and days, against the class's -/
theorem chk_eq {n c : Nat} {S : vK} {T : vR} {m f : Int32} {NO NEW : Option (Int32 × vR)} (hn : n ≤ 24) (hs : g_sx S = g_rsx T) (hd : g_dy S = g_rdy T) (hy : DyOk (g_rdy T)) (hc : c < n) (vm : m = -1 ∨ ∃ p, p < n ∧ m = nI p) (vf : f = -1 ∨ ∃ p, p < n ∧ f = nI p) :
    (if m < 0 then (if f < 0 then ((fR_isOlder n T m (nI c)).bind (fun r110 => (if r110 = 0 then NO else ((fR_isOlder n T f (nI c)).bind (fun r119 => (if r119 = 0 then NO else NEW)))))) else (if ob f 24 then none else (if g_rsx T f.toNatClampNeg = 1 then NO else ((fR_isOlder n T m (nI c)).bind (fun r110 => (if r110 = 0 then NO else ((fR_isOlder n T f (nI c)).bind (fun r119 => (if r119 = 0 then NO else NEW))))))))) else (if ob m 24 then none else (if g_rsx T m.toNatClampNeg = 2 then NO else (if f < 0 then ((fR_isOlder n T m (nI c)).bind (fun r110 => (if r110 = 0 then NO else ((fR_isOlder n T f (nI c)).bind (fun r119 => (if r119 = 0 then NO else NEW)))))) else (if ob f 24 then none else (if g_rsx T f.toNatClampNeg = 1 then NO else ((fR_isOlder n T m (nI c)).bind (fun r110 => (if r110 = 0 then NO else ((fR_isOlder n T f (nI c)).bind (fun r119 => (if r119 = 0 then NO else NEW)))))))))))) = (if fK_mayBeParents n S (nI c) m f = 0 then NO else NEW) := by
  rw [fK_mayBeParents]
  rcases vm with rfl | ⟨p, hp, rfl⟩ <;> rcases vf with rfl | ⟨q, hq, rfl⟩
  · rw [if_pos (by decide : (-1 : Int32) < 0), if_pos (by decide : (-1 : Int32) < 0), io_m1, bs, if_neg one_ne, bs, if_neg one_ne, mb_m1, mb_m1, if_neg one_ne, if_neg one_ne, if_neg one_ne]
  · rw [if_pos (by decide : (-1 : Int32) < 0), if_neg (nI_pos (n := q) (by omega)), if_neg (ob_nI (x := q) (N := 24) (by omega) (by omega)), nI_clamp (n := q) (by omega), io_m1, bs, if_neg one_ne, io_nI hn hy hq hc, bs, mb_m1, if_neg one_ne, mb_nI hn hq hc, hs, hd]
    by_cases c1 : g_rsx T q = 1
    · rw [if_pos c1, if_pos c1, if_pos rfl, if_pos rfl]
    · rw [if_neg c1, if_neg c1]
      by_cases e : olderV (g_rdy T) q c = 0
      · rw [if_pos e, if_pos e, if_pos rfl]
      · rw [if_neg e, if_neg e, if_neg one_ne]
  · rw [if_neg (nI_pos (n := p) (by omega)), if_neg (ob_nI (x := p) (N := 24) (by omega) (by omega)), nI_clamp (n := p) (by omega), if_pos (by decide : (-1 : Int32) < 0), io_nI hn hy hp hc, bs, io_m1, bs, if_neg one_ne, mb_m1, if_neg one_ne, mb_nI hn hp hc, hs, hd]
    by_cases c1 : g_rsx T p = 2
    · rw [if_pos c1, if_pos c1, if_pos rfl, if_pos rfl]
    · rw [if_neg c1, if_neg c1]
      by_cases e : olderV (g_rdy T) p c = 0
      · rw [if_pos e, if_pos e, if_pos rfl]
      · rw [if_neg e, if_neg e, if_neg one_ne]
  · rw [if_neg (nI_pos (n := p) (by omega)), if_neg (ob_nI (x := p) (N := 24) (by omega) (by omega)), nI_clamp (n := p) (by omega), if_neg (nI_pos (n := q) (by omega)), if_neg (ob_nI (x := q) (N := 24) (by omega) (by omega)), nI_clamp (n := q) (by omega), io_nI hn hy hp hc, bs, io_nI hn hy hq hc, bs, mb_nI hn hp hc, mb_nI hn hq hc, hs, hd]
    by_cases c1 : g_rsx T p = 2
    · rw [if_pos c1, if_pos c1, if_pos rfl, if_pos rfl]
    · rw [if_neg c1, if_neg c1]
      by_cases c2 : g_rsx T q = 1
      · rw [if_pos c2, if_pos c2]
        by_cases e : olderV (g_rdy T) p c = 0
        · rw [if_pos e, if_pos rfl]
        · rw [if_neg e, if_pos rfl, if_pos rfl]
      · rw [if_neg c2, if_neg c2]
        by_cases e : olderV (g_rdy T) p c = 0
        · rw [if_pos e, if_pos e, if_pos rfl]
        · rw [if_neg e, if_neg e]
          by_cases e2 : olderV (g_rdy T) q c = 0
          · rw [if_pos e2, if_pos e2, if_pos rfl]
          · rw [if_neg e2, if_neg e2, if_neg one_ne]
theorem acc {n c : Nat} {S : vK} {T : vR} {m f : Int32} (hR : Rel n S T) (h0 : g_rl (g_P S) = nI 0) (h0' : g_rrg T = nI 0) (hc : c < n) (vm : m = -1 ∨ ∃ p, p < n ∧ m = nI p) (vf : f = -1 ∨ ∃ p, p < n ∧ f = nI p) (hlm : fP_leadsTo n (g_P S) m (nI c) = 0) (hlf : fP_leadsTo n (g_P S) f (nI c) = 0) : Rel n (s_P S (fP_setParents n (g_P S) (nI c) m f)) (r_rfa (r_rmo T (upd (g_rmo T) c m)) (upd (g_rfa T) c f)) := by
  obtain ⟨hn, hsx, hdy, hdd, hm, hf, hfo, ⟨lv, hP⟩, h1, h3, h4⟩ := id hR
  obtain ⟨p1, p2, p3, p4, p5, p6, p7⟩ := id hP
  obtain ⟨o1, o2, lv', hL'⟩ := new_levels hn p1 p2 p3 p6 hc vm vf hlm hlf
  obtain ⟨st, sq, fb, κ, e1, e2⟩ := reckon_all (S := p_fa (p_mo (g_P S) (upd (g_mo (g_P S)) c m)) (upd (g_fa (g_P S)) c f)) hn o1 o2 hL'
  rw [fP_setParents, has_nI hn hc, if_neg one_ne, nI_clamp (by omega), e1]
  refine ⟨hn, hsx, hdy, hdd, ?_, ?_, hfo, ⟨lv', e2⟩, h1, h3, ⟨0, by omega, h0, h0', fun i hi => by omega⟩⟩
  · show upd (g_mo (g_P S)) c m = upd (g_rmo T) c m
    rw [hm]
  · show upd (g_fa (g_P S)) c f = upd (g_rfa T) c f
    rw [hf]
theorem wouldClose_at {n c : Nat} {P : vP} {m f : Int32} : fP_wouldClose n P (nI c) m f = if fP_leadsTo n P m (nI c) = 0 then (if fP_leadsTo n P f (nI c) = 0 then 0 else 1) else 1 := rfl
theorem ringed {n c s : Nat} {S : vK} {T : vR} {m f : Int32} (hR : Rel n S T) (hab : AbOk n T (g_P S)) (hc : c < n) (hs : s < n) (hr : c = s ∨ Bt (g_P S) c s) (hsel : (if fP_leadsTo n (g_P S) m (nI c) = 0 then f else m) = nI s) : ∃ T2, fR_tellRing n T (nI c) (nI s) = some T2 ∧ Rel n (s_P S (fP_keepRing n (g_P S) (nI c) m f)) T2 := by
  obtain ⟨hn, hsx, hdy, hdd, hm, hf, hfo, ⟨lv, hP⟩, h1, h3, h4⟩ := id hR
  obtain ⟨p1, p2, p3, p4, p5, p6, p7⟩ := id hP
  obtain ⟨rr, ri, r, g1, g2, g3, g4⟩ := ring_all hn p1 p2 p3 p6 hab hm hf hc hs hr hsel
  refine ⟨_, g2, ?_⟩
  rw [g1]
  exact ⟨hn, hsx, hdy, hdd, hm, hf, hfo, ⟨lv, hP⟩, h1, h3, ⟨r, g3, rfl, rfl, g4⟩⟩
theorem rel_parents {n : Nat} {S : vK} {T : vR} (hR : Rel n S T) (a1 a2 a3 : Int32) : ∃ v : Int32 × vR, fR_parents n T a1 a2 a3 = some v ∧ v.1 = (fK_parents n S a1 a2 a3).1 ∧ Rel n (fK_parents n S a1 a2 a3).2 v.2 := by
  have hR1 : Rel n (s_P S (fP_forgetRing n (g_P S))) (r_rrg T 0) := by
    obtain ⟨hn, hsx, hdy, hdd, hm, hf, hfo, ⟨lv, hP⟩, h1, h3, h4⟩ := hR
    exact ⟨hn, hsx, hdy, hdd, hm, hf, hfo, ⟨lv, hP⟩, h1, h3, ⟨0, by omega, rfl, rfl, fun i hi => by omega⟩⟩
  have h0 : g_rl (g_P (s_P S (fP_forgetRing n (g_P S)))) = nI 0 := rfl
  have hn := hR.1
  rw [fR_parents, fK_parents, is_eq, show fK_isAnimalOrNone n a2 = fR_isOrNone n a2 from rfl, show fK_isAnimalOrNone n a3 = fR_isOrNone n a3 from rfl]
  generalize s_P S (fP_forgetRing n (g_P S)) = S1 at hR1 h0 ⊢
  have hT0 : g_rrg (r_rrg T 0) = nI 0 := rfl
  generalize r_rrg T 0 = T1 at hR1 hT0 ⊢
  by_cases c1 : fR_is n a1 = 0
  · rw [if_pos c1, if_pos c1]; exact ⟨_, rfl, rfl, hR1⟩
  · rw [if_neg c1, if_neg c1]
    by_cases c2 : fR_isOrNone n a2 = 0
    · rw [if_pos c2, if_pos c2]; exact ⟨_, rfl, rfl, hR1⟩
    · rw [if_neg c2, if_neg c2]
      by_cases c3 : fR_isOrNone n a3 = 0
      · rw [if_pos c3, if_pos c3]; exact ⟨_, rfl, rfl, hR1⟩
      · rw [if_neg c3, if_neg c3]
        obtain ⟨c, hc, rfl⟩ := is_nat hn c1
        have vm := orNone hn c2
        have vf := orNone hn c3
        obtain ⟨ab, st, ro, lv, hP, e1, e2, e3, e4, e5⟩ := hR1.find
        have hab : AbOk n (r_rro (r_rst (r_rab T1 ab) st) ro) (g_P S1) := e2
        have hT0' : g_rrg (r_rro (r_rst (r_rab T1 ab) st) ro) = nI 0 := hT0
        rw [e1, bs, nI_clamp (by omega)]
        generalize r_rro (r_rst (r_rab T1 ab) st) ro = T2 at e5 hab hT0' ⊢
        obtain ⟨-, hsx, hdy, -, -, -, -, -, hy, -, -⟩ := id e5
        have hy2 : DyOk (g_rdy T2) := by rw [← hdy]; exact hy
        have tell : ∀ s, s < n → (c = s ∨ Bt (g_P S1) c s) → (if fP_leadsTo n (g_P S1) a2 (nI c) = 0 then a3 else a2) = nI s → ∃ v : Int32 × vR, ((fR_tellRing n T2 (nI c) (nI s)).bind (fun r74 => some ((0 : Int32), r74))) = some v ∧ v.1 = ((0 : Int32), s_P S1 (fP_keepRing n (g_P S1) (nI c) a2 a3)).1 ∧ Rel n ((0 : Int32), s_P S1 (fP_keepRing n (g_P S1) (nI c) a2 a3)).2 v.2 := fun s hs hr hsel => by
          obtain ⟨T3, t1, t2⟩ := ringed e5 hab hc hs hr hsel
          rw [t1, bs]
          exact ⟨_, rfl, rfl, t2⟩
        rw [rleads (P := g_P S1) hn hab hc vm, bs, rleads (P := g_P S1) hn hab hc vf, bs]
        by_cases eq : a2 = a3
        · rw [if_pos eq, if_pos eq]
          by_cases d : a2 = -1
          · subst eq
            subst d
            rw [if_pos (by decide), if_pos rfl, wouldClose_at, lt_m1 (by omega), if_pos rfl, if_pos rfl, if_pos rfl, if_pos rfl, if_pos (by decide), if_pos (by decide)]
            rw [io_m1, bs, if_neg one_ne, bs, if_neg one_ne, fK_mayBeParents, mb_m1, mb_m1, if_neg one_ne, if_neg one_ne, if_neg one_ne]
            exact ⟨_, rfl, rfl, acc e5 h0 hT0' hc (Or.inl rfl) (Or.inl rfl) (lt_m1 (by omega)) (lt_m1 (by omega))⟩
          · have : ¬ a2 < 0 := by
              rcases vm with h | ⟨p, hp, h⟩
              · exact absurd h d
              · rw [h]; exact nI_pos (by omega)
            rw [if_neg this, if_neg d]
            exact ⟨_, rfl, rfl, hR1⟩
        · rw [if_neg eq, if_neg eq, bs, rleads (P := g_P S1) hn hab hc vm, bs, rleads (P := g_P S1) hn hab hc vf, wouldClose_at]
          by_cases l1 : fP_leadsTo n (g_P S1) a2 (nI c) = 0
          · rw [if_pos l1, if_pos l1, if_pos (by decide), bs]
            by_cases l2 : fP_leadsTo n (g_P S1) a3 (nI c) = 0
            · rw [if_pos l2, if_pos l2, if_pos (by decide), if_pos rfl, chk_eq (S := S1) hn hsx hdy hy2 hc vm vf]
              by_cases k1 : fK_mayBeParents n S1 (nI c) a2 a3 = 0
              · rw [if_pos k1, if_pos k1]
                exact ⟨_, rfl, rfl, e5⟩
              · rw [if_neg k1, if_neg k1]
                exact ⟨_, rfl, rfl, acc e5 h0 hT0' hc vm vf l1 l2⟩
            · rw [if_neg l2, if_neg l2, if_neg one_ne]
              rcases vf with h | ⟨s, hs, h⟩
              · rw [h, lt_m1 (by omega)] at l2; exact absurd rfl l2
              · have hr : c = s ∨ Bt (g_P S1) c s := by
                  rw [h] at l2
                  rcases lt_nI (P := g_P S1) hn hs hc with ⟨g1, g2⟩ | ⟨g1, g2⟩
                  · exact absurd g1 l2
                  · exact g2
                have T4 := tell s hs hr (by rw [if_pos l1]; exact h)
                rw [h] at T4 ⊢
                rw [if_neg (nI_pos (by omega))]
                exact T4
          · rw [if_neg l1, if_neg l1, if_neg one_ne]
            rcases vm with h | ⟨s, hs, h⟩
            · rw [h, lt_m1 (by omega)] at l1; exact absurd rfl l1
            · have hr : c = s ∨ Bt (g_P S1) c s := by
                rw [h] at l1
                rcases lt_nI (P := g_P S1) hn hs hc with ⟨g1, g2⟩ | ⟨g1, g2⟩
                · exact absurd g1 l1
                · exact g2
              have T4 := tell s hs hr (by rw [if_neg l1]; exact h)
              rw [h] at T4 ⊢
              rw [if_neg (nI_pos (by omega)), if_neg (nI_pos (by omega))]
              exact T4
