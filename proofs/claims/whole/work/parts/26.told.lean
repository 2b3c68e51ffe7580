-- ===== told =====
def DyOk (d : Nat → Int32) : Prop := ∀ i, i < 24 → d i = -1 ∨ 0 ≤ d i
def olderV (d : Nat → Int32) (p c : Nat) : Int32 := if d p = -1 then 1 else (if d c = -1 then 1 else (if d c ≤ d p then 0 else 1))
theorem DyOk.lt {d : Nat → Int32} (h : DyOk d) {i : Nat} (hi : i < 24) : (d i < 0 ∧ d i = -1) ∨ (¬ d i < 0 ∧ ¬ d i = -1) := by
  rcases h i hi with e | e
  · exact Or.inl ⟨by rw [e]; decide, e⟩
  · refine Or.inr ⟨fun h => ?_, fun h => ?_⟩
    · rw [Int32.le_iff_toInt_le] at e
      rw [Int32.lt_iff_toInt_lt] at h
      omega
    · rw [h] at e; exact absurd e (by decide)
theorem io_m1 {n : Nat} {T : vR} {y : Int32} : fR_isOlder n T (-1) y = some 1 := by rw [fR_isOlder, if_pos (by decide)]
theorem io_nI {n p c : Nat} {T : vR} (hn : n ≤ 24) (hd : DyOk (g_rdy T)) (hp : p < n) (hc : c < n) : fR_isOlder n T (nI p) (nI c) = some (olderV (g_rdy T) p c) := by
  have o1 : ¬ ob (nI p) 24 := ob_nI (by omega) (by omega)
  have o2 : ¬ ob (nI c) 24 := ob_nI (by omega) (by omega)
  rw [fR_isOlder, if_neg (nI_pos (by omega)), if_neg o1, if_neg o2, if_neg o1, if_neg o2, nI_clamp (by omega), nI_clamp (by omega), olderV]
  rcases hd.lt (i := p) (by omega) with ⟨h1, h2⟩ | ⟨h1, h2⟩
  · rw [if_pos h1, if_pos h2]
  · rw [if_neg h1, if_neg h2]
    rcases hd.lt (i := c) (by omega) with ⟨h3, h4⟩ | ⟨h3, h4⟩
    · rw [if_pos h3, if_pos h4]
    · rw [if_neg h3, if_neg h4]
      by_cases e : g_rdy T c ≤ g_rdy T p
      · rw [if_pos e, if_pos e]
      · rw [if_neg e, if_neg e]
theorem mb_m1 {n : Nat} {S : vK} {c w : Int32} : fK_mayBeParent n S c (-1) w = 1 := by
  rw [fK_mayBeParent]
  split
  · rfl
  · rw [show fK_isAnimal n (-1) = 0 from has_m1 n, if_pos rfl]
theorem mb_nI {n p c : Nat} {S : vK} {w : Int32} (hn : n ≤ 24) (hp : p < n) (hc : c < n) : fK_mayBeParent n S (nI c) (nI p) w = if g_sx S p = w then 0 else olderV (g_dy S) p c := by
  rw [fK_mayBeParent, show fK_isAnimal n (nI c) = 1 from has_nI hn hc, if_neg one_ne, show fK_isAnimal n (nI p) = 1 from has_nI hn hp, if_neg one_ne, nI_clamp (by omega), nI_clamp (by omega), olderV]
theorem zero_eq : (0 : Int32) = 0 := rfl
theorem told_step {n k i : Nat} {S : vK} {T : vR} {x1 x2 x3 x4 x5 x6 : Int32} (hn : n ≤ 24) (hs : g_sx S = g_rsx T) (hd : g_dy S = g_rdy T) (hy : DyOk (g_rdy T)) (hm : pOk n (g_rmo T)) (hf : pOk n (g_rfa T)) (hi : i < n) (hx : x6 = 0 ∨ x6 = 1) :
    fR_told_66 n (k + 1) i x1 x2 x3 x4 x5 x6 T = fR_told_66 n k (i + 1) x1 x2 x3 x4 x5 (if x6 = 0 then 0 else (if fK_mayBeParents n S (nI i) (g_rmo T i) (g_rfa T i) = 0 then 0 else 1)) T := by
  rw [fR_told_66, nI_clamp (by omega), fK_mayBeParents]
  rcases hm i hi with em | ⟨p, hp, em⟩ <;> rcases hf i hi with ef | ⟨q, hq, ef⟩ <;> rw [em, ef]
  · rw [if_pos (by decide : (-1 : Int32) < 0), if_pos (by decide : (-1 : Int32) < 0), mb_m1, mb_m1, if_neg one_ne, if_neg one_ne, if_neg one_ne, io_m1, bs, if_neg one_ne, bs, if_neg one_ne]
    rcases hx with rfl | rfl
    · rw [if_pos rfl, if_pos rfl]
    · rw [if_neg one_ne, if_neg one_ne]
  · rw [if_pos (by decide : (-1 : Int32) < 0), if_neg (nI_pos (n := q) (by omega)), mb_m1, if_neg one_ne, if_neg (ob_nI (x := q) (N := 24) (by omega) (by omega)), nI_clamp (n := q) (by omega), io_m1, bs, if_neg one_ne, io_nI hn hy hq hi, bs, mb_nI hn hq hi, hs, hd]
    rcases hx with rfl | rfl
    · rw [if_pos rfl, if_pos rfl]
    · rw [if_neg one_ne, if_neg one_ne]
      by_cases c : g_rsx T q = 1
      · rw [if_pos c, if_pos c, if_pos rfl, if_pos rfl]
      · rw [if_neg c, if_neg c]
        by_cases e : olderV (g_rdy T) q i = 0
        · rw [if_pos e, if_pos e, if_pos rfl]
        · rw [if_neg e, if_neg e, if_neg one_ne]
  · rw [if_neg (nI_pos (n := p) (by omega)), if_pos (by decide : (-1 : Int32) < 0), if_pos (by decide : (-1 : Int32) < 0), mb_m1, if_neg one_ne, if_neg (ob_nI (x := p) (N := 24) (by omega) (by omega)), nI_clamp (n := p) (by omega), io_nI hn hy hp hi, bs, io_m1, bs, if_neg one_ne, mb_nI hn hp hi, hs, hd]
    rcases hx with rfl | rfl
    · rw [if_pos rfl, if_pos rfl]
    · rw [if_neg one_ne, if_neg one_ne]
      by_cases c : g_rsx T p = 2
      · rw [if_pos c, if_pos c, if_pos rfl, if_pos rfl]
      · rw [if_neg c, if_neg c]
        by_cases e : olderV (g_rdy T) p i = 0
        · rw [if_pos e, if_pos e, if_pos rfl]
        · rw [if_neg e, if_neg e, if_neg one_ne]
  · rw [if_neg (nI_pos (n := p) (by omega)), if_neg (nI_pos (n := q) (by omega)), if_neg (nI_pos (n := q) (by omega)), if_neg (ob_nI (x := p) (N := 24) (by omega) (by omega)), if_neg (ob_nI (x := q) (N := 24) (by omega) (by omega)), nI_clamp (n := p) (by omega), nI_clamp (n := q) (by omega), io_nI hn hy hp hi, bs, io_nI hn hy hq hi, bs, mb_nI hn hp hi, mb_nI hn hq hi, hs, hd]
    rcases hx with rfl | rfl
    · rw [if_pos rfl, if_pos rfl]
    · rw [if_neg one_ne, if_neg one_ne]
      by_cases c : g_rsx T p = 2
      · rw [if_pos c, if_pos c, if_pos rfl, if_pos rfl]
      · rw [if_neg c, if_neg c]
        by_cases c2 : g_rsx T q = 1
        · rw [if_pos c2, if_pos c2]
          by_cases e : olderV (g_rdy T) p i = 0
          · rw [if_pos e, if_pos rfl]
          · rw [if_neg e, if_pos rfl, if_pos rfl]
        · rw [if_neg c2, if_neg c2]
          by_cases e : olderV (g_rdy T) p i = 0
          · rw [if_pos e, if_pos e, if_pos rfl]
          · rw [if_neg e, if_neg e]
            by_cases e2 : olderV (g_rdy T) q i = 0
            · rw [if_pos e2, if_pos e2, if_pos rfl]
            · rw [if_neg e2, if_neg e2, if_neg one_ne]
theorem told_loop {n : Nat} {S : vK} {T : vR} {x1 x2 x3 x4 x5 : Int32} (hn : n ≤ 24) (hs : g_sx S = g_rsx T) (hd : g_dy S = g_rdy T) (hy : DyOk (g_rdy T)) (hm : pOk n (g_rmo T)) (hf : pOk n (g_rfa T)) (em : g_mo (g_P S) = g_rmo T) (ef : g_fa (g_P S) = g_rfa T) : ∀ (k i : Nat) (x6 : Int32), i + k = n → (x6 = 0 ∨ x6 = 1) → fR_told_66 n k i x1 x2 x3 x4 x5 x6 T = fR_told_66 n 0 n x1 x2 x3 x4 x5 (if x6 = 0 then 0 else fK_areSexesAndDaysRight_2 n S k i) T := by
  intro k
  induction k with
  | zero =>
    intro i x6 hi hx
    rw [fK_areSexesAndDaysRight_2, show i = n by omega]
    rcases hx with rfl | rfl
    · rw [if_pos rfl]
    · rw [if_neg one_ne]
  | succ k ih =>
    intro i x6 hi hx
    have hin : i < n := by omega
    rw [told_step (S := S) hn hs hd hy hm hf hin hx, ih (i + 1) _ (by omega) (by
      split
      · exact Or.inl rfl
      · split
        · exact Or.inl rfl
        · exact Or.inr rfl)]
    congr 1
    rw [fK_areSexesAndDaysRight_2, motherOf_nI hn hin, fatherOf_nI hn hin, em, ef]
    rcases hx with rfl | rfl
    · rw [if_pos rfl, if_pos rfl, if_pos rfl]
    · rw [if_neg one_ne, if_neg one_ne]
      by_cases c : fK_mayBeParents n S (nI i) (g_rmo T i) (g_rfa T i) = 0
      · rw [if_pos c, if_pos rfl, if_pos c]
      · rw [if_neg c, if_neg one_ne, if_neg c]
theorem upd_back {f : Nat → Int32} {a : Nat} {x : Int32} : upd (upd f a x) a (f a) = f := by
  funext j
  by_cases c : j = a
  · rw [c, pk_us]
  · rw [pk_un c, pk_un c]
theorem rel_told {n : Nat} {S : vK} {T : vR} (hR : Rel n S T) (a1 a2 a3 : Int32) : ∃ v : Int32 × vR, fR_told n T a1 a2 a3 = some v ∧ v.1 = (fK_told n S a1 a2 a3).1 ∧ Rel n (fK_told n S a1 a2 a3).2 v.2 := by
  obtain ⟨hn, hsx, hdy, hdd, hm, hf, hfo, ⟨lv, hP⟩, h1, h3, h4⟩ := id hR
  have q1 := hP.1
  have q2 := hP.2.1
  rw [hm] at q1
  rw [hf] at q2
  rw [fR_told, fK_told, is_eq]
  by_cases c1 : fR_is n a1 = 0
  · rw [if_pos c1, if_pos c1]; exact ⟨_, rfl, rfl, hR⟩
  · rw [if_neg c1, if_neg c1]
    by_cases c2 : a2 < 0
    · rw [if_pos c2, if_pos c2]; exact ⟨_, rfl, rfl, hR⟩
    · rw [if_neg c2, if_neg c2]
      by_cases c3 : 2 < a2
      · rw [if_pos c3, if_pos c3]; exact ⟨_, rfl, rfl, hR⟩
      · rw [if_neg c3, if_neg c3]
        by_cases c4 : a3 < -1
        · rw [if_pos c4, if_pos c4]; exact ⟨_, rfl, rfl, hR⟩
        · rw [if_neg c4, if_neg c4]
          by_cases c5 : a3 ≤ 99999
          · obtain ⟨p, hp, rfl⟩ := is_nat hn c1
            have o : ¬ ob (nI p) 24 := ob_nI (by omega) (by omega)
            rw [if_pos c5, if_pos c5, nI_clamp (by omega)]
            have hy' : DyOk (upd (g_rdy T) p a3) := fun i hi => by
              by_cases e : i = p
              · rw [e, pk_us]
                rw [Int32.lt_iff_toInt_lt, show (-1 : Int32).toInt = -1 by decide] at c4
                rcases Int.lt_or_le a3.toInt 0 with h | h
                · exact Or.inl (Int32.toInt_inj.mp (by rw [show (-1 : Int32).toInt = -1 by decide]; omega))
                · exact Or.inr (by rw [Int32.le_iff_toInt_le]; exact h)
              · rw [pk_un e, ← hdy]; exact h1 i hi
            have L := told_loop (S := s_dy (s_sx S (upd (g_sx S) p a2)) (upd (g_dy S) p a3)) (T := r_rdy (r_rsx T (upd (g_rsx T) p a2)) (upd (g_rdy T) p a3)) (x1 := nI p) (x2 := a2) (x3 := a3) (x4 := g_rsx T p) (x5 := g_rdy T p) hn (by show upd (g_sx S) p a2 = upd (g_rsx T) p a2; rw [hsx]) (by show upd (g_dy S) p a3 = upd (g_rdy T) p a3; rw [hdy]) hy' q1 q2 hm hf n 0 1 (by omega) (Or.inr rfl)
            rw [if_neg one_ne, fR_told_66, if_neg o, if_neg o, nI_clamp (by omega)] at L
            rw [L, fK_areSexesAndDaysRight]
            by_cases c6 : fK_areSexesAndDaysRight_2 n (s_dy (s_sx S (upd (g_sx S) p a2)) (upd (g_dy S) p a3)) n 0 = 0
            · rw [if_pos c6, if_pos c6]
              refine ⟨_, rfl, rfl, hn, ?_, ?_, hdd, hm, hf, hfo, ⟨lv, hP⟩, ?_, h3, h4⟩
              · show upd (upd (g_sx S) p a2) p (g_sx S p) = upd (upd (g_rsx T) p a2) p (g_rsx T p)
                rw [hsx]
              · show upd (upd (g_dy S) p a3) p (g_dy S p) = upd (upd (g_rdy T) p a3) p (g_rdy T p)
                rw [hdy]
              · show ∀ i, i < 24 → upd (upd (g_dy S) p a3) p (g_dy S p) i = -1 ∨ 0 ≤ upd (upd (g_dy S) p a3) p (g_dy S p) i
                rw [upd_back]; exact h1
            · rw [if_neg c6, if_neg c6]
              refine ⟨_, rfl, rfl, hn, ?_, ?_, hdd, hm, hf, hfo, ⟨lv, hP⟩, ?_, h3, h4⟩
              · show upd (g_sx S) p a2 = upd (g_rsx T) p a2
                rw [hsx]
              · show upd (g_dy S) p a3 = upd (g_rdy T) p a3
                rw [hdy]
              · show ∀ i, i < 24 → upd (g_dy S) p a3 i = -1 ∨ 0 ≤ upd (g_dy S) p a3 i
                rw [hdy]; exact hy'
          · rw [if_neg c5, if_neg c5]; exact ⟨_, rfl, rfl, hR⟩
