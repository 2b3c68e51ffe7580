-- ===== the reference's table of kin =====
theorem ixm {a b : Nat} : (24 : Int32) * nI a + nI b = nI (a * 24 + b) := by rw [ix24, Nat.mul_comm]
theorem rkinOf_kq {n : Nat} {S : vR} {x y : Int32} (hn : n ≤ 24) (hx : x = -1 ∨ ∃ p, p < n ∧ x = nI p) (hy : y = -1 ∨ ∃ p, p < n ∧ y = nI p) : fR_kinOf n S x y = some (kq (g_rki S) x y) := by
  rcases hx with rfl | ⟨p, p1, rfl⟩
  · rw [kq_m1, fR_kinOf, if_pos (by decide)]
  · rcases hy with rfl | ⟨q, q1, rfl⟩
    · rw [kq_m2, fR_kinOf, if_neg (nI_pos (by omega)), if_neg (by decide)]
    · rw [kq_nI _ (by omega) (by omega), fR_kinOf, if_neg (nI_pos (by omega)), if_pos (nI_pos' (by omega)), ixm, if_neg (ob_nI (by omega) (by omega)), nI_clamp (by omega)]
theorem rkin_row {n : Nat} {lv : Nat → Nat} {κ : Nat → Int64} (hn : n ≤ 24) {a i : Nat} {mo fa : Nat → Int32} (ha : a < n) (hi : ps lv n a = i) (hm : Bef n lv i (mo a)) (hf : Bef n lv i (fa a)) : ∀ (k j : Nat) (S : vR), j + k = i → g_rmo S = mo → g_rfa S = fa → Ord n lv n (g_rro S) → Agr n lv i κ (g_rki S) → (∀ b, b < n → ps lv n b < j → g_rki S (a * 24 + b) = kv κ (mo a) (fa a) b ∧ g_rki S (b * 24 + a) = kv κ (mo a) (fa a) b) →
    ∃ κ', fR_findKin_23 n k j i (nI a) S = some (r_rki S κ') ∧ Agr n lv i κ κ' ∧ ∀ b, b < n → ps lv n b < i → κ' (a * 24 + b) = kv κ (mo a) (fa a) b ∧ κ' (b * 24 + a) = kv κ (mo a) (fa a) b := by
  intro k
  induction k with
  | zero =>
    intro j S hj _ _ hO hA hr
    have : j = i := by omega
    subst this
    exact ⟨g_rki S, rfl, hA, hr⟩
  | succ k ih =>
    intro j S hj hmo hfa hO hA hr
    have hin := ps_lt (lv := lv) ha
    obtain ⟨b, hb, pb, eb⟩ := hO j (by omega)
    have hbB : Bef n lv i (nI b) := Or.inr ⟨b, hb, by omega, rfl⟩
    have o1 : ¬ ob (nI a) 24 := ob_nI (by omega) (by omega)
    rw [fR_findKin_23]
    simp only [if_neg o1]
    rw [nI_clamp (n := j) (by omega), nI_clamp (n := a) (by omega), eb, hmo, hfa, rkinOf_kq hn hm.ok hbB.ok, rkinOf_kq hn hf.ok hbB.ok, kq_agr hn hA hm hbB, kq_agr hn hA hf hbB]
    show ∃ κ', (if ob (24 * nI a + nI b) 576 then none else (if ob (24 * nI b + nI a) 576 then none else fR_findKin_23 n k (j + 1) i (nI a) (r_rki (r_rki S (vp_updL (g_rki S) ((24 * nI a + nI b) : Int32).toNatClampNeg (kv κ (mo a) (fa a) b))) (vp_updL (g_rki (r_rki S (vp_updL (g_rki S) ((24 * nI a + nI b) : Int32).toNatClampNeg (kv κ (mo a) (fa a) b)))) ((24 * nI b + nI a) : Int32).toNatClampNeg (kv κ (mo a) (fa a) b))))) = _ ∧ _
    rw [ixm, ixm, if_neg (ob_nI (by omega) (by omega)), if_neg (ob_nI (by omega) (by omega)), nI_clamp (by omega), nI_clamp (by omega)]
    have ba : b ≠ a := fun e => by subst e; omega
    obtain ⟨κ', e1, e2⟩ := ih (j + 1) (r_rki S (vp_updL (vp_updL (g_rki S) (a * 24 + b) (kv κ (mo a) (fa a) b)) (b * 24 + a) (kv κ (mo a) (fa a) b))) (by omega) hmo hfa hO (upd2 hn ha hb hi hA) (fun c hc hcj => by
      show vp_updL (vp_updL (g_rki S) (a * 24 + b) (kv κ (mo a) (fa a) b)) (b * 24 + a) (kv κ (mo a) (fa a) b) (a * 24 + c) = _ ∧ vp_updL (vp_updL (g_rki S) (a * 24 + b) (kv κ (mo a) (fa a) b)) (b * 24 + a) (kv κ (mo a) (fa a) b) (c * 24 + a) = _
      have ca : c ≠ a := fun e => by subst e; omega
      by_cases e : c = b
      · subst e
        exact ⟨by rw [pk_uLn (by omega)]; exact updL_us, updL_us⟩
      · rw [pk_uLn (by omega), pk_uLn (by omega), pk_uLn (by omega), pk_uLn (by omega)]
        refine hr c hc ?_
        have : ps lv n c ≠ j := fun h => e (ps_inj (lv := lv) hc hb (h.trans pb.symm))
        omega)
    exact ⟨κ', e1, e2⟩
theorem rkin_loop {n : Nat} {lv : Nat → Nat} {mo fa : Nat → Int32} (hn : n ≤ 24) (hm : pOk n mo) (hf : pOk n fa) (hL : Lev n mo fa lv) : ∀ (k i : Nat) (S : vR), i + k = n → g_rmo S = mo → g_rfa S = fa → Ord n lv n (g_rro S) → KE n mo fa lv 1125899906842624 (g_rki S) i → ∃ κ, fR_findKin_6 n k i S = some (r_rki S κ) ∧ KE n mo fa lv 1125899906842624 κ n := by
  intro k
  induction k with
  | zero =>
    intro i S hi _ _ hO hK
    have : i = n := by omega
    subst this
    exact ⟨g_rki S, rfl, hK⟩
  | succ k ih =>
    intro i S hi hmo hfa hO hK
    obtain ⟨a, ha, pa, ea⟩ := hO i (by omega)
    obtain ⟨b1, b2⟩ := par_bef hn hm hf hL ha
    rw [pa] at b1 b2
    obtain ⟨κ1, k1, k2, k3⟩ := rkin_row (κ := g_rki S) hn ha pa b1 b2 i 0 S (by omega) hmo hfa hO (fun _ _ _ _ _ _ => rfl) (fun b hb h => by omega)
    have o1 : ¬ ob (nI a) 24 := ob_nI (by omega) (by omega)
    rw [fR_findKin_6, nI_clamp (by omega), ea, k1]
    show ∃ κ, (if ob (nI a) 24 then none else (if ob (nI a) 24 then none else ((fR_kinOf n (r_rki S κ1) (g_rmo S (nI a).toNatClampNeg) (g_rfa S (nI a).toNatClampNeg)).bind (fun r127 => (if ob (24 * nI a + nI a) 576 then none else fR_findKin_6 n k (i + 1) (r_rki S (vp_updL κ1 ((24 * nI a + nI a) : Int32).toNatClampNeg ((1125899906842624 + r127) / 2)))))))) = _ ∧ _
    rw [if_neg o1, if_neg o1, nI_clamp (by omega), hmo, hfa, rkinOf_kq hn b1.ok b2.ok]
    show ∃ κ, (if ob (24 * nI a + nI a) 576 then none else fR_findKin_6 n k (i + 1) (r_rki S (vp_updL κ1 ((24 * nI a + nI a) : Int32).toNatClampNeg ((1125899906842624 + kq κ1 (mo a) (fa a)) / 2)))) = _ ∧ _
    rw [ixm, if_neg (ob_nI (by omega) (by omega)), nI_clamp (by omega), kq_agr hn k2 b1 b2]
    have hA : Agr n lv i (g_rki S) (vp_updL κ1 (a * 24 + a) ((1125899906842624 + kq (g_rki S) (mo a) (fa a)) / 2)) := fun c d hc hd hci hdi => by
      have ca : c ≠ a := fun e => by subst e; omega
      have da : d ≠ a := fun e => by subst e; omega
      rw [pk_uLn (by omega)]
      exact k2 c d hc hd hci hdi
    have hr : ∀ b, b < n → ps lv n b < i → vp_updL κ1 (a * 24 + a) ((1125899906842624 + kq (g_rki S) (mo a) (fa a)) / 2) (a * 24 + b) = kv (g_rki S) (mo a) (fa a) b ∧ vp_updL κ1 (a * 24 + a) ((1125899906842624 + kq (g_rki S) (mo a) (fa a)) / 2) (b * 24 + a) = kv (g_rki S) (mo a) (fa a) b := fun b hb hbi => by
      have ba : b ≠ a := fun e => by subst e; omega
      rw [pk_uLn (by omega), pk_uLn (by omega)]
      exact k3 b hb hbi
    obtain ⟨κ, g1, g2⟩ := ih (i + 1) (r_rki S (vp_updL κ1 (a * 24 + a) ((1125899906842624 + kq (g_rki S) (mo a) (fa a)) / 2))) (by omega) hmo hfa hO (hK.push hn hm hf hL ha pa hA updL_us hr)
    exact ⟨κ, g1, g2⟩
theorem findKin_spec {n : Nat} {T : vR} {lv : Nat → Nat} {R : Nat → Nat → Prop} (hn : n ≤ 24) (hm : pOk n (g_rmo T)) (hf : pOk n (g_rfa T)) (hL : Lev n (g_rmo T) (g_rfa T) lv) (hE : FbEq n (g_rmo T) (g_rfa T) R) :
    ∃ ab st ro κ, fR_findKin n T = some (r_rki (r_rro (r_rst (r_rab T ab) st) ro) κ) ∧ KE n (g_rmo T) (g_rfa T) lv 1125899906842624 κ n := by
  obtain ⟨ab, st, ro, e1, _, _, e4⟩ := find_spec hn hm hf hL hE
  obtain ⟨κ, g1, g2⟩ := rkin_loop hn hm hf hL n 0 (r_rro (r_rst (r_rab T ab) st) ro) (by omega) rfl rfl e4 (fun a _ h => by omega)
  refine ⟨ab, st, ro, κ, ?_, g2⟩
  rw [fR_findKin, e1]
  exact g1
-- ===== the two tables =====
theorem lN_half {u : Nat} (h : u < 2 ^ 62) : lN u / 2 = lN (u / 2) := by
  have e : (2 : Nat) ^ 62 < 2 ^ 63 := by decide
  exact pk_lDiv (b := 2) (by omega) (by decide) (by decide)
/-- a number of the class's table and one of the reference's: the same part of the whole, even d times over -/
def Sc (d : Nat) (x y : Int64) : Prop := ∃ t, t ≤ 2 ^ 30 ∧ 2 ^ d ∣ t ∧ x = lN t ∧ y = lN (2 ^ 20 * t)
theorem Sc.zero (d : Nat) : Sc d 0 0 := ⟨0, by decide, Nat.dvd_zero _, rfl, rfl⟩
theorem Sc.weak {d e : Nat} {x y : Int64} (h : Sc d x y) (hde : e ≤ d) : Sc e x y := by
  obtain ⟨t, h1, h2, h3, h4⟩ := h
  exact ⟨t, h1, Nat.dvd_trans (Nat.pow_dvd_pow 2 hde) h2, h3, h4⟩
theorem Sc.half {d : Nat} {x y u v : Int64} (h : Sc (d + 1) x y) (g : Sc (d + 1) u v) : Sc d ((x + u) / 2) ((y + v) / 2) := by
  obtain ⟨t, h1, ⟨t', rfl⟩, rfl, rfl⟩ := h
  obtain ⟨w, g1, ⟨w', rfl⟩, rfl, rfl⟩ := g
  have e : 2 ^ (d + 1) * t' + 2 ^ (d + 1) * w' = 2 * (2 ^ d * (t' + w')) := by
    rw [Nat.pow_succ, ← Nat.mul_add, Nat.mul_comm (2 ^ d) 2, Nat.mul_assoc]
  have e2 : 2 ^ 20 * (2 ^ (d + 1) * t') + 2 ^ 20 * (2 ^ (d + 1) * w') = 2 * (2 ^ 20 * (2 ^ d * (t' + w'))) := by
    rw [← Nat.mul_add, e, ← Nat.mul_assoc, ← Nat.mul_assoc 2, Nat.mul_comm (2 ^ 20) 2]
  have b1 : 2 ^ d * (t' + w') ≤ 2 ^ 30 := by omega
  refine ⟨2 ^ d * (t' + w'), b1, ⟨_, rfl⟩, ?_, ?_⟩
  · rw [lN_add, e, lN_half (by have : (2 : Nat) ^ 30 * 2 < 2 ^ 62 := by decide
                               omega), Nat.mul_div_cancel_left _ (by decide)]
  · rw [lN_add, e2, lN_half (by have : (2 : Nat) * (2 ^ 20 * 2 ^ 30) < 2 ^ 62 := by decide
                                have := Nat.mul_le_mul_left (2 ^ 20) b1
                                omega), Nat.mul_div_cancel_left _ (by decide)]
theorem Sc.one {d : Nat} (h : d ≤ 30) : Sc d 1073741824 1125899906842624 := ⟨2 ^ 30, Nat.le_refl _, Nat.pow_dvd_pow 2 h, rfl, rfl⟩
theorem tables {n : Nat} {mo fa : Nat → Int32} {lv : Nat → Nat} {κ1 κ2 : Nat → Int64} (hn : n ≤ 24) (hm : pOk n mo) (hf : pOk n fa) (hL : Lev n mo fa lv) (h1 : KE n mo fa lv 1073741824 κ1 n) (h2 : KE n mo fa lv 1125899906842624 κ2 n) : ∀ i, i ≤ n → ∀ a b, a < n → b < n → ps lv n a < i → ps lv n b < i → Sc (30 - i) (κ1 (a * 24 + b)) (κ2 (a * 24 + b)) := by
  intro i
  induction i with
  | zero => intro _ a b _ _ h; omega
  | succ i ih =>
    intro hi a b ha hb hai hbi
    have ed : 30 - i = 30 - (i + 1) + 1 := by omega
    have kqs : ∀ x y, Bef n lv i x → Bef n lv i y → Sc (30 - (i + 1) + 1) (kq κ1 x y) (kq κ2 x y) := fun x y hx hy => by
      rw [← ed]
      rcases hx with rfl | ⟨p, p1, p2, rfl⟩
      · rw [kq_m1, kq_m1]; exact Sc.zero _
      · rcases hy with rfl | ⟨q, q1, q2, rfl⟩
        · rw [kq_m2, kq_m2]; exact Sc.zero _
        · rw [kq_nI _ (by omega) (by omega), kq_nI _ (by omega) (by omega)]
          exact ih (by omega) p q p1 q1 p2 q2
    have row : ∀ a, a < n → ps lv n a = i → ∀ b, b < n → ps lv n b < i → Sc (30 - (i + 1)) (κ1 (a * 24 + b)) (κ2 (a * 24 + b)) ∧ Sc (30 - (i + 1)) (κ1 (b * 24 + a)) (κ2 (b * 24 + a)) := fun a ha pa b hb pb => by
      obtain ⟨b1, b2⟩ := par_bef hn hm hf hL ha
      rw [pa] at b1 b2
      obtain ⟨c1, c2⟩ := (h1 a ha (by omega)).2 b hb (by omega)
      obtain ⟨d1, d2⟩ := (h2 a ha (by omega)).2 b hb (by omega)
      have bb : Bef n lv i (nI b) := Or.inr ⟨b, hb, pb, rfl⟩
      rw [c1, c2, d1, d2]
      exact ⟨(kqs _ _ b1 bb).half (kqs _ _ b2 bb), (kqs _ _ b1 bb).half (kqs _ _ b2 bb)⟩
    by_cases ea : ps lv n a = i
    · by_cases eb : ps lv n b = i
      · have : a = b := ps_inj ha hb (ea.trans eb.symm)
        subst this
        obtain ⟨b1, b2⟩ := par_bef hn hm hf hL ha
        rw [ea] at b1 b2
        rw [(h1 a ha (by omega)).1, (h2 a ha (by omega)).1]
        exact (Sc.one (by omega)).half (kqs _ _ b1 b2)
      · exact (row a ha ea b hb (by omega)).1
    · by_cases eb : ps lv n b = i
      · exact (row b hb eb a ha (by omega)).2
      · exact (ih (by omega) a b ha hb (by omega) (by omega)).weak (by omega)
theorem kq_sc {n : Nat} {mo fa : Nat → Int32} {lv : Nat → Nat} {κ1 κ2 : Nat → Int64} (hn : n ≤ 24) (hm : pOk n mo) (hf : pOk n fa) (hL : Lev n mo fa lv) (h1 : KE n mo fa lv 1073741824 κ1 n) (h2 : KE n mo fa lv 1125899906842624 κ2 n) {x y : Int32} (hx : x = -1 ∨ ∃ p, p < n ∧ x = nI p) (hy : y = -1 ∨ ∃ p, p < n ∧ y = nI p) : Sc 6 (kq κ1 x y) (kq κ2 x y) := by
  rcases hx with rfl | ⟨p, p1, rfl⟩
  · rw [kq_m1, kq_m1]; exact Sc.zero _
  · rcases hy with rfl | ⟨q, q1, rfl⟩
    · rw [kq_m2, kq_m2]; exact Sc.zero _
    · rw [kq_nI _ (by omega) (by omega), kq_nI _ (by omega) (by omega)]
      exact (tables hn hm hf hL h1 h2 n (Nat.le_refl _) p q p1 q1 (ps_lt p1) (ps_lt q1)).weak (by omega)
/-- the same lowest terms -/
theorem Sc.low {d : Nat} {x y : Int64} {q : Int32} (h : Sc d x y) : fR_lowest y 1125899906842624 q = some (fF_lowest x 1073741824 q) := by
  obtain ⟨t, h1, -, rfl, rfl⟩ := h
  have b1 := Nat.mul_le_mul_left (2 ^ 20) h1
  have b2 : (2 : Nat) ^ 20 * 2 ^ 30 < 2 ^ 62 := by decide
  have b3 : (2 : Nat) ^ 30 < 2 ^ 62 := by decide
  have e1 : (1125899906842624 : Int64) = lN (2 ^ 20 * 2 ^ 30) := by decide
  have e2 : (1073741824 : Int64) = lN (2 ^ 30) := by decide
  rw [e1, e2]
  exact low_rel (by decide) (by decide) (by decide) (by omega) (by omega) b2
