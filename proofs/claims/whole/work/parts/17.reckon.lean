-- ===== the table of kin =====
def kq (κ : Nat → Int64) (x y : Int32) : Int64 := if x < 0 then 0 else if y < 0 then 0 else κ (x.toNatClampNeg * 24 + y.toNatClampNeg)
theorem kq_m1 (κ : Nat → Int64) (y : Int32) : kq κ (-1) y = 0 := by rw [kq, if_pos (by decide)]
theorem kq_m2 (κ : Nat → Int64) (x : Int32) : kq κ x (-1) = 0 := by rw [kq]; split; rfl; rw [if_pos (by decide)]
theorem kq_nI (κ : Nat → Int64) {a b : Nat} (ha : a < 24) (hb : b < 24) : kq κ (nI a) (nI b) = κ (a * 24 + b) := by rw [kq, if_neg (nI_pos (by omega)), if_neg (nI_pos (by omega)), nI_clamp (by omega), nI_clamp (by omega)]
def Agr (n : Nat) (lv : Nat → Nat) (i : Nat) (κ κ' : Nat → Int64) : Prop := ∀ a b, a < n → b < n → ps lv n a < i → ps lv n b < i → κ' (a * 24 + b) = κ (a * 24 + b)
/-- a value that is no animal, or one of those ahead of i -/
def Bef (n : Nat) (lv : Nat → Nat) (i : Nat) (x : Int32) : Prop := x = -1 ∨ ∃ p, p < n ∧ ps lv n p < i ∧ x = nI p
theorem Bef.mono {n i j : Nat} {lv : Nat → Nat} {x : Int32} (h : Bef n lv i x) (hij : i ≤ j) : Bef n lv j x := h.imp id (fun ⟨p, a, b, c⟩ => ⟨p, a, by omega, c⟩)
theorem kq_agr {n i : Nat} {lv : Nat → Nat} {κ κ' : Nat → Int64} {x y : Int32} (hn : n ≤ 24) (h : Agr n lv i κ κ') (hx : Bef n lv i x) (hy : Bef n lv i y) : kq κ' x y = kq κ x y := by
  rcases hx with rfl | ⟨p, p1, p2, rfl⟩
  · rw [kq_m1, kq_m1]
  · rcases hy with rfl | ⟨q, q1, q2, rfl⟩
    · rw [kq_m2, kq_m2]
    · rw [kq_nI _ (by omega) (by omega), kq_nI _ (by omega) (by omega), h p q p1 q1 p2 q2]
theorem par_bef {n : Nat} {mo fa : Nat → Int32} {lv : Nat → Nat} (hn : n ≤ 24) (hm : pOk n mo) (hf : pOk n fa) (hL : Lev n mo fa lv) {a : Nat} (ha : a < n) : Bef n lv (ps lv n a) (mo a) ∧ Bef n lv (ps lv n a) (fa a) := by
  constructor
  · rcases hm a ha with e | ⟨p, hp, e⟩
    · exact Or.inl e
    · exact Or.inr ⟨p, hp, ps_mono hp (Or.inl (par_lt hn hL ha hp (Or.inl e))), e⟩
  · rcases hf a ha with e | ⟨p, hp, e⟩
    · exact Or.inl e
    · exact Or.inr ⟨p, hp, ps_mono hp (Or.inl (par_lt hn hL ha hp (Or.inr e))), e⟩
/-- what stands in a row of the table, beside the animal itself -/
def kv (κ : Nat → Int64) (m f : Int32) (b : Nat) : Int64 := (kq κ m (nI b) + kq κ f (nI b)) / 2
def KE (n : Nat) (mo fa : Nat → Int32) (lv : Nat → Nat) (U : Int64) (κ : Nat → Int64) (i : Nat) : Prop := ∀ a, a < n → ps lv n a < i → κ (a * 24 + a) = (U + kq κ (mo a) (fa a)) / 2 ∧ ∀ b, b < n → ps lv n b < ps lv n a → κ (a * 24 + b) = kv κ (mo a) (fa a) b ∧ κ (b * 24 + a) = kv κ (mo a) (fa a) b
theorem kv_agr {n i : Nat} {lv : Nat → Nat} {κ κ' : Nat → Int64} {m f : Int32} {b : Nat} (hn : n ≤ 24) (h : Agr n lv i κ κ') (hm : Bef n lv i m) (hf : Bef n lv i f) (hb : b < n) (hbi : ps lv n b < i) : kv κ' m f b = kv κ m f b := by
  rw [kv, kv, kq_agr hn h hm (Or.inr ⟨b, hb, hbi, rfl⟩), kq_agr hn h hf (Or.inr ⟨b, hb, hbi, rfl⟩)]
theorem KE.push {n : Nat} {mo fa : Nat → Int32} {lv : Nat → Nat} {U : Int64} {κ κ' : Nat → Int64} {i a : Nat} (hn : n ≤ 24) (hm : pOk n mo) (hf : pOk n fa) (hL : Lev n mo fa lv) (h : KE n mo fa lv U κ i) (ha : a < n) (hi : ps lv n a = i) (hA : Agr n lv i κ κ') (hd : κ' (a * 24 + a) = (U + kq κ (mo a) (fa a)) / 2) (hr : ∀ b, b < n → ps lv n b < i → κ' (a * 24 + b) = kv κ (mo a) (fa a) b ∧ κ' (b * 24 + a) = kv κ (mo a) (fa a) b) : KE n mo fa lv U κ' (i + 1) := by
  intro c hc hci
  by_cases e : ps lv n c = i
  · have : c = a := ps_inj hc ha (e.trans hi.symm)
    subst this
    obtain ⟨b1, b2⟩ := par_bef hn hm hf hL ha
    rw [hi] at b1 b2
    refine ⟨by rw [hd, kq_agr hn hA b1 b2], fun b hb hbc => ?_⟩
    rw [hi] at hbc
    rw [kv_agr hn hA b1 b2 hb hbc]
    exact hr b hb hbc
  · obtain ⟨g1, g2⟩ := h c hc (by omega)
    obtain ⟨b1, b2⟩ := par_bef hn hm hf hL hc
    have b1 := b1.mono (j := i) (by omega)
    have b2 := b2.mono (j := i) (by omega)
    refine ⟨by rw [hA c c hc hc (by omega) (by omega), kq_agr hn hA b1 b2]; exact g1, fun b hb hbc => ?_⟩
    obtain ⟨g3, g4⟩ := g2 b hb hbc
    rw [kv_agr hn hA b1 b2 hb (by omega), hA c b hc hb (by omega) (by omega), hA b c hb hc (by omega) (by omega)]
    exact ⟨g3, g4⟩
theorem updL_us {f : Nat → Int64} {k : Nat} {x : Int64} : vp_updL f k x k = x := pk_uLs
theorem upd2 {f : Nat → Int64} {n i a b : Nat} {lv : Nat → Nat} {v : Int64} {κ : Nat → Int64} (hn : n ≤ 24) (ha : a < n) (hb : b < n) (hi : ps lv n a = i) (hA : Agr n lv i κ f) : Agr n lv i κ (vp_updL (vp_updL f (a * 24 + b) v) (b * 24 + a) v) := by
  intro c d hc hd hci hdi
  have ca : c ≠ a := fun e => by subst e; omega
  have da : d ≠ a := fun e => by subst e; omega
  rw [pk_uLn (by omega), pk_uLn (by omega)]
  exact hA c d hc hd hci hdi
-- the class's
theorem kinOf_kq {n i : Nat} {lv : Nat → Nat} {S : vP} {x y : Int32} (hn : n ≤ 24) (hx : x = -1 ∨ ∃ p, p < n ∧ x = nI p) (hy : y = -1 ∨ ∃ p, p < n ∧ y = nI p) : fP_kinOf n S x y = kq (g_kt S) x y := by
  rcases hx with rfl | ⟨p, p1, rfl⟩
  · rw [kq_m1, fP_kinOf, has_m1, if_pos rfl]
  · rcases hy with rfl | ⟨q, q1, rfl⟩
    · rw [kq_m2, fP_kinOf, has_m1, has_nI hn p1, if_neg one_ne, if_pos rfl]
    · rw [kq_nI _ (by omega) (by omega), fP_kinOf, has_nI hn p1, has_nI hn q1, if_neg one_ne, if_neg one_ne]
      congr 1
      show (nI p * nI 24 + nI q).toNatClampNeg = _
      rw [pk_mul, nI_add, nI_clamp (by omega)]
theorem setKin_nI {n a b : Nat} {S : vP} {v : Int64} (hn : n ≤ 24) (ha : a < n) (hb : b < n) : fP_setKin n S (nI a) (nI b) v = p_kt S (vp_updL (vp_updL (g_kt S) (a * 24 + b) v) (b * 24 + a) v) := by
  have e : ∀ x y : Nat, x < n → y < n → (nI x * 24 + nI y).toNatClampNeg = x * 24 + y := fun x y hx hy => by
    show (nI x * nI 24 + nI y).toNatClampNeg = _
    rw [pk_mul, nI_add, nI_clamp (by omega)]
  rw [fP_setKin, has_nI hn ha, has_nI hn hb, if_neg one_ne, if_neg one_ne, e a b ha hb, e b a hb ha]
theorem inOrder_at {n i : Nat} {S : vP} (hn : n ≤ 24) (hi : i < n) : fP_inOrder n S (nI i) = g_sq S i := by rw [fP_inOrder, has_nI hn hi, if_neg one_ne, nI_clamp (by omega)]
theorem Bef.ok {n i : Nat} {lv : Nat → Nat} {x : Int32} (h : Bef n lv i x) : x = -1 ∨ ∃ p, p < n ∧ x = nI p := h.imp id (fun ⟨p, a, _, c⟩ => ⟨p, a, c⟩)
theorem kin_row {n : Nat} {lv : Nat → Nat} {κ : Nat → Int64} (hn : n ≤ 24) {a i : Nat} {m f : Int32} (ha : a < n) (hi : ps lv n a = i) (hm : Bef n lv i m) (hf : Bef n lv i f) : ∀ (k j : Nat) (S : vP), j + k = i → Ord n lv n (g_sq S) → Agr n lv i κ (g_kt S) → (∀ b, b < n → ps lv n b < j → g_kt S (a * 24 + b) = kv κ m f b ∧ g_kt S (b * 24 + a) = kv κ m f b) →
    ∃ κ', fP_reckonKin_22 n k j i (nI a) m f S = p_kt S κ' ∧ Agr n lv i κ κ' ∧ κ' (a * 24 + a) = (1073741824 + kq κ m f) / 2 ∧ ∀ b, b < n → ps lv n b < i → κ' (a * 24 + b) = kv κ m f b ∧ κ' (b * 24 + a) = kv κ m f b := by
  intro k
  induction k with
  | zero =>
    intro j S hj hO hA hr
    have : j = i := by omega
    subst this
    rw [fP_reckonKin_22, setKin_nI hn ha ha, kinOf_kq (i := j) (lv := lv) hn hm.ok hf.ok, kq_agr hn hA hm hf]
    refine ⟨_, rfl, upd2 hn ha ha hi hA, updL_us, fun b hb hbi => ?_⟩
    have ba : b ≠ a := fun e => by subst e; omega
    rw [pk_uLn (by omega), pk_uLn (by omega), pk_uLn (by omega), pk_uLn (by omega)]
    exact hr b hb hbi
  | succ k ih =>
    intro j S hj hO hA hr
    have hin := ps_lt (lv := lv) ha
    obtain ⟨b, hb, pb, eb⟩ := hO j (by omega)
    rw [fP_reckonKin_22, inOrder_at hn (by omega), eb, setKin_nI hn ha hb]
    have hbB : Bef n lv i (nI b) := Or.inr ⟨b, hb, by omega, rfl⟩
    rw [kinOf_kq (i := j) (lv := lv) hn hm.ok hbB.ok, kinOf_kq (i := j) (lv := lv) hn hf.ok hbB.ok, kq_agr hn hA hm hbB, kq_agr hn hA hf hbB]
    have ba : b ≠ a := fun e => by subst e; omega
    obtain ⟨κ', e1, e2⟩ := ih (j + 1) (p_kt S (vp_updL (vp_updL (g_kt S) (a * 24 + b) (kv κ m f b)) (b * 24 + a) (kv κ m f b))) (by omega) hO (upd2 hn ha hb hi hA) (fun c hc hcj => by
      show vp_updL (vp_updL (g_kt S) (a * 24 + b) (kv κ m f b)) (b * 24 + a) (kv κ m f b) (a * 24 + c) = _ ∧ vp_updL (vp_updL (g_kt S) (a * 24 + b) (kv κ m f b)) (b * 24 + a) (kv κ m f b) (c * 24 + a) = _
      have ca : c ≠ a := fun e => by subst e; omega
      by_cases e : c = b
      · subst e
        exact ⟨by rw [pk_uLn (by omega)]; exact updL_us, updL_us⟩
      · rw [pk_uLn (by omega), pk_uLn (by omega), pk_uLn (by omega), pk_uLn (by omega)]
        refine hr c hc ?_
        have : ps lv n c ≠ j := fun h => e (ps_inj (lv := lv) hc hb (h.trans pb.symm))
        omega)
    exact ⟨κ', e1, e2⟩
theorem motherOf_nI {n a : Nat} {S : vP} (hn : n ≤ 24) (ha : a < n) : fP_motherOf n S (nI a) = g_mo S a := by rw [fP_motherOf, has_nI hn ha, if_neg one_ne, nI_clamp (by omega)]
theorem fatherOf_nI {n a : Nat} {S : vP} (hn : n ≤ 24) (ha : a < n) : fP_fatherOf n S (nI a) = g_fa S a := by rw [fP_fatherOf, has_nI hn ha, if_neg one_ne, nI_clamp (by omega)]
/-- bits of those ahead of i -/
def FE (n : Nat) (lv : Nat → Nat) (S : vP) (i : Nat) : Prop := ∀ a, a < n → ps lv n a < i → ∀ x, x < n → (Bt S x a ↔ Pv n (Bt S) x (g_mo S a) ∨ Pv n (Bt S) x (g_fa S a))
theorem Pv_congr {n x : Nat} {R Q : Nat → Nat → Prop} {y : Int32} (h : ∀ q, q < n → y = nI q → (R x q ↔ Q x q)) : Pv n R x y ↔ Pv n Q x y := by
  constructor
  · rintro ⟨q, h1, h2, h3⟩
    exact ⟨q, h1, h2, h3.imp id (h q h1 h2).mp⟩
  · rintro ⟨q, h1, h2, h3⟩
    exact ⟨q, h1, h2, h3.imp id (h q h1 h2).mpr⟩
theorem forb_row {n : Nat} {lv : Nat → Nat} {S : vP} (hn : n ≤ 24) (hm : pOk n (g_mo S)) (hf : pOk n (g_fa S)) (hL : Lev n (g_mo S) (g_fa S) lv) {a i : Nat} (ha : a < n) (hi : ps lv n a = i) (h : FE n lv S i) : ∃ fb', fP_reckonForbears n S (nI a) = p_fb S fb' ∧ FE n lv (p_fb S fb') (i + 1) := by
  rw [fP_reckonForbears, has_nI hn ha, if_neg one_ne, nI_clamp (by omega)]
  refine ⟨_, rfl, ?_⟩
  have keep : ∀ c, c < n → c ≠ a → ∀ x, (Bt (p_fb S (upd (g_fb S) a (fP_lineOf n S (g_mo S a) ||| fP_lineOf n S (g_fa S a)))) x c ↔ Bt S x c) := fun c hc hca x => by
    unfold Bt
    show bt (upd (g_fb S) a _ c) x = true ↔ _
    rw [pk_un hca]
  have parne : ∀ c, c < n → ps lv n c ≤ i → ∀ q, q < n → (g_mo S c = nI q ∨ g_fa S c = nI q) → q ≠ a := fun c hc hci q hq e he => by
    subst he
    have := ps_mono (n := n) hq (Or.inl (par_lt hn hL hc hq e))
    omega
  intro c hc hci x hx
  show _ ↔ Pv n _ x (g_mo S c) ∨ Pv n _ x (g_fa S c)
  rw [Pv_congr (Q := Bt S) (fun q hq e => keep q hq (parne c hc (by omega) q hq (Or.inl e)) x), Pv_congr (Q := Bt S) (y := g_fa S c) (fun q hq e => keep q hq (parne c hc (by omega) q hq (Or.inr e)) x)]
  by_cases e : c = a
  · subst e
    rw [← lineOf_bt hn hx (hm c hc), ← lineOf_bt hn hx (hf c hc)]
    show bt (upd (g_fb S) c _ c) x = true ↔ _
    rw [pk_us, b_or, Bool.or_eq_true]
  · rw [keep c hc e x]
    refine h c hc ?_ x hx
    have : ps lv n c ≠ i := fun h => e (ps_inj (lv := lv) hc ha (h.trans hi.symm))
    omega
/-- all that is reckoned for a pedigree -/
def PI (n : Nat) (S : vP) (lv : Nat → Nat) : Prop := pOk n (g_mo S) ∧ pOk n (g_fa S) ∧ Lev n (g_mo S) (g_fa S) lv ∧ (∀ a, a < n → g_st S a = nI (lv a)) ∧ Ord n lv n (g_sq S) ∧ FbEq n (g_mo S) (g_fa S) (Bt S) ∧ KE n (g_mo S) (g_fa S) lv 1073741824 (g_kt S) n
theorem reckon_loop {n : Nat} {lv : Nat → Nat} (hn : n ≤ 24) : ∀ (k i : Nat) (S : vP), i + k = n → pOk n (g_mo S) → pOk n (g_fa S) → Lev n (g_mo S) (g_fa S) lv → Ord n lv n (g_sq S) → FE n lv S i → KE n (g_mo S) (g_fa S) lv 1073741824 (g_kt S) i → ∃ fb κ, fP_reckon_10 n k i S = p_kt (p_fb S fb) κ ∧ FE n lv (p_fb S fb) n ∧ KE n (g_mo S) (g_fa S) lv 1073741824 κ n := by
  intro k
  induction k with
  | zero =>
    intro i S hi hm hf hL hO hF hK
    have : i = n := by omega
    subst this
    exact ⟨g_fb S, g_kt S, rfl, hF, hK⟩
  | succ k ih =>
    intro i S hi hm hf hL hO hF hK
    obtain ⟨a, ha, pa, ea⟩ := hO i (by omega)
    obtain ⟨fb1, f1, f2⟩ := forb_row hn hm hf hL ha pa hF
    obtain ⟨b1, b2⟩ := par_bef hn hm hf hL ha
    rw [pa] at b1 b2
    obtain ⟨κ1, k1, k2, k3, k4⟩ := kin_row (κ := g_kt S) hn ha pa b1 b2 i 0 (p_fb S fb1) (by omega) hO (fun _ _ _ _ _ _ => rfl) (fun b hb h => by omega)
    rw [fP_reckon_10, inOrder_at hn (by omega), ea, f1, fP_reckonKin, inOrder_at hn (by omega)]
    show ∃ fb κ, fP_reckon_10 n k (i + 1) (fP_reckonKin_22 n i 0 i (g_sq S i) (fP_motherOf n (p_fb S fb1) (g_sq S i)) (fP_fatherOf n (p_fb S fb1) (g_sq S i)) (p_fb S fb1)) = _ ∧ _
    rw [ea, motherOf_nI hn ha, fatherOf_nI hn ha, k1]
    obtain ⟨fb, κ, g1, g2, g3⟩ := ih (i + 1) (p_kt (p_fb S fb1) κ1) (by omega) hm hf hL hO f2 (hK.push hn hm hf hL ha pa k2 k3 k4)
    exact ⟨fb, κ, g1, g2, g3⟩
theorem reckon_all {n : Nat} {S : vP} {lv : Nat → Nat} (hn : n ≤ 24) (hm : pOk n (g_mo S)) (hf : pOk n (g_fa S)) (hL : Lev n (g_mo S) (g_fa S) lv) : ∃ st sq fb κ, fP_reckon n S = p_kt (p_fb (p_sq (p_st S st) sq) fb) κ ∧ PI n (p_kt (p_fb (p_sq (p_st S st) sq) fb) κ) lv := by
  have hl : ∀ a, a < n → lv a < n := fun a ha => hL.lt hn hm hf ha
  obtain ⟨st, e1, e2⟩ := steps_all hn hm hf hL
  obtain ⟨sq, g1, g2⟩ := order_all (S := p_st S st) hn hl e2
  obtain ⟨fb, κ, h1, h2, h3⟩ := reckon_loop hn n 0 (p_sq (p_st S st) sq) (by omega) hm hf hL g2 (fun a _ h => by omega) (fun a _ h => by omega)
  refine ⟨st, sq, fb, κ, by rw [fP_reckon, e1, g1, h1], hm, hf, hL, e2, g2, fun a ha x hx => h2 a ha (ps_lt ha) x hx, h3⟩
