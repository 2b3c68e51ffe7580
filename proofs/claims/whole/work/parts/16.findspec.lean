theorem find_end {n : Nat} {mo fa : Nat → Int32} {lv : Nat → Nat} {R : Nat → Nat → Prop} {S0 S : vR} (hn : n ≤ 24) (hm : pOk n mo) (hf : pOk n fa) (hL : Lev n mo fa lv) (hE : FbEq n mo fa R) (hF : FI n mo fa lv R S0 S) (hC : ∀ a, a < n → ClP n S a (mo a) ∧ ClP n S a (fa a)) : ∀ k a, a < n → lv a < k → g_rst S a = nI (lv a) ∧ ∀ x, x < n → (R x a → g_rab S (24 * x + a) = 1) := by
  have hl : ∀ a, a < n → lv a < n := fun a ha => hL.lt hn hm hf ha
  intro k
  induction k with
  | zero => intro a _ h; omega
  | succ k ih =>
    intro a ha hk
    obtain ⟨h1, h2⟩ := hC a ha
    constructor
    · obtain ⟨v, hv, ev⟩ := hF.2.2.1 a ha
      have hla := hl a ha
      have one : ∀ y, (y = mo a ∨ y = fa a) → (y = -1 ∨ ∃ p, p < n ∧ y = nI p) → ClP n S a y → pl lv y ≤ v := fun y hy hyv hc => by
        rcases hyv with e | ⟨p, hp, e⟩
        · rw [e, pl_m1]; omega
        · have hlt := par_lt hn hL ha hp (hy.imp (fun h => by rw [← h, e]) (fun h => by rw [← h, e]))
          have hlp := hl p hp
          have h3 := (hc p hp e).1
          rw [(ih p hp (by omega)).1, ev, nI_ltI (by omega) (by omega)] at h3
          rw [e, pl_nI _ (by omega)]
          omega
      have h3 : lv a ≤ v := by
        rw [hL a ha, Fl, mx_le]
        exact ⟨one _ (Or.inl rfl) (hm a ha) h1, one _ (Or.inr rfl) (hf a ha) h2⟩
      rw [ev, show v = lv a by omega]
    · intro x hx hr
      have one : ∀ y, (y = mo a ∨ y = fa a) → ClP n S a y → Pv n R x y → g_rab S (24 * x + a) = 1 := fun y hy hc hp => by
        obtain ⟨q, hq, e, h3⟩ := hp
        have hlt := par_lt hn hL ha hq (hy.imp (fun h => by rw [← h, e]) (fun h => by rw [← h, e]))
        exact (hc q hq e).2 x hx (h3.imp id (fun r => (ih q hq (by omega)).2 x hx r))
      rcases (hE a ha x hx).mp hr with h | h
      · exact one _ (Or.inl rfl) h1 h
      · exact one _ (Or.inr rfl) h2 h
theorem find_c2 {n : Nat} : ∀ (k i : Nat) (S : vR), i + k ≤ 576 → ∃ ab, fR_find_2 n k i S = some (r_rab S ab) ∧ ∀ j, ab j = if i ≤ j ∧ j < i + k then 0 else g_rab S j := by
  intro k
  induction k with
  | zero => intro i S _; exact ⟨g_rab S, rfl, fun j => by rw [if_neg (by omega)]⟩
  | succ k ih =>
    intro i S h
    rw [fR_find_2, nI_clamp (by omega), nar0]
    obtain ⟨ab, e1, e2⟩ := ih (i + 1) (r_rab S (upd (g_rab S) i 0)) (by omega)
    refine ⟨ab, e1, fun j => ?_⟩
    rw [e2 j]
    show (if _ then _ else upd (g_rab S) i 0 j) = _
    by_cases c : j = i
    · subst c
      rw [if_neg (by omega), if_pos (by omega), pk_us]
    · rw [pk_un c]
      by_cases d : i ≤ j ∧ j < i + (k + 1)
      · rw [if_pos d, if_pos (by omega)]
      · rw [if_neg d, if_neg (by omega)]
theorem find_c24 {n : Nat} : ∀ (k i : Nat) (S : vR), i + k ≤ 24 → ∃ st, fR_find_24 n k i S = some (r_rst S st) ∧ ∀ j, st j = if i ≤ j ∧ j < i + k then 0 else g_rst S j := by
  intro k
  induction k with
  | zero => intro i S _; exact ⟨g_rst S, rfl, fun j => by rw [if_neg (by omega)]⟩
  | succ k ih =>
    intro i S h
    rw [fR_find_24, nI_clamp (by omega)]
    obtain ⟨ab, e1, e2⟩ := ih (i + 1) (r_rst S (upd (g_rst S) i 0)) (by omega)
    refine ⟨ab, e1, fun j => ?_⟩
    rw [e2 j]
    show (if _ then _ else upd (g_rst S) i 0 j) = _
    by_cases c : j = i
    · subst c
      rw [if_neg (by omega), if_pos (by omega), pk_us]
    · rw [pk_un c]
      by_cases d : i ≤ j ∧ j < i + (k + 1)
      · rw [if_pos d, if_pos (by omega)]
      · rw [if_neg d, if_neg (by omega)]
/-- the reference's find: steps, forbears, order, and nothing else -/
theorem find_spec {n : Nat} {T : vR} {lv : Nat → Nat} {R : Nat → Nat → Prop} (hn : n ≤ 24) (hm : pOk n (g_rmo T)) (hf : pOk n (g_rfa T)) (hL : Lev n (g_rmo T) (g_rfa T) lv) (hE : FbEq n (g_rmo T) (g_rfa T) R) :
    ∃ ab st ro, fR_find n T = some (r_rro (r_rst (r_rab T ab) st) ro) ∧ (∀ x a, x < n → a < n → (ab (24 * x + a) = 0 ∧ ¬ R x a) ∨ (ab (24 * x + a) = 1 ∧ R x a)) ∧ (∀ a, a < n → st a = nI (lv a)) ∧ Ord n lv n ro := by
  have hl : ∀ a, a < n → lv a < n := fun a ha => hL.lt hn hm hf ha
  obtain ⟨ab0, a1, a2⟩ := find_c2 (n := n) 576 0 T (by omega)
  obtain ⟨st0, b1, b2⟩ := find_c24 (n := n) n 0 (r_rab T ab0) (by omega)
  have hF : FI n (g_rmo T) (g_rfa T) lv R T (r_rst (r_rab T ab0) st0) := ⟨rfl, rfl, fun a ha => ⟨0, Nat.zero_le _, by
    show st0 a = _
    rw [b2 a, if_pos (by omega)]; rfl⟩, fun x a hx ha => Or.inl (by
    show ab0 _ = 0
    rw [a2 _, if_pos (by omega)]), rfl⟩
  have hmu : mu n (r_rst (r_rab T ab0) st0) + 1 < 2000 := by
    have h1 := cn_le (fun j => decide (g_rab (r_rst (r_rab T ab0) st0) j = 0)) 576
    have h2 := sm_bd (f := fun a => 24 - (g_rst (r_rst (r_rab T ab0) st0) a).toNatClampNeg) (c := 24) n (fun i _ => Nat.sub_le _ _)
    have h3 : n * 24 ≤ 24 * 24 := Nat.mul_le_mul_right _ hn
    unfold mu
    omega
  obtain ⟨S, e1, e2, e3⟩ := find_w hn hm hf hL hE 2000 1 _ hF hmu (fun h => absurd h one_ne)
  have hend := fun a ha => find_end hn hm hf hL hE e2 e3 (lv a + 1) a ha (by omega)
  obtain ⟨ro, g1, g2⟩ := rorder_all (S := S) hn hl (fun a ha => (hend a ha).1)
  refine ⟨g_rab S, g_rst S, ro, ?_, fun x a hx ha => ?_, fun a ha => (hend a ha).1, g2⟩
  · rw [fR_find, a1]
    show (fR_find_24 n n 0 (r_rab T ab0)).bind _ = _
    rw [b1]
    show (fR_find_47 n 2000 1 (r_rst (r_rab T ab0) st0)).bind _ = _
    rw [e1]
    show fR_find_237 n n 0 0 S = _
    rw [g1]
    exact congrArg (fun z => some (r_rro z ro)) e2.2.2.2.2
  · rcases e2.2.2.2.1 x a hx ha with h | h
    · refine Or.inl ⟨h, fun hr => ?_⟩
      rw [(hend a ha).2 x hx hr] at h
      exact absurd h (by decide)
    · exact Or.inr h
-- ===== bits (of kit/laws/BITS.to-paste) =====
def bt (x : Int32) (i : Nat) : Bool := x.toBitVec.getLsbD i
theorem b_or (x y : Int32) (i : Nat) : bt (x ||| y) i = (bt x i || bt y i) := by unfold bt; rw [Int32.toBitVec_or, BitVec.getLsbD_or]
theorem nf_sh : ∀ l, l < 32 → ((1 : Int32) <<< (nI l &&& 31)).toBitVec = BitVec.twoPow 32 l := by decide +kernel
theorem nf_tp : ∀ l, l < 32 → BitVec.twoPow 32 l ≠ 0#32 := by decide +kernel
theorem bitz (m : Int32) {l : Nat} (hl : l < 32) : (m &&& fP_bitOf (nI l)) = 0 ↔ bt m l = false := by
  rw [fP_bitOf, ← Int32.toBitVec_inj, Int32.toBitVec_and, nf_sh l hl, BitVec.and_twoPow, bt]
  show _ = 0#32 ↔ _
  cases hb : m.toBitVec.getLsbD l
  · exact ⟨fun _ => rfl, fun _ => by simp⟩
  · exact ⟨fun z => absurd ((if_pos rfl).symm.trans z) (nf_tp l hl), fun z => by cases z⟩
theorem bt_of {q x : Nat} (hq : q < 32) (hx : x < 32) : bt (fP_bitOf (nI q)) x = decide (x = q) := by
  rw [bt, fP_bitOf, nf_sh q hq, BitVec.getLsbD_twoPow]
  by_cases c : x = q
  · subst c; simp [hx]
  · have : ¬ q = x := fun e => c e.symm
    simp [c, this]
theorem bt_0 (x : Nat) : bt 0 x = false := by
  rw [bt]
  show (0#32).getLsbD x = false
  simp
/-- x is a forbear of a, by the class's bits -/
def Bt (S : vP) (x a : Nat) : Prop := bt (g_fb S a) x = true
theorem lineOf_m1 (n : Nat) (S : vP) : fP_lineOf n S (-1) = 0 := by rw [fP_lineOf, has_m1, if_pos rfl]
theorem lineOf_nI {n q : Nat} (S : vP) (hn : n ≤ 24) (hq : q < n) : fP_lineOf n S (nI q) = (fP_bitOf (nI q) ||| g_fb S q) := by rw [fP_lineOf, has_nI hn hq, if_neg one_ne, nI_clamp (by omega)]
theorem lineOf_bt {n x : Nat} {S : vP} {y : Int32} (hn : n ≤ 24) (hx : x < n) (hy : y = -1 ∨ ∃ p, p < n ∧ y = nI p) : bt (fP_lineOf n S y) x = true ↔ Pv n (Bt S) x y := by
  rcases hy with e | ⟨p, hp, e⟩
  · rw [e, lineOf_m1, bt_0]
    constructor
    · intro h; cases h
    · rintro ⟨q, hq, e2, _⟩
      have h0 := nI_pos (n := q) (by omega)
      rw [← e2] at h0
      exact absurd (by decide) h0
  · rw [e, lineOf_nI S hn hp, b_or, bt_of (by omega) (by omega)]
    constructor
    · intro h
      refine ⟨p, hp, rfl, ?_⟩
      rw [Bool.or_eq_true] at h
      exact h.imp (fun h => of_decide_eq_true h) id
    · rintro ⟨q, hq, e2, h⟩
      have : p = q := nI_inj (by omega) (by omega) e2
      subst this
      rw [Bool.or_eq_true]
      exact h.imp (fun h => decide_eq_true h) id
theorem hasF {n : Nat} {S : vP} {a x : Nat} (hn : n ≤ 24) (ha : a < n) (hx : x < n) : (fP_hasForbear n S (nI a) (nI x) = 0 ∧ ¬ Bt S x a) ∨ (fP_hasForbear n S (nI a) (nI x) = 1 ∧ Bt S x a) := by
  rw [fP_hasForbear, has_nI hn ha, if_neg one_ne, has_nI hn hx, if_neg one_ne, nI_clamp (by omega)]
  have := bitz (g_fb S a) (l := x) (by omega)
  unfold Bt
  by_cases c : (g_fb S a &&& fP_bitOf (nI x)) = 0
  · rw [if_pos c]
    exact Or.inl ⟨rfl, by rw [this.mp c]; simp⟩
  · rw [if_neg c]
    refine Or.inr ⟨rfl, ?_⟩
    cases h : bt (g_fb S a) x
    · exact absurd (this.mpr h) c
    · rfl
