-- ===== a new object =====
theorem fR_init_121_at {n : Nat} : ∀ (k i : Nat) (S : vR), i + k ≤ 24 → ∃ mo fa dy, fR_init_121 n k i S = r_rdy (r_rfa (r_rmo S mo) fa) dy ∧ (∀ j, mo j = if i ≤ j ∧ j < i + k then -1 else g_rmo S j) ∧ (∀ j, fa j = if i ≤ j ∧ j < i + k then -1 else g_rfa S j) ∧ (∀ j, dy j = if i ≤ j ∧ j < i + k then -1 else g_rdy S j) := by
  intro k
  induction k with
  | zero => intro i S _; exact ⟨g_rmo S, g_rfa S, g_rdy S, rfl, fun j => by rw [if_neg (by omega)], fun j => by rw [if_neg (by omega)], fun j => by rw [if_neg (by omega)]⟩
  | succ k ih =>
    intro i S h
    have one : ∀ (g f : Nat → Int32), (∀ j, f j = if i + 1 ≤ j ∧ j < i + 1 + k then -1 else upd g i (-1) j) → ∀ j, f j = if i ≤ j ∧ j < i + (k + 1) then -1 else g j := fun g f hf j => by
      rw [hf j]
      by_cases c : j = i
      · subst c
        rw [if_neg (by omega), if_pos (by omega), pk_us]
      · rw [pk_un c]
        by_cases d : i ≤ j ∧ j < i + (k + 1)
        · rw [if_pos d, if_pos (by omega)]
        · rw [if_neg d, if_neg (by omega)]
    rw [fR_init_121, nI_clamp (by omega)]
    obtain ⟨mo, fa, dy, e1, e2, e3, e4⟩ := ih (i + 1) (r_rdy (r_rfa (r_rmo S (upd (g_rmo S) i (-1))) (upd (g_rfa S) i (-1))) (upd (g_rdy S) i (-1))) (by omega)
    exact ⟨mo, fa, dy, e1, one _ _ e2, one _ _ e3, one _ _ e4⟩
theorem fR_init_156_at {n : Nat} : ∀ (k i : Nat) (S : vR), i + k ≤ 96 → ∃ fo, fR_init_156 n k i S = r_rfo S fo ∧ ∀ j, fo j = if i ≤ j ∧ j < i + k then -1 else g_rfo S j := by
  intro k
  induction k with
  | zero => intro i S _; exact ⟨g_rfo S, rfl, fun j => by rw [if_neg (by omega)]⟩
  | succ k ih =>
    intro i S h
    rw [fR_init_156, nI_clamp (by omega)]
    obtain ⟨fo, e1, e2⟩ := ih (i + 1) (r_rfo S (upd (g_rfo S) i (-1))) (by omega)
    refine ⟨fo, e1, fun j => ?_⟩
    rw [e2 j]
    show (if _ then _ else upd (g_rfo S) i (-1) j) = _
    by_cases c : j = i
    · subst c
      rw [if_neg (by omega), if_pos (by omega), pk_us]
    · rw [pk_un c]
      by_cases d : i ≤ j ∧ j < i + (k + 1)
      · rw [if_pos d, if_pos (by omega)]
      · rw [if_neg d, if_neg (by omega)]
theorem rel_init {n : Nat} (h1 : 1 ≤ n) (hn : n ≤ 24) : Rel n (fK_init n) (fR_init n) := by
  have fill24 : ∀ j, fA_fill 24 (fun _ => 0) (-1) j = if j < 24 then -1 else 0 := fun j => fill_all (by decide) j
  have fill96 : ∀ j, fA_fill 96 (fun _ => 0) (-1) j = if j < 96 then -1 else 0 := fun j => fill_all (by decide) j
  have pk : pOk n (fA_fill 24 (fun _ => 0) (-1)) := fun a ha => Or.inl (by rw [fill24, if_pos (by omega)])
  obtain ⟨st, sq, fb, κ, e1, e2⟩ := reckon_all (n := n) (S := ((fA_fill 24 (fun _ => 0) (-1)), (fA_fill 24 (fun _ => 0) (-1)), (fun _ => 0), (fun _ => 0), (fun _ => 0), (fun _ => 0), (fun _ => 0), (fun _ => 0), 0)) (lv := fun _ => 0) hn pk pk (fun a ha => by
    show 0 = Fl _ _ _ a
    rw [Fl]
    show 0 = mx (pl _ (fA_fill 24 (fun _ => 0) (-1) a)) (pl _ (fA_fill 24 (fun _ => 0) (-1) a))
    rw [fill24, if_pos (by omega), pl_m1]
    rfl)
  obtain ⟨mo, fa, dy, g1, g2, g3, g4⟩ := fR_init_121_at (n := n) 24 0 ((fun _ => 0), (fun _ => 0), (fun _ => 0), (fun _ => 0), (fun _ => 0), (fun _ => 0), 0, (fun _ => 0), (fun _ => 0), (fun _ => 0), (fun _ => 0), (fun _ => 0)) (by omega)
  obtain ⟨fo, k1, k2⟩ := fR_init_156_at (n := n) 96 0 (r_rdy (r_rfa (r_rmo ((fun _ => 0), (fun _ => 0), (fun _ => 0), (fun _ => 0), (fun _ => 0), (fun _ => 0), 0, (fun _ => 0), (fun _ => 0), (fun _ => 0), (fun _ => 0), (fun _ => 0)) mo) fa) dy) (by omega)
  have eq24 : ∀ f : Nat → Int32, (∀ j, f j = if 0 ≤ j ∧ j < 0 + 24 then -1 else 0) → fA_fill 24 (fun _ => 0) (-1) = f := fun f hf => by
    funext j
    rw [fill24, hf j]
    by_cases c : j < 24
    · rw [if_pos c, if_pos (by omega)]
    · rw [if_neg c, if_neg (by omega)]
  rw [fR_init, g1, k1, fK_init, fP_init, e1, fM_init]
  refine ⟨hn, rfl, eq24 dy g4, rfl, eq24 mo g2, eq24 fa g3, ?_, ⟨_, e2⟩, ?_, ?_, ⟨0, by omega, rfl, rfl, fun i hi => by omega⟩⟩
  · show fA_fill 96 (fun _ => 0) (-1) = fo
    funext j
    rw [fill96, k2 j]
    by_cases c : j < 96
    · rw [if_pos c, if_pos (by omega)]
    · rw [if_neg c, if_neg (by omega)]
  · intro i hi
    show fA_fill 24 (fun _ => 0) (-1) i = -1 ∨ _
    rw [fill24, if_pos hi]
    exact Or.inl rfl
  · intro i hi
    show fA_fill 96 (fun _ => 0) (-1) i = -1 ∨ _
    rw [fill96, if_pos hi]
    exact Or.inl rfl
