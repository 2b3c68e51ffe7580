/-- the reference: mother, father, sex, day, gone, form, rings, ring, above, steps, row, kin -/
abbrev vR : Type := (Nat → Int32) × (Nat → Int32) × (Nat → Int32) × (Nat → Int32) × (Nat → Int32) × (Nat → Int32) × Int32 × (Nat → Int32) × (Nat → Int32) × (Nat → Int32) × (Nat → Int32) × (Nat → Int64)
abbrev g_rmo (S : vR) : Nat → Int32 := S.1
abbrev r_rmo (S : vR) (f : (Nat → Int32)) : vR := (f, S.2)
abbrev g_rfa (S : vR) : Nat → Int32 := S.2.1
abbrev r_rfa (S : vR) (f : (Nat → Int32)) : vR := (S.1, f, S.2.2)
abbrev g_rsx (S : vR) : Nat → Int32 := S.2.2.1
abbrev r_rsx (S : vR) (f : (Nat → Int32)) : vR := (S.1, S.2.1, f, S.2.2.2)
abbrev g_rdy (S : vR) : Nat → Int32 := S.2.2.2.1
abbrev r_rdy (S : vR) (f : (Nat → Int32)) : vR := (S.1, S.2.1, S.2.2.1, f, S.2.2.2.2)
abbrev g_rgo (S : vR) : Nat → Int32 := S.2.2.2.2.1
abbrev r_rgo (S : vR) (f : (Nat → Int32)) : vR := (S.1, S.2.1, S.2.2.1, S.2.2.2.1, f, S.2.2.2.2.2)
abbrev g_rfo (S : vR) : Nat → Int32 := S.2.2.2.2.2.1
abbrev r_rfo (S : vR) (f : (Nat → Int32)) : vR := (S.1, S.2.1, S.2.2.1, S.2.2.2.1, S.2.2.2.2.1, f, S.2.2.2.2.2.2)
abbrev g_rrg (S : vR) : Int32 := S.2.2.2.2.2.2.1
abbrev r_rrg (S : vR) (f : Int32) : vR := (S.1, S.2.1, S.2.2.1, S.2.2.2.1, S.2.2.2.2.1, S.2.2.2.2.2.1, f, S.2.2.2.2.2.2.2)
abbrev g_rri (S : vR) : Nat → Int32 := S.2.2.2.2.2.2.2.1
abbrev r_rri (S : vR) (f : (Nat → Int32)) : vR := (S.1, S.2.1, S.2.2.1, S.2.2.2.1, S.2.2.2.2.1, S.2.2.2.2.2.1, S.2.2.2.2.2.2.1, f, S.2.2.2.2.2.2.2.2)
abbrev g_rab (S : vR) : Nat → Int32 := S.2.2.2.2.2.2.2.2.1
abbrev r_rab (S : vR) (f : (Nat → Int32)) : vR := (S.1, S.2.1, S.2.2.1, S.2.2.2.1, S.2.2.2.2.1, S.2.2.2.2.2.1, S.2.2.2.2.2.2.1, S.2.2.2.2.2.2.2.1, f, S.2.2.2.2.2.2.2.2.2)
abbrev g_rst (S : vR) : Nat → Int32 := S.2.2.2.2.2.2.2.2.2.1
abbrev r_rst (S : vR) (f : (Nat → Int32)) : vR := (S.1, S.2.1, S.2.2.1, S.2.2.2.1, S.2.2.2.2.1, S.2.2.2.2.2.1, S.2.2.2.2.2.2.1, S.2.2.2.2.2.2.2.1, S.2.2.2.2.2.2.2.2.1, f, S.2.2.2.2.2.2.2.2.2.2)
abbrev g_rro (S : vR) : Nat → Int32 := S.2.2.2.2.2.2.2.2.2.2.1
abbrev r_rro (S : vR) (f : (Nat → Int32)) : vR := (S.1, S.2.1, S.2.2.1, S.2.2.2.1, S.2.2.2.2.1, S.2.2.2.2.2.1, S.2.2.2.2.2.2.1, S.2.2.2.2.2.2.2.1, S.2.2.2.2.2.2.2.2.1, S.2.2.2.2.2.2.2.2.2.1, f, S.2.2.2.2.2.2.2.2.2.2.2)
abbrev g_rki (S : vR) : Nat → Int64 := S.2.2.2.2.2.2.2.2.2.2.2
abbrev r_rki (S : vR) (f : (Nat → Int64)) : vR := (S.1, S.2.1, S.2.2.1, S.2.2.2.1, S.2.2.2.2.1, S.2.2.2.2.2.1, S.2.2.2.2.2.2.1, S.2.2.2.2.2.2.2.1, S.2.2.2.2.2.2.2.2.1, S.2.2.2.2.2.2.2.2.2.1, S.2.2.2.2.2.2.2.2.2.2.1, f)
def wR (Y : Nat → ClassId) (h : Nat → Nat) (n : Nat) (S : vR) : va_W := [(h 0, .inr (3, [.int (nI n), .ref (h 1), .ref (h 2), .ref (h 3), .ref (h 4), .ref (h 5), .ref (h 6), .int (g_rrg S), .ref (h 7), .ref (h 8), .ref (h 9), .ref (h 10), .ref (h 11)])), (h 1, .inl (Y 0, 24, .inl (g_rmo S))), (h 2, .inl (Y 0, 24, .inl (g_rfa S))), (h 3, .inl (Y 0, 24, .inl (g_rsx S))), (h 4, .inl (Y 0, 24, .inl (g_rdy S))), (h 5, .inl (Y 2, 24, .inl (g_rgo S))), (h 6, .inl (Y 0, 96, .inl (g_rfo S))), (h 7, .inl (Y 0, 30, .inl (g_rri S))), (h 8, .inl (Y 2, 576, .inl (g_rab S))), (h 9, .inl (Y 0, 24, .inl (g_rst S))), (h 10, .inl (Y 0, 24, .inl (g_rro S))), (h 11, .inl (Y 1, 576, .inr (.inl (g_rki S))))]
abbrev ob (i : Int32) (N : Nat) : Prop := i < 0 ∨ N ≤ i.toNatClampNeg
theorem bsome {α β : Type} {o : Option α} {f : α → Option β} {v : β} (h : o.bind f = some v) : ∃ x, o = some x ∧ f x = some v := by
  cases o with
  | none => cases h
  | some x => exact ⟨x, rfl, h⟩
theorem lcmp_nz2 {x : Int64} (h : ¬ lg_cmp x 0 ≤ 0) : ¬ x = 0 := fun z => h (by subst z; decide)
