def Rel (n : Nat) (S : vK) (T : vR) : Prop := n ≤ 24 ∧ S = S ∧ T = T
theorem rel_parents {n : Nat} {S : vK} {T : vR} (hR : Rel n S T) (a1 a2 a3 : Int32) : ∃ v : Int32 × vR, fR_parents n T a1 a2 a3 = some v ∧ v.1 = (fK_parents n S a1 a2 a3).1 ∧ Rel n (fK_parents n S a1 a2 a3).2 v.2 := by
  sorry
theorem rel_ring {n : Nat} {S : vK} {T : vR} (hR : Rel n S T) (a1 : Int32) : fR_ring n T a1 = some (fK_ring n S a1) := by
  sorry
theorem rel_told {n : Nat} {S : vK} {T : vR} (hR : Rel n S T) (a1 a2 a3 : Int32) : ∃ v : Int32 × vR, fR_told n T a1 a2 a3 = some v ∧ v.1 = (fK_told n S a1 a2 a3).1 ∧ Rel n (fK_told n S a1 a2 a3).2 v.2 := by
  sorry
theorem rel_lives {n : Nat} {S : vK} {T : vR} (hR : Rel n S T) (a1 a2 : Int32) (h2 : a2 = 0 ∨ a2 = 1) : (fR_lives n T a1 a2).1 = (fK_lives n S a1 a2).1 ∧ Rel n (fK_lives n S a1 a2).2 (fR_lives n T a1 a2).2 := by
  sorry
theorem rel_kin {n : Nat} {S : vK} {T : vR} (hR : Rel n S T) (a1 a2 a3 : Int32) : ∃ v : Int64 × vR, fR_kin n T a1 a2 a3 = some v ∧ v.1 = fK_kin n S a1 a2 a3 ∧ Rel n S v.2 := by
  sorry
theorem rel_inbred {n : Nat} {S : vK} {T : vR} (hR : Rel n S T) (a1 a2 : Int32) : ∃ v : Int64 × vR, fR_inbred n T a1 a2 = some v ∧ v.1 = fK_inbred n S a1 a2 ∧ Rel n S v.2 := by
  sorry
theorem rel_chance {n : Nat} {S : vK} {T : vR} (hR : Rel n S T) (a1 a2 : Int32) : ∃ v : Int64 × vR, fR_chance n T a1 a2 = some v ∧ v.1 = fK_chance n S a1 a2 ∧ Rel n S v.2 := by
  sorry
theorem rel_share {n : Nat} {S : vK} {T : vR} (hR : Rel n S T) (a1 a2 a3 : Int32) : ∃ v : Int64 × vR, fR_share n T a1 a2 a3 = some v ∧ v.1 = (fK_share n S a1 a2 a3).1 ∧ Rel n (fK_share n S a1 a2 a3).2 v.2 := by
  sorry
theorem rel_isForbear {n : Nat} {S : vK} {T : vR} (hR : Rel n S T) (a1 a2 : Int32) : ∃ v : Int32 × vR, fR_isForbear n T a1 a2 = some v ∧ v.1 = fK_isForbear n S a1 a2 ∧ Rel n S v.2 := by
  sorry
theorem rel_order {n : Nat} {S : vK} {T : vR} (hR : Rel n S T) (a1 : Int32) : ∃ v : Int32 × vR, fR_order n T a1 = some v ∧ v.1 = fK_order n S a1 ∧ Rel n S v.2 := by
  sorry
theorem rel_mark {n : Nat} {S : vK} {T : vR} (hR : Rel n S T) (a1 a2 a3 : Int32) : ∃ v : Int32 × vR, fR_mark n T a1 a2 a3 = some v ∧ v.1 = (fK_mark n S a1 a2 a3).1 ∧ Rel n (fK_mark n S a1 a2 a3).2 v.2 := by
  sorry
theorem rel_left {n : Nat} {S : vK} {T : vR} (hR : Rel n S T) (a1 a2 : Int32) : fR_left n T a1 a2 = some (fK_left n S a1 a2) := by
  sorry
theorem rel_odds {n : Nat} {S : vK} {T : vR} (hR : Rel n S T) (a1 a2 a3 : Int32) : fR_odds n T a1 a2 a3 = some (fK_odds n S a1 a2 a3) := by
  sorry
theorem rel_like {n : Nat} {S : vK} {T : vR} (hR : Rel n S T) (a1 a2 a3 : Int32) : fR_like n T a1 a2 a3 = some (fK_like n S a1 a2 a3) := by
  sorry
theorem rel_lost {n : Nat} {S : vK} {T : vR} (hR : Rel n S T) (a1 : Int32) : ∃ v : Int32 × vR, fR_lost n T a1 = some v ∧ v.1 = fK_lost n S a1 ∧ Rel n S v.2 := by
  sorry
theorem rel_diverse {n : Nat} {S : vK} {T : vR} (hR : Rel n S T) (a1 : Int32) : ∃ v : Int64 × vR, fR_diverse n T a1 = some v ∧ v.1 = fK_diverse n S a1 ∧ Rel n S v.2 := by
  sorry
theorem rel_animal {n : Nat} {S : vK} {T : vR} (hR : Rel n S T) (a1 a2 : Int32) : ∃ v : Int32 × vR, fR_animal n T a1 a2 = some v ∧ v.1 = fK_animal n S a1 a2 ∧ Rel n S v.2 := by
  sorry
theorem rel_init {n : Nat} (h1 : 1 ≤ n) (hn : n ≤ 24) : Rel n (fK_init n) (fR_init n) := by
  sorry
