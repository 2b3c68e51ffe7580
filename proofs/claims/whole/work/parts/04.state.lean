-- ===== the class's state, in words of numbers, and its cells =====
/-- a pedigree: mothers, fathers, steps, sequence, forbears, kinTable, shares, ringRows, ringLength -/
abbrev vP : Type := (Nat → Int32) × (Nat → Int32) × (Nat → Int32) × (Nat → Int32) × (Nat → Int32) × (Nat → Int64) × (Nat → Int64) × (Nat → Int32) × Int32
abbrev g_mo (P : vP) : Nat → Int32 := P.1
abbrev g_fa (P : vP) : Nat → Int32 := P.2.1
abbrev g_st (P : vP) : Nat → Int32 := P.2.2.1
abbrev g_sq (P : vP) : Nat → Int32 := P.2.2.2.1
abbrev g_fb (P : vP) : Nat → Int32 := P.2.2.2.2.1
abbrev g_kt (P : vP) : Nat → Int64 := P.2.2.2.2.2.1
abbrev g_sh (P : vP) : Nat → Int64 := P.2.2.2.2.2.2.1
abbrev g_rr (P : vP) : Nat → Int32 := P.2.2.2.2.2.2.2.1
abbrev g_rl (P : vP) : Int32 := P.2.2.2.2.2.2.2.2
abbrev p_mo (P : vP) (f : Nat → Int32) : vP := (f, P.2)
abbrev p_fa (P : vP) (f : Nat → Int32) : vP := (P.1, f, P.2.2)
abbrev p_st (P : vP) (f : Nat → Int32) : vP := (P.1, P.2.1, f, P.2.2.2)
abbrev p_sq (P : vP) (f : Nat → Int32) : vP := (P.1, P.2.1, P.2.2.1, f, P.2.2.2.2)
abbrev p_fb (P : vP) (f : Nat → Int32) : vP := (P.1, P.2.1, P.2.2.1, P.2.2.2.1, f, P.2.2.2.2.2)
abbrev p_kt (P : vP) (f : Nat → Int64) : vP := (P.1, P.2.1, P.2.2.1, P.2.2.2.1, P.2.2.2.2.1, f, P.2.2.2.2.2.2)
abbrev p_sh (P : vP) (f : Nat → Int64) : vP := (P.1, P.2.1, P.2.2.1, P.2.2.2.1, P.2.2.2.2.1, P.2.2.2.2.2.1, f, P.2.2.2.2.2.2.2)
abbrev p_rr (P : vP) (f : Nat → Int32) : vP := (P.1, P.2.1, P.2.2.1, P.2.2.2.1, P.2.2.2.2.1, P.2.2.2.2.2.1, P.2.2.2.2.2.2.1, f, P.2.2.2.2.2.2.2.2)
abbrev p_rl (P : vP) (x : Int32) : vP := (P.1, P.2.1, P.2.2.1, P.2.2.2.1, P.2.2.2.2.1, P.2.2.2.2.2.1, P.2.2.2.2.2.2.1, P.2.2.2.2.2.2.2.1, x)
abbrev vM : Type := Nat → Int32
/-- the whole class: sexes, days, dead, the pedigree, the forms -/
abbrev vK : Type := (Nat → Int32) × (Nat → Int32) × (Nat → Int32) × vP × vM
abbrev g_sx (S : vK) : Nat → Int32 := S.1
abbrev g_dy (S : vK) : Nat → Int32 := S.2.1
abbrev g_dd (S : vK) : Nat → Int32 := S.2.2.1
abbrev g_P (S : vK) : vP := S.2.2.2.1
abbrev g_M (S : vK) : vM := S.2.2.2.2
abbrev s_sx (S : vK) (f : Nat → Int32) : vK := (f, S.2)
abbrev s_dy (S : vK) (f : Nat → Int32) : vK := (S.1, f, S.2.2)
abbrev s_dd (S : vK) (f : Nat → Int32) : vK := (S.1, S.2.1, f, S.2.2.2)
abbrev s_P (S : vK) (P : vP) : vK := (S.1, S.2.1, S.2.2.1, P, S.2.2.2.2)
abbrev s_M (S : vK) (M : vM) : vK := (S.1, S.2.1, S.2.2.1, S.2.2.2.1, M)
def tysK (Y : Nat → ClassId) : List (ClassId × FieldType) := [(Y 0, .int), (Y 1, .long), (Y 2, .boolean)]
def wA (Y : Nat → ClassId) (h : Nat → Nat) (n : Nat) (f : Nat → Int32) : va_W := [(h 0, .inl (Y 0, n, .inl f))]
def wP (Y : Nat → ClassId) (h : Nat → Nat) (n : Nat) (P : vP) : va_W := [(h 0, .inr (1, [.int (nI n), .ref (h 1), .ref (h 2), .ref (h 3), .ref (h 4), .ref (h 5), .ref (h 6), .ref (h 7), .ref (h 8), .int (g_rl P)])), (h 1, .inl (Y 0, 24, .inl (g_mo P))), (h 2, .inl (Y 0, 24, .inl (g_fa P))), (h 3, .inl (Y 0, 24, .inl (g_st P))), (h 4, .inl (Y 0, 24, .inl (g_sq P))), (h 5, .inl (Y 0, 24, .inl (g_fb P))), (h 6, .inl (Y 1, 576, .inr (.inl (g_kt P)))), (h 7, .inl (Y 1, 24, .inr (.inl (g_sh P)))), (h 8, .inl (Y 0, 25, .inl (g_rr P)))]
def wM (Y : Nat → ClassId) (h : Nat → Nat) (n : Nat) (M : vM) : va_W := [(h 0, .inr (2, [.int (nI n), .ref (h 1)])), (h 1, .inl (Y 0, 96, .inl M))]
def wKo (Y : Nat → ClassId) (h : Nat → Nat) (n : Nat) (S : vK) : va_W := [(h 0, .inr (0, [.ref (h 4), .ref (h 13), .int (nI n), .ref (h 1), .ref (h 2), .ref (h 3)])), (h 1, .inl (Y 0, 24, .inl (g_sx S))), (h 2, .inl (Y 0, 24, .inl (g_dy S))), (h 3, .inl (Y 2, 24, .inl (g_dd S)))]
def wK (Y : Nat → ClassId) (h : Nat → Nat) (n : Nat) (S : vK) : va_W := wKo Y h n S ++ (wP Y (fun i => h (i + 4)) n (g_P S) ++ wM Y (fun i => h (i + 13)) n (g_M S))
theorem kP_sub {D : va_G} {cl : List vw_C} {Y : Nat → ClassId} {h : Nat → Nat} {n : Nat} {S : vK} {H : Heap} (hP : va_P D cl (wK Y h n S) H) : va_P D cl (wP Y (fun i => h (i + 4)) n (g_P S)) H := zsub [4, 5, 6, 7, 8, 9, 10, 11, 12] hP rfl
theorem kM_sub {D : va_G} {cl : List vw_C} {Y : Nat → ClassId} {h : Nat → Nat} {n : Nat} {S : vK} {H : Heap} (hP : va_P D cl (wK Y h n S) H) : va_P D cl (wM Y (fun i => h (i + 13)) n (g_M S)) H := zsub [13, 14] hP rfl
