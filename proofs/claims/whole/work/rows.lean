section
-- ===== PART A: goes FIRST, ahead of the names: the tables' words, and 'selects' of the private methods out of them =====
/-- a private method of a class that the tables say can be made, by its rows of tables_1 -/
def lw_okq (q : MethodName × Nat) : Prop := (q.1.cls ≠ "java/lang/invoke/MethodHandle" ∧ q.1.cls ≠ "java/lang/invoke/VarHandle") ∧ Cond.instantiable q.1.cls q.2 ∈ tables_1 ∧ Cond.privateMethod q.1 ∈ tables_1 ∧ Cond.instanceMethod q.1 ∈ tables_1
theorem lw_p0 : lw_okq (⟨"KinNumbers$Pedigree", "reckon", "()V"⟩, 10) := ⟨⟨by decide +kernel, by decide +kernel⟩, List.mem_of_getElem? (i := 23) (by decide +kernel), List.mem_of_getElem? (i := 32) (by decide +kernel), List.mem_of_getElem? (i := 33) (by decide +kernel)⟩
theorem lw_p1 : lw_okq (⟨"KinNumbers$Pedigree", "reckonSteps", "()V"⟩, 10) := ⟨⟨by decide +kernel, by decide +kernel⟩, List.mem_of_getElem? (i := 23) (by decide +kernel), List.mem_of_getElem? (i := 36) (by decide +kernel), List.mem_of_getElem? (i := 37) (by decide +kernel)⟩
theorem lw_p2 : lw_okq (⟨"KinNumbers$Pedigree", "has", "(I)Z"⟩, 10) := ⟨⟨by decide +kernel, by decide +kernel⟩, List.mem_of_getElem? (i := 23) (by decide +kernel), List.mem_of_getElem? (i := 44) (by decide +kernel), List.mem_of_getElem? (i := 45) (by decide +kernel)⟩
theorem lw_p3 : lw_okq (⟨"KinNumbers$Pedigree", "reckonOrder", "()V"⟩, 10) := ⟨⟨by decide +kernel, by decide +kernel⟩, List.mem_of_getElem? (i := 23) (by decide +kernel), List.mem_of_getElem? (i := 49) (by decide +kernel), List.mem_of_getElem? (i := 50) (by decide +kernel)⟩
theorem lw_p4 : lw_okq (⟨"KinNumbers$Pedigree", "reckonForbears", "(I)V"⟩, 10) := ⟨⟨by decide +kernel, by decide +kernel⟩, List.mem_of_getElem? (i := 23) (by decide +kernel), List.mem_of_getElem? (i := 57) (by decide +kernel), List.mem_of_getElem? (i := 58) (by decide +kernel)⟩
theorem lw_p5 : lw_okq (⟨"KinNumbers$Pedigree", "lineOf", "(I)I"⟩, 10) := ⟨⟨by decide +kernel, by decide +kernel⟩, List.mem_of_getElem? (i := 23) (by decide +kernel), List.mem_of_getElem? (i := 61) (by decide +kernel), List.mem_of_getElem? (i := 62) (by decide +kernel)⟩
theorem lw_p6 : lw_okq (⟨"KinNumbers$Pedigree", "reckonKin", "(I)V"⟩, 10) := ⟨⟨by decide +kernel, by decide +kernel⟩, List.mem_of_getElem? (i := 23) (by decide +kernel), List.mem_of_getElem? (i := 68) (by decide +kernel), List.mem_of_getElem? (i := 69) (by decide +kernel)⟩
theorem lw_p7 : lw_okq (⟨"KinNumbers$Pedigree", "setKin", "(IIJ)V"⟩, 10) := ⟨⟨by decide +kernel, by decide +kernel⟩, List.mem_of_getElem? (i := 23) (by decide +kernel), List.mem_of_getElem? (i := 85) (by decide +kernel), List.mem_of_getElem? (i := 86) (by decide +kernel)⟩
theorem lw_p8 : lw_okq (⟨"KinNumbers", "isAnimal", "(I)Z"⟩, 6) := ⟨⟨by decide +kernel, by decide +kernel⟩, List.mem_of_getElem? (i := 9) (by decide +kernel), List.mem_of_getElem? (i := 166) (by decide +kernel), List.mem_of_getElem? (i := 167) (by decide +kernel)⟩
theorem lw_p9 : lw_okq (⟨"KinNumbers", "isAnimalOrNone", "(I)Z"⟩, 6) := ⟨⟨by decide +kernel, by decide +kernel⟩, List.mem_of_getElem? (i := 9) (by decide +kernel), List.mem_of_getElem? (i := 170) (by decide +kernel), List.mem_of_getElem? (i := 171) (by decide +kernel)⟩
theorem lw_p10 : lw_okq (⟨"KinNumbers$Pedigree", "leadsTo", "(II)Z"⟩, 10) := ⟨⟨by decide +kernel, by decide +kernel⟩, List.mem_of_getElem? (i := 23) (by decide +kernel), List.mem_of_getElem? (i := 178) (by decide +kernel), List.mem_of_getElem? (i := 179) (by decide +kernel)⟩
theorem lw_p11 : lw_okq (⟨"KinNumbers", "mayBeParents", "(III)Z"⟩, 6) := ⟨⟨by decide +kernel, by decide +kernel⟩, List.mem_of_getElem? (i := 9) (by decide +kernel), List.mem_of_getElem? (i := 190) (by decide +kernel), List.mem_of_getElem? (i := 191) (by decide +kernel)⟩
theorem lw_p12 : lw_okq (⟨"KinNumbers", "mayBeParent", "(III)Z"⟩, 6) := ⟨⟨by decide +kernel, by decide +kernel⟩, List.mem_of_getElem? (i := 9) (by decide +kernel), List.mem_of_getElem? (i := 194) (by decide +kernel), List.mem_of_getElem? (i := 195) (by decide +kernel)⟩
theorem lw_p13 : lw_okq (⟨"KinNumbers", "areSexesAndDaysRight", "()Z"⟩, 6) := ⟨⟨by decide +kernel, by decide +kernel⟩, List.mem_of_getElem? (i := 9) (by decide +kernel), List.mem_of_getElem? (i := 215) (by decide +kernel), List.mem_of_getElem? (i := 216) (by decide +kernel)⟩
theorem lw_p14 : lw_okq (⟨"KinNumbers$Pedigree", "settledBy", "(I)J"⟩, 10) := ⟨⟨by decide +kernel, by decide +kernel⟩, List.mem_of_getElem? (i := 23) (by decide +kernel), List.mem_of_getElem? (i := 258) (by decide +kernel), List.mem_of_getElem? (i := 259) (by decide +kernel)⟩
theorem lw_p15 : lw_okq (⟨"KinNumbers$Pedigree", "shareRow", "(I)J"⟩, 10) := ⟨⟨by decide +kernel, by decide +kernel⟩, List.mem_of_getElem? (i := 23) (by decide +kernel), List.mem_of_getElem? (i := 276) (by decide +kernel), List.mem_of_getElem? (i := 277) (by decide +kernel)⟩
def lw_privs_1 : List (MethodName × Nat) := [(⟨"KinNumbers$Pedigree", "reckon", "()V"⟩, 10), (⟨"KinNumbers$Pedigree", "reckonSteps", "()V"⟩, 10), (⟨"KinNumbers$Pedigree", "has", "(I)Z"⟩, 10), (⟨"KinNumbers$Pedigree", "reckonOrder", "()V"⟩, 10), (⟨"KinNumbers$Pedigree", "reckonForbears", "(I)V"⟩, 10), (⟨"KinNumbers$Pedigree", "lineOf", "(I)I"⟩, 10), (⟨"KinNumbers$Pedigree", "reckonKin", "(I)V"⟩, 10), (⟨"KinNumbers$Pedigree", "setKin", "(IIJ)V"⟩, 10), (⟨"KinNumbers", "isAnimal", "(I)Z"⟩, 6), (⟨"KinNumbers", "isAnimalOrNone", "(I)Z"⟩, 6), (⟨"KinNumbers$Pedigree", "leadsTo", "(II)Z"⟩, 10), (⟨"KinNumbers", "mayBeParents", "(III)Z"⟩, 6), (⟨"KinNumbers", "mayBeParent", "(III)Z"⟩, 6), (⟨"KinNumbers", "areSexesAndDaysRight", "()Z"⟩, 6), (⟨"KinNumbers$Pedigree", "settledBy", "(I)J"⟩, 10), (⟨"KinNumbers$Pedigree", "shareRow", "(I)J"⟩, 10)]
theorem lw_r1 : ∀ q ∈ lw_privs_1, lw_okq q := List.forall_mem_cons.mpr ⟨lw_p0, List.forall_mem_cons.mpr ⟨lw_p1, List.forall_mem_cons.mpr ⟨lw_p2, List.forall_mem_cons.mpr ⟨lw_p3, List.forall_mem_cons.mpr ⟨lw_p4, List.forall_mem_cons.mpr ⟨lw_p5, List.forall_mem_cons.mpr ⟨lw_p6, List.forall_mem_cons.mpr ⟨lw_p7, List.forall_mem_cons.mpr ⟨lw_p8, List.forall_mem_cons.mpr ⟨lw_p9, List.forall_mem_cons.mpr ⟨lw_p10, List.forall_mem_cons.mpr ⟨lw_p11, List.forall_mem_cons.mpr ⟨lw_p12, List.forall_mem_cons.mpr ⟨lw_p13, List.forall_mem_cons.mpr ⟨lw_p14, List.forall_mem_cons.mpr ⟨lw_p15, fun _ h => absurd h List.not_mem_nil⟩⟩⟩⟩⟩⟩⟩⟩⟩⟩⟩⟩⟩⟩⟩⟩
theorem lw_p16 : lw_okq (⟨"KinNumbers$Marks", "has", "(II)Z"⟩, 2) := ⟨⟨by decide +kernel, by decide +kernel⟩, List.mem_of_getElem? (i := 124) (by decide +kernel), List.mem_of_getElem? (i := 298) (by decide +kernel), List.mem_of_getElem? (i := 299) (by decide +kernel)⟩
theorem lw_p17 : lw_okq (⟨"KinNumbers$Marks", "isKnownOfBoth", "(III)Z"⟩, 2) := ⟨⟨by decide +kernel, by decide +kernel⟩, List.mem_of_getElem? (i := 124) (by decide +kernel), List.mem_of_getElem? (i := 310) (by decide +kernel), List.mem_of_getElem? (i := 311) (by decide +kernel)⟩
theorem lw_p18 : lw_okq (⟨"KinNumbers$Marks", "formOf", "(II)I"⟩, 2) := ⟨⟨by decide +kernel, by decide +kernel⟩, List.mem_of_getElem? (i := 124) (by decide +kernel), List.mem_of_getElem? (i := 314) (by decide +kernel), List.mem_of_getElem? (i := 315) (by decide +kernel)⟩
theorem lw_p19 : lw_okq (⟨"KinNumbers$Marks", "difference", "(III)I"⟩, 2) := ⟨⟨by decide +kernel, by decide +kernel⟩, List.mem_of_getElem? (i := 124) (by decide +kernel), List.mem_of_getElem? (i := 318) (by decide +kernel), List.mem_of_getElem? (i := 319) (by decide +kernel)⟩
theorem lw_p20 : lw_okq (⟨"KinNumbers$Marks", "knownForms", "(I)I"⟩, 2) := ⟨⟨by decide +kernel, by decide +kernel⟩, List.mem_of_getElem? (i := 124) (by decide +kernel), List.mem_of_getElem? (i := 334) (by decide +kernel), List.mem_of_getElem? (i := 335) (by decide +kernel)⟩
theorem lw_p21 : lw_okq (⟨"KinNumbers$Marks", "lettersB", "(I)I"⟩, 2) := ⟨⟨by decide +kernel, by decide +kernel⟩, List.mem_of_getElem? (i := 124) (by decide +kernel), List.mem_of_getElem? (i := 338) (by decide +kernel), List.mem_of_getElem? (i := 339) (by decide +kernel)⟩
theorem lw_p22 : lw_okq (⟨"KinNumbers", "isLost", "(I)Z"⟩, 6) := ⟨⟨by decide +kernel, by decide +kernel⟩, List.mem_of_getElem? (i := 9) (by decide +kernel), List.mem_of_getElem? (i := 363) (by decide +kernel), List.mem_of_getElem? (i := 364) (by decide +kernel)⟩
theorem lw_p23 : lw_okq (⟨"KinNumbers", "kinWithLiving", "(I)J"⟩, 6) := ⟨⟨by decide +kernel, by decide +kernel⟩, List.mem_of_getElem? (i := 9) (by decide +kernel), List.mem_of_getElem? (i := 371) (by decide +kernel), List.mem_of_getElem? (i := 372) (by decide +kernel)⟩
theorem lw_p24 : lw_okq (⟨"KinNumbersModel", "is", "(I)Z"⟩, 13) := ⟨⟨by decide +kernel, by decide +kernel⟩, List.mem_of_getElem? (i := 383) (by decide +kernel), List.mem_of_getElem? (i := 433) (by decide +kernel), List.mem_of_getElem? (i := 434) (by decide +kernel)⟩
theorem lw_p25 : lw_okq (⟨"KinNumbersModel", "isOrNone", "(I)Z"⟩, 13) := ⟨⟨by decide +kernel, by decide +kernel⟩, List.mem_of_getElem? (i := 383) (by decide +kernel), List.mem_of_getElem? (i := 437) (by decide +kernel), List.mem_of_getElem? (i := 438) (by decide +kernel)⟩
theorem lw_p26 : lw_okq (⟨"KinNumbersModel", "find", "()V"⟩, 13) := ⟨⟨by decide +kernel, by decide +kernel⟩, List.mem_of_getElem? (i := 383) (by decide +kernel), List.mem_of_getElem? (i := 441) (by decide +kernel), List.mem_of_getElem? (i := 442) (by decide +kernel)⟩
theorem lw_p27 : lw_okq (⟨"KinNumbersModel", "leads", "(II)I"⟩, 13) := ⟨⟨by decide +kernel, by decide +kernel⟩, List.mem_of_getElem? (i := 383) (by decide +kernel), List.mem_of_getElem? (i := 445) (by decide +kernel), List.mem_of_getElem? (i := 446) (by decide +kernel)⟩
theorem lw_p28 : lw_okq (⟨"KinNumbersModel", "tellRing", "(II)V"⟩, 13) := ⟨⟨by decide +kernel, by decide +kernel⟩, List.mem_of_getElem? (i := 383) (by decide +kernel), List.mem_of_getElem? (i := 449) (by decide +kernel), List.mem_of_getElem? (i := 450) (by decide +kernel)⟩
theorem lw_p29 : lw_okq (⟨"KinNumbersModel", "isOlder", "(II)Z"⟩, 13) := ⟨⟨by decide +kernel, by decide +kernel⟩, List.mem_of_getElem? (i := 383) (by decide +kernel), List.mem_of_getElem? (i := 453) (by decide +kernel), List.mem_of_getElem? (i := 454) (by decide +kernel)⟩
theorem lw_p30 : lw_okq (⟨"KinNumbersModel", "findKin", "()V"⟩, 13) := ⟨⟨by decide +kernel, by decide +kernel⟩, List.mem_of_getElem? (i := 383) (by decide +kernel), List.mem_of_getElem? (i := 478) (by decide +kernel), List.mem_of_getElem? (i := 479) (by decide +kernel)⟩
theorem lw_p31 : lw_okq (⟨"KinNumbersModel", "kinOf", "(II)J"⟩, 13) := ⟨⟨by decide +kernel, by decide +kernel⟩, List.mem_of_getElem? (i := 383) (by decide +kernel), List.mem_of_getElem? (i := 482) (by decide +kernel), List.mem_of_getElem? (i := 483) (by decide +kernel)⟩
def lw_privs_2 : List (MethodName × Nat) := [(⟨"KinNumbers$Marks", "has", "(II)Z"⟩, 2), (⟨"KinNumbers$Marks", "isKnownOfBoth", "(III)Z"⟩, 2), (⟨"KinNumbers$Marks", "formOf", "(II)I"⟩, 2), (⟨"KinNumbers$Marks", "difference", "(III)I"⟩, 2), (⟨"KinNumbers$Marks", "knownForms", "(I)I"⟩, 2), (⟨"KinNumbers$Marks", "lettersB", "(I)I"⟩, 2), (⟨"KinNumbers", "isLost", "(I)Z"⟩, 6), (⟨"KinNumbers", "kinWithLiving", "(I)J"⟩, 6), (⟨"KinNumbersModel", "is", "(I)Z"⟩, 13), (⟨"KinNumbersModel", "isOrNone", "(I)Z"⟩, 13), (⟨"KinNumbersModel", "find", "()V"⟩, 13), (⟨"KinNumbersModel", "leads", "(II)I"⟩, 13), (⟨"KinNumbersModel", "tellRing", "(II)V"⟩, 13), (⟨"KinNumbersModel", "isOlder", "(II)Z"⟩, 13), (⟨"KinNumbersModel", "findKin", "()V"⟩, 13), (⟨"KinNumbersModel", "kinOf", "(II)J"⟩, 13)]
theorem lw_r2 : ∀ q ∈ lw_privs_2, lw_okq q := List.forall_mem_cons.mpr ⟨lw_p16, List.forall_mem_cons.mpr ⟨lw_p17, List.forall_mem_cons.mpr ⟨lw_p18, List.forall_mem_cons.mpr ⟨lw_p19, List.forall_mem_cons.mpr ⟨lw_p20, List.forall_mem_cons.mpr ⟨lw_p21, List.forall_mem_cons.mpr ⟨lw_p22, List.forall_mem_cons.mpr ⟨lw_p23, List.forall_mem_cons.mpr ⟨lw_p24, List.forall_mem_cons.mpr ⟨lw_p25, List.forall_mem_cons.mpr ⟨lw_p26, List.forall_mem_cons.mpr ⟨lw_p27, List.forall_mem_cons.mpr ⟨lw_p28, List.forall_mem_cons.mpr ⟨lw_p29, List.forall_mem_cons.mpr ⟨lw_p30, List.forall_mem_cons.mpr ⟨lw_p31, fun _ h => absurd h List.not_mem_nil⟩⟩⟩⟩⟩⟩⟩⟩⟩⟩⟩⟩⟩⟩⟩⟩
theorem lw_p32 : lw_okq (⟨"KinNumbersModel", "inbredOf", "(I)J"⟩, 13) := ⟨⟨by decide +kernel, by decide +kernel⟩, List.mem_of_getElem? (i := 383) (by decide +kernel), List.mem_of_getElem? (i := 495) (by decide +kernel), List.mem_of_getElem? (i := 496) (by decide +kernel)⟩
theorem lw_p33 : lw_okq (⟨"KinNumbersModel", "isFounder", "(I)Z"⟩, 13) := ⟨⟨by decide +kernel, by decide +kernel⟩, List.mem_of_getElem? (i := 383) (by decide +kernel), List.mem_of_getElem? (i := 508) (by decide +kernel), List.mem_of_getElem? (i := 509) (by decide +kernel)⟩
theorem lw_p34 : lw_okq (⟨"KinNumbersModel", "isLeftOut", "(II)Z"⟩, 13) := ⟨⟨by decide +kernel, by decide +kernel⟩, List.mem_of_getElem? (i := 383) (by decide +kernel), List.mem_of_getElem? (i := 528) (by decide +kernel), List.mem_of_getElem? (i := 529) (by decide +kernel)⟩
def lw_privs_3 : List (MethodName × Nat) := [(⟨"KinNumbersModel", "inbredOf", "(I)J"⟩, 13), (⟨"KinNumbersModel", "isFounder", "(I)Z"⟩, 13), (⟨"KinNumbersModel", "isLeftOut", "(II)Z"⟩, 13)]
theorem lw_r3 : ∀ q ∈ lw_privs_3, lw_okq q := List.forall_mem_cons.mpr ⟨lw_p32, List.forall_mem_cons.mpr ⟨lw_p33, List.forall_mem_cons.mpr ⟨lw_p34, fun _ h => absurd h List.not_mem_nil⟩⟩⟩
def lw_privs : List (MethodName × Nat) := lw_privs_1 ++ (lw_privs_2 ++ (lw_privs_3))
def lw_tbl : List Cond := k2_sels lw_privs ++ tables_1
theorem lw_privs_ok : ∀ q ∈ lw_privs, lw_okq q := by
  show ∀ q ∈ lw_privs_1 ++ (lw_privs_2 ++ (lw_privs_3)), lw_okq q
  exact List.forall_mem_append.mpr ⟨lw_r1, List.forall_mem_append.mpr ⟨lw_r2, lw_r3⟩⟩

theorem um0 {w : Cond} (h : w ∈ k2_sels lw_privs) : w ∈ lw_tbl := List.mem_append_left _ h
theorem um1 {w : Cond} (h : w ∈ tables_1_1) : w ∈ lw_tbl := List.mem_append_right _ (List.mem_append_left _ h)
theorem um2 {w : Cond} (h : w ∈ tables_1_2) : w ∈ lw_tbl := List.mem_append_right _ (List.mem_append_right _ (List.mem_append_left _ h))
theorem um3 {w : Cond} (h : w ∈ tables_1_3) : w ∈ lw_tbl := List.mem_append_right _ (List.mem_append_right _ (List.mem_append_right _ h))
def uT : List Cond := lw_tbl.filter goodWord
theorem uk {w : Cond} (h : w ∈ lw_tbl) (hg : goodWord w = true) : w ∈ uT := List.mem_filter.mpr ⟨h, hg⟩
theorem uw_good : ∀ w ∈ uT, ((w.onTables && w.keeps) = true ∨ ∃ ty, w = .arrayClass ty) := fun w h => good_of_word (List.mem_filter.mp h).2
def RK : String := "KinNumbers"
def RP : String := "KinNumbers$Pedigree"
def RM : String := "KinNumbers$Marks"
def RF : String := "KinNumbers$Fraction"
def RR : String := "KinNumbersModel"
def RL : String := "KinNumbersLaw"
def RJ : String := "java/lang/Math"
def RA : String := "java/util/Arrays"
def RO : String := "java/lang/Object"
def TK : u_T := fun k => match k with
  | 0 => ("KinNumbers", "pedigree", "LKinNumbers$Pedigree;", true)
  | 1 => ("KinNumbers", "marks", "LKinNumbers$Marks;", true)
  | 2 => ("KinNumbers", "count", "I", true)
  | 3 => ("KinNumbers", "sexes", "[I", true)
  | 4 => ("KinNumbers", "days", "[I", true)
  | _ => ("KinNumbers", "dead", "[Z", true)
def tyK : Nat → FieldType := fun k => match k with
  | 0 => .object "KinNumbers$Pedigree"
  | 1 => .object "KinNumbers$Marks"
  | 2 => .int
  | 3 => .array .int
  | 4 => .array .int
  | _ => .array .boolean
theorem nmK : ∀ a, a < 6 → ∀ b, b < 6 → a ≠ b → (TK a).2.1 ≠ (TK b).2.1 := by decide +kernel
theorem tyK_ok : ∀ k, k < 6 → parseFieldDescriptor (TK k).2.2.1 = some (tyK k) := by decide +kernel
theorem hinK : ∀ w ∈ u_ws RK TK 6, w ∈ uT := by decide +kernel
def TP : u_T := fun k => match k with
  | 0 => ("KinNumbers$Pedigree", "count", "I", true)
  | 1 => ("KinNumbers$Pedigree", "mothers", "[I", true)
  | 2 => ("KinNumbers$Pedigree", "fathers", "[I", true)
  | 3 => ("KinNumbers$Pedigree", "steps", "[I", true)
  | 4 => ("KinNumbers$Pedigree", "sequence", "[I", true)
  | 5 => ("KinNumbers$Pedigree", "forbears", "[I", true)
  | 6 => ("KinNumbers$Pedigree", "kinTable", "[J", true)
  | 7 => ("KinNumbers$Pedigree", "shares", "[J", true)
  | 8 => ("KinNumbers$Pedigree", "ringRows", "[I", true)
  | _ => ("KinNumbers$Pedigree", "ringLength", "I", false)
def tyP : Nat → FieldType := fun k => match k with
  | 0 => .int
  | 1 => .array .int
  | 2 => .array .int
  | 3 => .array .int
  | 4 => .array .int
  | 5 => .array .int
  | 6 => .array .long
  | 7 => .array .long
  | 8 => .array .int
  | _ => .int
theorem nmP : ∀ a, a < 10 → ∀ b, b < 10 → a ≠ b → (TP a).2.1 ≠ (TP b).2.1 := by decide +kernel
theorem tyP_ok : ∀ k, k < 10 → parseFieldDescriptor (TP k).2.2.1 = some (tyP k) := by decide +kernel
theorem hinP : ∀ w ∈ u_ws RP TP 10, w ∈ uT := by decide +kernel
def TM : u_T := fun k => match k with
  | 0 => ("KinNumbers$Marks", "count", "I", true)
  | _ => ("KinNumbers$Marks", "forms", "[I", true)
def tyM : Nat → FieldType := fun k => match k with
  | 0 => .int
  | _ => .array .int
theorem nmM : ∀ a, a < 2 → ∀ b, b < 2 → a ≠ b → (TM a).2.1 ≠ (TM b).2.1 := by decide +kernel
theorem tyM_ok : ∀ k, k < 2 → parseFieldDescriptor (TM k).2.2.1 = some (tyM k) := by decide +kernel
theorem hinM : ∀ w ∈ u_ws RM TM 2, w ∈ uT := by decide +kernel
def TR : u_T := fun k => match k with
  | 0 => ("KinNumbersModel", "n", "I", true)
  | 1 => ("KinNumbersModel", "mother", "[I", true)
  | 2 => ("KinNumbersModel", "father", "[I", true)
  | 3 => ("KinNumbersModel", "sex", "[I", true)
  | 4 => ("KinNumbersModel", "day", "[I", true)
  | 5 => ("KinNumbersModel", "gone", "[Z", true)
  | 6 => ("KinNumbersModel", "form", "[I", true)
  | 7 => ("KinNumbersModel", "rings", "I", false)
  | 8 => ("KinNumbersModel", "ring", "[I", true)
  | 9 => ("KinNumbersModel", "above", "[Z", true)
  | 10 => ("KinNumbersModel", "steps", "[I", true)
  | 11 => ("KinNumbersModel", "row", "[I", true)
  | _ => ("KinNumbersModel", "kin", "[J", true)
def tyR : Nat → FieldType := fun k => match k with
  | 0 => .int
  | 1 => .array .int
  | 2 => .array .int
  | 3 => .array .int
  | 4 => .array .int
  | 5 => .array .boolean
  | 6 => .array .int
  | 7 => .int
  | 8 => .array .int
  | 9 => .array .boolean
  | 10 => .array .int
  | 11 => .array .int
  | _ => .array .long
theorem nmR : ∀ a, a < 13 → ∀ b, b < 13 → a ≠ b → (TR a).2.1 ≠ (TR b).2.1 := by decide +kernel
theorem tyR_ok : ∀ k, k < 13 → parseFieldDescriptor (TR k).2.2.1 = some (tyR k) := by decide +kernel
theorem hinR : ∀ w ∈ u_ws RR TR 13, w ∈ uT := by decide +kernel
abbrev vwCl : List vw_C := [(RK, TK, 6), (RP, TP, 10), (RM, TM, 2), (RR, TR, 13)]
abbrev cK_init : ByteArray := prog_1_method_1_code
def yK_init : MethodName := ⟨RK, "<init>", "(I)V"⟩
theorem ucK_init : Cond.code yK_init cK_init 2 none ∈ uT := uk (um1 (List.mem_of_getElem? (i := 12) rfl)) rfl
def wsK_init : List Cond := Cond.code yK_init cK_init 2 none :: uT
abbrev cO_init : ByteArray := object_method_1_code
def yO_init : MethodName := ⟨RO, "<init>", "()V"⟩
theorem ucO_init : Cond.code yO_init cO_init 1 none ∈ uT := uk (um1 (List.mem_of_getElem? (i := 15) rfl)) rfl
def wsO_init : List Cond := Cond.code yO_init cO_init 1 none :: uT
abbrev yJ_min : MethodName := Lib.Math.min.name
theorem ucJ_min : Cond.code Lib.Math.min.name Lib.Math.min.code 2 (some .int) ∈ uT := uk (um1 (List.mem_of_getElem? (i := 18) rfl)) rfl
abbrev yJ_max : MethodName := Lib.Math.max.name
theorem ucJ_max : Cond.code Lib.Math.max.name Lib.Math.max.code 2 (some .int) ∈ uT := uk (um1 (List.mem_of_getElem? (i := 21) rfl)) rfl
abbrev cP_init : ByteArray := prog_4_method_1_code
def yP_init : MethodName := ⟨RP, "<init>", "(I)V"⟩
theorem ucP_init : Cond.code yP_init cP_init 2 none ∈ uT := uk (um1 (List.mem_of_getElem? (i := 26) rfl)) rfl
def wsP_init : List Cond := Cond.code yP_init cP_init 2 none :: uT
abbrev cA_fill : ByteArray := prog_8_method_103_code
def yA_fill : MethodName := ⟨RA, "fill", "([II)V"⟩
theorem ucA_fill : Cond.code yA_fill cA_fill 4 none ∈ uT := uk (um1 (List.mem_of_getElem? (i := 30) rfl)) rfl
def wsA_fill : List Cond := Cond.code yA_fill cA_fill 4 none :: uT
abbrev cP_reckon : ByteArray := prog_4_method_22_code
def yP_reckon : MethodName := ⟨RP, "reckon", "()V"⟩
theorem ucP_reckon : Cond.code yP_reckon cP_reckon 2 none ∈ uT := uk (um1 (List.mem_of_getElem? (i := 34) rfl)) rfl
def wsP_reckon : List Cond := Cond.code yP_reckon cP_reckon 2 none :: uT
abbrev cP_reckonSteps : ByteArray := prog_4_method_23_code
def yP_reckonSteps : MethodName := ⟨RP, "reckonSteps", "()V"⟩
theorem ucP_reckonSteps : Cond.code yP_reckonSteps cP_reckonSteps 5 none ∈ uT := uk (um1 (List.mem_of_getElem? (i := 38) rfl)) rfl
def wsP_reckonSteps : List Cond := Cond.code yP_reckonSteps cP_reckonSteps 5 none :: uT
abbrev cP_stepsOf : ByteArray := prog_4_method_4_code
def yP_stepsOf : MethodName := ⟨RP, "stepsOf", "(I)I"⟩
theorem ucP_stepsOf : Cond.code yP_stepsOf cP_stepsOf 2 (some .int) ∈ uT := uk (um1 (List.mem_of_getElem? (i := 42) rfl)) rfl
def wsP_stepsOf : List Cond := Cond.code yP_stepsOf cP_stepsOf 2 (some .int) :: uT
abbrev cP_has : ByteArray := prog_4_method_17_code
def yP_has : MethodName := ⟨RP, "has", "(I)Z"⟩
theorem ucP_has : Cond.code yP_has cP_has 2 (some .boolean) ∈ uT := uk (um1 (List.mem_of_getElem? (i := 46) rfl)) rfl
def wsP_has : List Cond := Cond.code yP_has cP_has 2 (some .boolean) :: uT
abbrev cP_reckonOrder : ByteArray := prog_4_method_24_code
def yP_reckonOrder : MethodName := ⟨RP, "reckonOrder", "()V"⟩
theorem ucP_reckonOrder : Cond.code yP_reckonOrder cP_reckonOrder 4 none ∈ uT := uk (um1 (List.mem_of_getElem? (i := 51) rfl)) rfl
def wsP_reckonOrder : List Cond := Cond.code yP_reckonOrder cP_reckonOrder 4 none :: uT
abbrev cP_inOrder : ByteArray := prog_4_method_5_code
def yP_inOrder : MethodName := ⟨RP, "inOrder", "(I)I"⟩
theorem ucP_inOrder : Cond.code yP_inOrder cP_inOrder 2 (some .int) ∈ uT := uk (um1 (List.mem_of_getElem? (i := 55) rfl)) rfl
def wsP_inOrder : List Cond := Cond.code yP_inOrder cP_inOrder 2 (some .int) :: uT
abbrev cP_reckonForbears : ByteArray := prog_4_method_25_code
def yP_reckonForbears : MethodName := ⟨RP, "reckonForbears", "(I)V"⟩
theorem ucP_reckonForbears : Cond.code yP_reckonForbears cP_reckonForbears 2 none ∈ uT := uk (um1 (List.mem_of_getElem? (i := 59) rfl)) rfl
def wsP_reckonForbears : List Cond := Cond.code yP_reckonForbears cP_reckonForbears 2 none :: uT
abbrev cP_lineOf : ByteArray := prog_4_method_26_code
def yP_lineOf : MethodName := ⟨RP, "lineOf", "(I)I"⟩
theorem ucP_lineOf : Cond.code yP_lineOf cP_lineOf 2 (some .int) ∈ uT := uk (um1 (List.mem_of_getElem? (i := 63) rfl)) rfl
def wsP_lineOf : List Cond := Cond.code yP_lineOf cP_lineOf 2 (some .int) :: uT
abbrev cP_bitOf : ByteArray := prog_4_method_18_code
def yP_bitOf : MethodName := ⟨RP, "bitOf", "(I)I"⟩
theorem ucP_bitOf : Cond.code yP_bitOf cP_bitOf 1 (some .int) ∈ uT := uk (um1 (List.mem_of_getElem? (i := 66) rfl)) rfl
def wsP_bitOf : List Cond := Cond.code yP_bitOf cP_bitOf 1 (some .int) :: uT
abbrev cP_reckonKin : ByteArray := prog_4_method_27_code
def yP_reckonKin : MethodName := ⟨RP, "reckonKin", "(I)V"⟩
theorem ucP_reckonKin : Cond.code yP_reckonKin cP_reckonKin 7 none ∈ uT := uk (um1 (List.mem_of_getElem? (i := 70) rfl)) rfl
def wsP_reckonKin : List Cond := Cond.code yP_reckonKin cP_reckonKin 7 none :: uT
abbrev cP_motherOf : ByteArray := prog_4_method_2_code
def yP_motherOf : MethodName := ⟨RP, "motherOf", "(I)I"⟩
theorem ucP_motherOf : Cond.code yP_motherOf cP_motherOf 2 (some .int) ∈ uT := uk (um1 (List.mem_of_getElem? (i := 74) rfl)) rfl
def wsP_motherOf : List Cond := Cond.code yP_motherOf cP_motherOf 2 (some .int) :: uT
abbrev cP_fatherOf : ByteArray := prog_4_method_3_code
def yP_fatherOf : MethodName := ⟨RP, "fatherOf", "(I)I"⟩
theorem ucP_fatherOf : Cond.code yP_fatherOf cP_fatherOf 2 (some .int) ∈ uT := uk (um1 (List.mem_of_getElem? (i := 78) rfl)) rfl
def wsP_fatherOf : List Cond := Cond.code yP_fatherOf cP_fatherOf 2 (some .int) :: uT
abbrev cP_kinOf : ByteArray := prog_4_method_8_code
def yP_kinOf : MethodName := ⟨RP, "kinOf", "(II)J"⟩
theorem ucP_kinOf : Cond.code yP_kinOf cP_kinOf 3 (some .long) ∈ uT := uk (um1 (List.mem_of_getElem? (i := 82) rfl)) rfl
def wsP_kinOf : List Cond := Cond.code yP_kinOf cP_kinOf 3 (some .long) :: uT
abbrev cP_setKin : ByteArray := prog_4_method_28_code
def yP_setKin : MethodName := ⟨RP, "setKin", "(IIJ)V"⟩
theorem ucP_setKin : Cond.code yP_setKin cP_setKin 5 none ∈ uT := uk (um1 (List.mem_of_getElem? (i := 87) rfl)) rfl
def wsP_setKin : List Cond := Cond.code yP_setKin cP_setKin 5 none :: uT
abbrev cM_init : ByteArray := prog_3_method_1_code
def yM_init : MethodName := ⟨RM, "<init>", "(I)V"⟩
theorem ucM_init : Cond.code yM_init cM_init 2 none ∈ uT := uk (um1 (List.mem_of_getElem? (i := 127) rfl)) rfl
def wsM_init : List Cond := Cond.code yM_init cM_init 2 none :: uT
abbrev cK_parents : ByteArray := prog_1_method_2_code
def yK_parents : MethodName := ⟨RK, "parents", "(III)Z"⟩
theorem ucK_parents : Cond.code yK_parents cK_parents 4 (some .boolean) ∈ uT := uk (um1 (List.mem_of_getElem? (i := 160) rfl)) rfl
def wsK_parents : List Cond := Cond.code yK_parents cK_parents 4 (some .boolean) :: uT
abbrev cP_forgetRing : ByteArray := prog_4_method_14_code
def yP_forgetRing : MethodName := ⟨RP, "forgetRing", "()V"⟩
theorem ucP_forgetRing : Cond.code yP_forgetRing cP_forgetRing 1 none ∈ uT := uk (um1 (List.mem_of_getElem? (i := 164) rfl)) rfl
def wsP_forgetRing : List Cond := Cond.code yP_forgetRing cP_forgetRing 1 none :: uT
abbrev cK_isAnimal : ByteArray := prog_1_method_19_code
def yK_isAnimal : MethodName := ⟨RK, "isAnimal", "(I)Z"⟩
theorem ucK_isAnimal : Cond.code yK_isAnimal cK_isAnimal 2 (some .boolean) ∈ uT := uk (um1 (List.mem_of_getElem? (i := 168) rfl)) rfl
def wsK_isAnimal : List Cond := Cond.code yK_isAnimal cK_isAnimal 2 (some .boolean) :: uT
abbrev cK_isAnimalOrNone : ByteArray := prog_1_method_20_code
def yK_isAnimalOrNone : MethodName := ⟨RK, "isAnimalOrNone", "(I)Z"⟩
theorem ucK_isAnimalOrNone : Cond.code yK_isAnimalOrNone cK_isAnimalOrNone 2 (some .boolean) ∈ uT := uk (um1 (List.mem_of_getElem? (i := 172) rfl)) rfl
def wsK_isAnimalOrNone : List Cond := Cond.code yK_isAnimalOrNone cK_isAnimalOrNone 2 (some .boolean) :: uT
abbrev cP_wouldClose : ByteArray := prog_4_method_12_code
def yP_wouldClose : MethodName := ⟨RP, "wouldClose", "(III)Z"⟩
theorem ucP_wouldClose : Cond.code yP_wouldClose cP_wouldClose 4 (some .boolean) ∈ uT := uk (um1 (List.mem_of_getElem? (i := 176) rfl)) rfl
def wsP_wouldClose : List Cond := Cond.code yP_wouldClose cP_wouldClose 4 (some .boolean) :: uT
abbrev cP_leadsTo : ByteArray := prog_4_method_19_code
def yP_leadsTo : MethodName := ⟨RP, "leadsTo", "(II)Z"⟩
theorem ucP_leadsTo : Cond.code yP_leadsTo cP_leadsTo 3 (some .boolean) ∈ uT := uk (um1 (List.mem_of_getElem? (i := 180) rfl)) rfl
def wsP_leadsTo : List Cond := Cond.code yP_leadsTo cP_leadsTo 3 (some .boolean) :: uT
abbrev cP_hasForbear : ByteArray := prog_4_method_7_code
def yP_hasForbear : MethodName := ⟨RP, "hasForbear", "(II)Z"⟩
theorem ucP_hasForbear : Cond.code yP_hasForbear cP_hasForbear 3 (some .boolean) ∈ uT := uk (um1 (List.mem_of_getElem? (i := 184) rfl)) rfl
def wsP_hasForbear : List Cond := Cond.code yP_hasForbear cP_hasForbear 3 (some .boolean) :: uT
abbrev cP_keepRing : ByteArray := prog_4_method_13_code
def yP_keepRing : MethodName := ⟨RP, "keepRing", "(III)V"⟩
theorem ucP_keepRing : Cond.code yP_keepRing cP_keepRing 6 none ∈ uT := uk (um1 (List.mem_of_getElem? (i := 188) rfl)) rfl
def wsP_keepRing : List Cond := Cond.code yP_keepRing cP_keepRing 6 none :: uT
abbrev cK_mayBeParents : ByteArray := prog_1_method_21_code
def yK_mayBeParents : MethodName := ⟨RK, "mayBeParents", "(III)Z"⟩
theorem ucK_mayBeParents : Cond.code yK_mayBeParents cK_mayBeParents 4 (some .boolean) ∈ uT := uk (um1 (List.mem_of_getElem? (i := 192) rfl)) rfl
def wsK_mayBeParents : List Cond := Cond.code yK_mayBeParents cK_mayBeParents 4 (some .boolean) :: uT
abbrev cK_mayBeParent : ByteArray := prog_1_method_22_code
def yK_mayBeParent : MethodName := ⟨RK, "mayBeParent", "(III)Z"⟩
theorem ucK_mayBeParent : Cond.code yK_mayBeParent cK_mayBeParent 4 (some .boolean) ∈ uT := uk (um1 (List.mem_of_getElem? (i := 196) rfl)) rfl
def wsK_mayBeParent : List Cond := Cond.code yK_mayBeParent cK_mayBeParent 4 (some .boolean) :: uT
abbrev cP_setParents : ByteArray := prog_4_method_16_code
def yP_setParents : MethodName := ⟨RP, "setParents", "(III)V"⟩
theorem ucP_setParents : Cond.code yP_setParents cP_setParents 4 none ∈ uT := uk (um1 (List.mem_of_getElem? (i := 200) rfl)) rfl
def wsP_setParents : List Cond := Cond.code yP_setParents cP_setParents 4 none :: uT
abbrev cK_ring : ByteArray := prog_1_method_3_code
def yK_ring : MethodName := ⟨RK, "ring", "(I)I"⟩
theorem ucK_ring : Cond.code yK_ring cK_ring 2 (some .int) ∈ uT := uk (um1 (List.mem_of_getElem? (i := 204) rfl)) rfl
def wsK_ring : List Cond := Cond.code yK_ring cK_ring 2 (some .int) :: uT
abbrev cP_ringAt : ByteArray := prog_4_method_15_code
def yP_ringAt : MethodName := ⟨RP, "ringAt", "(I)I"⟩
theorem ucP_ringAt : Cond.code yP_ringAt cP_ringAt 2 (some .int) ∈ uT := uk (um1 (List.mem_of_getElem? (i := 208) rfl)) rfl
def wsP_ringAt : List Cond := Cond.code yP_ringAt cP_ringAt 2 (some .int) :: uT
abbrev cK_told : ByteArray := prog_1_method_4_code
def yK_told : MethodName := ⟨RK, "told", "(III)Z"⟩
theorem ucK_told : Cond.code yK_told cK_told 6 (some .boolean) ∈ uT := uk (um1 (List.mem_of_getElem? (i := 212) rfl)) rfl
def wsK_told : List Cond := Cond.code yK_told cK_told 6 (some .boolean) :: uT
abbrev cK_areSexesAndDaysRight : ByteArray := prog_1_method_23_code
def yK_areSexesAndDaysRight : MethodName := ⟨RK, "areSexesAndDaysRight", "()Z"⟩
theorem ucK_areSexesAndDaysRight : Cond.code yK_areSexesAndDaysRight cK_areSexesAndDaysRight 2 (some .boolean) ∈ uT := uk (um1 (List.mem_of_getElem? (i := 217) rfl)) rfl
def wsK_areSexesAndDaysRight : List Cond := Cond.code yK_areSexesAndDaysRight cK_areSexesAndDaysRight 2 (some .boolean) :: uT
abbrev cK_lives : ByteArray := prog_1_method_5_code
def yK_lives : MethodName := ⟨RK, "lives", "(IZ)Z"⟩
theorem ucK_lives : Cond.code yK_lives cK_lives 3 (some .boolean) ∈ uT := uk (um1 (List.mem_of_getElem? (i := 223) rfl)) rfl
def wsK_lives : List Cond := Cond.code yK_lives cK_lives 3 (some .boolean) :: uT
abbrev cK_kin : ByteArray := prog_1_method_6_code
def yK_kin : MethodName := ⟨RK, "kin", "(III)J"⟩
theorem ucK_kin : Cond.code yK_kin cK_kin 4 (some .long) ∈ uT := uk (um1 (List.mem_of_getElem? (i := 227) rfl)) rfl
def wsK_kin : List Cond := Cond.code yK_kin cK_kin 4 (some .long) :: uT
abbrev cF_isPart : ByteArray := prog_2_method_2_code
def yF_isPart : MethodName := ⟨RF, "isPart", "(I)Z"⟩
theorem ucF_isPart : Cond.code yF_isPart cF_isPart 1 (some .boolean) ∈ uT := uk (um1 (List.mem_of_getElem? (i := 230) rfl)) rfl
def wsF_isPart : List Cond := Cond.code yF_isPart cF_isPart 1 (some .boolean) :: uT
abbrev cF_lowest : ByteArray := prog_2_method_3_code
def yF_lowest : MethodName := ⟨RF, "lowest", "(JJI)J"⟩
theorem ucF_lowest : Cond.code yF_lowest cF_lowest 7 (some .long) ∈ uT := uk (um1 (List.mem_of_getElem? (i := 236) rfl)) rfl
def wsF_lowest : List Cond := Cond.code yF_lowest cF_lowest 7 (some .long) :: uT
abbrev cF_commonDivisor : ByteArray := prog_2_method_4_code
def yF_commonDivisor : MethodName := ⟨RF, "commonDivisor", "(JJ)J"⟩
theorem ucF_commonDivisor : Cond.code yF_commonDivisor cF_commonDivisor 11 (some .long) ∈ uT := uk (um1 (List.mem_of_getElem? (i := 239) rfl)) rfl
def wsF_commonDivisor : List Cond := Cond.code yF_commonDivisor cF_commonDivisor 11 (some .long) :: uT
abbrev cK_inbred : ByteArray := prog_1_method_7_code
def yK_inbred : MethodName := ⟨RK, "inbred", "(II)J"⟩
theorem ucK_inbred : Cond.code yK_inbred cK_inbred 3 (some .long) ∈ uT := uk (um2 (List.mem_of_getElem? (i := 4) rfl)) rfl
def wsK_inbred : List Cond := Cond.code yK_inbred cK_inbred 3 (some .long) :: uT
abbrev cP_inbreedingOf : ByteArray := prog_4_method_9_code
def yP_inbreedingOf : MethodName := ⟨RP, "inbreedingOf", "(I)J"⟩
theorem ucP_inbreedingOf : Cond.code yP_inbreedingOf cP_inbreedingOf 2 (some .long) ∈ uT := uk (um2 (List.mem_of_getElem? (i := 8) rfl)) rfl
def wsP_inbreedingOf : List Cond := Cond.code yP_inbreedingOf cP_inbreedingOf 2 (some .long) :: uT
abbrev cK_chance : ByteArray := prog_1_method_8_code
def yK_chance : MethodName := ⟨RK, "chance", "(II)J"⟩
theorem ucK_chance : Cond.code yK_chance cK_chance 3 (some .long) ∈ uT := uk (um2 (List.mem_of_getElem? (i := 12) rfl)) rfl
def wsK_chance : List Cond := Cond.code yK_chance cK_chance 3 (some .long) :: uT
abbrev cP_chanceOf : ByteArray := prog_4_method_10_code
def yP_chanceOf : MethodName := ⟨RP, "chanceOf", "(I)J"⟩
theorem ucP_chanceOf : Cond.code yP_chanceOf cP_chanceOf 2 (some .long) ∈ uT := uk (um2 (List.mem_of_getElem? (i := 16) rfl)) rfl
def wsP_chanceOf : List Cond := Cond.code yP_chanceOf cP_chanceOf 2 (some .long) :: uT
abbrev cP_settledBy : ByteArray := prog_4_method_20_code
def yP_settledBy : MethodName := ⟨RP, "settledBy", "(I)J"⟩
theorem ucP_settledBy : Cond.code yP_settledBy cP_settledBy 2 (some .long) ∈ uT := uk (um2 (List.mem_of_getElem? (i := 20) rfl)) rfl
def wsP_settledBy : List Cond := Cond.code yP_settledBy cP_settledBy 2 (some .long) :: uT
abbrev cK_share : ByteArray := prog_1_method_9_code
def yK_share : MethodName := ⟨RK, "share", "(III)J"⟩
theorem ucK_share : Cond.code yK_share cK_share 4 (some .long) ∈ uT := uk (um2 (List.mem_of_getElem? (i := 26) rfl)) rfl
def wsK_share : List Cond := Cond.code yK_share cK_share 4 (some .long) :: uT
abbrev cP_isFounder : ByteArray := prog_4_method_6_code
def yP_isFounder : MethodName := ⟨RP, "isFounder", "(I)Z"⟩
theorem ucP_isFounder : Cond.code yP_isFounder cP_isFounder 2 (some .boolean) ∈ uT := uk (um2 (List.mem_of_getElem? (i := 30) rfl)) rfl
def wsP_isFounder : List Cond := Cond.code yP_isFounder cP_isFounder 2 (some .boolean) :: uT
abbrev cP_shareOf : ByteArray := prog_4_method_11_code
def yP_shareOf : MethodName := ⟨RP, "shareOf", "(II)J"⟩
theorem ucP_shareOf : Cond.code yP_shareOf cP_shareOf 5 (some .long) ∈ uT := uk (um2 (List.mem_of_getElem? (i := 34) rfl)) rfl
def wsP_shareOf : List Cond := Cond.code yP_shareOf cP_shareOf 5 (some .long) :: uT
abbrev cP_shareRow : ByteArray := prog_4_method_21_code
def yP_shareRow : MethodName := ⟨RP, "shareRow", "(I)J"⟩
theorem ucP_shareRow : Cond.code yP_shareRow cP_shareRow 2 (some .long) ∈ uT := uk (um2 (List.mem_of_getElem? (i := 38) rfl)) rfl
def wsP_shareRow : List Cond := Cond.code yP_shareRow cP_shareRow 2 (some .long) :: uT
abbrev cK_isForbear : ByteArray := prog_1_method_10_code
def yK_isForbear : MethodName := ⟨RK, "isForbear", "(II)Z"⟩
theorem ucK_isForbear : Cond.code yK_isForbear cK_isForbear 3 (some .boolean) ∈ uT := uk (um2 (List.mem_of_getElem? (i := 42) rfl)) rfl
def wsK_isForbear : List Cond := Cond.code yK_isForbear cK_isForbear 3 (some .boolean) :: uT
abbrev cK_order : ByteArray := prog_1_method_11_code
def yK_order : MethodName := ⟨RK, "order", "(I)I"⟩
theorem ucK_order : Cond.code yK_order cK_order 2 (some .int) ∈ uT := uk (um2 (List.mem_of_getElem? (i := 47) rfl)) rfl
def wsK_order : List Cond := Cond.code yK_order cK_order 2 (some .int) :: uT
abbrev cK_mark : ByteArray := prog_1_method_12_code
def yK_mark : MethodName := ⟨RK, "mark", "(III)Z"⟩
theorem ucK_mark : Cond.code yK_mark cK_mark 4 (some .boolean) ∈ uT := uk (um2 (List.mem_of_getElem? (i := 52) rfl)) rfl
def wsK_mark : List Cond := Cond.code yK_mark cK_mark 4 (some .boolean) :: uT
abbrev cM_setForm : ByteArray := prog_3_method_2_code
def yM_setForm : MethodName := ⟨RM, "setForm", "(III)Z"⟩
theorem ucM_setForm : Cond.code yM_setForm cM_setForm 4 (some .boolean) ∈ uT := uk (um2 (List.mem_of_getElem? (i := 56) rfl)) rfl
def wsM_setForm : List Cond := Cond.code yM_setForm cM_setForm 4 (some .boolean) :: uT
abbrev cM_has : ByteArray := prog_3_method_6_code
def yM_has : MethodName := ⟨RM, "has", "(II)Z"⟩
theorem ucM_has : Cond.code yM_has cM_has 3 (some .boolean) ∈ uT := uk (um2 (List.mem_of_getElem? (i := 60) rfl)) rfl
def wsM_has : List Cond := Cond.code yM_has cM_has 3 (some .boolean) :: uT
abbrev cK_left : ByteArray := prog_1_method_13_code
def yK_left : MethodName := ⟨RK, "left", "(II)I"⟩
theorem ucK_left : Cond.code yK_left cK_left 6 (some .int) ∈ uT := uk (um2 (List.mem_of_getElem? (i := 64) rfl)) rfl
def wsK_left : List Cond := Cond.code yK_left cK_left 6 (some .int) :: uT
abbrev cM_isLeftOut : ByteArray := prog_3_method_3_code
def yM_isLeftOut : MethodName := ⟨RM, "isLeftOut", "(II)Z"⟩
theorem ucM_isLeftOut : Cond.code yM_isLeftOut cM_isLeftOut 4 (some .boolean) ∈ uT := uk (um2 (List.mem_of_getElem? (i := 68) rfl)) rfl
def wsM_isLeftOut : List Cond := Cond.code yM_isLeftOut cM_isLeftOut 4 (some .boolean) :: uT
abbrev cM_isKnownOfBoth : ByteArray := prog_3_method_8_code
def yM_isKnownOfBoth : MethodName := ⟨RM, "isKnownOfBoth", "(III)Z"⟩
theorem ucM_isKnownOfBoth : Cond.code yM_isKnownOfBoth cM_isKnownOfBoth 4 (some .boolean) ∈ uT := uk (um2 (List.mem_of_getElem? (i := 72) rfl)) rfl
def wsM_isKnownOfBoth : List Cond := Cond.code yM_isKnownOfBoth cM_isKnownOfBoth 4 (some .boolean) :: uT
abbrev cM_formOf : ByteArray := prog_3_method_7_code
def yM_formOf : MethodName := ⟨RM, "formOf", "(II)I"⟩
theorem ucM_formOf : Cond.code yM_formOf cM_formOf 3 (some .int) ∈ uT := uk (um2 (List.mem_of_getElem? (i := 76) rfl)) rfl
def wsM_formOf : List Cond := Cond.code yM_formOf cM_formOf 3 (some .int) :: uT
abbrev cM_difference : ByteArray := prog_3_method_9_code
def yM_difference : MethodName := ⟨RM, "difference", "(III)I"⟩
theorem ucM_difference : Cond.code yM_difference cM_difference 4 (some .int) ∈ uT := uk (um2 (List.mem_of_getElem? (i := 80) rfl)) rfl
def wsM_difference : List Cond := Cond.code yM_difference cM_difference 4 (some .int) :: uT
abbrev yJ_abs : MethodName := Lib.Math.abs.name
theorem ucJ_abs : Cond.code Lib.Math.abs.name Lib.Math.abs.code 1 (some .int) ∈ uT := uk (um2 (List.mem_of_getElem? (i := 83) rfl)) rfl
abbrev cK_odds : ByteArray := prog_1_method_14_code
def yK_odds : MethodName := ⟨RK, "odds", "(III)J"⟩
theorem ucK_odds : Cond.code yK_odds cK_odds 4 (some .long) ∈ uT := uk (um2 (List.mem_of_getElem? (i := 87) rfl)) rfl
def wsK_odds : List Cond := Cond.code yK_odds cK_odds 4 (some .long) :: uT
abbrev cM_oddsOf : ByteArray := prog_3_method_4_code
def yM_oddsOf : MethodName := ⟨RM, "oddsOf", "(III)J"⟩
theorem ucM_oddsOf : Cond.code yM_oddsOf cM_oddsOf 14 (some .long) ∈ uT := uk (um2 (List.mem_of_getElem? (i := 91) rfl)) rfl
def wsM_oddsOf : List Cond := Cond.code yM_oddsOf cM_oddsOf 14 (some .long) :: uT
abbrev cM_knownForms : ByteArray := prog_3_method_10_code
def yM_knownForms : MethodName := ⟨RM, "knownForms", "(I)I"⟩
theorem ucM_knownForms : Cond.code yM_knownForms cM_knownForms 4 (some .int) ∈ uT := uk (um2 (List.mem_of_getElem? (i := 96) rfl)) rfl
def wsM_knownForms : List Cond := Cond.code yM_knownForms cM_knownForms 4 (some .int) :: uT
abbrev cM_lettersB : ByteArray := prog_3_method_11_code
def yM_lettersB : MethodName := ⟨RM, "lettersB", "(I)I"⟩
theorem ucM_lettersB : Cond.code yM_lettersB cM_lettersB 4 (some .int) ∈ uT := uk (um2 (List.mem_of_getElem? (i := 100) rfl)) rfl
def wsM_lettersB : List Cond := Cond.code yM_lettersB cM_lettersB 4 (some .int) :: uT
abbrev cM_amongChildren : ByteArray := prog_3_method_12_code
def yM_amongChildren : MethodName := ⟨RM, "amongChildren", "(IIJJ)J"⟩
theorem ucM_amongChildren : Cond.code yM_amongChildren cM_amongChildren 6 (some .long) ∈ uT := uk (um2 (List.mem_of_getElem? (i := 104) rfl)) rfl
def wsM_amongChildren : List Cond := Cond.code yM_amongChildren cM_amongChildren 6 (some .long) :: uT
abbrev cM_amongStrangers : ByteArray := prog_3_method_13_code
def yM_amongStrangers : MethodName := ⟨RM, "amongStrangers", "(IJJ)J"⟩
theorem ucM_amongStrangers : Cond.code yM_amongStrangers cM_amongStrangers 5 (some .long) ∈ uT := uk (um2 (List.mem_of_getElem? (i := 107) rfl)) rfl
def wsM_amongStrangers : List Cond := Cond.code yM_amongStrangers cM_amongStrangers 5 (some .long) :: uT
abbrev cK_like : ByteArray := prog_1_method_15_code
def yK_like : MethodName := ⟨RK, "like", "(III)J"⟩
theorem ucK_like : Cond.code yK_like cK_like 4 (some .long) ∈ uT := uk (um2 (List.mem_of_getElem? (i := 112) rfl)) rfl
def wsK_like : List Cond := Cond.code yK_like cK_like 4 (some .long) :: uT
abbrev cM_likenessOf : ByteArray := prog_3_method_5_code
def yM_likenessOf : MethodName := ⟨RM, "likenessOf", "(III)J"⟩
theorem ucM_likenessOf : Cond.code yM_likenessOf cM_likenessOf 9 (some .long) ∈ uT := uk (um2 (List.mem_of_getElem? (i := 116) rfl)) rfl
def wsM_likenessOf : List Cond := Cond.code yM_likenessOf cM_likenessOf 9 (some .long) :: uT
abbrev cK_lost : ByteArray := prog_1_method_16_code
def yK_lost : MethodName := ⟨RK, "lost", "(I)I"⟩
theorem ucK_lost : Cond.code yK_lost cK_lost 4 (some .int) ∈ uT := uk (um2 (List.mem_of_getElem? (i := 121) rfl)) rfl
def wsK_lost : List Cond := Cond.code yK_lost cK_lost 4 (some .int) :: uT
abbrev cK_isLost : ByteArray := prog_1_method_24_code
def yK_isLost : MethodName := ⟨RK, "isLost", "(I)Z"⟩
theorem ucK_isLost : Cond.code yK_isLost cK_isLost 3 (some .boolean) ∈ uT := uk (um2 (List.mem_of_getElem? (i := 125) rfl)) rfl
def wsK_isLost : List Cond := Cond.code yK_isLost cK_isLost 3 (some .boolean) :: uT
abbrev cK_diverse : ByteArray := prog_1_method_17_code
def yK_diverse : MethodName := ⟨RK, "diverse", "(I)J"⟩
theorem ucK_diverse : Cond.code yK_diverse cK_diverse 7 (some .long) ∈ uT := uk (um2 (List.mem_of_getElem? (i := 129) rfl)) rfl
def wsK_diverse : List Cond := Cond.code yK_diverse cK_diverse 7 (some .long) :: uT
abbrev cK_kinWithLiving : ByteArray := prog_1_method_25_code
def yK_kinWithLiving : MethodName := ⟨RK, "kinWithLiving", "(I)J"⟩
theorem ucK_kinWithLiving : Cond.code yK_kinWithLiving cK_kinWithLiving 5 (some .long) ∈ uT := uk (um2 (List.mem_of_getElem? (i := 133) rfl)) rfl
def wsK_kinWithLiving : List Cond := Cond.code yK_kinWithLiving cK_kinWithLiving 5 (some .long) :: uT
abbrev cK_animal : ByteArray := prog_1_method_18_code
def yK_animal : MethodName := ⟨RK, "animal", "(II)I"⟩
theorem ucK_animal : Cond.code yK_animal cK_animal 3 (some .int) ∈ uT := uk (um2 (List.mem_of_getElem? (i := 137) rfl)) rfl
def wsK_animal : List Cond := Cond.code yK_animal cK_animal 3 (some .int) :: uT
abbrev cL_cell : ByteArray := method_2_code
def yL_cell : MethodName := ⟨RL, "cell", "([II)I"⟩
theorem ucL_cell : Cond.code yL_cell cL_cell 2 (some .int) ∈ uT := uk (um2 (List.mem_of_getElem? (i := 141) rfl)) rfl
def wsL_cell : List Cond := Cond.code yL_cell cL_cell 2 (some .int) :: uT
abbrev cR_init : ByteArray := prog_6_method_1_code
def yR_init : MethodName := ⟨RR, "<init>", "(I)V"⟩
theorem ucR_init : Cond.code yR_init cR_init 3 none ∈ uT := uk (um2 (List.mem_of_getElem? (i := 146) rfl)) rfl
def wsR_init : List Cond := Cond.code yR_init cR_init 3 none :: uT
abbrev cR_parents : ByteArray := prog_6_method_12_code
def yR_parents : MethodName := ⟨RR, "parents", "(III)Z"⟩
theorem ucR_parents : Cond.code yR_parents cR_parents 5 (some .boolean) ∈ uT := uk (um2 (List.mem_of_getElem? (i := 191) rfl)) rfl
def wsR_parents : List Cond := Cond.code yR_parents cR_parents 5 (some .boolean) :: uT
abbrev cR_is : ByteArray := prog_6_method_2_code
def yR_is : MethodName := ⟨RR, "is", "(I)Z"⟩
theorem ucR_is : Cond.code yR_is cR_is 2 (some .boolean) ∈ uT := uk (um2 (List.mem_of_getElem? (i := 195) rfl)) rfl
def wsR_is : List Cond := Cond.code yR_is cR_is 2 (some .boolean) :: uT
abbrev cR_isOrNone : ByteArray := prog_6_method_3_code
def yR_isOrNone : MethodName := ⟨RR, "isOrNone", "(I)Z"⟩
theorem ucR_isOrNone : Cond.code yR_isOrNone cR_isOrNone 2 (some .boolean) ∈ uT := uk (um2 (List.mem_of_getElem? (i := 199) rfl)) rfl
def wsR_isOrNone : List Cond := Cond.code yR_isOrNone cR_isOrNone 2 (some .boolean) :: uT
abbrev cR_find : ByteArray := prog_6_method_4_code
def yR_find : MethodName := ⟨RR, "find", "()V"⟩
theorem ucR_find : Cond.code yR_find cR_find 7 none ∈ uT := uk (um2 (List.mem_of_getElem? (i := 203) rfl)) rfl
def wsR_find : List Cond := Cond.code yR_find cR_find 7 none :: uT
abbrev cR_leads : ByteArray := prog_6_method_9_code
def yR_leads : MethodName := ⟨RR, "leads", "(II)I"⟩
theorem ucR_leads : Cond.code yR_leads cR_leads 3 (some .int) ∈ uT := uk (um2 (List.mem_of_getElem? (i := 207) rfl)) rfl
def wsR_leads : List Cond := Cond.code yR_leads cR_leads 3 (some .int) :: uT
abbrev cR_tellRing : ByteArray := prog_6_method_10_code
def yR_tellRing : MethodName := ⟨RR, "tellRing", "(II)V"⟩
theorem ucR_tellRing : Cond.code yR_tellRing cR_tellRing 5 none ∈ uT := uk (um2 (List.mem_of_getElem? (i := 211) rfl)) rfl
def wsR_tellRing : List Cond := Cond.code yR_tellRing cR_tellRing 5 none :: uT
abbrev cR_isOlder : ByteArray := prog_6_method_11_code
def yR_isOlder : MethodName := ⟨RR, "isOlder", "(II)Z"⟩
theorem ucR_isOlder : Cond.code yR_isOlder cR_isOlder 3 (some .boolean) ∈ uT := uk (um2 (List.mem_of_getElem? (i := 215) rfl)) rfl
def wsR_isOlder : List Cond := Cond.code yR_isOlder cR_isOlder 3 (some .boolean) :: uT
abbrev cR_ring : ByteArray := prog_6_method_13_code
def yR_ring : MethodName := ⟨RR, "ring", "(I)I"⟩
theorem ucR_ring : Cond.code yR_ring cR_ring 2 (some .int) ∈ uT := uk (um2 (List.mem_of_getElem? (i := 219) rfl)) rfl
def wsR_ring : List Cond := Cond.code yR_ring cR_ring 2 (some .int) :: uT
abbrev cR_told : ByteArray := prog_6_method_14_code
def yR_told : MethodName := ⟨RR, "told", "(III)Z"⟩
theorem ucR_told : Cond.code yR_told cR_told 8 (some .boolean) ∈ uT := uk (um2 (List.mem_of_getElem? (i := 223) rfl)) rfl
def wsR_told : List Cond := Cond.code yR_told cR_told 8 (some .boolean) :: uT
abbrev cR_lives : ByteArray := prog_6_method_15_code
def yR_lives : MethodName := ⟨RR, "lives", "(IZ)Z"⟩
theorem ucR_lives : Cond.code yR_lives cR_lives 3 (some .boolean) ∈ uT := uk (um2 (List.mem_of_getElem? (i := 228) rfl)) rfl
def wsR_lives : List Cond := Cond.code yR_lives cR_lives 3 (some .boolean) :: uT
abbrev cR_kin : ByteArray := prog_6_method_16_code
def yR_kin : MethodName := ⟨RR, "kin", "(III)J"⟩
theorem ucR_kin : Cond.code yR_kin cR_kin 4 (some .long) ∈ uT := uk (um2 (List.mem_of_getElem? (i := 232) rfl)) rfl
def wsR_kin : List Cond := Cond.code yR_kin cR_kin 4 (some .long) :: uT
abbrev cR_isPart : ByteArray := prog_6_method_8_code
def yR_isPart : MethodName := ⟨RR, "isPart", "(I)Z"⟩
theorem ucR_isPart : Cond.code yR_isPart cR_isPart 1 (some .boolean) ∈ uT := uk (um2 (List.mem_of_getElem? (i := 235) rfl)) rfl
def wsR_isPart : List Cond := Cond.code yR_isPart cR_isPart 1 (some .boolean) :: uT
abbrev cR_findKin : ByteArray := prog_6_method_6_code
def yR_findKin : MethodName := ⟨RR, "findKin", "()V"⟩
theorem ucR_findKin : Cond.code yR_findKin cR_findKin 7 none ∈ uT := uk (um3 (List.mem_of_getElem? (i := 0) rfl)) rfl
def wsR_findKin : List Cond := Cond.code yR_findKin cR_findKin 7 none :: uT
abbrev cR_kinOf : ByteArray := prog_6_method_5_code
def yR_kinOf : MethodName := ⟨RR, "kinOf", "(II)J"⟩
theorem ucR_kinOf : Cond.code yR_kinOf cR_kinOf 3 (some .long) ∈ uT := uk (um3 (List.mem_of_getElem? (i := 4) rfl)) rfl
def wsR_kinOf : List Cond := Cond.code yR_kinOf cR_kinOf 3 (some .long) :: uT
abbrev cR_lowest : ByteArray := prog_6_method_7_code
def yR_lowest : MethodName := ⟨RR, "lowest", "(JJI)J"⟩
theorem ucR_lowest : Cond.code yR_lowest cR_lowest 11 (some .long) ∈ uT := uk (um3 (List.mem_of_getElem? (i := 9) rfl)) rfl
def wsR_lowest : List Cond := Cond.code yR_lowest cR_lowest 11 (some .long) :: uT
abbrev cR_inbred : ByteArray := prog_6_method_18_code
def yR_inbred : MethodName := ⟨RR, "inbred", "(II)J"⟩
theorem ucR_inbred : Cond.code yR_inbred cR_inbred 3 (some .long) ∈ uT := uk (um3 (List.mem_of_getElem? (i := 13) rfl)) rfl
def wsR_inbred : List Cond := Cond.code yR_inbred cR_inbred 3 (some .long) :: uT
abbrev cR_inbredOf : ByteArray := prog_6_method_17_code
def yR_inbredOf : MethodName := ⟨RR, "inbredOf", "(I)J"⟩
theorem ucR_inbredOf : Cond.code yR_inbredOf cR_inbredOf 2 (some .long) ∈ uT := uk (um3 (List.mem_of_getElem? (i := 17) rfl)) rfl
def wsR_inbredOf : List Cond := Cond.code yR_inbredOf cR_inbredOf 2 (some .long) :: uT
abbrev cR_chance : ByteArray := prog_6_method_19_code
def yR_chance : MethodName := ⟨RR, "chance", "(II)J"⟩
theorem ucR_chance : Cond.code yR_chance cR_chance 6 (some .long) ∈ uT := uk (um3 (List.mem_of_getElem? (i := 21) rfl)) rfl
def wsR_chance : List Cond := Cond.code yR_chance cR_chance 6 (some .long) :: uT
abbrev cR_share : ByteArray := prog_6_method_21_code
def yR_share : MethodName := ⟨RR, "share", "(III)J"⟩
theorem ucR_share : Cond.code yR_share cR_share 9 (some .long) ∈ uT := uk (um3 (List.mem_of_getElem? (i := 26) rfl)) rfl
def wsR_share : List Cond := Cond.code yR_share cR_share 9 (some .long) :: uT
abbrev cR_isFounder : ByteArray := prog_6_method_20_code
def yR_isFounder : MethodName := ⟨RR, "isFounder", "(I)Z"⟩
theorem ucR_isFounder : Cond.code yR_isFounder cR_isFounder 2 (some .boolean) ∈ uT := uk (um3 (List.mem_of_getElem? (i := 30) rfl)) rfl
def wsR_isFounder : List Cond := Cond.code yR_isFounder cR_isFounder 2 (some .boolean) :: uT
abbrev cR_isForbear : ByteArray := prog_6_method_22_code
def yR_isForbear : MethodName := ⟨RR, "isForbear", "(II)Z"⟩
theorem ucR_isForbear : Cond.code yR_isForbear cR_isForbear 3 (some .boolean) ∈ uT := uk (um3 (List.mem_of_getElem? (i := 34) rfl)) rfl
def wsR_isForbear : List Cond := Cond.code yR_isForbear cR_isForbear 3 (some .boolean) :: uT
abbrev cR_order : ByteArray := prog_6_method_23_code
def yR_order : MethodName := ⟨RR, "order", "(I)I"⟩
theorem ucR_order : Cond.code yR_order cR_order 2 (some .int) ∈ uT := uk (um3 (List.mem_of_getElem? (i := 38) rfl)) rfl
def wsR_order : List Cond := Cond.code yR_order cR_order 2 (some .int) :: uT
abbrev cR_mark : ByteArray := prog_6_method_24_code
def yR_mark : MethodName := ⟨RR, "mark", "(III)Z"⟩
theorem ucR_mark : Cond.code yR_mark cR_mark 4 (some .boolean) ∈ uT := uk (um3 (List.mem_of_getElem? (i := 42) rfl)) rfl
def wsR_mark : List Cond := Cond.code yR_mark cR_mark 4 (some .boolean) :: uT
abbrev cR_left : ByteArray := prog_6_method_26_code
def yR_left : MethodName := ⟨RR, "left", "(II)I"⟩
theorem ucR_left : Cond.code yR_left cR_left 5 (some .int) ∈ uT := uk (um3 (List.mem_of_getElem? (i := 46) rfl)) rfl
def wsR_left : List Cond := Cond.code yR_left cR_left 5 (some .int) :: uT
abbrev cR_isLeftOut : ByteArray := prog_6_method_25_code
def yR_isLeftOut : MethodName := ⟨RR, "isLeftOut", "(II)Z"⟩
theorem ucR_isLeftOut : Cond.code yR_isLeftOut cR_isLeftOut 6 (some .boolean) ∈ uT := uk (um3 (List.mem_of_getElem? (i := 50) rfl)) rfl
def wsR_isLeftOut : List Cond := Cond.code yR_isLeftOut cR_isLeftOut 6 (some .boolean) :: uT
abbrev cR_odds : ByteArray := prog_6_method_27_code
def yR_odds : MethodName := ⟨RR, "odds", "(III)J"⟩
theorem ucR_odds : Cond.code yR_odds cR_odds 23 (some .long) ∈ uT := uk (um3 (List.mem_of_getElem? (i := 54) rfl)) rfl
def wsR_odds : List Cond := Cond.code yR_odds cR_odds 23 (some .long) :: uT
abbrev cR_like : ByteArray := prog_6_method_28_code
def yR_like : MethodName := ⟨RR, "like", "(III)J"⟩
theorem ucR_like : Cond.code yR_like cR_like 9 (some .long) ∈ uT := uk (um3 (List.mem_of_getElem? (i := 59) rfl)) rfl
def wsR_like : List Cond := Cond.code yR_like cR_like 9 (some .long) :: uT
abbrev cR_lost : ByteArray := prog_6_method_29_code
def yR_lost : MethodName := ⟨RR, "lost", "(I)I"⟩
theorem ucR_lost : Cond.code yR_lost cR_lost 6 (some .int) ∈ uT := uk (um3 (List.mem_of_getElem? (i := 63) rfl)) rfl
def wsR_lost : List Cond := Cond.code yR_lost cR_lost 6 (some .int) :: uT
abbrev cR_diverse : ByteArray := prog_6_method_30_code
def yR_diverse : MethodName := ⟨RR, "diverse", "(I)J"⟩
theorem ucR_diverse : Cond.code yR_diverse cR_diverse 8 (some .long) ∈ uT := uk (um3 (List.mem_of_getElem? (i := 67) rfl)) rfl
def wsR_diverse : List Cond := Cond.code yR_diverse cR_diverse 8 (some .long) :: uT
abbrev cR_animal : ByteArray := prog_6_method_31_code
def yR_animal : MethodName := ⟨RR, "animal", "(II)I"⟩
theorem ucR_animal : Cond.code yR_animal cR_animal 3 (some .int) ∈ uT := uk (um3 (List.mem_of_getElem? (i := 71) rfl)) rfl
def wsR_animal : List Cond := Cond.code yR_animal cR_animal 3 (some .int) :: uT
theorem gV {own C : String} {idx : Nat} {y : MethodName} {b : ByteArray} {ml : Nat} {r : Option FieldType} (h1 : Cond.methodLink own idx y ∈ uT) (h2 : Cond.instanceMethod y ∈ uT) (h3 : Cond.selects C y y ∈ uT) (h4 : Cond.initialized C ∈ uT) (h5 : Cond.code y b ml r ∈ uT) : GoodIn uT (wsV own idx C y (Cond.code y b ml r :: uT)) := by
  intro w hw
  have hm : w ∈ uT := by
    rcases List.mem_append.mp hw with h | h
    · rcases List.mem_cons.mp h with h | h
      · rw [h]; exact h1
      · rcases List.mem_cons.mp h with h | h
        · rw [h]; exact h2
        · rcases List.mem_cons.mp h with h | h
          · rw [h]; exact h3
          · rcases List.mem_cons.mp h with h | h
            · rw [h]; exact h4
            · cases h
    · rcases List.mem_cons.mp h with h | h
      · rw [h]; exact h5
      · exact h
  exact ⟨hm, uw_good w hm⟩
theorem gS {own : String} {idx : Nat} {y : MethodName} {b : ByteArray} {ml : Nat} {r : Option FieldType} (h1 : Cond.methodLink own idx y ∈ uT) (h2 : Cond.static y ∈ uT) (h4 : Cond.initialized y.cls ∈ uT) (h5 : Cond.code y b ml r ∈ uT) : GoodIn uT (va_wsS own idx y (Cond.code y b ml r :: uT)) := by
  intro w hw
  have hm : w ∈ uT := by
    rcases List.mem_append.mp hw with h | h
    · rcases List.mem_cons.mp h with h | h
      · rw [h]; exact h1
      · rcases List.mem_cons.mp h with h | h
        · rw [h]; exact h2
        · rcases List.mem_cons.mp h with h | h
          · rw [h]; exact h4
          · cases h
    · rcases List.mem_cons.mp h with h | h
      · rw [h]; exact h5
      · exact h
  exact ⟨hm, uw_good w hm⟩
theorem gI {y : MethodName} {b : ByteArray} {ml : Nat} {r : Option FieldType} (h5 : Cond.code y b ml r ∈ uT) : GoodIn uT (Cond.code y b ml r :: uT) := by
  intro w hw
  have hm : w ∈ uT := by
    rcases List.mem_cons.mp hw with h | h
    · rw [h]; exact h5
    · exact h
  exact ⟨hm, uw_good w hm⟩
theorem hvK_init : yK_init.cls = RK ∧ yK_init.cls ≠ "java/lang/invoke/MethodHandle" ∧ yK_init.cls ≠ "java/lang/invoke/VarHandle" ∧ (parseMethodDescriptor yK_init.desc).map (fun d => d.parameters.length) = some 1 := by decide +kernel
theorem hsK_init : yK_init.cls ≠ "java/lang/invoke/MethodHandle" ∧ yK_init.cls ≠ "java/lang/invoke/VarHandle" ∧ (parseMethodDescriptor yK_init.desc).map (fun d => d.parameters.length) = some 1 := hvK_init.2
theorem hvO_init : yO_init.cls = RO ∧ yO_init.cls ≠ "java/lang/invoke/MethodHandle" ∧ yO_init.cls ≠ "java/lang/invoke/VarHandle" ∧ (parseMethodDescriptor yO_init.desc).map (fun d => d.parameters.length) = some 0 := by decide +kernel
theorem hsO_init : yO_init.cls ≠ "java/lang/invoke/MethodHandle" ∧ yO_init.cls ≠ "java/lang/invoke/VarHandle" ∧ (parseMethodDescriptor yO_init.desc).map (fun d => d.parameters.length) = some 0 := hvO_init.2
theorem hvP_init : yP_init.cls = RP ∧ yP_init.cls ≠ "java/lang/invoke/MethodHandle" ∧ yP_init.cls ≠ "java/lang/invoke/VarHandle" ∧ (parseMethodDescriptor yP_init.desc).map (fun d => d.parameters.length) = some 1 := by decide +kernel
theorem hsP_init : yP_init.cls ≠ "java/lang/invoke/MethodHandle" ∧ yP_init.cls ≠ "java/lang/invoke/VarHandle" ∧ (parseMethodDescriptor yP_init.desc).map (fun d => d.parameters.length) = some 1 := hvP_init.2
theorem hvA_fill : yA_fill.cls = RA ∧ yA_fill.cls ≠ "java/lang/invoke/MethodHandle" ∧ yA_fill.cls ≠ "java/lang/invoke/VarHandle" ∧ (parseMethodDescriptor yA_fill.desc).map (fun d => d.parameters.length) = some 2 := by decide +kernel
theorem hsA_fill : yA_fill.cls ≠ "java/lang/invoke/MethodHandle" ∧ yA_fill.cls ≠ "java/lang/invoke/VarHandle" ∧ (parseMethodDescriptor yA_fill.desc).map (fun d => d.parameters.length) = some 2 := hvA_fill.2
theorem hvP_reckon : yP_reckon.cls = RP ∧ yP_reckon.cls ≠ "java/lang/invoke/MethodHandle" ∧ yP_reckon.cls ≠ "java/lang/invoke/VarHandle" ∧ (parseMethodDescriptor yP_reckon.desc).map (fun d => d.parameters.length) = some 0 := by decide +kernel
theorem hsP_reckon : yP_reckon.cls ≠ "java/lang/invoke/MethodHandle" ∧ yP_reckon.cls ≠ "java/lang/invoke/VarHandle" ∧ (parseMethodDescriptor yP_reckon.desc).map (fun d => d.parameters.length) = some 0 := hvP_reckon.2
theorem hvP_reckonSteps : yP_reckonSteps.cls = RP ∧ yP_reckonSteps.cls ≠ "java/lang/invoke/MethodHandle" ∧ yP_reckonSteps.cls ≠ "java/lang/invoke/VarHandle" ∧ (parseMethodDescriptor yP_reckonSteps.desc).map (fun d => d.parameters.length) = some 0 := by decide +kernel
theorem hsP_reckonSteps : yP_reckonSteps.cls ≠ "java/lang/invoke/MethodHandle" ∧ yP_reckonSteps.cls ≠ "java/lang/invoke/VarHandle" ∧ (parseMethodDescriptor yP_reckonSteps.desc).map (fun d => d.parameters.length) = some 0 := hvP_reckonSteps.2
theorem hvP_stepsOf : yP_stepsOf.cls = RP ∧ yP_stepsOf.cls ≠ "java/lang/invoke/MethodHandle" ∧ yP_stepsOf.cls ≠ "java/lang/invoke/VarHandle" ∧ (parseMethodDescriptor yP_stepsOf.desc).map (fun d => d.parameters.length) = some 1 := by decide +kernel
theorem hsP_stepsOf : yP_stepsOf.cls ≠ "java/lang/invoke/MethodHandle" ∧ yP_stepsOf.cls ≠ "java/lang/invoke/VarHandle" ∧ (parseMethodDescriptor yP_stepsOf.desc).map (fun d => d.parameters.length) = some 1 := hvP_stepsOf.2
theorem hvP_has : yP_has.cls = RP ∧ yP_has.cls ≠ "java/lang/invoke/MethodHandle" ∧ yP_has.cls ≠ "java/lang/invoke/VarHandle" ∧ (parseMethodDescriptor yP_has.desc).map (fun d => d.parameters.length) = some 1 := by decide +kernel
theorem hsP_has : yP_has.cls ≠ "java/lang/invoke/MethodHandle" ∧ yP_has.cls ≠ "java/lang/invoke/VarHandle" ∧ (parseMethodDescriptor yP_has.desc).map (fun d => d.parameters.length) = some 1 := hvP_has.2
theorem hvP_reckonOrder : yP_reckonOrder.cls = RP ∧ yP_reckonOrder.cls ≠ "java/lang/invoke/MethodHandle" ∧ yP_reckonOrder.cls ≠ "java/lang/invoke/VarHandle" ∧ (parseMethodDescriptor yP_reckonOrder.desc).map (fun d => d.parameters.length) = some 0 := by decide +kernel
theorem hsP_reckonOrder : yP_reckonOrder.cls ≠ "java/lang/invoke/MethodHandle" ∧ yP_reckonOrder.cls ≠ "java/lang/invoke/VarHandle" ∧ (parseMethodDescriptor yP_reckonOrder.desc).map (fun d => d.parameters.length) = some 0 := hvP_reckonOrder.2
theorem hvP_inOrder : yP_inOrder.cls = RP ∧ yP_inOrder.cls ≠ "java/lang/invoke/MethodHandle" ∧ yP_inOrder.cls ≠ "java/lang/invoke/VarHandle" ∧ (parseMethodDescriptor yP_inOrder.desc).map (fun d => d.parameters.length) = some 1 := by decide +kernel
theorem hsP_inOrder : yP_inOrder.cls ≠ "java/lang/invoke/MethodHandle" ∧ yP_inOrder.cls ≠ "java/lang/invoke/VarHandle" ∧ (parseMethodDescriptor yP_inOrder.desc).map (fun d => d.parameters.length) = some 1 := hvP_inOrder.2
theorem hvP_reckonForbears : yP_reckonForbears.cls = RP ∧ yP_reckonForbears.cls ≠ "java/lang/invoke/MethodHandle" ∧ yP_reckonForbears.cls ≠ "java/lang/invoke/VarHandle" ∧ (parseMethodDescriptor yP_reckonForbears.desc).map (fun d => d.parameters.length) = some 1 := by decide +kernel
theorem hsP_reckonForbears : yP_reckonForbears.cls ≠ "java/lang/invoke/MethodHandle" ∧ yP_reckonForbears.cls ≠ "java/lang/invoke/VarHandle" ∧ (parseMethodDescriptor yP_reckonForbears.desc).map (fun d => d.parameters.length) = some 1 := hvP_reckonForbears.2
theorem hvP_lineOf : yP_lineOf.cls = RP ∧ yP_lineOf.cls ≠ "java/lang/invoke/MethodHandle" ∧ yP_lineOf.cls ≠ "java/lang/invoke/VarHandle" ∧ (parseMethodDescriptor yP_lineOf.desc).map (fun d => d.parameters.length) = some 1 := by decide +kernel
theorem hsP_lineOf : yP_lineOf.cls ≠ "java/lang/invoke/MethodHandle" ∧ yP_lineOf.cls ≠ "java/lang/invoke/VarHandle" ∧ (parseMethodDescriptor yP_lineOf.desc).map (fun d => d.parameters.length) = some 1 := hvP_lineOf.2
theorem hvP_bitOf : yP_bitOf.cls = RP ∧ yP_bitOf.cls ≠ "java/lang/invoke/MethodHandle" ∧ yP_bitOf.cls ≠ "java/lang/invoke/VarHandle" ∧ (parseMethodDescriptor yP_bitOf.desc).map (fun d => d.parameters.length) = some 1 := by decide +kernel
theorem hsP_bitOf : yP_bitOf.cls ≠ "java/lang/invoke/MethodHandle" ∧ yP_bitOf.cls ≠ "java/lang/invoke/VarHandle" ∧ (parseMethodDescriptor yP_bitOf.desc).map (fun d => d.parameters.length) = some 1 := hvP_bitOf.2
theorem hvP_reckonKin : yP_reckonKin.cls = RP ∧ yP_reckonKin.cls ≠ "java/lang/invoke/MethodHandle" ∧ yP_reckonKin.cls ≠ "java/lang/invoke/VarHandle" ∧ (parseMethodDescriptor yP_reckonKin.desc).map (fun d => d.parameters.length) = some 1 := by decide +kernel
theorem hsP_reckonKin : yP_reckonKin.cls ≠ "java/lang/invoke/MethodHandle" ∧ yP_reckonKin.cls ≠ "java/lang/invoke/VarHandle" ∧ (parseMethodDescriptor yP_reckonKin.desc).map (fun d => d.parameters.length) = some 1 := hvP_reckonKin.2
theorem hvP_motherOf : yP_motherOf.cls = RP ∧ yP_motherOf.cls ≠ "java/lang/invoke/MethodHandle" ∧ yP_motherOf.cls ≠ "java/lang/invoke/VarHandle" ∧ (parseMethodDescriptor yP_motherOf.desc).map (fun d => d.parameters.length) = some 1 := by decide +kernel
theorem hsP_motherOf : yP_motherOf.cls ≠ "java/lang/invoke/MethodHandle" ∧ yP_motherOf.cls ≠ "java/lang/invoke/VarHandle" ∧ (parseMethodDescriptor yP_motherOf.desc).map (fun d => d.parameters.length) = some 1 := hvP_motherOf.2
theorem hvP_fatherOf : yP_fatherOf.cls = RP ∧ yP_fatherOf.cls ≠ "java/lang/invoke/MethodHandle" ∧ yP_fatherOf.cls ≠ "java/lang/invoke/VarHandle" ∧ (parseMethodDescriptor yP_fatherOf.desc).map (fun d => d.parameters.length) = some 1 := by decide +kernel
theorem hsP_fatherOf : yP_fatherOf.cls ≠ "java/lang/invoke/MethodHandle" ∧ yP_fatherOf.cls ≠ "java/lang/invoke/VarHandle" ∧ (parseMethodDescriptor yP_fatherOf.desc).map (fun d => d.parameters.length) = some 1 := hvP_fatherOf.2
theorem hvP_kinOf : yP_kinOf.cls = RP ∧ yP_kinOf.cls ≠ "java/lang/invoke/MethodHandle" ∧ yP_kinOf.cls ≠ "java/lang/invoke/VarHandle" ∧ (parseMethodDescriptor yP_kinOf.desc).map (fun d => d.parameters.length) = some 2 := by decide +kernel
theorem hsP_kinOf : yP_kinOf.cls ≠ "java/lang/invoke/MethodHandle" ∧ yP_kinOf.cls ≠ "java/lang/invoke/VarHandle" ∧ (parseMethodDescriptor yP_kinOf.desc).map (fun d => d.parameters.length) = some 2 := hvP_kinOf.2
theorem hvP_setKin : yP_setKin.cls = RP ∧ yP_setKin.cls ≠ "java/lang/invoke/MethodHandle" ∧ yP_setKin.cls ≠ "java/lang/invoke/VarHandle" ∧ (parseMethodDescriptor yP_setKin.desc).map (fun d => d.parameters.length) = some 3 := by decide +kernel
theorem hsP_setKin : yP_setKin.cls ≠ "java/lang/invoke/MethodHandle" ∧ yP_setKin.cls ≠ "java/lang/invoke/VarHandle" ∧ (parseMethodDescriptor yP_setKin.desc).map (fun d => d.parameters.length) = some 3 := hvP_setKin.2
theorem hvM_init : yM_init.cls = RM ∧ yM_init.cls ≠ "java/lang/invoke/MethodHandle" ∧ yM_init.cls ≠ "java/lang/invoke/VarHandle" ∧ (parseMethodDescriptor yM_init.desc).map (fun d => d.parameters.length) = some 1 := by decide +kernel
theorem hsM_init : yM_init.cls ≠ "java/lang/invoke/MethodHandle" ∧ yM_init.cls ≠ "java/lang/invoke/VarHandle" ∧ (parseMethodDescriptor yM_init.desc).map (fun d => d.parameters.length) = some 1 := hvM_init.2
theorem hvK_parents : yK_parents.cls = RK ∧ yK_parents.cls ≠ "java/lang/invoke/MethodHandle" ∧ yK_parents.cls ≠ "java/lang/invoke/VarHandle" ∧ (parseMethodDescriptor yK_parents.desc).map (fun d => d.parameters.length) = some 3 := by decide +kernel
theorem hsK_parents : yK_parents.cls ≠ "java/lang/invoke/MethodHandle" ∧ yK_parents.cls ≠ "java/lang/invoke/VarHandle" ∧ (parseMethodDescriptor yK_parents.desc).map (fun d => d.parameters.length) = some 3 := hvK_parents.2
theorem hvP_forgetRing : yP_forgetRing.cls = RP ∧ yP_forgetRing.cls ≠ "java/lang/invoke/MethodHandle" ∧ yP_forgetRing.cls ≠ "java/lang/invoke/VarHandle" ∧ (parseMethodDescriptor yP_forgetRing.desc).map (fun d => d.parameters.length) = some 0 := by decide +kernel
theorem hsP_forgetRing : yP_forgetRing.cls ≠ "java/lang/invoke/MethodHandle" ∧ yP_forgetRing.cls ≠ "java/lang/invoke/VarHandle" ∧ (parseMethodDescriptor yP_forgetRing.desc).map (fun d => d.parameters.length) = some 0 := hvP_forgetRing.2
theorem hvK_isAnimal : yK_isAnimal.cls = RK ∧ yK_isAnimal.cls ≠ "java/lang/invoke/MethodHandle" ∧ yK_isAnimal.cls ≠ "java/lang/invoke/VarHandle" ∧ (parseMethodDescriptor yK_isAnimal.desc).map (fun d => d.parameters.length) = some 1 := by decide +kernel
theorem hsK_isAnimal : yK_isAnimal.cls ≠ "java/lang/invoke/MethodHandle" ∧ yK_isAnimal.cls ≠ "java/lang/invoke/VarHandle" ∧ (parseMethodDescriptor yK_isAnimal.desc).map (fun d => d.parameters.length) = some 1 := hvK_isAnimal.2
theorem hvK_isAnimalOrNone : yK_isAnimalOrNone.cls = RK ∧ yK_isAnimalOrNone.cls ≠ "java/lang/invoke/MethodHandle" ∧ yK_isAnimalOrNone.cls ≠ "java/lang/invoke/VarHandle" ∧ (parseMethodDescriptor yK_isAnimalOrNone.desc).map (fun d => d.parameters.length) = some 1 := by decide +kernel
theorem hsK_isAnimalOrNone : yK_isAnimalOrNone.cls ≠ "java/lang/invoke/MethodHandle" ∧ yK_isAnimalOrNone.cls ≠ "java/lang/invoke/VarHandle" ∧ (parseMethodDescriptor yK_isAnimalOrNone.desc).map (fun d => d.parameters.length) = some 1 := hvK_isAnimalOrNone.2
theorem hvP_wouldClose : yP_wouldClose.cls = RP ∧ yP_wouldClose.cls ≠ "java/lang/invoke/MethodHandle" ∧ yP_wouldClose.cls ≠ "java/lang/invoke/VarHandle" ∧ (parseMethodDescriptor yP_wouldClose.desc).map (fun d => d.parameters.length) = some 3 := by decide +kernel
theorem hsP_wouldClose : yP_wouldClose.cls ≠ "java/lang/invoke/MethodHandle" ∧ yP_wouldClose.cls ≠ "java/lang/invoke/VarHandle" ∧ (parseMethodDescriptor yP_wouldClose.desc).map (fun d => d.parameters.length) = some 3 := hvP_wouldClose.2
theorem hvP_leadsTo : yP_leadsTo.cls = RP ∧ yP_leadsTo.cls ≠ "java/lang/invoke/MethodHandle" ∧ yP_leadsTo.cls ≠ "java/lang/invoke/VarHandle" ∧ (parseMethodDescriptor yP_leadsTo.desc).map (fun d => d.parameters.length) = some 2 := by decide +kernel
theorem hsP_leadsTo : yP_leadsTo.cls ≠ "java/lang/invoke/MethodHandle" ∧ yP_leadsTo.cls ≠ "java/lang/invoke/VarHandle" ∧ (parseMethodDescriptor yP_leadsTo.desc).map (fun d => d.parameters.length) = some 2 := hvP_leadsTo.2
theorem hvP_hasForbear : yP_hasForbear.cls = RP ∧ yP_hasForbear.cls ≠ "java/lang/invoke/MethodHandle" ∧ yP_hasForbear.cls ≠ "java/lang/invoke/VarHandle" ∧ (parseMethodDescriptor yP_hasForbear.desc).map (fun d => d.parameters.length) = some 2 := by decide +kernel
theorem hsP_hasForbear : yP_hasForbear.cls ≠ "java/lang/invoke/MethodHandle" ∧ yP_hasForbear.cls ≠ "java/lang/invoke/VarHandle" ∧ (parseMethodDescriptor yP_hasForbear.desc).map (fun d => d.parameters.length) = some 2 := hvP_hasForbear.2
theorem hvP_keepRing : yP_keepRing.cls = RP ∧ yP_keepRing.cls ≠ "java/lang/invoke/MethodHandle" ∧ yP_keepRing.cls ≠ "java/lang/invoke/VarHandle" ∧ (parseMethodDescriptor yP_keepRing.desc).map (fun d => d.parameters.length) = some 3 := by decide +kernel
theorem hsP_keepRing : yP_keepRing.cls ≠ "java/lang/invoke/MethodHandle" ∧ yP_keepRing.cls ≠ "java/lang/invoke/VarHandle" ∧ (parseMethodDescriptor yP_keepRing.desc).map (fun d => d.parameters.length) = some 3 := hvP_keepRing.2
theorem hvK_mayBeParents : yK_mayBeParents.cls = RK ∧ yK_mayBeParents.cls ≠ "java/lang/invoke/MethodHandle" ∧ yK_mayBeParents.cls ≠ "java/lang/invoke/VarHandle" ∧ (parseMethodDescriptor yK_mayBeParents.desc).map (fun d => d.parameters.length) = some 3 := by decide +kernel
theorem hsK_mayBeParents : yK_mayBeParents.cls ≠ "java/lang/invoke/MethodHandle" ∧ yK_mayBeParents.cls ≠ "java/lang/invoke/VarHandle" ∧ (parseMethodDescriptor yK_mayBeParents.desc).map (fun d => d.parameters.length) = some 3 := hvK_mayBeParents.2
theorem hvK_mayBeParent : yK_mayBeParent.cls = RK ∧ yK_mayBeParent.cls ≠ "java/lang/invoke/MethodHandle" ∧ yK_mayBeParent.cls ≠ "java/lang/invoke/VarHandle" ∧ (parseMethodDescriptor yK_mayBeParent.desc).map (fun d => d.parameters.length) = some 3 := by decide +kernel
theorem hsK_mayBeParent : yK_mayBeParent.cls ≠ "java/lang/invoke/MethodHandle" ∧ yK_mayBeParent.cls ≠ "java/lang/invoke/VarHandle" ∧ (parseMethodDescriptor yK_mayBeParent.desc).map (fun d => d.parameters.length) = some 3 := hvK_mayBeParent.2
theorem hvP_setParents : yP_setParents.cls = RP ∧ yP_setParents.cls ≠ "java/lang/invoke/MethodHandle" ∧ yP_setParents.cls ≠ "java/lang/invoke/VarHandle" ∧ (parseMethodDescriptor yP_setParents.desc).map (fun d => d.parameters.length) = some 3 := by decide +kernel
theorem hsP_setParents : yP_setParents.cls ≠ "java/lang/invoke/MethodHandle" ∧ yP_setParents.cls ≠ "java/lang/invoke/VarHandle" ∧ (parseMethodDescriptor yP_setParents.desc).map (fun d => d.parameters.length) = some 3 := hvP_setParents.2
theorem hvK_ring : yK_ring.cls = RK ∧ yK_ring.cls ≠ "java/lang/invoke/MethodHandle" ∧ yK_ring.cls ≠ "java/lang/invoke/VarHandle" ∧ (parseMethodDescriptor yK_ring.desc).map (fun d => d.parameters.length) = some 1 := by decide +kernel
theorem hsK_ring : yK_ring.cls ≠ "java/lang/invoke/MethodHandle" ∧ yK_ring.cls ≠ "java/lang/invoke/VarHandle" ∧ (parseMethodDescriptor yK_ring.desc).map (fun d => d.parameters.length) = some 1 := hvK_ring.2
theorem hvP_ringAt : yP_ringAt.cls = RP ∧ yP_ringAt.cls ≠ "java/lang/invoke/MethodHandle" ∧ yP_ringAt.cls ≠ "java/lang/invoke/VarHandle" ∧ (parseMethodDescriptor yP_ringAt.desc).map (fun d => d.parameters.length) = some 1 := by decide +kernel
theorem hsP_ringAt : yP_ringAt.cls ≠ "java/lang/invoke/MethodHandle" ∧ yP_ringAt.cls ≠ "java/lang/invoke/VarHandle" ∧ (parseMethodDescriptor yP_ringAt.desc).map (fun d => d.parameters.length) = some 1 := hvP_ringAt.2
theorem hvK_told : yK_told.cls = RK ∧ yK_told.cls ≠ "java/lang/invoke/MethodHandle" ∧ yK_told.cls ≠ "java/lang/invoke/VarHandle" ∧ (parseMethodDescriptor yK_told.desc).map (fun d => d.parameters.length) = some 3 := by decide +kernel
theorem hsK_told : yK_told.cls ≠ "java/lang/invoke/MethodHandle" ∧ yK_told.cls ≠ "java/lang/invoke/VarHandle" ∧ (parseMethodDescriptor yK_told.desc).map (fun d => d.parameters.length) = some 3 := hvK_told.2
theorem hvK_areSexesAndDaysRight : yK_areSexesAndDaysRight.cls = RK ∧ yK_areSexesAndDaysRight.cls ≠ "java/lang/invoke/MethodHandle" ∧ yK_areSexesAndDaysRight.cls ≠ "java/lang/invoke/VarHandle" ∧ (parseMethodDescriptor yK_areSexesAndDaysRight.desc).map (fun d => d.parameters.length) = some 0 := by decide +kernel
theorem hsK_areSexesAndDaysRight : yK_areSexesAndDaysRight.cls ≠ "java/lang/invoke/MethodHandle" ∧ yK_areSexesAndDaysRight.cls ≠ "java/lang/invoke/VarHandle" ∧ (parseMethodDescriptor yK_areSexesAndDaysRight.desc).map (fun d => d.parameters.length) = some 0 := hvK_areSexesAndDaysRight.2
theorem hvK_lives : yK_lives.cls = RK ∧ yK_lives.cls ≠ "java/lang/invoke/MethodHandle" ∧ yK_lives.cls ≠ "java/lang/invoke/VarHandle" ∧ (parseMethodDescriptor yK_lives.desc).map (fun d => d.parameters.length) = some 2 := by decide +kernel
theorem hsK_lives : yK_lives.cls ≠ "java/lang/invoke/MethodHandle" ∧ yK_lives.cls ≠ "java/lang/invoke/VarHandle" ∧ (parseMethodDescriptor yK_lives.desc).map (fun d => d.parameters.length) = some 2 := hvK_lives.2
theorem hvK_kin : yK_kin.cls = RK ∧ yK_kin.cls ≠ "java/lang/invoke/MethodHandle" ∧ yK_kin.cls ≠ "java/lang/invoke/VarHandle" ∧ (parseMethodDescriptor yK_kin.desc).map (fun d => d.parameters.length) = some 3 := by decide +kernel
theorem hsK_kin : yK_kin.cls ≠ "java/lang/invoke/MethodHandle" ∧ yK_kin.cls ≠ "java/lang/invoke/VarHandle" ∧ (parseMethodDescriptor yK_kin.desc).map (fun d => d.parameters.length) = some 3 := hvK_kin.2
theorem hvF_isPart : yF_isPart.cls = RF ∧ yF_isPart.cls ≠ "java/lang/invoke/MethodHandle" ∧ yF_isPart.cls ≠ "java/lang/invoke/VarHandle" ∧ (parseMethodDescriptor yF_isPart.desc).map (fun d => d.parameters.length) = some 1 := by decide +kernel
theorem hsF_isPart : yF_isPart.cls ≠ "java/lang/invoke/MethodHandle" ∧ yF_isPart.cls ≠ "java/lang/invoke/VarHandle" ∧ (parseMethodDescriptor yF_isPart.desc).map (fun d => d.parameters.length) = some 1 := hvF_isPart.2
theorem hvF_lowest : yF_lowest.cls = RF ∧ yF_lowest.cls ≠ "java/lang/invoke/MethodHandle" ∧ yF_lowest.cls ≠ "java/lang/invoke/VarHandle" ∧ (parseMethodDescriptor yF_lowest.desc).map (fun d => d.parameters.length) = some 3 := by decide +kernel
theorem hsF_lowest : yF_lowest.cls ≠ "java/lang/invoke/MethodHandle" ∧ yF_lowest.cls ≠ "java/lang/invoke/VarHandle" ∧ (parseMethodDescriptor yF_lowest.desc).map (fun d => d.parameters.length) = some 3 := hvF_lowest.2
theorem hvF_commonDivisor : yF_commonDivisor.cls = RF ∧ yF_commonDivisor.cls ≠ "java/lang/invoke/MethodHandle" ∧ yF_commonDivisor.cls ≠ "java/lang/invoke/VarHandle" ∧ (parseMethodDescriptor yF_commonDivisor.desc).map (fun d => d.parameters.length) = some 2 := by decide +kernel
theorem hsF_commonDivisor : yF_commonDivisor.cls ≠ "java/lang/invoke/MethodHandle" ∧ yF_commonDivisor.cls ≠ "java/lang/invoke/VarHandle" ∧ (parseMethodDescriptor yF_commonDivisor.desc).map (fun d => d.parameters.length) = some 2 := hvF_commonDivisor.2
theorem hvK_inbred : yK_inbred.cls = RK ∧ yK_inbred.cls ≠ "java/lang/invoke/MethodHandle" ∧ yK_inbred.cls ≠ "java/lang/invoke/VarHandle" ∧ (parseMethodDescriptor yK_inbred.desc).map (fun d => d.parameters.length) = some 2 := by decide +kernel
theorem hsK_inbred : yK_inbred.cls ≠ "java/lang/invoke/MethodHandle" ∧ yK_inbred.cls ≠ "java/lang/invoke/VarHandle" ∧ (parseMethodDescriptor yK_inbred.desc).map (fun d => d.parameters.length) = some 2 := hvK_inbred.2
theorem hvP_inbreedingOf : yP_inbreedingOf.cls = RP ∧ yP_inbreedingOf.cls ≠ "java/lang/invoke/MethodHandle" ∧ yP_inbreedingOf.cls ≠ "java/lang/invoke/VarHandle" ∧ (parseMethodDescriptor yP_inbreedingOf.desc).map (fun d => d.parameters.length) = some 1 := by decide +kernel
theorem hsP_inbreedingOf : yP_inbreedingOf.cls ≠ "java/lang/invoke/MethodHandle" ∧ yP_inbreedingOf.cls ≠ "java/lang/invoke/VarHandle" ∧ (parseMethodDescriptor yP_inbreedingOf.desc).map (fun d => d.parameters.length) = some 1 := hvP_inbreedingOf.2
theorem hvK_chance : yK_chance.cls = RK ∧ yK_chance.cls ≠ "java/lang/invoke/MethodHandle" ∧ yK_chance.cls ≠ "java/lang/invoke/VarHandle" ∧ (parseMethodDescriptor yK_chance.desc).map (fun d => d.parameters.length) = some 2 := by decide +kernel
theorem hsK_chance : yK_chance.cls ≠ "java/lang/invoke/MethodHandle" ∧ yK_chance.cls ≠ "java/lang/invoke/VarHandle" ∧ (parseMethodDescriptor yK_chance.desc).map (fun d => d.parameters.length) = some 2 := hvK_chance.2
theorem hvP_chanceOf : yP_chanceOf.cls = RP ∧ yP_chanceOf.cls ≠ "java/lang/invoke/MethodHandle" ∧ yP_chanceOf.cls ≠ "java/lang/invoke/VarHandle" ∧ (parseMethodDescriptor yP_chanceOf.desc).map (fun d => d.parameters.length) = some 1 := by decide +kernel
theorem hsP_chanceOf : yP_chanceOf.cls ≠ "java/lang/invoke/MethodHandle" ∧ yP_chanceOf.cls ≠ "java/lang/invoke/VarHandle" ∧ (parseMethodDescriptor yP_chanceOf.desc).map (fun d => d.parameters.length) = some 1 := hvP_chanceOf.2
theorem hvP_settledBy : yP_settledBy.cls = RP ∧ yP_settledBy.cls ≠ "java/lang/invoke/MethodHandle" ∧ yP_settledBy.cls ≠ "java/lang/invoke/VarHandle" ∧ (parseMethodDescriptor yP_settledBy.desc).map (fun d => d.parameters.length) = some 1 := by decide +kernel
theorem hsP_settledBy : yP_settledBy.cls ≠ "java/lang/invoke/MethodHandle" ∧ yP_settledBy.cls ≠ "java/lang/invoke/VarHandle" ∧ (parseMethodDescriptor yP_settledBy.desc).map (fun d => d.parameters.length) = some 1 := hvP_settledBy.2
theorem hvK_share : yK_share.cls = RK ∧ yK_share.cls ≠ "java/lang/invoke/MethodHandle" ∧ yK_share.cls ≠ "java/lang/invoke/VarHandle" ∧ (parseMethodDescriptor yK_share.desc).map (fun d => d.parameters.length) = some 3 := by decide +kernel
theorem hsK_share : yK_share.cls ≠ "java/lang/invoke/MethodHandle" ∧ yK_share.cls ≠ "java/lang/invoke/VarHandle" ∧ (parseMethodDescriptor yK_share.desc).map (fun d => d.parameters.length) = some 3 := hvK_share.2
theorem hvP_isFounder : yP_isFounder.cls = RP ∧ yP_isFounder.cls ≠ "java/lang/invoke/MethodHandle" ∧ yP_isFounder.cls ≠ "java/lang/invoke/VarHandle" ∧ (parseMethodDescriptor yP_isFounder.desc).map (fun d => d.parameters.length) = some 1 := by decide +kernel
theorem hsP_isFounder : yP_isFounder.cls ≠ "java/lang/invoke/MethodHandle" ∧ yP_isFounder.cls ≠ "java/lang/invoke/VarHandle" ∧ (parseMethodDescriptor yP_isFounder.desc).map (fun d => d.parameters.length) = some 1 := hvP_isFounder.2
theorem hvP_shareOf : yP_shareOf.cls = RP ∧ yP_shareOf.cls ≠ "java/lang/invoke/MethodHandle" ∧ yP_shareOf.cls ≠ "java/lang/invoke/VarHandle" ∧ (parseMethodDescriptor yP_shareOf.desc).map (fun d => d.parameters.length) = some 2 := by decide +kernel
theorem hsP_shareOf : yP_shareOf.cls ≠ "java/lang/invoke/MethodHandle" ∧ yP_shareOf.cls ≠ "java/lang/invoke/VarHandle" ∧ (parseMethodDescriptor yP_shareOf.desc).map (fun d => d.parameters.length) = some 2 := hvP_shareOf.2
theorem hvP_shareRow : yP_shareRow.cls = RP ∧ yP_shareRow.cls ≠ "java/lang/invoke/MethodHandle" ∧ yP_shareRow.cls ≠ "java/lang/invoke/VarHandle" ∧ (parseMethodDescriptor yP_shareRow.desc).map (fun d => d.parameters.length) = some 1 := by decide +kernel
theorem hsP_shareRow : yP_shareRow.cls ≠ "java/lang/invoke/MethodHandle" ∧ yP_shareRow.cls ≠ "java/lang/invoke/VarHandle" ∧ (parseMethodDescriptor yP_shareRow.desc).map (fun d => d.parameters.length) = some 1 := hvP_shareRow.2
theorem hvK_isForbear : yK_isForbear.cls = RK ∧ yK_isForbear.cls ≠ "java/lang/invoke/MethodHandle" ∧ yK_isForbear.cls ≠ "java/lang/invoke/VarHandle" ∧ (parseMethodDescriptor yK_isForbear.desc).map (fun d => d.parameters.length) = some 2 := by decide +kernel
theorem hsK_isForbear : yK_isForbear.cls ≠ "java/lang/invoke/MethodHandle" ∧ yK_isForbear.cls ≠ "java/lang/invoke/VarHandle" ∧ (parseMethodDescriptor yK_isForbear.desc).map (fun d => d.parameters.length) = some 2 := hvK_isForbear.2
theorem hvK_order : yK_order.cls = RK ∧ yK_order.cls ≠ "java/lang/invoke/MethodHandle" ∧ yK_order.cls ≠ "java/lang/invoke/VarHandle" ∧ (parseMethodDescriptor yK_order.desc).map (fun d => d.parameters.length) = some 1 := by decide +kernel
theorem hsK_order : yK_order.cls ≠ "java/lang/invoke/MethodHandle" ∧ yK_order.cls ≠ "java/lang/invoke/VarHandle" ∧ (parseMethodDescriptor yK_order.desc).map (fun d => d.parameters.length) = some 1 := hvK_order.2
theorem hvK_mark : yK_mark.cls = RK ∧ yK_mark.cls ≠ "java/lang/invoke/MethodHandle" ∧ yK_mark.cls ≠ "java/lang/invoke/VarHandle" ∧ (parseMethodDescriptor yK_mark.desc).map (fun d => d.parameters.length) = some 3 := by decide +kernel
theorem hsK_mark : yK_mark.cls ≠ "java/lang/invoke/MethodHandle" ∧ yK_mark.cls ≠ "java/lang/invoke/VarHandle" ∧ (parseMethodDescriptor yK_mark.desc).map (fun d => d.parameters.length) = some 3 := hvK_mark.2
theorem hvM_setForm : yM_setForm.cls = RM ∧ yM_setForm.cls ≠ "java/lang/invoke/MethodHandle" ∧ yM_setForm.cls ≠ "java/lang/invoke/VarHandle" ∧ (parseMethodDescriptor yM_setForm.desc).map (fun d => d.parameters.length) = some 3 := by decide +kernel
theorem hsM_setForm : yM_setForm.cls ≠ "java/lang/invoke/MethodHandle" ∧ yM_setForm.cls ≠ "java/lang/invoke/VarHandle" ∧ (parseMethodDescriptor yM_setForm.desc).map (fun d => d.parameters.length) = some 3 := hvM_setForm.2
theorem hvM_has : yM_has.cls = RM ∧ yM_has.cls ≠ "java/lang/invoke/MethodHandle" ∧ yM_has.cls ≠ "java/lang/invoke/VarHandle" ∧ (parseMethodDescriptor yM_has.desc).map (fun d => d.parameters.length) = some 2 := by decide +kernel
theorem hsM_has : yM_has.cls ≠ "java/lang/invoke/MethodHandle" ∧ yM_has.cls ≠ "java/lang/invoke/VarHandle" ∧ (parseMethodDescriptor yM_has.desc).map (fun d => d.parameters.length) = some 2 := hvM_has.2
theorem hvK_left : yK_left.cls = RK ∧ yK_left.cls ≠ "java/lang/invoke/MethodHandle" ∧ yK_left.cls ≠ "java/lang/invoke/VarHandle" ∧ (parseMethodDescriptor yK_left.desc).map (fun d => d.parameters.length) = some 2 := by decide +kernel
theorem hsK_left : yK_left.cls ≠ "java/lang/invoke/MethodHandle" ∧ yK_left.cls ≠ "java/lang/invoke/VarHandle" ∧ (parseMethodDescriptor yK_left.desc).map (fun d => d.parameters.length) = some 2 := hvK_left.2
theorem hvM_isLeftOut : yM_isLeftOut.cls = RM ∧ yM_isLeftOut.cls ≠ "java/lang/invoke/MethodHandle" ∧ yM_isLeftOut.cls ≠ "java/lang/invoke/VarHandle" ∧ (parseMethodDescriptor yM_isLeftOut.desc).map (fun d => d.parameters.length) = some 2 := by decide +kernel
theorem hsM_isLeftOut : yM_isLeftOut.cls ≠ "java/lang/invoke/MethodHandle" ∧ yM_isLeftOut.cls ≠ "java/lang/invoke/VarHandle" ∧ (parseMethodDescriptor yM_isLeftOut.desc).map (fun d => d.parameters.length) = some 2 := hvM_isLeftOut.2
theorem hvM_isKnownOfBoth : yM_isKnownOfBoth.cls = RM ∧ yM_isKnownOfBoth.cls ≠ "java/lang/invoke/MethodHandle" ∧ yM_isKnownOfBoth.cls ≠ "java/lang/invoke/VarHandle" ∧ (parseMethodDescriptor yM_isKnownOfBoth.desc).map (fun d => d.parameters.length) = some 3 := by decide +kernel
theorem hsM_isKnownOfBoth : yM_isKnownOfBoth.cls ≠ "java/lang/invoke/MethodHandle" ∧ yM_isKnownOfBoth.cls ≠ "java/lang/invoke/VarHandle" ∧ (parseMethodDescriptor yM_isKnownOfBoth.desc).map (fun d => d.parameters.length) = some 3 := hvM_isKnownOfBoth.2
theorem hvM_formOf : yM_formOf.cls = RM ∧ yM_formOf.cls ≠ "java/lang/invoke/MethodHandle" ∧ yM_formOf.cls ≠ "java/lang/invoke/VarHandle" ∧ (parseMethodDescriptor yM_formOf.desc).map (fun d => d.parameters.length) = some 2 := by decide +kernel
theorem hsM_formOf : yM_formOf.cls ≠ "java/lang/invoke/MethodHandle" ∧ yM_formOf.cls ≠ "java/lang/invoke/VarHandle" ∧ (parseMethodDescriptor yM_formOf.desc).map (fun d => d.parameters.length) = some 2 := hvM_formOf.2
theorem hvM_difference : yM_difference.cls = RM ∧ yM_difference.cls ≠ "java/lang/invoke/MethodHandle" ∧ yM_difference.cls ≠ "java/lang/invoke/VarHandle" ∧ (parseMethodDescriptor yM_difference.desc).map (fun d => d.parameters.length) = some 3 := by decide +kernel
theorem hsM_difference : yM_difference.cls ≠ "java/lang/invoke/MethodHandle" ∧ yM_difference.cls ≠ "java/lang/invoke/VarHandle" ∧ (parseMethodDescriptor yM_difference.desc).map (fun d => d.parameters.length) = some 3 := hvM_difference.2
theorem hvK_odds : yK_odds.cls = RK ∧ yK_odds.cls ≠ "java/lang/invoke/MethodHandle" ∧ yK_odds.cls ≠ "java/lang/invoke/VarHandle" ∧ (parseMethodDescriptor yK_odds.desc).map (fun d => d.parameters.length) = some 3 := by decide +kernel
theorem hsK_odds : yK_odds.cls ≠ "java/lang/invoke/MethodHandle" ∧ yK_odds.cls ≠ "java/lang/invoke/VarHandle" ∧ (parseMethodDescriptor yK_odds.desc).map (fun d => d.parameters.length) = some 3 := hvK_odds.2
theorem hvM_oddsOf : yM_oddsOf.cls = RM ∧ yM_oddsOf.cls ≠ "java/lang/invoke/MethodHandle" ∧ yM_oddsOf.cls ≠ "java/lang/invoke/VarHandle" ∧ (parseMethodDescriptor yM_oddsOf.desc).map (fun d => d.parameters.length) = some 3 := by decide +kernel
theorem hsM_oddsOf : yM_oddsOf.cls ≠ "java/lang/invoke/MethodHandle" ∧ yM_oddsOf.cls ≠ "java/lang/invoke/VarHandle" ∧ (parseMethodDescriptor yM_oddsOf.desc).map (fun d => d.parameters.length) = some 3 := hvM_oddsOf.2
theorem hvM_knownForms : yM_knownForms.cls = RM ∧ yM_knownForms.cls ≠ "java/lang/invoke/MethodHandle" ∧ yM_knownForms.cls ≠ "java/lang/invoke/VarHandle" ∧ (parseMethodDescriptor yM_knownForms.desc).map (fun d => d.parameters.length) = some 1 := by decide +kernel
theorem hsM_knownForms : yM_knownForms.cls ≠ "java/lang/invoke/MethodHandle" ∧ yM_knownForms.cls ≠ "java/lang/invoke/VarHandle" ∧ (parseMethodDescriptor yM_knownForms.desc).map (fun d => d.parameters.length) = some 1 := hvM_knownForms.2
theorem hvM_lettersB : yM_lettersB.cls = RM ∧ yM_lettersB.cls ≠ "java/lang/invoke/MethodHandle" ∧ yM_lettersB.cls ≠ "java/lang/invoke/VarHandle" ∧ (parseMethodDescriptor yM_lettersB.desc).map (fun d => d.parameters.length) = some 1 := by decide +kernel
theorem hsM_lettersB : yM_lettersB.cls ≠ "java/lang/invoke/MethodHandle" ∧ yM_lettersB.cls ≠ "java/lang/invoke/VarHandle" ∧ (parseMethodDescriptor yM_lettersB.desc).map (fun d => d.parameters.length) = some 1 := hvM_lettersB.2
theorem hvM_amongChildren : yM_amongChildren.cls = RM ∧ yM_amongChildren.cls ≠ "java/lang/invoke/MethodHandle" ∧ yM_amongChildren.cls ≠ "java/lang/invoke/VarHandle" ∧ (parseMethodDescriptor yM_amongChildren.desc).map (fun d => d.parameters.length) = some 4 := by decide +kernel
theorem hsM_amongChildren : yM_amongChildren.cls ≠ "java/lang/invoke/MethodHandle" ∧ yM_amongChildren.cls ≠ "java/lang/invoke/VarHandle" ∧ (parseMethodDescriptor yM_amongChildren.desc).map (fun d => d.parameters.length) = some 4 := hvM_amongChildren.2
theorem hvM_amongStrangers : yM_amongStrangers.cls = RM ∧ yM_amongStrangers.cls ≠ "java/lang/invoke/MethodHandle" ∧ yM_amongStrangers.cls ≠ "java/lang/invoke/VarHandle" ∧ (parseMethodDescriptor yM_amongStrangers.desc).map (fun d => d.parameters.length) = some 3 := by decide +kernel
theorem hsM_amongStrangers : yM_amongStrangers.cls ≠ "java/lang/invoke/MethodHandle" ∧ yM_amongStrangers.cls ≠ "java/lang/invoke/VarHandle" ∧ (parseMethodDescriptor yM_amongStrangers.desc).map (fun d => d.parameters.length) = some 3 := hvM_amongStrangers.2
theorem hvK_like : yK_like.cls = RK ∧ yK_like.cls ≠ "java/lang/invoke/MethodHandle" ∧ yK_like.cls ≠ "java/lang/invoke/VarHandle" ∧ (parseMethodDescriptor yK_like.desc).map (fun d => d.parameters.length) = some 3 := by decide +kernel
theorem hsK_like : yK_like.cls ≠ "java/lang/invoke/MethodHandle" ∧ yK_like.cls ≠ "java/lang/invoke/VarHandle" ∧ (parseMethodDescriptor yK_like.desc).map (fun d => d.parameters.length) = some 3 := hvK_like.2
theorem hvM_likenessOf : yM_likenessOf.cls = RM ∧ yM_likenessOf.cls ≠ "java/lang/invoke/MethodHandle" ∧ yM_likenessOf.cls ≠ "java/lang/invoke/VarHandle" ∧ (parseMethodDescriptor yM_likenessOf.desc).map (fun d => d.parameters.length) = some 3 := by decide +kernel
theorem hsM_likenessOf : yM_likenessOf.cls ≠ "java/lang/invoke/MethodHandle" ∧ yM_likenessOf.cls ≠ "java/lang/invoke/VarHandle" ∧ (parseMethodDescriptor yM_likenessOf.desc).map (fun d => d.parameters.length) = some 3 := hvM_likenessOf.2
theorem hvK_lost : yK_lost.cls = RK ∧ yK_lost.cls ≠ "java/lang/invoke/MethodHandle" ∧ yK_lost.cls ≠ "java/lang/invoke/VarHandle" ∧ (parseMethodDescriptor yK_lost.desc).map (fun d => d.parameters.length) = some 1 := by decide +kernel
theorem hsK_lost : yK_lost.cls ≠ "java/lang/invoke/MethodHandle" ∧ yK_lost.cls ≠ "java/lang/invoke/VarHandle" ∧ (parseMethodDescriptor yK_lost.desc).map (fun d => d.parameters.length) = some 1 := hvK_lost.2
theorem hvK_isLost : yK_isLost.cls = RK ∧ yK_isLost.cls ≠ "java/lang/invoke/MethodHandle" ∧ yK_isLost.cls ≠ "java/lang/invoke/VarHandle" ∧ (parseMethodDescriptor yK_isLost.desc).map (fun d => d.parameters.length) = some 1 := by decide +kernel
theorem hsK_isLost : yK_isLost.cls ≠ "java/lang/invoke/MethodHandle" ∧ yK_isLost.cls ≠ "java/lang/invoke/VarHandle" ∧ (parseMethodDescriptor yK_isLost.desc).map (fun d => d.parameters.length) = some 1 := hvK_isLost.2
theorem hvK_diverse : yK_diverse.cls = RK ∧ yK_diverse.cls ≠ "java/lang/invoke/MethodHandle" ∧ yK_diverse.cls ≠ "java/lang/invoke/VarHandle" ∧ (parseMethodDescriptor yK_diverse.desc).map (fun d => d.parameters.length) = some 1 := by decide +kernel
theorem hsK_diverse : yK_diverse.cls ≠ "java/lang/invoke/MethodHandle" ∧ yK_diverse.cls ≠ "java/lang/invoke/VarHandle" ∧ (parseMethodDescriptor yK_diverse.desc).map (fun d => d.parameters.length) = some 1 := hvK_diverse.2
theorem hvK_kinWithLiving : yK_kinWithLiving.cls = RK ∧ yK_kinWithLiving.cls ≠ "java/lang/invoke/MethodHandle" ∧ yK_kinWithLiving.cls ≠ "java/lang/invoke/VarHandle" ∧ (parseMethodDescriptor yK_kinWithLiving.desc).map (fun d => d.parameters.length) = some 1 := by decide +kernel
theorem hsK_kinWithLiving : yK_kinWithLiving.cls ≠ "java/lang/invoke/MethodHandle" ∧ yK_kinWithLiving.cls ≠ "java/lang/invoke/VarHandle" ∧ (parseMethodDescriptor yK_kinWithLiving.desc).map (fun d => d.parameters.length) = some 1 := hvK_kinWithLiving.2
theorem hvK_animal : yK_animal.cls = RK ∧ yK_animal.cls ≠ "java/lang/invoke/MethodHandle" ∧ yK_animal.cls ≠ "java/lang/invoke/VarHandle" ∧ (parseMethodDescriptor yK_animal.desc).map (fun d => d.parameters.length) = some 2 := by decide +kernel
theorem hsK_animal : yK_animal.cls ≠ "java/lang/invoke/MethodHandle" ∧ yK_animal.cls ≠ "java/lang/invoke/VarHandle" ∧ (parseMethodDescriptor yK_animal.desc).map (fun d => d.parameters.length) = some 2 := hvK_animal.2
theorem hvL_cell : yL_cell.cls = RL ∧ yL_cell.cls ≠ "java/lang/invoke/MethodHandle" ∧ yL_cell.cls ≠ "java/lang/invoke/VarHandle" ∧ (parseMethodDescriptor yL_cell.desc).map (fun d => d.parameters.length) = some 2 := by decide +kernel
theorem hsL_cell : yL_cell.cls ≠ "java/lang/invoke/MethodHandle" ∧ yL_cell.cls ≠ "java/lang/invoke/VarHandle" ∧ (parseMethodDescriptor yL_cell.desc).map (fun d => d.parameters.length) = some 2 := hvL_cell.2
theorem hvR_init : yR_init.cls = RR ∧ yR_init.cls ≠ "java/lang/invoke/MethodHandle" ∧ yR_init.cls ≠ "java/lang/invoke/VarHandle" ∧ (parseMethodDescriptor yR_init.desc).map (fun d => d.parameters.length) = some 1 := by decide +kernel
theorem hsR_init : yR_init.cls ≠ "java/lang/invoke/MethodHandle" ∧ yR_init.cls ≠ "java/lang/invoke/VarHandle" ∧ (parseMethodDescriptor yR_init.desc).map (fun d => d.parameters.length) = some 1 := hvR_init.2
theorem hvR_parents : yR_parents.cls = RR ∧ yR_parents.cls ≠ "java/lang/invoke/MethodHandle" ∧ yR_parents.cls ≠ "java/lang/invoke/VarHandle" ∧ (parseMethodDescriptor yR_parents.desc).map (fun d => d.parameters.length) = some 3 := by decide +kernel
theorem hsR_parents : yR_parents.cls ≠ "java/lang/invoke/MethodHandle" ∧ yR_parents.cls ≠ "java/lang/invoke/VarHandle" ∧ (parseMethodDescriptor yR_parents.desc).map (fun d => d.parameters.length) = some 3 := hvR_parents.2
theorem hvR_is : yR_is.cls = RR ∧ yR_is.cls ≠ "java/lang/invoke/MethodHandle" ∧ yR_is.cls ≠ "java/lang/invoke/VarHandle" ∧ (parseMethodDescriptor yR_is.desc).map (fun d => d.parameters.length) = some 1 := by decide +kernel
theorem hsR_is : yR_is.cls ≠ "java/lang/invoke/MethodHandle" ∧ yR_is.cls ≠ "java/lang/invoke/VarHandle" ∧ (parseMethodDescriptor yR_is.desc).map (fun d => d.parameters.length) = some 1 := hvR_is.2
theorem hvR_isOrNone : yR_isOrNone.cls = RR ∧ yR_isOrNone.cls ≠ "java/lang/invoke/MethodHandle" ∧ yR_isOrNone.cls ≠ "java/lang/invoke/VarHandle" ∧ (parseMethodDescriptor yR_isOrNone.desc).map (fun d => d.parameters.length) = some 1 := by decide +kernel
theorem hsR_isOrNone : yR_isOrNone.cls ≠ "java/lang/invoke/MethodHandle" ∧ yR_isOrNone.cls ≠ "java/lang/invoke/VarHandle" ∧ (parseMethodDescriptor yR_isOrNone.desc).map (fun d => d.parameters.length) = some 1 := hvR_isOrNone.2
theorem hvR_find : yR_find.cls = RR ∧ yR_find.cls ≠ "java/lang/invoke/MethodHandle" ∧ yR_find.cls ≠ "java/lang/invoke/VarHandle" ∧ (parseMethodDescriptor yR_find.desc).map (fun d => d.parameters.length) = some 0 := by decide +kernel
theorem hsR_find : yR_find.cls ≠ "java/lang/invoke/MethodHandle" ∧ yR_find.cls ≠ "java/lang/invoke/VarHandle" ∧ (parseMethodDescriptor yR_find.desc).map (fun d => d.parameters.length) = some 0 := hvR_find.2
theorem hvR_leads : yR_leads.cls = RR ∧ yR_leads.cls ≠ "java/lang/invoke/MethodHandle" ∧ yR_leads.cls ≠ "java/lang/invoke/VarHandle" ∧ (parseMethodDescriptor yR_leads.desc).map (fun d => d.parameters.length) = some 2 := by decide +kernel
theorem hsR_leads : yR_leads.cls ≠ "java/lang/invoke/MethodHandle" ∧ yR_leads.cls ≠ "java/lang/invoke/VarHandle" ∧ (parseMethodDescriptor yR_leads.desc).map (fun d => d.parameters.length) = some 2 := hvR_leads.2
theorem hvR_tellRing : yR_tellRing.cls = RR ∧ yR_tellRing.cls ≠ "java/lang/invoke/MethodHandle" ∧ yR_tellRing.cls ≠ "java/lang/invoke/VarHandle" ∧ (parseMethodDescriptor yR_tellRing.desc).map (fun d => d.parameters.length) = some 2 := by decide +kernel
theorem hsR_tellRing : yR_tellRing.cls ≠ "java/lang/invoke/MethodHandle" ∧ yR_tellRing.cls ≠ "java/lang/invoke/VarHandle" ∧ (parseMethodDescriptor yR_tellRing.desc).map (fun d => d.parameters.length) = some 2 := hvR_tellRing.2
theorem hvR_isOlder : yR_isOlder.cls = RR ∧ yR_isOlder.cls ≠ "java/lang/invoke/MethodHandle" ∧ yR_isOlder.cls ≠ "java/lang/invoke/VarHandle" ∧ (parseMethodDescriptor yR_isOlder.desc).map (fun d => d.parameters.length) = some 2 := by decide +kernel
theorem hsR_isOlder : yR_isOlder.cls ≠ "java/lang/invoke/MethodHandle" ∧ yR_isOlder.cls ≠ "java/lang/invoke/VarHandle" ∧ (parseMethodDescriptor yR_isOlder.desc).map (fun d => d.parameters.length) = some 2 := hvR_isOlder.2
theorem hvR_ring : yR_ring.cls = RR ∧ yR_ring.cls ≠ "java/lang/invoke/MethodHandle" ∧ yR_ring.cls ≠ "java/lang/invoke/VarHandle" ∧ (parseMethodDescriptor yR_ring.desc).map (fun d => d.parameters.length) = some 1 := by decide +kernel
theorem hsR_ring : yR_ring.cls ≠ "java/lang/invoke/MethodHandle" ∧ yR_ring.cls ≠ "java/lang/invoke/VarHandle" ∧ (parseMethodDescriptor yR_ring.desc).map (fun d => d.parameters.length) = some 1 := hvR_ring.2
theorem hvR_told : yR_told.cls = RR ∧ yR_told.cls ≠ "java/lang/invoke/MethodHandle" ∧ yR_told.cls ≠ "java/lang/invoke/VarHandle" ∧ (parseMethodDescriptor yR_told.desc).map (fun d => d.parameters.length) = some 3 := by decide +kernel
theorem hsR_told : yR_told.cls ≠ "java/lang/invoke/MethodHandle" ∧ yR_told.cls ≠ "java/lang/invoke/VarHandle" ∧ (parseMethodDescriptor yR_told.desc).map (fun d => d.parameters.length) = some 3 := hvR_told.2
theorem hvR_lives : yR_lives.cls = RR ∧ yR_lives.cls ≠ "java/lang/invoke/MethodHandle" ∧ yR_lives.cls ≠ "java/lang/invoke/VarHandle" ∧ (parseMethodDescriptor yR_lives.desc).map (fun d => d.parameters.length) = some 2 := by decide +kernel
theorem hsR_lives : yR_lives.cls ≠ "java/lang/invoke/MethodHandle" ∧ yR_lives.cls ≠ "java/lang/invoke/VarHandle" ∧ (parseMethodDescriptor yR_lives.desc).map (fun d => d.parameters.length) = some 2 := hvR_lives.2
theorem hvR_kin : yR_kin.cls = RR ∧ yR_kin.cls ≠ "java/lang/invoke/MethodHandle" ∧ yR_kin.cls ≠ "java/lang/invoke/VarHandle" ∧ (parseMethodDescriptor yR_kin.desc).map (fun d => d.parameters.length) = some 3 := by decide +kernel
theorem hsR_kin : yR_kin.cls ≠ "java/lang/invoke/MethodHandle" ∧ yR_kin.cls ≠ "java/lang/invoke/VarHandle" ∧ (parseMethodDescriptor yR_kin.desc).map (fun d => d.parameters.length) = some 3 := hvR_kin.2
theorem hvR_isPart : yR_isPart.cls = RR ∧ yR_isPart.cls ≠ "java/lang/invoke/MethodHandle" ∧ yR_isPart.cls ≠ "java/lang/invoke/VarHandle" ∧ (parseMethodDescriptor yR_isPart.desc).map (fun d => d.parameters.length) = some 1 := by decide +kernel
theorem hsR_isPart : yR_isPart.cls ≠ "java/lang/invoke/MethodHandle" ∧ yR_isPart.cls ≠ "java/lang/invoke/VarHandle" ∧ (parseMethodDescriptor yR_isPart.desc).map (fun d => d.parameters.length) = some 1 := hvR_isPart.2
theorem hvR_findKin : yR_findKin.cls = RR ∧ yR_findKin.cls ≠ "java/lang/invoke/MethodHandle" ∧ yR_findKin.cls ≠ "java/lang/invoke/VarHandle" ∧ (parseMethodDescriptor yR_findKin.desc).map (fun d => d.parameters.length) = some 0 := by decide +kernel
theorem hsR_findKin : yR_findKin.cls ≠ "java/lang/invoke/MethodHandle" ∧ yR_findKin.cls ≠ "java/lang/invoke/VarHandle" ∧ (parseMethodDescriptor yR_findKin.desc).map (fun d => d.parameters.length) = some 0 := hvR_findKin.2
theorem hvR_kinOf : yR_kinOf.cls = RR ∧ yR_kinOf.cls ≠ "java/lang/invoke/MethodHandle" ∧ yR_kinOf.cls ≠ "java/lang/invoke/VarHandle" ∧ (parseMethodDescriptor yR_kinOf.desc).map (fun d => d.parameters.length) = some 2 := by decide +kernel
theorem hsR_kinOf : yR_kinOf.cls ≠ "java/lang/invoke/MethodHandle" ∧ yR_kinOf.cls ≠ "java/lang/invoke/VarHandle" ∧ (parseMethodDescriptor yR_kinOf.desc).map (fun d => d.parameters.length) = some 2 := hvR_kinOf.2
theorem hvR_lowest : yR_lowest.cls = RR ∧ yR_lowest.cls ≠ "java/lang/invoke/MethodHandle" ∧ yR_lowest.cls ≠ "java/lang/invoke/VarHandle" ∧ (parseMethodDescriptor yR_lowest.desc).map (fun d => d.parameters.length) = some 3 := by decide +kernel
theorem hsR_lowest : yR_lowest.cls ≠ "java/lang/invoke/MethodHandle" ∧ yR_lowest.cls ≠ "java/lang/invoke/VarHandle" ∧ (parseMethodDescriptor yR_lowest.desc).map (fun d => d.parameters.length) = some 3 := hvR_lowest.2
theorem hvR_inbred : yR_inbred.cls = RR ∧ yR_inbred.cls ≠ "java/lang/invoke/MethodHandle" ∧ yR_inbred.cls ≠ "java/lang/invoke/VarHandle" ∧ (parseMethodDescriptor yR_inbred.desc).map (fun d => d.parameters.length) = some 2 := by decide +kernel
theorem hsR_inbred : yR_inbred.cls ≠ "java/lang/invoke/MethodHandle" ∧ yR_inbred.cls ≠ "java/lang/invoke/VarHandle" ∧ (parseMethodDescriptor yR_inbred.desc).map (fun d => d.parameters.length) = some 2 := hvR_inbred.2
theorem hvR_inbredOf : yR_inbredOf.cls = RR ∧ yR_inbredOf.cls ≠ "java/lang/invoke/MethodHandle" ∧ yR_inbredOf.cls ≠ "java/lang/invoke/VarHandle" ∧ (parseMethodDescriptor yR_inbredOf.desc).map (fun d => d.parameters.length) = some 1 := by decide +kernel
theorem hsR_inbredOf : yR_inbredOf.cls ≠ "java/lang/invoke/MethodHandle" ∧ yR_inbredOf.cls ≠ "java/lang/invoke/VarHandle" ∧ (parseMethodDescriptor yR_inbredOf.desc).map (fun d => d.parameters.length) = some 1 := hvR_inbredOf.2
theorem hvR_chance : yR_chance.cls = RR ∧ yR_chance.cls ≠ "java/lang/invoke/MethodHandle" ∧ yR_chance.cls ≠ "java/lang/invoke/VarHandle" ∧ (parseMethodDescriptor yR_chance.desc).map (fun d => d.parameters.length) = some 2 := by decide +kernel
theorem hsR_chance : yR_chance.cls ≠ "java/lang/invoke/MethodHandle" ∧ yR_chance.cls ≠ "java/lang/invoke/VarHandle" ∧ (parseMethodDescriptor yR_chance.desc).map (fun d => d.parameters.length) = some 2 := hvR_chance.2
theorem hvR_share : yR_share.cls = RR ∧ yR_share.cls ≠ "java/lang/invoke/MethodHandle" ∧ yR_share.cls ≠ "java/lang/invoke/VarHandle" ∧ (parseMethodDescriptor yR_share.desc).map (fun d => d.parameters.length) = some 3 := by decide +kernel
theorem hsR_share : yR_share.cls ≠ "java/lang/invoke/MethodHandle" ∧ yR_share.cls ≠ "java/lang/invoke/VarHandle" ∧ (parseMethodDescriptor yR_share.desc).map (fun d => d.parameters.length) = some 3 := hvR_share.2
theorem hvR_isFounder : yR_isFounder.cls = RR ∧ yR_isFounder.cls ≠ "java/lang/invoke/MethodHandle" ∧ yR_isFounder.cls ≠ "java/lang/invoke/VarHandle" ∧ (parseMethodDescriptor yR_isFounder.desc).map (fun d => d.parameters.length) = some 1 := by decide +kernel
theorem hsR_isFounder : yR_isFounder.cls ≠ "java/lang/invoke/MethodHandle" ∧ yR_isFounder.cls ≠ "java/lang/invoke/VarHandle" ∧ (parseMethodDescriptor yR_isFounder.desc).map (fun d => d.parameters.length) = some 1 := hvR_isFounder.2
theorem hvR_isForbear : yR_isForbear.cls = RR ∧ yR_isForbear.cls ≠ "java/lang/invoke/MethodHandle" ∧ yR_isForbear.cls ≠ "java/lang/invoke/VarHandle" ∧ (parseMethodDescriptor yR_isForbear.desc).map (fun d => d.parameters.length) = some 2 := by decide +kernel
theorem hsR_isForbear : yR_isForbear.cls ≠ "java/lang/invoke/MethodHandle" ∧ yR_isForbear.cls ≠ "java/lang/invoke/VarHandle" ∧ (parseMethodDescriptor yR_isForbear.desc).map (fun d => d.parameters.length) = some 2 := hvR_isForbear.2
theorem hvR_order : yR_order.cls = RR ∧ yR_order.cls ≠ "java/lang/invoke/MethodHandle" ∧ yR_order.cls ≠ "java/lang/invoke/VarHandle" ∧ (parseMethodDescriptor yR_order.desc).map (fun d => d.parameters.length) = some 1 := by decide +kernel
theorem hsR_order : yR_order.cls ≠ "java/lang/invoke/MethodHandle" ∧ yR_order.cls ≠ "java/lang/invoke/VarHandle" ∧ (parseMethodDescriptor yR_order.desc).map (fun d => d.parameters.length) = some 1 := hvR_order.2
theorem hvR_mark : yR_mark.cls = RR ∧ yR_mark.cls ≠ "java/lang/invoke/MethodHandle" ∧ yR_mark.cls ≠ "java/lang/invoke/VarHandle" ∧ (parseMethodDescriptor yR_mark.desc).map (fun d => d.parameters.length) = some 3 := by decide +kernel
theorem hsR_mark : yR_mark.cls ≠ "java/lang/invoke/MethodHandle" ∧ yR_mark.cls ≠ "java/lang/invoke/VarHandle" ∧ (parseMethodDescriptor yR_mark.desc).map (fun d => d.parameters.length) = some 3 := hvR_mark.2
theorem hvR_left : yR_left.cls = RR ∧ yR_left.cls ≠ "java/lang/invoke/MethodHandle" ∧ yR_left.cls ≠ "java/lang/invoke/VarHandle" ∧ (parseMethodDescriptor yR_left.desc).map (fun d => d.parameters.length) = some 2 := by decide +kernel
theorem hsR_left : yR_left.cls ≠ "java/lang/invoke/MethodHandle" ∧ yR_left.cls ≠ "java/lang/invoke/VarHandle" ∧ (parseMethodDescriptor yR_left.desc).map (fun d => d.parameters.length) = some 2 := hvR_left.2
theorem hvR_isLeftOut : yR_isLeftOut.cls = RR ∧ yR_isLeftOut.cls ≠ "java/lang/invoke/MethodHandle" ∧ yR_isLeftOut.cls ≠ "java/lang/invoke/VarHandle" ∧ (parseMethodDescriptor yR_isLeftOut.desc).map (fun d => d.parameters.length) = some 2 := by decide +kernel
theorem hsR_isLeftOut : yR_isLeftOut.cls ≠ "java/lang/invoke/MethodHandle" ∧ yR_isLeftOut.cls ≠ "java/lang/invoke/VarHandle" ∧ (parseMethodDescriptor yR_isLeftOut.desc).map (fun d => d.parameters.length) = some 2 := hvR_isLeftOut.2
theorem hvR_odds : yR_odds.cls = RR ∧ yR_odds.cls ≠ "java/lang/invoke/MethodHandle" ∧ yR_odds.cls ≠ "java/lang/invoke/VarHandle" ∧ (parseMethodDescriptor yR_odds.desc).map (fun d => d.parameters.length) = some 3 := by decide +kernel
theorem hsR_odds : yR_odds.cls ≠ "java/lang/invoke/MethodHandle" ∧ yR_odds.cls ≠ "java/lang/invoke/VarHandle" ∧ (parseMethodDescriptor yR_odds.desc).map (fun d => d.parameters.length) = some 3 := hvR_odds.2
theorem hvR_like : yR_like.cls = RR ∧ yR_like.cls ≠ "java/lang/invoke/MethodHandle" ∧ yR_like.cls ≠ "java/lang/invoke/VarHandle" ∧ (parseMethodDescriptor yR_like.desc).map (fun d => d.parameters.length) = some 3 := by decide +kernel
theorem hsR_like : yR_like.cls ≠ "java/lang/invoke/MethodHandle" ∧ yR_like.cls ≠ "java/lang/invoke/VarHandle" ∧ (parseMethodDescriptor yR_like.desc).map (fun d => d.parameters.length) = some 3 := hvR_like.2
theorem hvR_lost : yR_lost.cls = RR ∧ yR_lost.cls ≠ "java/lang/invoke/MethodHandle" ∧ yR_lost.cls ≠ "java/lang/invoke/VarHandle" ∧ (parseMethodDescriptor yR_lost.desc).map (fun d => d.parameters.length) = some 1 := by decide +kernel
theorem hsR_lost : yR_lost.cls ≠ "java/lang/invoke/MethodHandle" ∧ yR_lost.cls ≠ "java/lang/invoke/VarHandle" ∧ (parseMethodDescriptor yR_lost.desc).map (fun d => d.parameters.length) = some 1 := hvR_lost.2
theorem hvR_diverse : yR_diverse.cls = RR ∧ yR_diverse.cls ≠ "java/lang/invoke/MethodHandle" ∧ yR_diverse.cls ≠ "java/lang/invoke/VarHandle" ∧ (parseMethodDescriptor yR_diverse.desc).map (fun d => d.parameters.length) = some 1 := by decide +kernel
theorem hsR_diverse : yR_diverse.cls ≠ "java/lang/invoke/MethodHandle" ∧ yR_diverse.cls ≠ "java/lang/invoke/VarHandle" ∧ (parseMethodDescriptor yR_diverse.desc).map (fun d => d.parameters.length) = some 1 := hvR_diverse.2
theorem hvR_animal : yR_animal.cls = RR ∧ yR_animal.cls ≠ "java/lang/invoke/MethodHandle" ∧ yR_animal.cls ≠ "java/lang/invoke/VarHandle" ∧ (parseMethodDescriptor yR_animal.desc).map (fun d => d.parameters.length) = some 2 := by decide +kernel
theorem hsR_animal : yR_animal.cls ≠ "java/lang/invoke/MethodHandle" ∧ yR_animal.cls ≠ "java/lang/invoke/VarHandle" ∧ (parseMethodDescriptor yR_animal.desc).map (fun d => d.parameters.length) = some 2 := hvR_animal.2
theorem uw0 : Cond.methodLink RF 11 yF_commonDivisor ∈ uT := uk (um1 (List.mem_of_getElem? (i := 237) (by decide +kernel))) rfl
theorem uw1 : Cond.static yF_commonDivisor ∈ uT := uk (um1 (List.mem_of_getElem? (i := 238) (by decide +kernel))) rfl
theorem uw2 : Cond.initialized RF ∈ uT := uk (um1 (List.mem_of_getElem? (i := 7) (by decide +kernel))) rfl
theorem uw3 : Cond.constantLong RF 15 (-1) ∈ uT := uk (um2 (List.mem_of_getElem? (i := 0) (by decide +kernel))) rfl
theorem uw4 : Cond.fieldLink RP 41 "KinNumbers$Pedigree" "count" "I" ∈ uT := uk (um1 (List.mem_of_getElem? (i := 89) (by decide +kernel))) rfl
theorem uw5 : Cond.methodLink RP 53 yP_has ∈ uT := uk (um1 (List.mem_of_getElem? (i := 43) (by decide +kernel))) rfl
theorem uw6 : Cond.instanceMethod yP_has ∈ uT := uk (um1 (List.mem_of_getElem? (i := 45) (by decide +kernel))) rfl
theorem uw7 : Cond.selects RP yP_has yP_has ∈ uT := uk (um0 (List.mem_of_getElem? (i := 2) (by decide +kernel))) rfl
theorem uw8 : Cond.initialized RP ∈ uT := uk (um1 (List.mem_of_getElem? (i := 3) (by decide +kernel))) rfl
theorem uw9 : Cond.fieldLink RP 9 "KinNumbers$Pedigree" "mothers" "[I" ∈ uT := uk (um1 (List.mem_of_getElem? (i := 90) (by decide +kernel))) rfl
theorem uw10 : Cond.fieldLink RP 15 "KinNumbers$Pedigree" "fathers" "[I" ∈ uT := uk (um1 (List.mem_of_getElem? (i := 91) (by decide +kernel))) rfl
theorem uw11 : Cond.fieldLink RP 18 "KinNumbers$Pedigree" "steps" "[I" ∈ uT := uk (um1 (List.mem_of_getElem? (i := 92) (by decide +kernel))) rfl
theorem uw12 : Cond.fieldLink RP 21 "KinNumbers$Pedigree" "sequence" "[I" ∈ uT := uk (um1 (List.mem_of_getElem? (i := 93) (by decide +kernel))) rfl
theorem uw13 : Cond.fieldLink RP 24 "KinNumbers$Pedigree" "forbears" "[I" ∈ uT := uk (um1 (List.mem_of_getElem? (i := 94) (by decide +kernel))) rfl
theorem uw14 : Cond.methodLink RP 57 yP_bitOf ∈ uT := uk (um1 (List.mem_of_getElem? (i := 64) (by decide +kernel))) rfl
theorem uw15 : Cond.static yP_bitOf ∈ uT := uk (um1 (List.mem_of_getElem? (i := 65) (by decide +kernel))) rfl
theorem uw16 : Cond.fieldLink RP 27 "KinNumbers$Pedigree" "kinTable" "[J" ∈ uT := uk (um1 (List.mem_of_getElem? (i := 95) (by decide +kernel))) rfl
theorem uw17 : Cond.methodLink RP 61 yP_motherOf ∈ uT := uk (um1 (List.mem_of_getElem? (i := 71) (by decide +kernel))) rfl
theorem uw18 : Cond.instanceMethod yP_motherOf ∈ uT := uk (um1 (List.mem_of_getElem? (i := 72) (by decide +kernel))) rfl
theorem uw19 : Cond.selects RP yP_motherOf yP_motherOf ∈ uT := uk (um1 (List.mem_of_getElem? (i := 73) (by decide +kernel))) rfl
theorem uw20 : Cond.methodLink RP 64 yP_fatherOf ∈ uT := uk (um1 (List.mem_of_getElem? (i := 75) (by decide +kernel))) rfl
theorem uw21 : Cond.instanceMethod yP_fatherOf ∈ uT := uk (um1 (List.mem_of_getElem? (i := 76) (by decide +kernel))) rfl
theorem uw22 : Cond.selects RP yP_fatherOf yP_fatherOf ∈ uT := uk (um1 (List.mem_of_getElem? (i := 77) (by decide +kernel))) rfl
theorem uw23 : Cond.methodLink RP 67 yP_kinOf ∈ uT := uk (um1 (List.mem_of_getElem? (i := 79) (by decide +kernel))) rfl
theorem uw24 : Cond.instanceMethod yP_kinOf ∈ uT := uk (um1 (List.mem_of_getElem? (i := 80) (by decide +kernel))) rfl
theorem uw25 : Cond.selects RP yP_kinOf yP_kinOf ∈ uT := uk (um1 (List.mem_of_getElem? (i := 81) (by decide +kernel))) rfl
theorem uw26 : Cond.constantLong RP 73 (1073741824) ∈ uT := uk (um1 (List.mem_of_getElem? (i := 88) (by decide +kernel))) rfl
theorem uw27 : Cond.methodLink RP 94 yP_inbreedingOf ∈ uT := uk (um2 (List.mem_of_getElem? (i := 21) (by decide +kernel))) rfl
theorem uw28 : Cond.instanceMethod yP_inbreedingOf ∈ uT := uk (um2 (List.mem_of_getElem? (i := 6) (by decide +kernel))) rfl
theorem uw29 : Cond.selects RP yP_inbreedingOf yP_inbreedingOf ∈ uT := uk (um2 (List.mem_of_getElem? (i := 7) (by decide +kernel))) rfl
theorem uw30 : Cond.constantLong RP 97 (4) ∈ uT := uk (um2 (List.mem_of_getElem? (i := 22) (by decide +kernel))) rfl
theorem uw31 : Cond.methodLink RP 75 yP_settledBy ∈ uT := uk (um2 (List.mem_of_getElem? (i := 17) (by decide +kernel))) rfl
theorem uw32 : Cond.instanceMethod yP_settledBy ∈ uT := uk (um2 (List.mem_of_getElem? (i := 19) (by decide +kernel))) rfl
theorem uw33 : Cond.selects RP yP_settledBy yP_settledBy ∈ uT := uk (um0 (List.mem_of_getElem? (i := 14) (by decide +kernel))) rfl
theorem uw34 : Cond.fieldLink RP 31 "KinNumbers$Pedigree" "shares" "[J" ∈ uT := uk (um1 (List.mem_of_getElem? (i := 96) (by decide +kernel))) rfl
theorem uw35 : Cond.methodLink RP 91 yP_hasForbear ∈ uT := uk (um1 (List.mem_of_getElem? (i := 181) (by decide +kernel))) rfl
theorem uw36 : Cond.instanceMethod yP_hasForbear ∈ uT := uk (um1 (List.mem_of_getElem? (i := 182) (by decide +kernel))) rfl
theorem uw37 : Cond.selects RP yP_hasForbear yP_hasForbear ∈ uT := uk (um1 (List.mem_of_getElem? (i := 183) (by decide +kernel))) rfl
theorem uw38 : Cond.methodLink RP 87 yP_leadsTo ∈ uT := uk (um1 (List.mem_of_getElem? (i := 177) (by decide +kernel))) rfl
theorem uw39 : Cond.instanceMethod yP_leadsTo ∈ uT := uk (um1 (List.mem_of_getElem? (i := 179) (by decide +kernel))) rfl
theorem uw40 : Cond.selects RP yP_leadsTo yP_leadsTo ∈ uT := uk (um0 (List.mem_of_getElem? (i := 10) (by decide +kernel))) rfl
theorem uw41 : Cond.fieldLink RP 37 "KinNumbers$Pedigree" "ringLength" "I" ∈ uT := uk (um1 (List.mem_of_getElem? (i := 98) (by decide +kernel))) rfl
theorem uw42 : Cond.fieldLink RP 34 "KinNumbers$Pedigree" "ringRows" "[I" ∈ uT := uk (um1 (List.mem_of_getElem? (i := 97) (by decide +kernel))) rfl
theorem uw43 : Cond.methodLink RP 82 yP_shareRow ∈ uT := uk (um2 (List.mem_of_getElem? (i := 35) (by decide +kernel))) rfl
theorem uw44 : Cond.instanceMethod yP_shareRow ∈ uT := uk (um2 (List.mem_of_getElem? (i := 37) (by decide +kernel))) rfl
theorem uw45 : Cond.selects RP yP_shareRow yP_shareRow ∈ uT := uk (um0 (List.mem_of_getElem? (i := 15) (by decide +kernel))) rfl
theorem uw46 : Cond.methodLink RP 79 yP_inOrder ∈ uT := uk (um1 (List.mem_of_getElem? (i := 52) (by decide +kernel))) rfl
theorem uw47 : Cond.instanceMethod yP_inOrder ∈ uT := uk (um1 (List.mem_of_getElem? (i := 53) (by decide +kernel))) rfl
theorem uw48 : Cond.selects RP yP_inOrder yP_inOrder ∈ uT := uk (um1 (List.mem_of_getElem? (i := 54) (by decide +kernel))) rfl
theorem uw49 : Cond.constantLong RP 85 (2) ∈ uT := uk (um1 (List.mem_of_getElem? (i := 83) (by decide +kernel))) rfl
theorem uw50 : Cond.methodLink RP 121 yP_lineOf ∈ uT := uk (um1 (List.mem_of_getElem? (i := 60) (by decide +kernel))) rfl
theorem uw51 : Cond.instanceMethod yP_lineOf ∈ uT := uk (um1 (List.mem_of_getElem? (i := 62) (by decide +kernel))) rfl
theorem uw52 : Cond.selects RP yP_lineOf yP_lineOf ∈ uT := uk (um0 (List.mem_of_getElem? (i := 5) (by decide +kernel))) rfl
theorem uw53 : Cond.methodLink RP 124 yP_setKin ∈ uT := uk (um1 (List.mem_of_getElem? (i := 84) (by decide +kernel))) rfl
theorem uw54 : Cond.instanceMethod yP_setKin ∈ uT := uk (um1 (List.mem_of_getElem? (i := 86) (by decide +kernel))) rfl
theorem uw55 : Cond.selects RP yP_setKin yP_setKin ∈ uT := uk (um0 (List.mem_of_getElem? (i := 7) (by decide +kernel))) rfl
theorem uw56 : Cond.methodLink RP 44 yA_fill ∈ uT := uk (um1 (List.mem_of_getElem? (i := 28) (by decide +kernel))) rfl
theorem uw57 : Cond.static yA_fill ∈ uT := uk (um1 (List.mem_of_getElem? (i := 29) (by decide +kernel))) rfl
theorem uw58 : Cond.initialized RA ∈ uT := uk (um1 (List.mem_of_getElem? (i := 4) (by decide +kernel))) rfl
theorem uw59 : Cond.methodLink RP 112 yP_stepsOf ∈ uT := uk (um1 (List.mem_of_getElem? (i := 39) (by decide +kernel))) rfl
theorem uw60 : Cond.instanceMethod yP_stepsOf ∈ uT := uk (um1 (List.mem_of_getElem? (i := 40) (by decide +kernel))) rfl
theorem uw61 : Cond.selects RP yP_stepsOf yP_stepsOf ∈ uT := uk (um1 (List.mem_of_getElem? (i := 41) (by decide +kernel))) rfl
theorem uw62 : Cond.methodLink RP 115 yJ_max ∈ uT := uk (um1 (List.mem_of_getElem? (i := 47) (by decide +kernel))) rfl
theorem uw63 : Cond.static yJ_max ∈ uT := uk (um1 (List.mem_of_getElem? (i := 20) (by decide +kernel))) rfl
theorem uw64 : Cond.initialized RJ ∈ uT := uk (um1 (List.mem_of_getElem? (i := 2) (by decide +kernel))) rfl
theorem uw65 : Cond.methodLink RP 99 yP_reckonSteps ∈ uT := uk (um1 (List.mem_of_getElem? (i := 35) (by decide +kernel))) rfl
theorem uw66 : Cond.instanceMethod yP_reckonSteps ∈ uT := uk (um1 (List.mem_of_getElem? (i := 37) (by decide +kernel))) rfl
theorem uw67 : Cond.selects RP yP_reckonSteps yP_reckonSteps ∈ uT := uk (um0 (List.mem_of_getElem? (i := 1) (by decide +kernel))) rfl
theorem uw68 : Cond.methodLink RP 102 yP_reckonOrder ∈ uT := uk (um1 (List.mem_of_getElem? (i := 48) (by decide +kernel))) rfl
theorem uw69 : Cond.instanceMethod yP_reckonOrder ∈ uT := uk (um1 (List.mem_of_getElem? (i := 50) (by decide +kernel))) rfl
theorem uw70 : Cond.selects RP yP_reckonOrder yP_reckonOrder ∈ uT := uk (um0 (List.mem_of_getElem? (i := 3) (by decide +kernel))) rfl
theorem uw71 : Cond.methodLink RP 105 yP_reckonForbears ∈ uT := uk (um1 (List.mem_of_getElem? (i := 56) (by decide +kernel))) rfl
theorem uw72 : Cond.instanceMethod yP_reckonForbears ∈ uT := uk (um1 (List.mem_of_getElem? (i := 58) (by decide +kernel))) rfl
theorem uw73 : Cond.selects RP yP_reckonForbears yP_reckonForbears ∈ uT := uk (um0 (List.mem_of_getElem? (i := 4) (by decide +kernel))) rfl
theorem uw74 : Cond.methodLink RP 109 yP_reckonKin ∈ uT := uk (um1 (List.mem_of_getElem? (i := 67) (by decide +kernel))) rfl
theorem uw75 : Cond.instanceMethod yP_reckonKin ∈ uT := uk (um1 (List.mem_of_getElem? (i := 69) (by decide +kernel))) rfl
theorem uw76 : Cond.selects RP yP_reckonKin yP_reckonKin ∈ uT := uk (um0 (List.mem_of_getElem? (i := 6) (by decide +kernel))) rfl
theorem uw77 : Cond.methodLink RP 50 yP_reckon ∈ uT := uk (um1 (List.mem_of_getElem? (i := 31) (by decide +kernel))) rfl
theorem uw78 : Cond.instanceMethod yP_reckon ∈ uT := uk (um1 (List.mem_of_getElem? (i := 33) (by decide +kernel))) rfl
theorem uw79 : Cond.selects RP yP_reckon yP_reckon ∈ uT := uk (um0 (List.mem_of_getElem? (i := 0) (by decide +kernel))) rfl
theorem uw80 : Cond.fieldLink RM 15 "KinNumbers$Marks" "count" "I" ∈ uT := uk (um1 (List.mem_of_getElem? (i := 130) (by decide +kernel))) rfl
theorem uw81 : Cond.methodLink RM 25 yM_has ∈ uT := uk (um2 (List.mem_of_getElem? (i := 57) (by decide +kernel))) rfl
theorem uw82 : Cond.instanceMethod yM_has ∈ uT := uk (um2 (List.mem_of_getElem? (i := 59) (by decide +kernel))) rfl
theorem uw83 : Cond.selects RM yM_has yM_has ∈ uT := uk (um0 (List.mem_of_getElem? (i := 16) (by decide +kernel))) rfl
theorem uw84 : Cond.initialized RM ∈ uT := uk (um1 (List.mem_of_getElem? (i := 5) (by decide +kernel))) rfl
theorem uw85 : Cond.fieldLink RM 11 "KinNumbers$Marks" "forms" "[I" ∈ uT := uk (um1 (List.mem_of_getElem? (i := 131) (by decide +kernel))) rfl
theorem uw86 : Cond.methodLink RM 46 yM_formOf ∈ uT := uk (um2 (List.mem_of_getElem? (i := 73) (by decide +kernel))) rfl
theorem uw87 : Cond.instanceMethod yM_formOf ∈ uT := uk (um2 (List.mem_of_getElem? (i := 75) (by decide +kernel))) rfl
theorem uw88 : Cond.selects RM yM_formOf yM_formOf ∈ uT := uk (um0 (List.mem_of_getElem? (i := 18) (by decide +kernel))) rfl
theorem uw89 : Cond.methodLink RM 66 yJ_abs ∈ uT := uk (um2 (List.mem_of_getElem? (i := 81) (by decide +kernel))) rfl
theorem uw90 : Cond.static yJ_abs ∈ uT := uk (um2 (List.mem_of_getElem? (i := 82) (by decide +kernel))) rfl
theorem uw91 : Cond.methodLink RM 71 yJ_max ∈ uT := uk (um2 (List.mem_of_getElem? (i := 101) (by decide +kernel))) rfl
theorem uw92 : Cond.constantLong RM 37 (2) ∈ uT := uk (um2 (List.mem_of_getElem? (i := 92) (by decide +kernel))) rfl
theorem uw93 : Cond.methodLink RM 29 yM_isKnownOfBoth ∈ uT := uk (um2 (List.mem_of_getElem? (i := 69) (by decide +kernel))) rfl
theorem uw94 : Cond.instanceMethod yM_isKnownOfBoth ∈ uT := uk (um2 (List.mem_of_getElem? (i := 71) (by decide +kernel))) rfl
theorem uw95 : Cond.selects RM yM_isKnownOfBoth yM_isKnownOfBoth ∈ uT := uk (um0 (List.mem_of_getElem? (i := 17) (by decide +kernel))) rfl
theorem uw96 : Cond.methodLink RM 33 yM_difference ∈ uT := uk (um2 (List.mem_of_getElem? (i := 77) (by decide +kernel))) rfl
theorem uw97 : Cond.instanceMethod yM_difference ∈ uT := uk (um2 (List.mem_of_getElem? (i := 79) (by decide +kernel))) rfl
theorem uw98 : Cond.selects RM yM_difference yM_difference ∈ uT := uk (um0 (List.mem_of_getElem? (i := 19) (by decide +kernel))) rfl
theorem uw99 : Cond.methodLink RM 58 yF_lowest ∈ uT := uk (um2 (List.mem_of_getElem? (i := 108) (by decide +kernel))) rfl
theorem uw100 : Cond.static yF_lowest ∈ uT := uk (um1 (List.mem_of_getElem? (i := 235) (by decide +kernel))) rfl
theorem uw101 : Cond.methodLink RM 39 yM_knownForms ∈ uT := uk (um2 (List.mem_of_getElem? (i := 93) (by decide +kernel))) rfl
theorem uw102 : Cond.instanceMethod yM_knownForms ∈ uT := uk (um2 (List.mem_of_getElem? (i := 95) (by decide +kernel))) rfl
theorem uw103 : Cond.selects RM yM_knownForms yM_knownForms ∈ uT := uk (um0 (List.mem_of_getElem? (i := 20) (by decide +kernel))) rfl
theorem uw104 : Cond.methodLink RM 43 yM_lettersB ∈ uT := uk (um2 (List.mem_of_getElem? (i := 97) (by decide +kernel))) rfl
theorem uw105 : Cond.instanceMethod yM_lettersB ∈ uT := uk (um2 (List.mem_of_getElem? (i := 99) (by decide +kernel))) rfl
theorem uw106 : Cond.selects RM yM_lettersB yM_lettersB ∈ uT := uk (um0 (List.mem_of_getElem? (i := 21) (by decide +kernel))) rfl
theorem uw107 : Cond.methodLink RM 50 yM_amongChildren ∈ uT := uk (um2 (List.mem_of_getElem? (i := 102) (by decide +kernel))) rfl
theorem uw108 : Cond.static yM_amongChildren ∈ uT := uk (um2 (List.mem_of_getElem? (i := 103) (by decide +kernel))) rfl
theorem uw109 : Cond.methodLink RM 54 yM_amongStrangers ∈ uT := uk (um2 (List.mem_of_getElem? (i := 105) (by decide +kernel))) rfl
theorem uw110 : Cond.static yM_amongStrangers ∈ uT := uk (um2 (List.mem_of_getElem? (i := 106) (by decide +kernel))) rfl
theorem uw111 : Cond.constantLong RM 64 (-1) ∈ uT := uk (um2 (List.mem_of_getElem? (i := 117) (by decide +kernel))) rfl
theorem uw112 : Cond.fieldLink RK 29 "KinNumbers" "count" "I" ∈ uT := uk (um1 (List.mem_of_getElem? (i := 140) (by decide +kernel))) rfl
theorem uw113 : Cond.methodLink RK 58 yK_isAnimal ∈ uT := uk (um1 (List.mem_of_getElem? (i := 165) (by decide +kernel))) rfl
theorem uw114 : Cond.instanceMethod yK_isAnimal ∈ uT := uk (um1 (List.mem_of_getElem? (i := 167) (by decide +kernel))) rfl
theorem uw115 : Cond.selects RK yK_isAnimal yK_isAnimal ∈ uT := uk (um0 (List.mem_of_getElem? (i := 8) (by decide +kernel))) rfl
theorem uw116 : Cond.initialized RK ∈ uT := uk (um1 (List.mem_of_getElem? (i := 1) (by decide +kernel))) rfl
theorem uw117 : Cond.fieldLink RK 9 "KinNumbers" "sexes" "[I" ∈ uT := uk (um1 (List.mem_of_getElem? (i := 141) (by decide +kernel))) rfl
theorem uw118 : Cond.fieldLink RK 13 "KinNumbers" "days" "[I" ∈ uT := uk (um1 (List.mem_of_getElem? (i := 142) (by decide +kernel))) rfl
theorem uw119 : Cond.methodLink RK 153 yK_mayBeParent ∈ uT := uk (um1 (List.mem_of_getElem? (i := 193) (by decide +kernel))) rfl
theorem uw120 : Cond.instanceMethod yK_mayBeParent ∈ uT := uk (um1 (List.mem_of_getElem? (i := 195) (by decide +kernel))) rfl
theorem uw121 : Cond.selects RK yK_mayBeParent yK_mayBeParent ∈ uT := uk (um0 (List.mem_of_getElem? (i := 12) (by decide +kernel))) rfl
theorem uw122 : Cond.fieldLink RK 38 "KinNumbers" "pedigree" "LKinNumbers$Pedigree;" ∈ uT := uk (um1 (List.mem_of_getElem? (i := 138) (by decide +kernel))) rfl
theorem uw123 : Cond.methodLink RK 144 yP_motherOf ∈ uT := uk (um1 (List.mem_of_getElem? (i := 218) (by decide +kernel))) rfl
theorem uw124 : Cond.methodLink RK 147 yP_fatherOf ∈ uT := uk (um1 (List.mem_of_getElem? (i := 219) (by decide +kernel))) rfl
theorem uw125 : Cond.methodLink RK 73 yK_mayBeParents ∈ uT := uk (um1 (List.mem_of_getElem? (i := 189) (by decide +kernel))) rfl
theorem uw126 : Cond.instanceMethod yK_mayBeParents ∈ uT := uk (um1 (List.mem_of_getElem? (i := 191) (by decide +kernel))) rfl
theorem uw127 : Cond.selects RK yK_mayBeParents yK_mayBeParents ∈ uT := uk (um0 (List.mem_of_getElem? (i := 11) (by decide +kernel))) rfl
theorem uw128 : Cond.methodLink RK 112 yP_isFounder ∈ uT := uk (um2 (List.mem_of_getElem? (i := 27) (by decide +kernel))) rfl
theorem uw129 : Cond.instanceMethod yP_isFounder ∈ uT := uk (um2 (List.mem_of_getElem? (i := 28) (by decide +kernel))) rfl
theorem uw130 : Cond.selects RP yP_isFounder yP_isFounder ∈ uT := uk (um2 (List.mem_of_getElem? (i := 29) (by decide +kernel))) rfl
theorem uw131 : Cond.fieldLink RK 16 "KinNumbers" "dead" "[Z" ∈ uT := uk (um1 (List.mem_of_getElem? (i := 143) (by decide +kernel))) rfl
theorem uw132 : Cond.methodLink RK 118 yP_hasForbear ∈ uT := uk (um2 (List.mem_of_getElem? (i := 43) (by decide +kernel))) rfl
theorem uw133 : Cond.methodLink RK 95 yP_kinOf ∈ uT := uk (um1 (List.mem_of_getElem? (i := 232) (by decide +kernel))) rfl
theorem uw134 : Cond.methodLink RK 55 yP_forgetRing ∈ uT := uk (um1 (List.mem_of_getElem? (i := 161) (by decide +kernel))) rfl
theorem uw135 : Cond.instanceMethod yP_forgetRing ∈ uT := uk (um1 (List.mem_of_getElem? (i := 162) (by decide +kernel))) rfl
theorem uw136 : Cond.selects RP yP_forgetRing yP_forgetRing ∈ uT := uk (um1 (List.mem_of_getElem? (i := 163) (by decide +kernel))) rfl
theorem uw137 : Cond.methodLink RK 62 yK_isAnimalOrNone ∈ uT := uk (um1 (List.mem_of_getElem? (i := 169) (by decide +kernel))) rfl
theorem uw138 : Cond.instanceMethod yK_isAnimalOrNone ∈ uT := uk (um1 (List.mem_of_getElem? (i := 171) (by decide +kernel))) rfl
theorem uw139 : Cond.selects RK yK_isAnimalOrNone yK_isAnimalOrNone ∈ uT := uk (um0 (List.mem_of_getElem? (i := 9) (by decide +kernel))) rfl
theorem uw140 : Cond.methodLink RK 65 yP_wouldClose ∈ uT := uk (um1 (List.mem_of_getElem? (i := 173) (by decide +kernel))) rfl
theorem uw141 : Cond.instanceMethod yP_wouldClose ∈ uT := uk (um1 (List.mem_of_getElem? (i := 174) (by decide +kernel))) rfl
theorem uw142 : Cond.selects RP yP_wouldClose yP_wouldClose ∈ uT := uk (um1 (List.mem_of_getElem? (i := 175) (by decide +kernel))) rfl
theorem uw143 : Cond.methodLink RK 76 yP_setParents ∈ uT := uk (um1 (List.mem_of_getElem? (i := 197) (by decide +kernel))) rfl
theorem uw144 : Cond.instanceMethod yP_setParents ∈ uT := uk (um1 (List.mem_of_getElem? (i := 198) (by decide +kernel))) rfl
theorem uw145 : Cond.selects RP yP_setParents yP_setParents ∈ uT := uk (um1 (List.mem_of_getElem? (i := 199) (by decide +kernel))) rfl
theorem uw146 : Cond.methodLink RK 69 yP_keepRing ∈ uT := uk (um1 (List.mem_of_getElem? (i := 185) (by decide +kernel))) rfl
theorem uw147 : Cond.instanceMethod yP_keepRing ∈ uT := uk (um1 (List.mem_of_getElem? (i := 186) (by decide +kernel))) rfl
theorem uw148 : Cond.selects RP yP_keepRing yP_keepRing ∈ uT := uk (um1 (List.mem_of_getElem? (i := 187) (by decide +kernel))) rfl
theorem uw149 : Cond.methodLink RK 79 yP_ringAt ∈ uT := uk (um1 (List.mem_of_getElem? (i := 205) (by decide +kernel))) rfl
theorem uw150 : Cond.instanceMethod yP_ringAt ∈ uT := uk (um1 (List.mem_of_getElem? (i := 206) (by decide +kernel))) rfl
theorem uw151 : Cond.selects RP yP_ringAt yP_ringAt ∈ uT := uk (um1 (List.mem_of_getElem? (i := 207) (by decide +kernel))) rfl
theorem uw152 : Cond.constant RK 83 (99999) ∈ uT := uk (um1 (List.mem_of_getElem? (i := 213) (by decide +kernel))) rfl
theorem uw153 : Cond.methodLink RK 84 yK_areSexesAndDaysRight ∈ uT := uk (um1 (List.mem_of_getElem? (i := 214) (by decide +kernel))) rfl
theorem uw154 : Cond.instanceMethod yK_areSexesAndDaysRight ∈ uT := uk (um1 (List.mem_of_getElem? (i := 216) (by decide +kernel))) rfl
theorem uw155 : Cond.selects RK yK_areSexesAndDaysRight yK_areSexesAndDaysRight ∈ uT := uk (um0 (List.mem_of_getElem? (i := 13) (by decide +kernel))) rfl
theorem uw156 : Cond.constantLong RK 93 (-1) ∈ uT := uk (um1 (List.mem_of_getElem? (i := 231) (by decide +kernel))) rfl
theorem uw157 : Cond.methodLink RK 88 yF_isPart ∈ uT := uk (um1 (List.mem_of_getElem? (i := 228) (by decide +kernel))) rfl
theorem uw158 : Cond.static yF_isPart ∈ uT := uk (um1 (List.mem_of_getElem? (i := 229) (by decide +kernel))) rfl
theorem uw159 : Cond.constantLong RK 99 (1073741824) ∈ uT := uk (um1 (List.mem_of_getElem? (i := 233) (by decide +kernel))) rfl
theorem uw160 : Cond.methodLink RK 101 yF_lowest ∈ uT := uk (um1 (List.mem_of_getElem? (i := 234) (by decide +kernel))) rfl
theorem uw161 : Cond.methodLink RK 105 yP_inbreedingOf ∈ uT := uk (um2 (List.mem_of_getElem? (i := 5) (by decide +kernel))) rfl
theorem uw162 : Cond.methodLink RK 109 yP_chanceOf ∈ uT := uk (um2 (List.mem_of_getElem? (i := 13) (by decide +kernel))) rfl
theorem uw163 : Cond.instanceMethod yP_chanceOf ∈ uT := uk (um2 (List.mem_of_getElem? (i := 14) (by decide +kernel))) rfl
theorem uw164 : Cond.selects RP yP_chanceOf yP_chanceOf ∈ uT := uk (um2 (List.mem_of_getElem? (i := 15) (by decide +kernel))) rfl
theorem uw165 : Cond.methodLink RK 115 yP_shareOf ∈ uT := uk (um2 (List.mem_of_getElem? (i := 31) (by decide +kernel))) rfl
theorem uw166 : Cond.instanceMethod yP_shareOf ∈ uT := uk (um2 (List.mem_of_getElem? (i := 32) (by decide +kernel))) rfl
theorem uw167 : Cond.selects RP yP_shareOf yP_shareOf ∈ uT := uk (um2 (List.mem_of_getElem? (i := 33) (by decide +kernel))) rfl
theorem uw168 : Cond.methodLink RK 122 yP_inOrder ∈ uT := uk (um2 (List.mem_of_getElem? (i := 48) (by decide +kernel))) rfl
theorem uw169 : Cond.fieldLink RK 45 "KinNumbers" "marks" "LKinNumbers$Marks;" ∈ uT := uk (um1 (List.mem_of_getElem? (i := 139) (by decide +kernel))) rfl
theorem uw170 : Cond.methodLink RK 125 yM_setForm ∈ uT := uk (um2 (List.mem_of_getElem? (i := 53) (by decide +kernel))) rfl
theorem uw171 : Cond.instanceMethod yM_setForm ∈ uT := uk (um2 (List.mem_of_getElem? (i := 54) (by decide +kernel))) rfl
theorem uw172 : Cond.selects RM yM_setForm yM_setForm ∈ uT := uk (um2 (List.mem_of_getElem? (i := 55) (by decide +kernel))) rfl
theorem uw173 : Cond.methodLink RK 128 yM_isLeftOut ∈ uT := uk (um2 (List.mem_of_getElem? (i := 65) (by decide +kernel))) rfl
theorem uw174 : Cond.instanceMethod yM_isLeftOut ∈ uT := uk (um2 (List.mem_of_getElem? (i := 66) (by decide +kernel))) rfl
theorem uw175 : Cond.selects RM yM_isLeftOut yM_isLeftOut ∈ uT := uk (um2 (List.mem_of_getElem? (i := 67) (by decide +kernel))) rfl
theorem uw176 : Cond.methodLink RK 131 yM_oddsOf ∈ uT := uk (um2 (List.mem_of_getElem? (i := 88) (by decide +kernel))) rfl
theorem uw177 : Cond.instanceMethod yM_oddsOf ∈ uT := uk (um2 (List.mem_of_getElem? (i := 89) (by decide +kernel))) rfl
theorem uw178 : Cond.selects RM yM_oddsOf yM_oddsOf ∈ uT := uk (um2 (List.mem_of_getElem? (i := 90) (by decide +kernel))) rfl
theorem uw179 : Cond.methodLink RK 135 yM_likenessOf ∈ uT := uk (um2 (List.mem_of_getElem? (i := 113) (by decide +kernel))) rfl
theorem uw180 : Cond.instanceMethod yM_likenessOf ∈ uT := uk (um2 (List.mem_of_getElem? (i := 114) (by decide +kernel))) rfl
theorem uw181 : Cond.selects RM yM_likenessOf yM_likenessOf ∈ uT := uk (um2 (List.mem_of_getElem? (i := 115) (by decide +kernel))) rfl
theorem uw182 : Cond.methodLink RK 138 yK_isLost ∈ uT := uk (um2 (List.mem_of_getElem? (i := 122) (by decide +kernel))) rfl
theorem uw183 : Cond.instanceMethod yK_isLost ∈ uT := uk (um2 (List.mem_of_getElem? (i := 124) (by decide +kernel))) rfl
theorem uw184 : Cond.selects RK yK_isLost yK_isLost ∈ uT := uk (um0 (List.mem_of_getElem? (i := 22) (by decide +kernel))) rfl
theorem uw185 : Cond.methodLink RK 141 yK_kinWithLiving ∈ uT := uk (um2 (List.mem_of_getElem? (i := 130) (by decide +kernel))) rfl
theorem uw186 : Cond.instanceMethod yK_kinWithLiving ∈ uT := uk (um2 (List.mem_of_getElem? (i := 132) (by decide +kernel))) rfl
theorem uw187 : Cond.selects RK yK_kinWithLiving yK_kinWithLiving ∈ uT := uk (um0 (List.mem_of_getElem? (i := 23) (by decide +kernel))) rfl
theorem uw188 : Cond.methodLink RK 150 yP_stepsOf ∈ uT := uk (um2 (List.mem_of_getElem? (i := 138) (by decide +kernel))) rfl
theorem uw189 : Cond.methodLink RP 3 yO_init ∈ uT := uk (um1 (List.mem_of_getElem? (i := 27) (by decide +kernel))) rfl
theorem uw190 : Cond.instanceMethod yO_init ∈ uT := uk (um1 (List.mem_of_getElem? (i := 14) (by decide +kernel))) rfl
theorem uw191 : Cond.arrayClass .int ∈ uT := uk (um1 (List.mem_of_getElem? (i := 120) (by decide +kernel))) rfl
theorem uw192 : Cond.arrayClass .long ∈ uT := uk (um1 (List.mem_of_getElem? (i := 122) (by decide +kernel))) rfl
theorem uw193 : Cond.methodLink RM 3 yO_init ∈ uT := uk (um1 (List.mem_of_getElem? (i := 128) (by decide +kernel))) rfl
theorem uw194 : Cond.methodLink RM 19 yA_fill ∈ uT := uk (um1 (List.mem_of_getElem? (i := 129) (by decide +kernel))) rfl
theorem uw195 : Cond.methodLink RK 1 yO_init ∈ uT := uk (um1 (List.mem_of_getElem? (i := 13) (by decide +kernel))) rfl
theorem uw196 : Cond.arrayClass .boolean ∈ uT := uk (um1 (List.mem_of_getElem? (i := 121) (by decide +kernel))) rfl
theorem uw197 : Cond.methodLink RK 20 yJ_min ∈ uT := uk (um1 (List.mem_of_getElem? (i := 16) (by decide +kernel))) rfl
theorem uw198 : Cond.static yJ_min ∈ uT := uk (um1 (List.mem_of_getElem? (i := 17) (by decide +kernel))) rfl
theorem uw199 : Cond.methodLink RK 26 yJ_max ∈ uT := uk (um1 (List.mem_of_getElem? (i := 19) (by decide +kernel))) rfl
theorem uw200 : Cond.classLink RK 33 RP ∈ uT := uk (um1 (List.mem_of_getElem? (i := 22) (by decide +kernel))) rfl
theorem uw201 : Cond.instantiable RP 10 ∈ uT := uk (um1 (List.mem_of_getElem? (i := 23) (by decide +kernel))) rfl
theorem uw202 : Cond.methodLink RK 35 yP_init ∈ uT := uk (um1 (List.mem_of_getElem? (i := 24) (by decide +kernel))) rfl
theorem uw203 : Cond.instanceMethod yP_init ∈ uT := uk (um1 (List.mem_of_getElem? (i := 25) (by decide +kernel))) rfl
theorem uw204 : Cond.classLink RK 42 RM ∈ uT := uk (um1 (List.mem_of_getElem? (i := 123) (by decide +kernel))) rfl
theorem uw205 : Cond.instantiable RM 2 ∈ uT := uk (um1 (List.mem_of_getElem? (i := 124) (by decide +kernel))) rfl
theorem uw206 : Cond.methodLink RK 44 yM_init ∈ uT := uk (um1 (List.mem_of_getElem? (i := 125) (by decide +kernel))) rfl
theorem uw207 : Cond.instanceMethod yM_init ∈ uT := uk (um1 (List.mem_of_getElem? (i := 126) (by decide +kernel))) rfl
theorem uw208 : Cond.methodLink RK 49 yA_fill ∈ uT := uk (um1 (List.mem_of_getElem? (i := 137) (by decide +kernel))) rfl
end
section
-- ===== the derived layer: judgements that carry the answer, calls of methods that change nothing, calls that change their world =====
section QA
variable {p : Program} {l : Launch} {e : Env} {R : Room} {s : State} {m : MethodId} {args : Array Value} {below : List Frame} {meth : Method} {c : Code} {H : Heap} {locs : List Loc} {cells slots : Nat} {Q : State → Prop}
variable {cc : ByteArray} {pc nL : Nat} {ls : Array Slot} {st0 rest : List Value} {D : va_G} {cl : List vw_C} {A : Nat → Prop} {tys : List (ClassId × FieldType)} {ws wc wr : va_W}
/-- a method that changes nothing answers v -/
def zI (below : List Frame) (args : Array Value) (s : State) (v : Int32) : State → Prop := MQ below (vp_Si (fun r => r = v)) args s 0 0 (fun _ => False)
def zL (below : List Frame) (args : Array Value) (s : State) (v : Int64) : State → Prop := MQ below (vp_Sl (fun r => r = v)) args s 0 0 (fun _ => False)
/-- the world behind a method -/
def zAt {S : Type} (D : va_G) (cl : List vw_C) (tys : List (ClassId × FieldType)) (A : Nat → Prop) (w : S → va_W) (u : S) (t : State) : Prop := va_P D cl (w u) t.heap ∧ va_K D cl tys t ∧ va_D A (w u)
def zMi {S : Type} (D : va_G) (cl : List vw_C) (tys : List (ClassId × FieldType)) (A : Nat → Prop) (w : S → va_W) (below : List Frame) (args : Array Value) (s : State) (mc ms : Nat) (v : Int32 × S) : State → Prop := MQ below (va_Qi (fun r u => (r, u) = v) (zAt D cl tys A w) A) args s mc ms A
def zMl {S : Type} (D : va_G) (cl : List vw_C) (tys : List (ClassId × FieldType)) (A : Nat → Prop) (w : S → va_W) (below : List Frame) (args : Array Value) (s : State) (mc ms : Nat) (v : Int64 × S) : State → Prop := MQ below (va_Ql (fun r u => (r, u) = v) (zAt D cl tys A w) A) args s mc ms A
def zMv {S : Type} (D : va_G) (cl : List vw_C) (tys : List (ClassId × FieldType)) (A : Nat → Prop) (w : S → va_W) (below : List Frame) (args : Array Value) (s : State) (mc ms : Nat) (v : S) : State → Prop := MQ below (va_Qv (fun u => u = v) (zAt D cl tys A w) A) args s mc ms A
theorem zif {V : Type} {Z : V → State → Prop} {C : Prop} {dd : Decidable C} {v1 v2 : V} {g : JFrame} (h1 : C → W p l e R s m args below meth c H locs cells slots (Z v1) g) (h2 : ¬ C → W p l e R s m args below meth c H locs cells slots (Z v2) g) : W p l e R s m args below meth c H locs cells slots (Z (@ite V C dd v1 v2)) g := by
  by_cases h : C
  · rw [if_pos h]; exact h1 h
  · rw [if_neg h]; exact h2 h
theorem zeq {V : Type} {Z : V → State → Prop} {v1 v2 : V} {g : JFrame} (h : v1 = v2) (k : W p l e R s m args below meth c H locs cells slots (Z v2) g) : W p l e R s m args below meth c H locs cells slots (Z v1) g := by rw [h]; exact k
-- answers of methods that change nothing
theorem zI_ret (hx : p.tables.exec = Jvm.exec) (hb : c.code = cc) (hr : meth.sig.returnType = some .int) (hlocks : meth.locks = false) {v : Int32} (hdg : decode cc pc = .ok (.ireturn, 1)) : W p l e R s m args below meth c s.heap [] 0 0 (zI below args s v) (F0 m pc ls [.int v]) :=
  W.iret hx hb hr (fun _ ht _ => ⟨v, rfl, rfl, ht⟩) (fun _ h => by cases h) hdg hlocks
theorem zB_ret (hx : p.tables.exec = Jvm.exec) (hb : c.code = cc) (hr : meth.sig.returnType = some .boolean) (hlocks : meth.locks = false) {v : Int32} (hn : v = 0 ∨ v = 1) (hdg : decode cc pc = .ok (.ireturn, 1)) : W p l e R s m args below meth c s.heap [] 0 0 (zI below args s v) (F0 m pc ls [.int v]) :=
  W.zret hx hb hr (by rcases hn with h | h <;> subst h <;> decide) (fun _ ht _ => ⟨v, rfl, rfl, ht⟩) (fun _ h => by cases h) hdg hlocks
theorem zL_ret (hx : p.tables.exec = Jvm.exec) (hb : c.code = cc) (hr : meth.sig.returnType = some .long) (hlocks : meth.locks = false) {v : Int64} (hdg : decode cc pc = .ok (.lreturn, 1)) : W p l e R s m args below meth c s.heap [] 0 0 (zL below args s v) (F0 m pc ls [.long v]) :=
  W.lret hx hb hr (fun _ ht _ => ⟨v, rfl, rfl, ht⟩) (fun _ h => by cases h) hdg hlocks
-- answers of methods that change their world
theorem zMi_ret {S : Type} {w : S → va_W} {u : S} (hx : p.tables.exec = Jvm.exec) (hb : c.code = cc) (hr : meth.sig.returnType = some .int) (hlocks : meth.locks = false) (hK : va_K D cl tys s) (hP : va_P D cl (w u) H) (hD : va_D A (w u)) (hS : va_S A s.heap H locs) {v : Int32} (hdg : decode cc pc = .ok (.ireturn, 1)) : W p l e R s m args below meth c H locs cells slots (zMi D cl tys A w below args s cells slots (v, u)) (F0 m pc ls [.int v]) :=
  W.iret hx hb hr (fun t ht hW => ⟨⟨v, u, rfl, rfl, by rw [ht]; exact hP, va_K.moved hW.alike hK, hD⟩, hS.F ht⟩) hS.2.2 hdg hlocks
theorem zMb_ret {S : Type} {w : S → va_W} {u : S} (hx : p.tables.exec = Jvm.exec) (hb : c.code = cc) (hr : meth.sig.returnType = some .boolean) (hlocks : meth.locks = false) (hK : va_K D cl tys s) (hP : va_P D cl (w u) H) (hD : va_D A (w u)) (hS : va_S A s.heap H locs) {v : Int32} (hn : v = 0 ∨ v = 1) (hdg : decode cc pc = .ok (.ireturn, 1)) : W p l e R s m args below meth c H locs cells slots (zMi D cl tys A w below args s cells slots (v, u)) (F0 m pc ls [.int v]) :=
  W.zret hx hb hr (by rcases hn with h | h <;> subst h <;> decide) (fun t ht hW => ⟨⟨v, u, rfl, rfl, by rw [ht]; exact hP, va_K.moved hW.alike hK, hD⟩, hS.F ht⟩) hS.2.2 hdg hlocks
theorem zMl_ret {S : Type} {w : S → va_W} {u : S} (hx : p.tables.exec = Jvm.exec) (hb : c.code = cc) (hr : meth.sig.returnType = some .long) (hlocks : meth.locks = false) (hK : va_K D cl tys s) (hP : va_P D cl (w u) H) (hD : va_D A (w u)) (hS : va_S A s.heap H locs) {v : Int64} (hdg : decode cc pc = .ok (.lreturn, 1)) : W p l e R s m args below meth c H locs cells slots (zMl D cl tys A w below args s cells slots (v, u)) (F0 m pc ls [.long v]) :=
  W.lret hx hb hr (fun t ht hW => ⟨⟨v, u, rfl, rfl, by rw [ht]; exact hP, va_K.moved hW.alike hK, hD⟩, hS.F ht⟩) hS.2.2 hdg hlocks
theorem zMv_ret {S : Type} {w : S → va_W} {u : S} (hx : p.tables.exec = Jvm.exec) (hb : c.code = cc) (hr : meth.sig.returnType = none) (hlocks : meth.locks = false) (hK : va_K D cl tys s) (hP : va_P D cl (w u) H) (hD : va_D A (w u)) (hS : va_S A s.heap H locs) (hdg : decode cc pc = .ok (.return_, 1)) : W p l e R s m args below meth c H locs cells slots (zMv D cl tys A w below args s cells slots u) (F0 m pc ls []) :=
  W.vret hx hb hr (fun t ht hW => ⟨⟨u, rfl, rfl, by rw [ht]; exact hP, va_K.moved hW.alike hK, hD⟩, hS.F ht⟩) hS.2.2 hdg hlocks
/-- the start of a method that changes nothing, and of one that changes its world -/
def zPre (D : va_G) (cl : List vw_C) (tys : List (ClassId × FieldType)) (wc : va_W) (U : State) : Prop := va_P D cl wc U.heap ∧ va_K D cl tys U
def zPreM (D : va_G) (cl : List vw_C) (tys : List (ClassId × FieldType)) (wc : va_W) (sz : Nat) (U : State) : Prop := U.heap.size = sz ∧ va_P D cl wc U.heap ∧ va_K D cl tys U ∧ va_D (fun _ => True) wc
theorem zPre_blind {As : List Value} : FrameBlind (va_Pc As (zPre D cl tys wc)) := fun a U g mk q => ⟨q.1, q.2.1, va_K.moved (u := U) (U := U.calling g mk a) (Vm.Alike.refl U.vm) q.2.2⟩
theorem zPreM_blind {As : List Value} {sz : Nat} : FrameBlind (va_Pc As (zPreM D cl tys wc sz)) := fun a U g mk q => ⟨q.1, q.2.1, q.2.2.1, va_K.moved (u := U) (U := U.calling g mk a) (Vm.Alike.refl U.vm) q.2.2.2.1, q.2.2.2.2⟩
theorem zPre_at {As : List Value} (hK : va_K D cl tys s) (hP : va_P D cl wc H) : ∀ U : State, U.heap = H → s.WarmedH U.vm → va_Pc As (zPre D cl tys wc) As.toArray U := fun U hU hW => ⟨rfl, by rw [hU]; exact hP, va_K.moved hW.alike hK⟩
theorem zPreM_at {As : List Value} (hK : va_K D cl tys s) (hP : va_P D cl wc H) (hD : va_D A wc) : ∀ U : State, U.heap = H → s.WarmedH U.vm → va_Pc As (zPreM D cl tys wc H.size) As.toArray U := fun U hU hW => ⟨rfl, by rw [hU], by rw [hU]; exact hP, va_K.moved hW.alike hK, hD.weaken (fun _ _ _ _ => trivial)⟩
variable {y : MethodName} {bytes : ByteArray} {maxL n index : Nat} {ret : Option FieldType} {wsy : List Cond} {rm : Room} {Ts : List Cond} {own C : String} {b : Addr} {As : List Value}
-- calls of methods that change nothing: virtual, static; int, long
theorem qVi {v : Int32} (CF : CallFix p m c cc nL s args Ts own) (hM : Met l y wsy rm (va_Pc (.ref b :: As) (zPre D cl tys wc)) (vp_Si (fun r => r = v)) 0 0 (fun _ => False)) (cw : CallW R s args own C index y bytes maxL ret wsy rm 0 0 n) (hK : va_K D cl tys s) (hP : va_P D cl wc H) (hrc : ∃ cell : Cell, H[b]? = some cell ∧ cell.vm.isStatics = false ∧ s.vm.findClass C = some cell.cls) (hn : As.length = n) (hsz : ls.size = nL) (hst : st0 = As.reverse ++ .ref b :: rest) (hW : (rest.map fun v => v.category).sum ≤ 8) (hdg : decode cc pc = .ok (.invokevirtual index, 3)) (hf : cells ≤ R.cells ∧ slots ≤ R.slots)
    (kk : W p l e R s m args below meth c H locs cells slots Q (F0 m (pc + 3) ls (.int v :: rest))) : W p l e R s m args below meth c H locs cells slots Q (F0 m pc ls st0) :=
  vp_callSi (W.runV CF hM cw ⟨zPre_blind, hrc, zPre_at hK hP⟩ rfl hn hsz hst (lv_room hW) hdg hf) (fun r hr => by subst hr; exact kk)
theorem qVl {v : Int64} (CF : CallFix p m c cc nL s args Ts own) (hM : Met l y wsy rm (va_Pc (.ref b :: As) (zPre D cl tys wc)) (vp_Sl (fun r => r = v)) 0 0 (fun _ => False)) (cw : CallW R s args own C index y bytes maxL ret wsy rm 0 0 n) (hK : va_K D cl tys s) (hP : va_P D cl wc H) (hrc : ∃ cell : Cell, H[b]? = some cell ∧ cell.vm.isStatics = false ∧ s.vm.findClass C = some cell.cls) (hn : As.length = n) (hsz : ls.size = nL) (hst : st0 = As.reverse ++ .ref b :: rest) (hW : (rest.map fun v => v.category).sum ≤ 8) (hdg : decode cc pc = .ok (.invokevirtual index, 3)) (hf : cells ≤ R.cells ∧ slots ≤ R.slots)
    (kk : W p l e R s m args below meth c H locs cells slots Q (F0 m (pc + 3) ls (.long v :: rest))) : W p l e R s m args below meth c H locs cells slots Q (F0 m pc ls st0) :=
  vp_callSl (W.runV CF hM cw ⟨zPre_blind, hrc, zPre_at hK hP⟩ rfl hn hsz hst (lv_room hW) hdg hf) (fun r hr => by subst hr; exact kk)
theorem qSi {v : Int32} (CF : CallFix p m c cc nL s args Ts own) (hM : Met l y wsy rm (va_Pc As (zPre D cl tys wc)) (vp_Si (fun r => r = v)) 0 0 (fun _ => False)) (cw : CallB R s args own index y bytes maxL ret wsy rm 0 0 n ∧ (Cond.static y).before args s = true) (hK : va_K D cl tys s) (hP : va_P D cl wc H) (hn : As.length = n) (hsz : ls.size = nL) (hst : st0 = As.reverse ++ rest) (hW : (rest.map fun v => v.category).sum ≤ 8) (hdg : decode cc pc = .ok (.invokestatic index, 3)) (hf : cells ≤ R.cells ∧ slots ≤ R.slots)
    (kk : W p l e R s m args below meth c H locs cells slots Q (F0 m (pc + 3) ls (.int v :: rest))) : W p l e R s m args below meth c H locs cells slots Q (F0 m pc ls st0) :=
  vp_callSi (W.runS CF hM cw ⟨zPre_blind, zPre_at hK hP⟩ rfl hn hsz hst (lv_room hW) hdg hf) (fun r hr => by subst hr; exact kk)
theorem qSl {v : Int64} (CF : CallFix p m c cc nL s args Ts own) (hM : Met l y wsy rm (va_Pc As (zPre D cl tys wc)) (vp_Sl (fun r => r = v)) 0 0 (fun _ => False)) (cw : CallB R s args own index y bytes maxL ret wsy rm 0 0 n ∧ (Cond.static y).before args s = true) (hK : va_K D cl tys s) (hP : va_P D cl wc H) (hn : As.length = n) (hsz : ls.size = nL) (hst : st0 = As.reverse ++ rest) (hW : (rest.map fun v => v.category).sum ≤ 8) (hdg : decode cc pc = .ok (.invokestatic index, 3)) (hf : cells ≤ R.cells ∧ slots ≤ R.slots)
    (kk : W p l e R s m args below meth c H locs cells slots Q (F0 m (pc + 3) ls (.long v :: rest))) : W p l e R s m args below meth c H locs cells slots Q (F0 m pc ls st0) :=
  vp_callSl (W.runS CF hM cw ⟨zPre_blind, zPre_at hK hP⟩ rfl hn hsz hst (lv_room hW) hdg hf) (fun r hr => by subst hr; exact kk)
-- calls of methods that change their world wc, a part of ours: behind the call ours is ws' (the rest and the new part, put in order by isB)
theorem zjoin {S : Type} {w : S → va_W} {u : S} {t : State} {H1 : Heap} {ws' : va_W} (isC isR isB : List Nat) (hP : va_P D cl ws H) (hD : va_D A ws) (hC : isC.map (fun i => ws[i]?) = wc.map some) (hR : isR.map (fun i => ws[i]?) = wr.map some) (hn : va_nd isR = true) (hdis : ∀ i ∈ isR, i ∉ isC) (hB : isB.map (fun i => (wr ++ w u)[i]?) = ws'.map some) (hnB : va_nd isB = true)
    (hk : ∀ q : Nat, q < H.size → ¬ va_A wc H.size q → H1[q]? = H[q]?) (hF : ∀ q, va_A wc H.size q → A q) (ht : t.heap = H1) (hz : zAt D cl tys (va_A wc H.size) w u t) : va_P D cl ws' H1 ∧ va_D A ws' := by
  obtain ⟨h1, -, h3⟩ := hz
  rw [ht] at h1
  obtain ⟨g1, g2⟩ := va_join hP hD isC isR hC hR hn hdis hk hF h1 h3
  refine ⟨fun k q hq => ?_, g2.sub isB hnB hB⟩
  have h4 : (isB.map (fun i => (wr ++ w u)[i]?))[k]? = some (some q) := by rw [hB, List.getElem?_map, hq]; rfl
  rw [List.getElem?_map] at h4
  cases hi : isB[k]? with
  | none => rw [hi] at h4; cases h4
  | some i => rw [hi] at h4; exact g1 i q (Option.some.inj h4)
theorem zsub {wc : va_W} (isC : List Nat) (hP : va_P D cl ws H) (hC : isC.map (fun i => ws[i]?) = wc.map some) : va_P D cl wc H := by
  intro k q hq
  have h4 : (isC.map (fun i => ws[i]?))[k]? = some (some q) := by rw [hC, List.getElem?_map, hq]; rfl
  rw [List.getElem?_map] at h4
  cases hi : isC[k]? with
  | none => rw [hi] at h4; cases h4
  | some i => rw [hi] at h4; exact hP i q (Option.some.inj h4)
theorem zfree (hD : va_D A ws) (hS : va_S A s.heap H locs) (hA : ∀ q : Nat, s.heap.size ≤ q → A q) : ∀ q, va_A ws H.size q → A q := by
  intro q h
  rcases h with ⟨k, e, h⟩ | h
  · exact hD.2 k (q, e) h
  · exact hA q (Nat.le_trans hS.1 h)
theorem qNVi {S : Type} {w : S → va_W} {v : Int32 × S} {mc ms : Nat} (CF : CallFix p m c cc nL s args Ts own) (hM : Met l y wsy rm (va_Pc (.ref b :: As) (zPreM D cl tys ws H.size)) (va_Qi (fun r u => (r, u) = v) (zAt D cl tys (va_A ws H.size) w) (va_A ws H.size)) mc ms (va_A ws H.size)) (cw : CallW R s args own C index y bytes maxL ret wsy rm mc ms n) (hK : va_K D cl tys s) (hP : va_P D cl ws H) (hD : va_D A ws) (hS : va_S A s.heap H locs) (hA : ∀ q : Nat, s.heap.size ≤ q → A q) (hrc : ∃ cell : Cell, H[b]? = some cell ∧ cell.vm.isStatics = false ∧ s.vm.findClass C = some cell.cls) (hn : As.length = n) (hsz : ls.size = nL) (hst : st0 = As.reverse ++ .ref b :: rest) (hW : (rest.map fun v => v.category).sum ≤ 8) (hdg : decode cc pc = .ok (.invokevirtual index, 3)) (hf : cells + mc ≤ R.cells ∧ slots + ms ≤ R.slots)
    (kk : ∀ (H1 : Heap) (locs1 : List Loc), va_P D cl (w v.2) H1 → va_D A (w v.2) → va_S A s.heap H1 locs1 → W p l e R s m args below meth c H1 locs1 (cells + mc) (slots + ms) Q (F0 m (pc + 3) ls (.int v.1 :: rest))) : W p l e R s m args below meth c H locs cells slots Q (F0 m pc ls st0) :=
  va_calli (va_runV CF hM cw ⟨zPreM_blind, hrc, zPreM_at hK hP hD⟩ rfl hn hsz hst (lv_room hW) hdg hf) hS (fun q _ h => zfree hD hS hA q h) (zfree hD hS hA) (fun r u t H1 locs1 ht hvm hw hB1 hz1 hk1 hS1 => by
    subst hw
    obtain ⟨g1, -, g3⟩ := hB1
    rw [ht] at g1
    exact kk H1 locs1 g1 (g3.weaken (fun _ q _ h => zfree hD hS hA q.1 h)) hS1)
theorem qMVi {S : Type} {w : S → va_W} {v : Int32 × S} {ws' : va_W} {mc ms : Nat} (CF : CallFix p m c cc nL s args Ts own) (hM : Met l y wsy rm (va_Pc (.ref b :: As) (zPreM D cl tys wc H.size)) (va_Qi (fun r u => (r, u) = v) (zAt D cl tys (va_A wc H.size) w) (va_A wc H.size)) mc ms (va_A wc H.size)) (cw : CallW R s args own C index y bytes maxL ret wsy rm mc ms n) (hK : va_K D cl tys s) (hP : va_P D cl ws H) (hD : va_D A ws) (hS : va_S A s.heap H locs) (hA : ∀ q : Nat, s.heap.size ≤ q → A q) (isC isR isB : List Nat) (hC : isC.map (fun i => ws[i]?) = wc.map some) (hR : isR.map (fun i => ws[i]?) = wr.map some) (hnC : va_nd isC = true) (hnR : va_nd isR = true) (hdis : ∀ i ∈ isR, i ∉ isC) (hB : isB.map (fun i => (wr ++ w v.2)[i]?) = ws'.map some) (hnB : va_nd isB = true) (hrc : ∃ cell : Cell, H[b]? = some cell ∧ cell.vm.isStatics = false ∧ s.vm.findClass C = some cell.cls) (hn : As.length = n) (hsz : ls.size = nL) (hst : st0 = As.reverse ++ .ref b :: rest) (hW : (rest.map fun v => v.category).sum ≤ 8) (hdg : decode cc pc = .ok (.invokevirtual index, 3)) (hf : cells + mc ≤ R.cells ∧ slots + ms ≤ R.slots)
    (kk : ∀ (H1 : Heap) (locs1 : List Loc), va_P D cl ws' H1 → va_D A ws' → va_S A s.heap H1 locs1 → W p l e R s m args below meth c H1 locs1 (cells + mc) (slots + ms) Q (F0 m (pc + 3) ls (.int v.1 :: rest))) : W p l e R s m args below meth c H locs cells slots Q (F0 m pc ls st0) :=
  have hFc := va_free (wc := wc) hD hS hA isC hC
  va_calli (va_runV CF hM cw ⟨zPreM_blind, hrc, zPreM_at hK (zsub isC hP hC) (hD.sub isC hnC hC)⟩ rfl hn hsz hst (lv_room hW) hdg hf) hS (fun q _ h => hFc q h) hFc (fun r u t H1 locs1 ht hvm hw hB1 hz1 hk1 hS1 => by
    subst hw
    obtain ⟨g1, g2⟩ := zjoin isC isR isB hP hD hC hR hnR hdis hB hnB hk1 hFc ht hB1
    exact kk H1 locs1 g1 g2 hS1)
theorem qNVl {S : Type} {w : S → va_W} {v : Int64 × S} {mc ms : Nat} (CF : CallFix p m c cc nL s args Ts own) (hM : Met l y wsy rm (va_Pc (.ref b :: As) (zPreM D cl tys ws H.size)) (va_Ql (fun r u => (r, u) = v) (zAt D cl tys (va_A ws H.size) w) (va_A ws H.size)) mc ms (va_A ws H.size)) (cw : CallW R s args own C index y bytes maxL ret wsy rm mc ms n) (hK : va_K D cl tys s) (hP : va_P D cl ws H) (hD : va_D A ws) (hS : va_S A s.heap H locs) (hA : ∀ q : Nat, s.heap.size ≤ q → A q) (hrc : ∃ cell : Cell, H[b]? = some cell ∧ cell.vm.isStatics = false ∧ s.vm.findClass C = some cell.cls) (hn : As.length = n) (hsz : ls.size = nL) (hst : st0 = As.reverse ++ .ref b :: rest) (hW : (rest.map fun v => v.category).sum ≤ 8) (hdg : decode cc pc = .ok (.invokevirtual index, 3)) (hf : cells + mc ≤ R.cells ∧ slots + ms ≤ R.slots)
    (kk : ∀ (H1 : Heap) (locs1 : List Loc), va_P D cl (w v.2) H1 → va_D A (w v.2) → va_S A s.heap H1 locs1 → W p l e R s m args below meth c H1 locs1 (cells + mc) (slots + ms) Q (F0 m (pc + 3) ls (.long v.1 :: rest))) : W p l e R s m args below meth c H locs cells slots Q (F0 m pc ls st0) :=
  va_calll (va_runV CF hM cw ⟨zPreM_blind, hrc, zPreM_at hK hP hD⟩ rfl hn hsz hst (lv_room hW) hdg hf) hS (fun q _ h => zfree hD hS hA q h) (zfree hD hS hA) (fun r u t H1 locs1 ht hvm hw hB1 hz1 hk1 hS1 => by
    subst hw
    obtain ⟨g1, -, g3⟩ := hB1
    rw [ht] at g1
    exact kk H1 locs1 g1 (g3.weaken (fun _ q _ h => zfree hD hS hA q.1 h)) hS1)
theorem qMVl {S : Type} {w : S → va_W} {v : Int64 × S} {ws' : va_W} {mc ms : Nat} (CF : CallFix p m c cc nL s args Ts own) (hM : Met l y wsy rm (va_Pc (.ref b :: As) (zPreM D cl tys wc H.size)) (va_Ql (fun r u => (r, u) = v) (zAt D cl tys (va_A wc H.size) w) (va_A wc H.size)) mc ms (va_A wc H.size)) (cw : CallW R s args own C index y bytes maxL ret wsy rm mc ms n) (hK : va_K D cl tys s) (hP : va_P D cl ws H) (hD : va_D A ws) (hS : va_S A s.heap H locs) (hA : ∀ q : Nat, s.heap.size ≤ q → A q) (isC isR isB : List Nat) (hC : isC.map (fun i => ws[i]?) = wc.map some) (hR : isR.map (fun i => ws[i]?) = wr.map some) (hnC : va_nd isC = true) (hnR : va_nd isR = true) (hdis : ∀ i ∈ isR, i ∉ isC) (hB : isB.map (fun i => (wr ++ w v.2)[i]?) = ws'.map some) (hnB : va_nd isB = true) (hrc : ∃ cell : Cell, H[b]? = some cell ∧ cell.vm.isStatics = false ∧ s.vm.findClass C = some cell.cls) (hn : As.length = n) (hsz : ls.size = nL) (hst : st0 = As.reverse ++ .ref b :: rest) (hW : (rest.map fun v => v.category).sum ≤ 8) (hdg : decode cc pc = .ok (.invokevirtual index, 3)) (hf : cells + mc ≤ R.cells ∧ slots + ms ≤ R.slots)
    (kk : ∀ (H1 : Heap) (locs1 : List Loc), va_P D cl ws' H1 → va_D A ws' → va_S A s.heap H1 locs1 → W p l e R s m args below meth c H1 locs1 (cells + mc) (slots + ms) Q (F0 m (pc + 3) ls (.long v.1 :: rest))) : W p l e R s m args below meth c H locs cells slots Q (F0 m pc ls st0) :=
  have hFc := va_free (wc := wc) hD hS hA isC hC
  va_calll (va_runV CF hM cw ⟨zPreM_blind, hrc, zPreM_at hK (zsub isC hP hC) (hD.sub isC hnC hC)⟩ rfl hn hsz hst (lv_room hW) hdg hf) hS (fun q _ h => hFc q h) hFc (fun r u t H1 locs1 ht hvm hw hB1 hz1 hk1 hS1 => by
    subst hw
    obtain ⟨g1, g2⟩ := zjoin isC isR isB hP hD hC hR hnR hdis hB hnB hk1 hFc ht hB1
    exact kk H1 locs1 g1 g2 hS1)
theorem qNVv {S : Type} {w : S → va_W} {v : S} {mc ms : Nat} (CF : CallFix p m c cc nL s args Ts own) (hM : Met l y wsy rm (va_Pc (.ref b :: As) (zPreM D cl tys ws H.size)) (va_Qv (fun u => u = v) (zAt D cl tys (va_A ws H.size) w) (va_A ws H.size)) mc ms (va_A ws H.size)) (cw : CallW R s args own C index y bytes maxL ret wsy rm mc ms n) (hK : va_K D cl tys s) (hP : va_P D cl ws H) (hD : va_D A ws) (hS : va_S A s.heap H locs) (hA : ∀ q : Nat, s.heap.size ≤ q → A q) (hrc : ∃ cell : Cell, H[b]? = some cell ∧ cell.vm.isStatics = false ∧ s.vm.findClass C = some cell.cls) (hn : As.length = n) (hsz : ls.size = nL) (hst : st0 = As.reverse ++ .ref b :: rest) (hW : (rest.map fun v => v.category).sum ≤ 8) (hdg : decode cc pc = .ok (.invokevirtual index, 3)) (hf : cells + mc ≤ R.cells ∧ slots + ms ≤ R.slots)
    (kk : ∀ (H1 : Heap) (locs1 : List Loc), va_P D cl (w v) H1 → va_D A (w v) → va_S A s.heap H1 locs1 → W p l e R s m args below meth c H1 locs1 (cells + mc) (slots + ms) Q (F0 m (pc + 3) ls rest)) : W p l e R s m args below meth c H locs cells slots Q (F0 m pc ls st0) :=
  va_callv (va_runV CF hM cw ⟨zPreM_blind, hrc, zPreM_at hK hP hD⟩ rfl hn hsz hst (lv_room hW) hdg hf) hS (fun q _ h => zfree hD hS hA q h) (zfree hD hS hA) (fun u t H1 locs1 ht hvm hw hB1 hz1 hk1 hS1 => by
    subst hw
    obtain ⟨g1, -, g3⟩ := hB1
    rw [ht] at g1
    exact kk H1 locs1 g1 (g3.weaken (fun _ q _ h => zfree hD hS hA q.1 h)) hS1)
theorem qMVv {S : Type} {w : S → va_W} {v : S} {ws' : va_W} {mc ms : Nat} (CF : CallFix p m c cc nL s args Ts own) (hM : Met l y wsy rm (va_Pc (.ref b :: As) (zPreM D cl tys wc H.size)) (va_Qv (fun u => u = v) (zAt D cl tys (va_A wc H.size) w) (va_A wc H.size)) mc ms (va_A wc H.size)) (cw : CallW R s args own C index y bytes maxL ret wsy rm mc ms n) (hK : va_K D cl tys s) (hP : va_P D cl ws H) (hD : va_D A ws) (hS : va_S A s.heap H locs) (hA : ∀ q : Nat, s.heap.size ≤ q → A q) (isC isR isB : List Nat) (hC : isC.map (fun i => ws[i]?) = wc.map some) (hR : isR.map (fun i => ws[i]?) = wr.map some) (hnC : va_nd isC = true) (hnR : va_nd isR = true) (hdis : ∀ i ∈ isR, i ∉ isC) (hB : isB.map (fun i => (wr ++ w v)[i]?) = ws'.map some) (hnB : va_nd isB = true) (hrc : ∃ cell : Cell, H[b]? = some cell ∧ cell.vm.isStatics = false ∧ s.vm.findClass C = some cell.cls) (hn : As.length = n) (hsz : ls.size = nL) (hst : st0 = As.reverse ++ .ref b :: rest) (hW : (rest.map fun v => v.category).sum ≤ 8) (hdg : decode cc pc = .ok (.invokevirtual index, 3)) (hf : cells + mc ≤ R.cells ∧ slots + ms ≤ R.slots)
    (kk : ∀ (H1 : Heap) (locs1 : List Loc), va_P D cl ws' H1 → va_D A ws' → va_S A s.heap H1 locs1 → W p l e R s m args below meth c H1 locs1 (cells + mc) (slots + ms) Q (F0 m (pc + 3) ls rest)) : W p l e R s m args below meth c H locs cells slots Q (F0 m pc ls st0) :=
  have hFc := va_free (wc := wc) hD hS hA isC hC
  va_callv (va_runV CF hM cw ⟨zPreM_blind, hrc, zPreM_at hK (zsub isC hP hC) (hD.sub isC hnC hC)⟩ rfl hn hsz hst (lv_room hW) hdg hf) hS (fun q _ h => hFc q h) hFc (fun u t H1 locs1 ht hvm hw hB1 hz1 hk1 hS1 => by
    subst hw
    obtain ⟨g1, g2⟩ := zjoin isC isR isB hP hD hC hR hnR hdis hB hnB hk1 hFc ht hB1
    exact kk H1 locs1 g1 g2 hS1)
theorem qNSi {S : Type} {w : S → va_W} {v : Int32 × S} {mc ms : Nat} (CF : CallFix p m c cc nL s args Ts own) (hM : Met l y wsy rm (va_Pc As (zPreM D cl tys ws H.size)) (va_Qi (fun r u => (r, u) = v) (zAt D cl tys (va_A ws H.size) w) (va_A ws H.size)) mc ms (va_A ws H.size)) (cw : CallB R s args own index y bytes maxL ret wsy rm mc ms n ∧ (Cond.static y).before args s = true) (hK : va_K D cl tys s) (hP : va_P D cl ws H) (hD : va_D A ws) (hS : va_S A s.heap H locs) (hA : ∀ q : Nat, s.heap.size ≤ q → A q) (hn : As.length = n) (hsz : ls.size = nL) (hst : st0 = As.reverse ++ rest) (hW : (rest.map fun v => v.category).sum ≤ 8) (hdg : decode cc pc = .ok (.invokestatic index, 3)) (hf : cells + mc ≤ R.cells ∧ slots + ms ≤ R.slots)
    (kk : ∀ (H1 : Heap) (locs1 : List Loc), va_P D cl (w v.2) H1 → va_D A (w v.2) → va_S A s.heap H1 locs1 → W p l e R s m args below meth c H1 locs1 (cells + mc) (slots + ms) Q (F0 m (pc + 3) ls (.int v.1 :: rest))) : W p l e R s m args below meth c H locs cells slots Q (F0 m pc ls st0) :=
  va_calli (va_runS CF hM cw ⟨zPreM_blind, zPreM_at hK hP hD⟩ rfl hn hsz hst (lv_room hW) hdg hf) hS (fun q _ h => zfree hD hS hA q h) (zfree hD hS hA) (fun r u t H1 locs1 ht hvm hw hB1 hz1 hk1 hS1 => by
    subst hw
    obtain ⟨g1, -, g3⟩ := hB1
    rw [ht] at g1
    exact kk H1 locs1 g1 (g3.weaken (fun _ q _ h => zfree hD hS hA q.1 h)) hS1)
theorem qMSi {S : Type} {w : S → va_W} {v : Int32 × S} {ws' : va_W} {mc ms : Nat} (CF : CallFix p m c cc nL s args Ts own) (hM : Met l y wsy rm (va_Pc As (zPreM D cl tys wc H.size)) (va_Qi (fun r u => (r, u) = v) (zAt D cl tys (va_A wc H.size) w) (va_A wc H.size)) mc ms (va_A wc H.size)) (cw : CallB R s args own index y bytes maxL ret wsy rm mc ms n ∧ (Cond.static y).before args s = true) (hK : va_K D cl tys s) (hP : va_P D cl ws H) (hD : va_D A ws) (hS : va_S A s.heap H locs) (hA : ∀ q : Nat, s.heap.size ≤ q → A q) (isC isR isB : List Nat) (hC : isC.map (fun i => ws[i]?) = wc.map some) (hR : isR.map (fun i => ws[i]?) = wr.map some) (hnC : va_nd isC = true) (hnR : va_nd isR = true) (hdis : ∀ i ∈ isR, i ∉ isC) (hB : isB.map (fun i => (wr ++ w v.2)[i]?) = ws'.map some) (hnB : va_nd isB = true) (hn : As.length = n) (hsz : ls.size = nL) (hst : st0 = As.reverse ++ rest) (hW : (rest.map fun v => v.category).sum ≤ 8) (hdg : decode cc pc = .ok (.invokestatic index, 3)) (hf : cells + mc ≤ R.cells ∧ slots + ms ≤ R.slots)
    (kk : ∀ (H1 : Heap) (locs1 : List Loc), va_P D cl ws' H1 → va_D A ws' → va_S A s.heap H1 locs1 → W p l e R s m args below meth c H1 locs1 (cells + mc) (slots + ms) Q (F0 m (pc + 3) ls (.int v.1 :: rest))) : W p l e R s m args below meth c H locs cells slots Q (F0 m pc ls st0) :=
  have hFc := va_free (wc := wc) hD hS hA isC hC
  va_calli (va_runS CF hM cw ⟨zPreM_blind, zPreM_at hK (zsub isC hP hC) (hD.sub isC hnC hC)⟩ rfl hn hsz hst (lv_room hW) hdg hf) hS (fun q _ h => hFc q h) hFc (fun r u t H1 locs1 ht hvm hw hB1 hz1 hk1 hS1 => by
    subst hw
    obtain ⟨g1, g2⟩ := zjoin isC isR isB hP hD hC hR hnR hdis hB hnB hk1 hFc ht hB1
    exact kk H1 locs1 g1 g2 hS1)
theorem qNSl {S : Type} {w : S → va_W} {v : Int64 × S} {mc ms : Nat} (CF : CallFix p m c cc nL s args Ts own) (hM : Met l y wsy rm (va_Pc As (zPreM D cl tys ws H.size)) (va_Ql (fun r u => (r, u) = v) (zAt D cl tys (va_A ws H.size) w) (va_A ws H.size)) mc ms (va_A ws H.size)) (cw : CallB R s args own index y bytes maxL ret wsy rm mc ms n ∧ (Cond.static y).before args s = true) (hK : va_K D cl tys s) (hP : va_P D cl ws H) (hD : va_D A ws) (hS : va_S A s.heap H locs) (hA : ∀ q : Nat, s.heap.size ≤ q → A q) (hn : As.length = n) (hsz : ls.size = nL) (hst : st0 = As.reverse ++ rest) (hW : (rest.map fun v => v.category).sum ≤ 8) (hdg : decode cc pc = .ok (.invokestatic index, 3)) (hf : cells + mc ≤ R.cells ∧ slots + ms ≤ R.slots)
    (kk : ∀ (H1 : Heap) (locs1 : List Loc), va_P D cl (w v.2) H1 → va_D A (w v.2) → va_S A s.heap H1 locs1 → W p l e R s m args below meth c H1 locs1 (cells + mc) (slots + ms) Q (F0 m (pc + 3) ls (.long v.1 :: rest))) : W p l e R s m args below meth c H locs cells slots Q (F0 m pc ls st0) :=
  va_calll (va_runS CF hM cw ⟨zPreM_blind, zPreM_at hK hP hD⟩ rfl hn hsz hst (lv_room hW) hdg hf) hS (fun q _ h => zfree hD hS hA q h) (zfree hD hS hA) (fun r u t H1 locs1 ht hvm hw hB1 hz1 hk1 hS1 => by
    subst hw
    obtain ⟨g1, -, g3⟩ := hB1
    rw [ht] at g1
    exact kk H1 locs1 g1 (g3.weaken (fun _ q _ h => zfree hD hS hA q.1 h)) hS1)
theorem qMSl {S : Type} {w : S → va_W} {v : Int64 × S} {ws' : va_W} {mc ms : Nat} (CF : CallFix p m c cc nL s args Ts own) (hM : Met l y wsy rm (va_Pc As (zPreM D cl tys wc H.size)) (va_Ql (fun r u => (r, u) = v) (zAt D cl tys (va_A wc H.size) w) (va_A wc H.size)) mc ms (va_A wc H.size)) (cw : CallB R s args own index y bytes maxL ret wsy rm mc ms n ∧ (Cond.static y).before args s = true) (hK : va_K D cl tys s) (hP : va_P D cl ws H) (hD : va_D A ws) (hS : va_S A s.heap H locs) (hA : ∀ q : Nat, s.heap.size ≤ q → A q) (isC isR isB : List Nat) (hC : isC.map (fun i => ws[i]?) = wc.map some) (hR : isR.map (fun i => ws[i]?) = wr.map some) (hnC : va_nd isC = true) (hnR : va_nd isR = true) (hdis : ∀ i ∈ isR, i ∉ isC) (hB : isB.map (fun i => (wr ++ w v.2)[i]?) = ws'.map some) (hnB : va_nd isB = true) (hn : As.length = n) (hsz : ls.size = nL) (hst : st0 = As.reverse ++ rest) (hW : (rest.map fun v => v.category).sum ≤ 8) (hdg : decode cc pc = .ok (.invokestatic index, 3)) (hf : cells + mc ≤ R.cells ∧ slots + ms ≤ R.slots)
    (kk : ∀ (H1 : Heap) (locs1 : List Loc), va_P D cl ws' H1 → va_D A ws' → va_S A s.heap H1 locs1 → W p l e R s m args below meth c H1 locs1 (cells + mc) (slots + ms) Q (F0 m (pc + 3) ls (.long v.1 :: rest))) : W p l e R s m args below meth c H locs cells slots Q (F0 m pc ls st0) :=
  have hFc := va_free (wc := wc) hD hS hA isC hC
  va_calll (va_runS CF hM cw ⟨zPreM_blind, zPreM_at hK (zsub isC hP hC) (hD.sub isC hnC hC)⟩ rfl hn hsz hst (lv_room hW) hdg hf) hS (fun q _ h => hFc q h) hFc (fun r u t H1 locs1 ht hvm hw hB1 hz1 hk1 hS1 => by
    subst hw
    obtain ⟨g1, g2⟩ := zjoin isC isR isB hP hD hC hR hnR hdis hB hnB hk1 hFc ht hB1
    exact kk H1 locs1 g1 g2 hS1)
theorem qNSv {S : Type} {w : S → va_W} {v : S} {mc ms : Nat} (CF : CallFix p m c cc nL s args Ts own) (hM : Met l y wsy rm (va_Pc As (zPreM D cl tys ws H.size)) (va_Qv (fun u => u = v) (zAt D cl tys (va_A ws H.size) w) (va_A ws H.size)) mc ms (va_A ws H.size)) (cw : CallB R s args own index y bytes maxL ret wsy rm mc ms n ∧ (Cond.static y).before args s = true) (hK : va_K D cl tys s) (hP : va_P D cl ws H) (hD : va_D A ws) (hS : va_S A s.heap H locs) (hA : ∀ q : Nat, s.heap.size ≤ q → A q) (hn : As.length = n) (hsz : ls.size = nL) (hst : st0 = As.reverse ++ rest) (hW : (rest.map fun v => v.category).sum ≤ 8) (hdg : decode cc pc = .ok (.invokestatic index, 3)) (hf : cells + mc ≤ R.cells ∧ slots + ms ≤ R.slots)
    (kk : ∀ (H1 : Heap) (locs1 : List Loc), va_P D cl (w v) H1 → va_D A (w v) → va_S A s.heap H1 locs1 → W p l e R s m args below meth c H1 locs1 (cells + mc) (slots + ms) Q (F0 m (pc + 3) ls rest)) : W p l e R s m args below meth c H locs cells slots Q (F0 m pc ls st0) :=
  va_callv (va_runS CF hM cw ⟨zPreM_blind, zPreM_at hK hP hD⟩ rfl hn hsz hst (lv_room hW) hdg hf) hS (fun q _ h => zfree hD hS hA q h) (zfree hD hS hA) (fun u t H1 locs1 ht hvm hw hB1 hz1 hk1 hS1 => by
    subst hw
    obtain ⟨g1, -, g3⟩ := hB1
    rw [ht] at g1
    exact kk H1 locs1 g1 (g3.weaken (fun _ q _ h => zfree hD hS hA q.1 h)) hS1)
theorem qMSv {S : Type} {w : S → va_W} {v : S} {ws' : va_W} {mc ms : Nat} (CF : CallFix p m c cc nL s args Ts own) (hM : Met l y wsy rm (va_Pc As (zPreM D cl tys wc H.size)) (va_Qv (fun u => u = v) (zAt D cl tys (va_A wc H.size) w) (va_A wc H.size)) mc ms (va_A wc H.size)) (cw : CallB R s args own index y bytes maxL ret wsy rm mc ms n ∧ (Cond.static y).before args s = true) (hK : va_K D cl tys s) (hP : va_P D cl ws H) (hD : va_D A ws) (hS : va_S A s.heap H locs) (hA : ∀ q : Nat, s.heap.size ≤ q → A q) (isC isR isB : List Nat) (hC : isC.map (fun i => ws[i]?) = wc.map some) (hR : isR.map (fun i => ws[i]?) = wr.map some) (hnC : va_nd isC = true) (hnR : va_nd isR = true) (hdis : ∀ i ∈ isR, i ∉ isC) (hB : isB.map (fun i => (wr ++ w v)[i]?) = ws'.map some) (hnB : va_nd isB = true) (hn : As.length = n) (hsz : ls.size = nL) (hst : st0 = As.reverse ++ rest) (hW : (rest.map fun v => v.category).sum ≤ 8) (hdg : decode cc pc = .ok (.invokestatic index, 3)) (hf : cells + mc ≤ R.cells ∧ slots + ms ≤ R.slots)
    (kk : ∀ (H1 : Heap) (locs1 : List Loc), va_P D cl ws' H1 → va_D A ws' → va_S A s.heap H1 locs1 → W p l e R s m args below meth c H1 locs1 (cells + mc) (slots + ms) Q (F0 m (pc + 3) ls rest)) : W p l e R s m args below meth c H locs cells slots Q (F0 m pc ls st0) :=
  have hFc := va_free (wc := wc) hD hS hA isC hC
  va_callv (va_runS CF hM cw ⟨zPreM_blind, zPreM_at hK (zsub isC hP hC) (hD.sub isC hnC hC)⟩ rfl hn hsz hst (lv_room hW) hdg hf) hS (fun q _ h => hFc q h) hFc (fun u t H1 locs1 ht hvm hw hB1 hz1 hk1 hS1 => by
    subst hw
    obtain ⟨g1, g2⟩ := zjoin isC isR isB hP hD hC hR hnR hdis hB hnB hk1 hFc ht hB1
    exact kk H1 locs1 g1 g2 hS1)
theorem qNIv {S : Type} {w : S → va_W} {v : S} {mc ms : Nat} (CF : CallFix p m c cc nL s args Ts own) (hM : Met l y wsy rm (va_Pc (.ref b :: As) (zPreM D cl tys ws H.size)) (va_Qv (fun u => u = v) (zAt D cl tys (va_A ws H.size) w) (va_A ws H.size)) mc ms (va_A ws H.size)) (cw : CallB R s args own index y bytes maxL none wsy rm mc ms n ∧ y.name = "<init>" ∧ (Cond.instanceMethod y).before args s = true) (hK : va_K D cl tys s) (hP : va_P D cl ws H) (hD : va_D A ws) (hS : va_S A s.heap H locs) (hA : ∀ q : Nat, s.heap.size ≤ q → A q) (hn : As.length = n) (hsz : ls.size = nL) (hst : st0 = As.reverse ++ .ref b :: rest) (hW : (rest.map fun v => v.category).sum ≤ 8) (hdg : decode cc pc = .ok (.invokespecial index, 3)) (hf : cells + mc ≤ R.cells ∧ slots + ms ≤ R.slots)
    (kk : ∀ (H1 : Heap) (locs1 : List Loc), va_P D cl (w v) H1 → va_D A (w v) → va_S A s.heap H1 locs1 → W p l e R s m args below meth c H1 locs1 (cells + mc) (slots + ms) Q (F0 m (pc + 3) ls rest)) : W p l e R s m args below meth c H locs cells slots Q (F0 m pc ls st0) :=
  va_callv (va_runI CF hM cw ⟨zPreM_blind, zPreM_at hK hP hD⟩ rfl hn hsz hst (lv_room hW) hdg hf) hS (fun q _ h => zfree hD hS hA q h) (zfree hD hS hA) (fun u t H1 locs1 ht hvm hw hB1 hz1 hk1 hS1 => by
    subst hw
    obtain ⟨g1, -, g3⟩ := hB1
    rw [ht] at g1
    exact kk H1 locs1 g1 (g3.weaken (fun _ q _ h => zfree hD hS hA q.1 h)) hS1)
theorem qMIv {S : Type} {w : S → va_W} {v : S} {ws' : va_W} {mc ms : Nat} (CF : CallFix p m c cc nL s args Ts own) (hM : Met l y wsy rm (va_Pc (.ref b :: As) (zPreM D cl tys wc H.size)) (va_Qv (fun u => u = v) (zAt D cl tys (va_A wc H.size) w) (va_A wc H.size)) mc ms (va_A wc H.size)) (cw : CallB R s args own index y bytes maxL none wsy rm mc ms n ∧ y.name = "<init>" ∧ (Cond.instanceMethod y).before args s = true) (hK : va_K D cl tys s) (hP : va_P D cl ws H) (hD : va_D A ws) (hS : va_S A s.heap H locs) (hA : ∀ q : Nat, s.heap.size ≤ q → A q) (isC isR isB : List Nat) (hC : isC.map (fun i => ws[i]?) = wc.map some) (hR : isR.map (fun i => ws[i]?) = wr.map some) (hnC : va_nd isC = true) (hnR : va_nd isR = true) (hdis : ∀ i ∈ isR, i ∉ isC) (hB : isB.map (fun i => (wr ++ w v)[i]?) = ws'.map some) (hnB : va_nd isB = true) (hn : As.length = n) (hsz : ls.size = nL) (hst : st0 = As.reverse ++ .ref b :: rest) (hW : (rest.map fun v => v.category).sum ≤ 8) (hdg : decode cc pc = .ok (.invokespecial index, 3)) (hf : cells + mc ≤ R.cells ∧ slots + ms ≤ R.slots)
    (kk : ∀ (H1 : Heap) (locs1 : List Loc), va_P D cl ws' H1 → va_D A ws' → va_S A s.heap H1 locs1 → W p l e R s m args below meth c H1 locs1 (cells + mc) (slots + ms) Q (F0 m (pc + 3) ls rest)) : W p l e R s m args below meth c H locs cells slots Q (F0 m pc ls st0) :=
  have hFc := va_free (wc := wc) hD hS hA isC hC
  va_callv (va_runI CF hM cw ⟨zPreM_blind, zPreM_at hK (zsub isC hP hC) (hD.sub isC hnC hC)⟩ rfl hn hsz hst (lv_room hW) hdg hf) hS (fun q _ h => hFc q h) hFc (fun u t H1 locs1 ht hvm hw hB1 hz1 hk1 hS1 => by
    subst hw
    obtain ⟨g1, g2⟩ := zjoin isC isR isB hP hD hC hR hnR hdis hB hnB hk1 hFc ht hB1
    exact kk H1 locs1 g1 g2 hS1)
/-- a new array of a type whose class the tables' words name -/
theorem q_newa {H0 : Heap} {ty : FieldType} (atype : ArrayType) (hx : p.tables.exec = Jvm.exec) (hb : c.code = cc) (harr : (Cond.arrayClass (newarray.typeOf atype)).before args s = true) (hty : newarray.typeOf atype = ty) (hK : va_K D cl tys s) (t0 : Nat) {cY : ClassId} (ht : tys[t0]? = some (cY, ty)) (hra : ∀ c : ClassId, va_RA s c ty → s.vm.findClass ("[" ++ ty.toString) = some c) (hP : va_P D cl ws H) (hD : va_D A ws) (hS : va_S A H0 H locs) (hA : ∀ q, H0.size ≤ q → A q)
    {n : Int32} {N' : Nat} {a0 : vp_A} (ha : ∀ cA : ClassId, vp_cell cA a0 = arrV cA N' (fun _ => defaultValue ty)) (hn : ¬ n < 0) (hN : n.toNatClampNeg = N') (hbytes : N' * componentBytes ty ≤ 536870912) (hcells : cells + 1 ≤ R.cells) (hslots : slots + N' ≤ R.slots) (hdg : decode cc pc = .ok (.newarray atype, 2))
    (kk : ∀ (q : Nat) (H1 : Heap), va_P D cl (ws ++ [(q, .inl (cY, a0))]) H1 → va_D A (ws ++ [(q, .inl (cY, a0))]) → va_S A H0 H1 locs → W p l e R s m args below meth c H1 locs (cells + 1) (slots + N') Q (F0 m (pc + 2) ls (.ref q :: rest))) : W p l e R s m args below meth c H locs cells slots Q (F0 m pc ls (.int n :: rest)) :=
  va_newa hx hb harr hty hK hP hD hS hA ha hn hN hbytes hcells hslots hdg (fun q cA H1 hK' hP' hD' hS' => by
    have e1 := hra cA (hK'.2 tys.length (cA, ty) (by simp)).2
    have e2 := hra cY (hK.2 t0 _ ht).2
    have e3 : cA = cY := Option.some.inj (e1.symm.trans e2)
    subst e3
    exact kk q H1 hP' hD' hS')
/-- a constructor's end: its own cell is the first address, what it made the others -/
def zMc {S : Type} (w : (Nat → Nat) → S → va_W) (D : va_G) (cl : List vw_C) (tys : List (ClassId × FieldType)) (A : Nat → Prop) (h0 : Nat) (below : List Frame) (args : Array Value) (s : State) (mc ms : Nat) (v : S) : State → Prop := MQ below (va_Qv (fun u : (Nat → Nat) × S => u.1 0 = h0 ∧ u.2 = v) (zAt D cl tys A (fun u => w u.1 u.2)) A) args s mc ms A
theorem zMc_ret {S : Type} {w : (Nat → Nat) → S → va_W} {hh : Nat → Nat} {u : S} {h0 : Nat} (h00 : hh 0 = h0) (hx : p.tables.exec = Jvm.exec) (hb : c.code = cc) (hr : meth.sig.returnType = none) (hlocks : meth.locks = false) (hK : va_K D cl tys s) (hP : va_P D cl (w hh u) H) (hD : va_D A (w hh u)) (hS : va_S A s.heap H locs) (hdg : decode cc pc = .ok (.return_, 1)) : W p l e R s m args below meth c H locs cells slots (zMc w D cl tys A h0 below args s cells slots u) (F0 m pc ls []) :=
  W.vret hx hb hr (fun t ht hW => ⟨⟨(hh, u), rfl, ⟨h00, rfl⟩, by rw [ht]; exact hP, va_K.moved hW.alike hK, hD⟩, hS.F ht⟩) hS.2.2 hdg hlocks
theorem qMIc {S : Type} {w : (Nat → Nat) → S → va_W} {v : S} {mc ms : Nat} (CF : CallFix p m c cc nL s args Ts own) (hM : Met l y wsy rm (va_Pc (.ref b :: As) (zPreM D cl tys wc H.size)) (va_Qv (fun u : (Nat → Nat) × S => u.1 0 = b ∧ u.2 = v) (zAt D cl tys (va_A wc H.size) (fun u => w u.1 u.2)) (va_A wc H.size)) mc ms (va_A wc H.size)) (cw : CallB R s args own index y bytes maxL none wsy rm mc ms n ∧ y.name = "<init>" ∧ (Cond.instanceMethod y).before args s = true) (hK : va_K D cl tys s) (hP : va_P D cl ws H) (hD : va_D A ws) (hS : va_S A s.heap H locs) (hA : ∀ q : Nat, s.heap.size ≤ q → A q) (isC isR : List Nat) (hC : isC.map (fun i => ws[i]?) = wc.map some) (hR : isR.map (fun i => ws[i]?) = wr.map some) (hnC : va_nd isC = true) (hnR : va_nd isR = true) (hdis : ∀ i ∈ isR, i ∉ isC) (hn : As.length = n) (hsz : ls.size = nL) (hst : st0 = As.reverse ++ .ref b :: rest) (hW : (rest.map fun v => v.category).sum ≤ 8) (hdg : decode cc pc = .ok (.invokespecial index, 3)) (hf : cells + mc ≤ R.cells ∧ slots + ms ≤ R.slots)
    (kk : ∀ (hh : Nat → Nat), hh 0 = b → ∀ (H1 : Heap) (locs1 : List Loc), va_P D cl (wr ++ w hh v) H1 → va_D A (wr ++ w hh v) → va_S A s.heap H1 locs1 → W p l e R s m args below meth c H1 locs1 (cells + mc) (slots + ms) Q (F0 m (pc + 3) ls rest)) : W p l e R s m args below meth c H locs cells slots Q (F0 m pc ls st0) :=
  have hFc := va_free (wc := wc) hD hS hA isC hC
  va_callv (va_runI CF hM cw ⟨zPreM_blind, zPreM_at hK (zsub isC hP hC) (hD.sub isC hnC hC)⟩ rfl hn hsz hst (lv_room hW) hdg hf) hS (fun q _ h => hFc q h) hFc (fun u t H1 locs1 ht hvm hw hB1 hz1 hk1 hS1 => by
    obtain ⟨hh, uS⟩ := u
    obtain ⟨hw1, hw2⟩ := hw
    obtain ⟨g1, -, g3⟩ := hB1
    dsimp only at hw1 hw2 g1 g3
    subst hw2
    rw [ht] at g1
    obtain ⟨j1, j2⟩ := va_join hP hD isC isR hC hR hnR hdis hk1 hFc g1 g3
    exact kk hh hw1 H1 locs1 j1 j2 hS1)
end QA
theorem lp_ge {i n : Nat} (h : i + 0 = n) : nI n ≤ nI i := by
  subst h
  exact Int32.le_refl _
theorem lp_lt {i k n : Nat} (h : i + (k + 1) = n) (hn : n < 2 ^ 31) : ¬ nI n ≤ nI i := nI_ge (by omega) hn
theorem sw_i {x k : Int32} {a : Int} (h : ¬ x = k) (hk : k.toInt = a) : ¬ x.toInt = a := fun q => h (Int32.toInt_inj.mp (by rw [hk]; exact q))
theorem sw_out6 {x : Int32} (h0 : ¬ x = 0) (h1 : ¬ x = 1) (h2 : ¬ x = 2) (h3 : ¬ x = 3) (h4 : ¬ x = 4) (h5 : ¬ x = 5) : x.toInt < 0 ∨ 5 < x.toInt := by
  have a0 := sw_i (a := 0) h0 rfl
  have a1 := sw_i (a := 1) h1 rfl
  have a2 := sw_i (a := 2) h2 rfl
  have a3 := sw_i (a := 3) h3 rfl
  have a4 := sw_i (a := 4) h4 rfl
  have a5 := sw_i (a := 5) h5 rfl
  omega
theorem vin_lt {a : Int32} {n N : Nat} (hn : n ≤ N) (hN : N < 2 ^ 31) (h0 : ¬ a < 0) (h1 : ¬ nI n ≤ a) : vp_in a N := by
  obtain ⟨j, hj, rfl⟩ := nI_of h0
  refine vp_in_nI ?_ hN
  rcases Nat.lt_or_ge j n with q | q
  · omega
  · exact absurd (nI_le q hj) h1
theorem lcmp_nz {x : Int64} (h : ¬ lg_cmp x 0 = 0) : ¬ x = 0 := fun z => h (by subst z; decide)
theorem low_nz {x : Int64} (h : 0 ≤ lg_cmp x 1) : ¬ x = 0 := fun z => by subst z; exact absurd h (by decide)
theorem ord_lt {x n : Nat} (h : x ≤ n) (hn : n ≤ 24) (c : ¬ nI n ≤ nI x) : x + 1 ≤ n := by
  rcases Nat.lt_or_ge x n with q | q
  · exact q
  · exact absurd (nI_le q (by omega)) c
section QB
variable {p : Program} {l : Launch} {e : Env} {R : Room} {s : State} {m : MethodId} {args : Array Value} {below : List Frame} {meth : Method} {c : Code} {H : Heap} {locs : List Loc} {cells slots : Nat} {Q : State → Prop}
variable {pc : Nat} {ls : Array Slot} {rest : List Value}
def fJ_max (x y : Int32) : Int32 := if x < y then y else x
def fJ_min (x y : Int32) : Int32 := if y < x then y else x
def fJ_abs (x : Int32) : Int32 := if 0 ≤ x then x else 0 - x
theorem q_max {cc : ByteArray} (hexec : p.tables.exec = Jvm.exec) (hb : c.code = cc) (hml : c.maxLocals = ls.size) {own : String} {index : Nat} (hown : s.vm.findClass own = some m.cls) (hlink : (Cond.methodLink own index Lib.Math.max.name).before args s = true) (hstat : (Cond.static Lib.Math.max.name).before args s = true) (hini : (Cond.initialized "java/lang/Math").before args s = true) (hcode : (Cond.code Lib.Math.max.name Lib.Math.max.code 2 (some .int)).before args s = true)
    (hframes : 1 ≤ R.frames) (hlocals : (rest.map fun v => v.category).sum + 13 ≤ R.locals) (hc : cells ≤ R.cells) (hs : slots ≤ R.slots) {x y : Int32} (hdg : decode cc pc = .ok (.invokestatic index, 3))
    (kk : W p l e R s m args below meth c H locs cells slots Q (F0 m (pc + 3) ls (.int (fJ_max x y) :: rest))) : W p l e R s m args below meth c H locs cells slots Q (F0 m pc ls (.int y :: .int x :: rest)) := va_mmax hexec hb hml hown hlink hstat hini hcode hframes hlocals hc hs hdg kk
theorem q_min {cc : ByteArray} (hexec : p.tables.exec = Jvm.exec) (hb : c.code = cc) (hml : c.maxLocals = ls.size) {own : String} {index : Nat} (hown : s.vm.findClass own = some m.cls) (hlink : (Cond.methodLink own index Lib.Math.min.name).before args s = true) (hstat : (Cond.static Lib.Math.min.name).before args s = true) (hini : (Cond.initialized "java/lang/Math").before args s = true) (hcode : (Cond.code Lib.Math.min.name Lib.Math.min.code 2 (some .int)).before args s = true)
    (hframes : 1 ≤ R.frames) (hlocals : (rest.map fun v => v.category).sum + 13 ≤ R.locals) (hc : cells ≤ R.cells) (hs : slots ≤ R.slots) {x y : Int32} (hdg : decode cc pc = .ok (.invokestatic index, 3))
    (kk : W p l e R s m args below meth c H locs cells slots Q (F0 m (pc + 3) ls (.int (fJ_min x y) :: rest))) : W p l e R s m args below meth c H locs cells slots Q (F0 m pc ls (.int y :: .int x :: rest)) := va_mmin hexec hb hml hown hlink hstat hini hcode hframes hlocals hc hs hdg kk
theorem q_abs {cc : ByteArray} (hexec : p.tables.exec = Jvm.exec) (hb : c.code = cc) (hml : c.maxLocals = ls.size) {own : String} {index : Nat} (hown : s.vm.findClass own = some m.cls) (hlink : (Cond.methodLink own index Lib.Math.abs.name).before args s = true) (hstat : (Cond.static Lib.Math.abs.name).before args s = true) (hini : (Cond.initialized "java/lang/Math").before args s = true) (hcode : (Cond.code Lib.Math.abs.name Lib.Math.abs.code 1 (some .int)).before args s = true)
    (hframes : 1 ≤ R.frames) (hlocals : (rest.map fun v => v.category).sum + 13 ≤ R.locals) (hc : cells ≤ R.cells) (hs : slots ≤ R.slots) {x : Int32} (hdg : decode cc pc = .ok (.invokestatic index, 3))
    (kk : W p l e R s m args below meth c H locs cells slots Q (F0 m (pc + 3) ls (.int (fJ_abs x) :: rest))) : W p l e R s m args below meth c H locs cells slots Q (F0 m pc ls (.int x :: rest)) := va_mabs hexec hb hml hown hlink hstat hini hcode hframes hlocals hc hs hdg kk
end QB
end
section
theorem dA_fill_0 : decode cA_fill 0 = .ok (.iconst 0, 1) := by decide +kernel
theorem dA_fill_1 : decode cA_fill 1 = .ok (.istore_n 2, 1) := by decide +kernel
theorem dA_fill_2 : decode cA_fill 2 = .ok (.aload_n 0, 1) := by decide +kernel
theorem dA_fill_3 : decode cA_fill 3 = .ok (.arraylength, 1) := by decide +kernel
theorem dA_fill_4 : decode cA_fill 4 = .ok (.istore_n 3, 1) := by decide +kernel
theorem dA_fill_5 : decode cA_fill 5 = .ok (.iload_n 2, 1) := by decide +kernel
theorem dA_fill_6 : decode cA_fill 6 = .ok (.iload_n 3, 1) := by decide +kernel
theorem dA_fill_7 : decode cA_fill 7 = .ok (.if_icmp .ge 13, 3) := by decide +kernel
theorem dA_fill_10 : decode cA_fill 10 = .ok (.aload_n 0, 1) := by decide +kernel
theorem dA_fill_11 : decode cA_fill 11 = .ok (.iload_n 2, 1) := by decide +kernel
theorem dA_fill_12 : decode cA_fill 12 = .ok (.iload_n 1, 1) := by decide +kernel
theorem dA_fill_13 : decode cA_fill 13 = .ok (.iastore, 1) := by decide +kernel
theorem dA_fill_14 : decode cA_fill 14 = .ok (.iinc 2 1, 3) := by decide +kernel
theorem dA_fill_17 : decode cA_fill 17 = .ok (.goto (-12), 3) := by decide +kernel
theorem dA_fill_20 : decode cA_fill 20 = .ok (.return_, 1) := by decide +kernel
theorem dF_isPart_0 : decode cF_isPart 0 = .ok (.iload_n 0, 1) := by decide +kernel
theorem dF_isPart_1 : decode cF_isPart 1 = .ok (.ifCond .eq 8, 3) := by decide +kernel
theorem dF_isPart_4 : decode cF_isPart 4 = .ok (.iload_n 0, 1) := by decide +kernel
theorem dF_isPart_5 : decode cF_isPart 5 = .ok (.iconst 1, 1) := by decide +kernel
theorem dF_isPart_6 : decode cF_isPart 6 = .ok (.if_icmp .ne 7, 3) := by decide +kernel
theorem dF_isPart_9 : decode cF_isPart 9 = .ok (.iconst 1, 1) := by decide +kernel
theorem dF_isPart_10 : decode cF_isPart 10 = .ok (.goto 4, 3) := by decide +kernel
theorem dF_isPart_13 : decode cF_isPart 13 = .ok (.iconst 0, 1) := by decide +kernel
theorem dF_isPart_14 : decode cF_isPart 14 = .ok (.ireturn, 1) := by decide +kernel
theorem dF_commonDivisor_0 : decode cF_commonDivisor 0 = .ok (.lload_n 0, 1) := by decide +kernel
theorem dF_commonDivisor_1 : decode cF_commonDivisor 1 = .ok (.lstore 4, 2) := by decide +kernel
theorem dF_commonDivisor_3 : decode cF_commonDivisor 3 = .ok (.lload_n 2, 1) := by decide +kernel
theorem dF_commonDivisor_4 : decode cF_commonDivisor 4 = .ok (.lstore 6, 2) := by decide +kernel
theorem dF_commonDivisor_6 : decode cF_commonDivisor 6 = .ok (.iconst 0, 1) := by decide +kernel
theorem dF_commonDivisor_7 : decode cF_commonDivisor 7 = .ok (.istore 8, 2) := by decide +kernel
theorem dF_commonDivisor_9 : decode cF_commonDivisor 9 = .ok (.iload 8, 2) := by decide +kernel
theorem dF_commonDivisor_11 : decode cF_commonDivisor 11 = .ok (.bipush 100, 2) := by decide +kernel
theorem dF_commonDivisor_13 : decode cF_commonDivisor 13 = .ok (.if_icmp .ge 31, 3) := by decide +kernel
theorem dF_commonDivisor_16 : decode cF_commonDivisor 16 = .ok (.lload 6, 2) := by decide +kernel
theorem dF_commonDivisor_18 : decode cF_commonDivisor 18 = .ok (.lconst 0, 1) := by decide +kernel
theorem dF_commonDivisor_19 : decode cF_commonDivisor 19 = .ok (.lcmp, 1) := by decide +kernel
theorem dF_commonDivisor_20 : decode cF_commonDivisor 20 = .ok (.ifCond .eq 24, 3) := by decide +kernel
theorem dF_commonDivisor_23 : decode cF_commonDivisor 23 = .ok (.lload 4, 2) := by decide +kernel
theorem dF_commonDivisor_25 : decode cF_commonDivisor 25 = .ok (.lload 6, 2) := by decide +kernel
theorem dF_commonDivisor_27 : decode cF_commonDivisor 27 = .ok (.lrem, 1) := by decide +kernel
theorem dF_commonDivisor_28 : decode cF_commonDivisor 28 = .ok (.lstore 9, 2) := by decide +kernel
theorem dF_commonDivisor_30 : decode cF_commonDivisor 30 = .ok (.lload 6, 2) := by decide +kernel
theorem dF_commonDivisor_32 : decode cF_commonDivisor 32 = .ok (.lstore 4, 2) := by decide +kernel
theorem dF_commonDivisor_34 : decode cF_commonDivisor 34 = .ok (.lload 9, 2) := by decide +kernel
theorem dF_commonDivisor_36 : decode cF_commonDivisor 36 = .ok (.lstore 6, 2) := by decide +kernel
theorem dF_commonDivisor_38 : decode cF_commonDivisor 38 = .ok (.iinc 8 1, 3) := by decide +kernel
theorem dF_commonDivisor_41 : decode cF_commonDivisor 41 = .ok (.goto (-32), 3) := by decide +kernel
theorem dF_commonDivisor_44 : decode cF_commonDivisor 44 = .ok (.lload 4, 2) := by decide +kernel
theorem dF_commonDivisor_46 : decode cF_commonDivisor 46 = .ok (.lreturn, 1) := by decide +kernel
theorem dF_lowest_0 : decode cF_lowest 0 = .ok (.lload_n 0, 1) := by decide +kernel
theorem dF_lowest_1 : decode cF_lowest 1 = .ok (.lload_n 2, 1) := by decide +kernel
theorem dF_lowest_2 : decode cF_lowest 2 = .ok (.invokestatic 11, 3) := by decide +kernel
theorem dF_lowest_5 : decode cF_lowest 5 = .ok (.lstore 5, 2) := by decide +kernel
theorem dF_lowest_7 : decode cF_lowest 7 = .ok (.lload 5, 2) := by decide +kernel
theorem dF_lowest_9 : decode cF_lowest 9 = .ok (.lconst 1, 1) := by decide +kernel
theorem dF_lowest_10 : decode cF_lowest 10 = .ok (.lcmp, 1) := by decide +kernel
theorem dF_lowest_11 : decode cF_lowest 11 = .ok (.ifCond .ge 7, 3) := by decide +kernel
theorem dF_lowest_14 : decode cF_lowest 14 = .ok (.ldc2_w 15, 3) := by decide +kernel
theorem dF_lowest_17 : decode cF_lowest 17 = .ok (.lreturn, 1) := by decide +kernel
theorem dF_lowest_18 : decode cF_lowest 18 = .ok (.iload 4, 2) := by decide +kernel
theorem dF_lowest_20 : decode cF_lowest 20 = .ok (.ifCond .ne 7, 3) := by decide +kernel
theorem dF_lowest_23 : decode cF_lowest 23 = .ok (.lload_n 0, 1) := by decide +kernel
theorem dF_lowest_24 : decode cF_lowest 24 = .ok (.goto 4, 3) := by decide +kernel
theorem dF_lowest_27 : decode cF_lowest 27 = .ok (.lload_n 2, 1) := by decide +kernel
theorem dF_lowest_28 : decode cF_lowest 28 = .ok (.lload 5, 2) := by decide +kernel
theorem dF_lowest_30 : decode cF_lowest 30 = .ok (.ldiv, 1) := by decide +kernel
theorem dF_lowest_31 : decode cF_lowest 31 = .ok (.lreturn, 1) := by decide +kernel
theorem dP_has_0 : decode cP_has 0 = .ok (.iload_n 1, 1) := by decide +kernel
theorem dP_has_1 : decode cP_has 1 = .ok (.ifCond .lt 15, 3) := by decide +kernel
theorem dP_has_4 : decode cP_has 4 = .ok (.iload_n 1, 1) := by decide +kernel
theorem dP_has_5 : decode cP_has 5 = .ok (.aload_n 0, 1) := by decide +kernel
theorem dP_has_6 : decode cP_has 6 = .ok (.getfield 41, 3) := by decide +kernel
theorem dP_has_9 : decode cP_has 9 = .ok (.if_icmp .ge 7, 3) := by decide +kernel
theorem dP_has_12 : decode cP_has 12 = .ok (.iconst 1, 1) := by decide +kernel
theorem dP_has_13 : decode cP_has 13 = .ok (.goto 4, 3) := by decide +kernel
theorem dP_has_16 : decode cP_has 16 = .ok (.iconst 0, 1) := by decide +kernel
theorem dP_has_17 : decode cP_has 17 = .ok (.ireturn, 1) := by decide +kernel
theorem dP_bitOf_0 : decode cP_bitOf 0 = .ok (.iconst 1, 1) := by decide +kernel
theorem dP_bitOf_1 : decode cP_bitOf 1 = .ok (.iload_n 0, 1) := by decide +kernel
theorem dP_bitOf_2 : decode cP_bitOf 2 = .ok (.ishl, 1) := by decide +kernel
theorem dP_bitOf_3 : decode cP_bitOf 3 = .ok (.ireturn, 1) := by decide +kernel
theorem dP_motherOf_0 : decode cP_motherOf 0 = .ok (.aload_n 0, 1) := by decide +kernel
theorem dP_motherOf_1 : decode cP_motherOf 1 = .ok (.iload_n 1, 1) := by decide +kernel
theorem dP_motherOf_2 : decode cP_motherOf 2 = .ok (.invokevirtual 53, 3) := by decide +kernel
theorem dP_motherOf_5 : decode cP_motherOf 5 = .ok (.ifCond .eq 12, 3) := by decide +kernel
theorem dP_motherOf_8 : decode cP_motherOf 8 = .ok (.aload_n 0, 1) := by decide +kernel
theorem dP_motherOf_9 : decode cP_motherOf 9 = .ok (.getfield 9, 3) := by decide +kernel
theorem dP_motherOf_12 : decode cP_motherOf 12 = .ok (.iload_n 1, 1) := by decide +kernel
theorem dP_motherOf_13 : decode cP_motherOf 13 = .ok (.iaload, 1) := by decide +kernel
theorem dP_motherOf_14 : decode cP_motherOf 14 = .ok (.goto 4, 3) := by decide +kernel
theorem dP_motherOf_17 : decode cP_motherOf 17 = .ok (.iconst (-1), 1) := by decide +kernel
theorem dP_motherOf_18 : decode cP_motherOf 18 = .ok (.ireturn, 1) := by decide +kernel
theorem dP_fatherOf_0 : decode cP_fatherOf 0 = .ok (.aload_n 0, 1) := by decide +kernel
theorem dP_fatherOf_1 : decode cP_fatherOf 1 = .ok (.iload_n 1, 1) := by decide +kernel
theorem dP_fatherOf_2 : decode cP_fatherOf 2 = .ok (.invokevirtual 53, 3) := by decide +kernel
theorem dP_fatherOf_5 : decode cP_fatherOf 5 = .ok (.ifCond .eq 12, 3) := by decide +kernel
theorem dP_fatherOf_8 : decode cP_fatherOf 8 = .ok (.aload_n 0, 1) := by decide +kernel
theorem dP_fatherOf_9 : decode cP_fatherOf 9 = .ok (.getfield 15, 3) := by decide +kernel
theorem dP_fatherOf_12 : decode cP_fatherOf 12 = .ok (.iload_n 1, 1) := by decide +kernel
theorem dP_fatherOf_13 : decode cP_fatherOf 13 = .ok (.iaload, 1) := by decide +kernel
theorem dP_fatherOf_14 : decode cP_fatherOf 14 = .ok (.goto 4, 3) := by decide +kernel
theorem dP_fatherOf_17 : decode cP_fatherOf 17 = .ok (.iconst (-1), 1) := by decide +kernel
theorem dP_fatherOf_18 : decode cP_fatherOf 18 = .ok (.ireturn, 1) := by decide +kernel
theorem dP_stepsOf_0 : decode cP_stepsOf 0 = .ok (.aload_n 0, 1) := by decide +kernel
theorem dP_stepsOf_1 : decode cP_stepsOf 1 = .ok (.iload_n 1, 1) := by decide +kernel
theorem dP_stepsOf_2 : decode cP_stepsOf 2 = .ok (.invokevirtual 53, 3) := by decide +kernel
theorem dP_stepsOf_5 : decode cP_stepsOf 5 = .ok (.ifCond .eq 12, 3) := by decide +kernel
theorem dP_stepsOf_8 : decode cP_stepsOf 8 = .ok (.aload_n 0, 1) := by decide +kernel
theorem dP_stepsOf_9 : decode cP_stepsOf 9 = .ok (.getfield 18, 3) := by decide +kernel
theorem dP_stepsOf_12 : decode cP_stepsOf 12 = .ok (.iload_n 1, 1) := by decide +kernel
theorem dP_stepsOf_13 : decode cP_stepsOf 13 = .ok (.iaload, 1) := by decide +kernel
theorem dP_stepsOf_14 : decode cP_stepsOf 14 = .ok (.goto 4, 3) := by decide +kernel
theorem dP_stepsOf_17 : decode cP_stepsOf 17 = .ok (.iconst (-1), 1) := by decide +kernel
theorem dP_stepsOf_18 : decode cP_stepsOf 18 = .ok (.ireturn, 1) := by decide +kernel
theorem dP_inOrder_0 : decode cP_inOrder 0 = .ok (.aload_n 0, 1) := by decide +kernel
theorem dP_inOrder_1 : decode cP_inOrder 1 = .ok (.iload_n 1, 1) := by decide +kernel
theorem dP_inOrder_2 : decode cP_inOrder 2 = .ok (.invokevirtual 53, 3) := by decide +kernel
theorem dP_inOrder_5 : decode cP_inOrder 5 = .ok (.ifCond .eq 12, 3) := by decide +kernel
theorem dP_inOrder_8 : decode cP_inOrder 8 = .ok (.aload_n 0, 1) := by decide +kernel
theorem dP_inOrder_9 : decode cP_inOrder 9 = .ok (.getfield 21, 3) := by decide +kernel
theorem dP_inOrder_12 : decode cP_inOrder 12 = .ok (.iload_n 1, 1) := by decide +kernel
theorem dP_inOrder_13 : decode cP_inOrder 13 = .ok (.iaload, 1) := by decide +kernel
theorem dP_inOrder_14 : decode cP_inOrder 14 = .ok (.goto 4, 3) := by decide +kernel
theorem dP_inOrder_17 : decode cP_inOrder 17 = .ok (.iconst (-1), 1) := by decide +kernel
theorem dP_inOrder_18 : decode cP_inOrder 18 = .ok (.ireturn, 1) := by decide +kernel
theorem dP_isFounder_0 : decode cP_isFounder 0 = .ok (.aload_n 0, 1) := by decide +kernel
theorem dP_isFounder_1 : decode cP_isFounder 1 = .ok (.iload_n 1, 1) := by decide +kernel
theorem dP_isFounder_2 : decode cP_isFounder 2 = .ok (.invokevirtual 53, 3) := by decide +kernel
theorem dP_isFounder_5 : decode cP_isFounder 5 = .ok (.ifCond .eq 27, 3) := by decide +kernel
theorem dP_isFounder_8 : decode cP_isFounder 8 = .ok (.aload_n 0, 1) := by decide +kernel
theorem dP_isFounder_9 : decode cP_isFounder 9 = .ok (.getfield 9, 3) := by decide +kernel
theorem dP_isFounder_12 : decode cP_isFounder 12 = .ok (.iload_n 1, 1) := by decide +kernel
theorem dP_isFounder_13 : decode cP_isFounder 13 = .ok (.iaload, 1) := by decide +kernel
theorem dP_isFounder_14 : decode cP_isFounder 14 = .ok (.iconst (-1), 1) := by decide +kernel
theorem dP_isFounder_15 : decode cP_isFounder 15 = .ok (.if_icmp .ne 17, 3) := by decide +kernel
theorem dP_isFounder_18 : decode cP_isFounder 18 = .ok (.aload_n 0, 1) := by decide +kernel
theorem dP_isFounder_19 : decode cP_isFounder 19 = .ok (.getfield 15, 3) := by decide +kernel
theorem dP_isFounder_22 : decode cP_isFounder 22 = .ok (.iload_n 1, 1) := by decide +kernel
theorem dP_isFounder_23 : decode cP_isFounder 23 = .ok (.iaload, 1) := by decide +kernel
theorem dP_isFounder_24 : decode cP_isFounder 24 = .ok (.iconst (-1), 1) := by decide +kernel
theorem dP_isFounder_25 : decode cP_isFounder 25 = .ok (.if_icmp .ne 7, 3) := by decide +kernel
theorem dP_isFounder_28 : decode cP_isFounder 28 = .ok (.iconst 1, 1) := by decide +kernel
theorem dP_isFounder_29 : decode cP_isFounder 29 = .ok (.goto 4, 3) := by decide +kernel
theorem dP_isFounder_32 : decode cP_isFounder 32 = .ok (.iconst 0, 1) := by decide +kernel
theorem dP_isFounder_33 : decode cP_isFounder 33 = .ok (.ireturn, 1) := by decide +kernel
theorem dP_hasForbear_0 : decode cP_hasForbear 0 = .ok (.aload_n 0, 1) := by decide +kernel
theorem dP_hasForbear_1 : decode cP_hasForbear 1 = .ok (.iload_n 1, 1) := by decide +kernel
theorem dP_hasForbear_2 : decode cP_hasForbear 2 = .ok (.invokevirtual 53, 3) := by decide +kernel
theorem dP_hasForbear_5 : decode cP_hasForbear 5 = .ok (.ifCond .eq 29, 3) := by decide +kernel
theorem dP_hasForbear_8 : decode cP_hasForbear 8 = .ok (.aload_n 0, 1) := by decide +kernel
theorem dP_hasForbear_9 : decode cP_hasForbear 9 = .ok (.iload_n 2, 1) := by decide +kernel
theorem dP_hasForbear_10 : decode cP_hasForbear 10 = .ok (.invokevirtual 53, 3) := by decide +kernel
theorem dP_hasForbear_13 : decode cP_hasForbear 13 = .ok (.ifCond .eq 21, 3) := by decide +kernel
theorem dP_hasForbear_16 : decode cP_hasForbear 16 = .ok (.aload_n 0, 1) := by decide +kernel
theorem dP_hasForbear_17 : decode cP_hasForbear 17 = .ok (.getfield 24, 3) := by decide +kernel
theorem dP_hasForbear_20 : decode cP_hasForbear 20 = .ok (.iload_n 1, 1) := by decide +kernel
theorem dP_hasForbear_21 : decode cP_hasForbear 21 = .ok (.iaload, 1) := by decide +kernel
theorem dP_hasForbear_22 : decode cP_hasForbear 22 = .ok (.iload_n 2, 1) := by decide +kernel
theorem dP_hasForbear_23 : decode cP_hasForbear 23 = .ok (.invokestatic 57, 3) := by decide +kernel
theorem dP_hasForbear_26 : decode cP_hasForbear 26 = .ok (.iand, 1) := by decide +kernel
theorem dP_hasForbear_27 : decode cP_hasForbear 27 = .ok (.ifCond .eq 7, 3) := by decide +kernel
theorem dP_hasForbear_30 : decode cP_hasForbear 30 = .ok (.iconst 1, 1) := by decide +kernel
theorem dP_hasForbear_31 : decode cP_hasForbear 31 = .ok (.goto 4, 3) := by decide +kernel
theorem dP_hasForbear_34 : decode cP_hasForbear 34 = .ok (.iconst 0, 1) := by decide +kernel
theorem dP_hasForbear_35 : decode cP_hasForbear 35 = .ok (.ireturn, 1) := by decide +kernel
theorem dP_kinOf_0 : decode cP_kinOf 0 = .ok (.aload_n 0, 1) := by decide +kernel
theorem dP_kinOf_1 : decode cP_kinOf 1 = .ok (.iload_n 1, 1) := by decide +kernel
theorem dP_kinOf_2 : decode cP_kinOf 2 = .ok (.invokevirtual 53, 3) := by decide +kernel
theorem dP_kinOf_5 : decode cP_kinOf 5 = .ok (.ifCond .eq 25, 3) := by decide +kernel
theorem dP_kinOf_8 : decode cP_kinOf 8 = .ok (.aload_n 0, 1) := by decide +kernel
theorem dP_kinOf_9 : decode cP_kinOf 9 = .ok (.iload_n 2, 1) := by decide +kernel
theorem dP_kinOf_10 : decode cP_kinOf 10 = .ok (.invokevirtual 53, 3) := by decide +kernel
theorem dP_kinOf_13 : decode cP_kinOf 13 = .ok (.ifCond .eq 17, 3) := by decide +kernel
theorem dP_kinOf_16 : decode cP_kinOf 16 = .ok (.aload_n 0, 1) := by decide +kernel
theorem dP_kinOf_17 : decode cP_kinOf 17 = .ok (.getfield 27, 3) := by decide +kernel
theorem dP_kinOf_20 : decode cP_kinOf 20 = .ok (.iload_n 1, 1) := by decide +kernel
theorem dP_kinOf_21 : decode cP_kinOf 21 = .ok (.bipush 24, 2) := by decide +kernel
theorem dP_kinOf_23 : decode cP_kinOf 23 = .ok (.imul, 1) := by decide +kernel
theorem dP_kinOf_24 : decode cP_kinOf 24 = .ok (.iload_n 2, 1) := by decide +kernel
theorem dP_kinOf_25 : decode cP_kinOf 25 = .ok (.iadd, 1) := by decide +kernel
theorem dP_kinOf_26 : decode cP_kinOf 26 = .ok (.laload, 1) := by decide +kernel
theorem dP_kinOf_27 : decode cP_kinOf 27 = .ok (.goto 4, 3) := by decide +kernel
theorem dP_kinOf_30 : decode cP_kinOf 30 = .ok (.lconst 0, 1) := by decide +kernel
theorem dP_kinOf_31 : decode cP_kinOf 31 = .ok (.lreturn, 1) := by decide +kernel
theorem dP_inbreedingOf_0 : decode cP_inbreedingOf 0 = .ok (.aload_n 0, 1) := by decide +kernel
theorem dP_inbreedingOf_1 : decode cP_inbreedingOf 1 = .ok (.aload_n 0, 1) := by decide +kernel
theorem dP_inbreedingOf_2 : decode cP_inbreedingOf 2 = .ok (.iload_n 1, 1) := by decide +kernel
theorem dP_inbreedingOf_3 : decode cP_inbreedingOf 3 = .ok (.invokevirtual 61, 3) := by decide +kernel
theorem dP_inbreedingOf_6 : decode cP_inbreedingOf 6 = .ok (.aload_n 0, 1) := by decide +kernel
theorem dP_inbreedingOf_7 : decode cP_inbreedingOf 7 = .ok (.iload_n 1, 1) := by decide +kernel
theorem dP_inbreedingOf_8 : decode cP_inbreedingOf 8 = .ok (.invokevirtual 64, 3) := by decide +kernel
theorem dP_inbreedingOf_11 : decode cP_inbreedingOf 11 = .ok (.invokevirtual 67, 3) := by decide +kernel
theorem dP_inbreedingOf_14 : decode cP_inbreedingOf 14 = .ok (.lreturn, 1) := by decide +kernel
theorem dP_settledBy_0 : decode cP_settledBy 0 = .ok (.aload_n 0, 1) := by decide +kernel
theorem dP_settledBy_1 : decode cP_settledBy 1 = .ok (.iload_n 1, 1) := by decide +kernel
theorem dP_settledBy_2 : decode cP_settledBy 2 = .ok (.invokevirtual 53, 3) := by decide +kernel
theorem dP_settledBy_5 : decode cP_settledBy 5 = .ok (.ifCond .eq 19, 3) := by decide +kernel
theorem dP_settledBy_8 : decode cP_settledBy 8 = .ok (.ldc2_w 73, 3) := by decide +kernel
theorem dP_settledBy_11 : decode cP_settledBy 11 = .ok (.aload_n 0, 1) := by decide +kernel
theorem dP_settledBy_12 : decode cP_settledBy 12 = .ok (.iload_n 1, 1) := by decide +kernel
theorem dP_settledBy_13 : decode cP_settledBy 13 = .ok (.invokevirtual 94, 3) := by decide +kernel
theorem dP_settledBy_16 : decode cP_settledBy 16 = .ok (.ladd, 1) := by decide +kernel
theorem dP_settledBy_17 : decode cP_settledBy 17 = .ok (.ldc2_w 97, 3) := by decide +kernel
theorem dP_settledBy_20 : decode cP_settledBy 20 = .ok (.ldiv, 1) := by decide +kernel
theorem dP_settledBy_21 : decode cP_settledBy 21 = .ok (.goto 4, 3) := by decide +kernel
theorem dP_settledBy_24 : decode cP_settledBy 24 = .ok (.lconst 0, 1) := by decide +kernel
theorem dP_settledBy_25 : decode cP_settledBy 25 = .ok (.lreturn, 1) := by decide +kernel
theorem dP_chanceOf_0 : decode cP_chanceOf 0 = .ok (.ldc2_w 73, 3) := by decide +kernel
theorem dP_chanceOf_3 : decode cP_chanceOf 3 = .ok (.aload_n 0, 1) := by decide +kernel
theorem dP_chanceOf_4 : decode cP_chanceOf 4 = .ok (.aload_n 0, 1) := by decide +kernel
theorem dP_chanceOf_5 : decode cP_chanceOf 5 = .ok (.iload_n 1, 1) := by decide +kernel
theorem dP_chanceOf_6 : decode cP_chanceOf 6 = .ok (.invokevirtual 61, 3) := by decide +kernel
theorem dP_chanceOf_9 : decode cP_chanceOf 9 = .ok (.invokevirtual 75, 3) := by decide +kernel
theorem dP_chanceOf_12 : decode cP_chanceOf 12 = .ok (.lsub, 1) := by decide +kernel
theorem dP_chanceOf_13 : decode cP_chanceOf 13 = .ok (.aload_n 0, 1) := by decide +kernel
theorem dP_chanceOf_14 : decode cP_chanceOf 14 = .ok (.aload_n 0, 1) := by decide +kernel
theorem dP_chanceOf_15 : decode cP_chanceOf 15 = .ok (.iload_n 1, 1) := by decide +kernel
theorem dP_chanceOf_16 : decode cP_chanceOf 16 = .ok (.invokevirtual 64, 3) := by decide +kernel
theorem dP_chanceOf_19 : decode cP_chanceOf 19 = .ok (.invokevirtual 75, 3) := by decide +kernel
theorem dP_chanceOf_22 : decode cP_chanceOf 22 = .ok (.lsub, 1) := by decide +kernel
theorem dP_chanceOf_23 : decode cP_chanceOf 23 = .ok (.lreturn, 1) := by decide +kernel
theorem dP_shareRow_0 : decode cP_shareRow 0 = .ok (.aload_n 0, 1) := by decide +kernel
theorem dP_shareRow_1 : decode cP_shareRow 1 = .ok (.iload_n 1, 1) := by decide +kernel
theorem dP_shareRow_2 : decode cP_shareRow 2 = .ok (.invokevirtual 53, 3) := by decide +kernel
theorem dP_shareRow_5 : decode cP_shareRow 5 = .ok (.ifCond .eq 12, 3) := by decide +kernel
theorem dP_shareRow_8 : decode cP_shareRow 8 = .ok (.aload_n 0, 1) := by decide +kernel
theorem dP_shareRow_9 : decode cP_shareRow 9 = .ok (.getfield 31, 3) := by decide +kernel
theorem dP_shareRow_12 : decode cP_shareRow 12 = .ok (.iload_n 1, 1) := by decide +kernel
theorem dP_shareRow_13 : decode cP_shareRow 13 = .ok (.laload, 1) := by decide +kernel
theorem dP_shareRow_14 : decode cP_shareRow 14 = .ok (.goto 4, 3) := by decide +kernel
theorem dP_shareRow_17 : decode cP_shareRow 17 = .ok (.lconst 0, 1) := by decide +kernel
theorem dP_shareRow_18 : decode cP_shareRow 18 = .ok (.lreturn, 1) := by decide +kernel
theorem dP_leadsTo_0 : decode cP_leadsTo 0 = .ok (.iload_n 1, 1) := by decide +kernel
theorem dP_leadsTo_1 : decode cP_leadsTo 1 = .ok (.iload_n 2, 1) := by decide +kernel
theorem dP_leadsTo_2 : decode cP_leadsTo 2 = .ok (.if_icmp .eq 12, 3) := by decide +kernel
theorem dP_leadsTo_5 : decode cP_leadsTo 5 = .ok (.aload_n 0, 1) := by decide +kernel
theorem dP_leadsTo_6 : decode cP_leadsTo 6 = .ok (.iload_n 1, 1) := by decide +kernel
theorem dP_leadsTo_7 : decode cP_leadsTo 7 = .ok (.iload_n 2, 1) := by decide +kernel
theorem dP_leadsTo_8 : decode cP_leadsTo 8 = .ok (.invokevirtual 91, 3) := by decide +kernel
theorem dP_leadsTo_11 : decode cP_leadsTo 11 = .ok (.ifCond .eq 7, 3) := by decide +kernel
theorem dP_leadsTo_14 : decode cP_leadsTo 14 = .ok (.iconst 1, 1) := by decide +kernel
theorem dP_leadsTo_15 : decode cP_leadsTo 15 = .ok (.goto 4, 3) := by decide +kernel
theorem dP_leadsTo_18 : decode cP_leadsTo 18 = .ok (.iconst 0, 1) := by decide +kernel
theorem dP_leadsTo_19 : decode cP_leadsTo 19 = .ok (.ireturn, 1) := by decide +kernel
theorem dP_wouldClose_0 : decode cP_wouldClose 0 = .ok (.aload_n 0, 1) := by decide +kernel
theorem dP_wouldClose_1 : decode cP_wouldClose 1 = .ok (.iload_n 2, 1) := by decide +kernel
theorem dP_wouldClose_2 : decode cP_wouldClose 2 = .ok (.iload_n 1, 1) := by decide +kernel
theorem dP_wouldClose_3 : decode cP_wouldClose 3 = .ok (.invokevirtual 87, 3) := by decide +kernel
theorem dP_wouldClose_6 : decode cP_wouldClose 6 = .ok (.ifCond .ne 12, 3) := by decide +kernel
theorem dP_wouldClose_9 : decode cP_wouldClose 9 = .ok (.aload_n 0, 1) := by decide +kernel
theorem dP_wouldClose_10 : decode cP_wouldClose 10 = .ok (.iload_n 3, 1) := by decide +kernel
theorem dP_wouldClose_11 : decode cP_wouldClose 11 = .ok (.iload_n 1, 1) := by decide +kernel
theorem dP_wouldClose_12 : decode cP_wouldClose 12 = .ok (.invokevirtual 87, 3) := by decide +kernel
theorem dP_wouldClose_15 : decode cP_wouldClose 15 = .ok (.ifCond .eq 7, 3) := by decide +kernel
theorem dP_wouldClose_18 : decode cP_wouldClose 18 = .ok (.iconst 1, 1) := by decide +kernel
theorem dP_wouldClose_19 : decode cP_wouldClose 19 = .ok (.goto 4, 3) := by decide +kernel
theorem dP_wouldClose_22 : decode cP_wouldClose 22 = .ok (.iconst 0, 1) := by decide +kernel
theorem dP_wouldClose_23 : decode cP_wouldClose 23 = .ok (.ireturn, 1) := by decide +kernel
theorem dP_ringAt_0 : decode cP_ringAt 0 = .ok (.iload_n 1, 1) := by decide +kernel
theorem dP_ringAt_1 : decode cP_ringAt 1 = .ok (.ifCond .lt 29, 3) := by decide +kernel
theorem dP_ringAt_4 : decode cP_ringAt 4 = .ok (.iload_n 1, 1) := by decide +kernel
theorem dP_ringAt_5 : decode cP_ringAt 5 = .ok (.aload_n 0, 1) := by decide +kernel
theorem dP_ringAt_6 : decode cP_ringAt 6 = .ok (.getfield 37, 3) := by decide +kernel
theorem dP_ringAt_9 : decode cP_ringAt 9 = .ok (.if_icmp .ge 21, 3) := by decide +kernel
theorem dP_ringAt_12 : decode cP_ringAt 12 = .ok (.iload_n 1, 1) := by decide +kernel
theorem dP_ringAt_13 : decode cP_ringAt 13 = .ok (.aload_n 0, 1) := by decide +kernel
theorem dP_ringAt_14 : decode cP_ringAt 14 = .ok (.getfield 34, 3) := by decide +kernel
theorem dP_ringAt_17 : decode cP_ringAt 17 = .ok (.arraylength, 1) := by decide +kernel
theorem dP_ringAt_18 : decode cP_ringAt 18 = .ok (.if_icmp .ge 12, 3) := by decide +kernel
theorem dP_ringAt_21 : decode cP_ringAt 21 = .ok (.aload_n 0, 1) := by decide +kernel
theorem dP_ringAt_22 : decode cP_ringAt 22 = .ok (.getfield 34, 3) := by decide +kernel
theorem dP_ringAt_25 : decode cP_ringAt 25 = .ok (.iload_n 1, 1) := by decide +kernel
theorem dP_ringAt_26 : decode cP_ringAt 26 = .ok (.iaload, 1) := by decide +kernel
theorem dP_ringAt_27 : decode cP_ringAt 27 = .ok (.goto 4, 3) := by decide +kernel
theorem dP_ringAt_30 : decode cP_ringAt 30 = .ok (.iconst (-1), 1) := by decide +kernel
theorem dP_ringAt_31 : decode cP_ringAt 31 = .ok (.ireturn, 1) := by decide +kernel
theorem dP_lineOf_0 : decode cP_lineOf 0 = .ok (.aload_n 0, 1) := by decide +kernel
theorem dP_lineOf_1 : decode cP_lineOf 1 = .ok (.iload_n 1, 1) := by decide +kernel
theorem dP_lineOf_2 : decode cP_lineOf 2 = .ok (.invokevirtual 53, 3) := by decide +kernel
theorem dP_lineOf_5 : decode cP_lineOf 5 = .ok (.ifCond .eq 17, 3) := by decide +kernel
theorem dP_lineOf_8 : decode cP_lineOf 8 = .ok (.iload_n 1, 1) := by decide +kernel
theorem dP_lineOf_9 : decode cP_lineOf 9 = .ok (.invokestatic 57, 3) := by decide +kernel
theorem dP_lineOf_12 : decode cP_lineOf 12 = .ok (.aload_n 0, 1) := by decide +kernel
theorem dP_lineOf_13 : decode cP_lineOf 13 = .ok (.getfield 24, 3) := by decide +kernel
theorem dP_lineOf_16 : decode cP_lineOf 16 = .ok (.iload_n 1, 1) := by decide +kernel
theorem dP_lineOf_17 : decode cP_lineOf 17 = .ok (.iaload, 1) := by decide +kernel
theorem dP_lineOf_18 : decode cP_lineOf 18 = .ok (.ior, 1) := by decide +kernel
theorem dP_lineOf_19 : decode cP_lineOf 19 = .ok (.goto 4, 3) := by decide +kernel
theorem dP_lineOf_22 : decode cP_lineOf 22 = .ok (.iconst 0, 1) := by decide +kernel
theorem dP_lineOf_23 : decode cP_lineOf 23 = .ok (.ireturn, 1) := by decide +kernel
theorem dP_forgetRing_0 : decode cP_forgetRing 0 = .ok (.aload_n 0, 1) := by decide +kernel
theorem dP_forgetRing_1 : decode cP_forgetRing 1 = .ok (.iconst 0, 1) := by decide +kernel
theorem dP_forgetRing_2 : decode cP_forgetRing 2 = .ok (.putfield 37, 3) := by decide +kernel
theorem dP_forgetRing_5 : decode cP_forgetRing 5 = .ok (.return_, 1) := by decide +kernel
theorem dP_shareOf_0 : decode cP_shareOf 0 = .ok (.iconst 0, 1) := by decide +kernel
theorem dP_shareOf_1 : decode cP_shareOf 1 = .ok (.istore_n 3, 1) := by decide +kernel
theorem dP_shareOf_2 : decode cP_shareOf 2 = .ok (.iload_n 3, 1) := by decide +kernel
theorem dP_shareOf_3 : decode cP_shareOf 3 = .ok (.aload_n 0, 1) := by decide +kernel
theorem dP_shareOf_4 : decode cP_shareOf 4 = .ok (.getfield 41, 3) := by decide +kernel
theorem dP_shareOf_7 : decode cP_shareOf 7 = .ok (.if_icmp .ge 69, 3) := by decide +kernel
theorem dP_shareOf_10 : decode cP_shareOf 10 = .ok (.aload_n 0, 1) := by decide +kernel
theorem dP_shareOf_11 : decode cP_shareOf 11 = .ok (.iload_n 3, 1) := by decide +kernel
theorem dP_shareOf_12 : decode cP_shareOf 12 = .ok (.invokevirtual 79, 3) := by decide +kernel
theorem dP_shareOf_15 : decode cP_shareOf 15 = .ok (.istore 4, 2) := by decide +kernel
theorem dP_shareOf_17 : decode cP_shareOf 17 = .ok (.aload_n 0, 1) := by decide +kernel
theorem dP_shareOf_18 : decode cP_shareOf 18 = .ok (.iload 4, 2) := by decide +kernel
theorem dP_shareOf_20 : decode cP_shareOf 20 = .ok (.invokevirtual 53, 3) := by decide +kernel
theorem dP_shareOf_23 : decode cP_shareOf 23 = .ok (.ifCond .eq 47, 3) := by decide +kernel
theorem dP_shareOf_26 : decode cP_shareOf 26 = .ok (.aload_n 0, 1) := by decide +kernel
theorem dP_shareOf_27 : decode cP_shareOf 27 = .ok (.getfield 31, 3) := by decide +kernel
theorem dP_shareOf_30 : decode cP_shareOf 30 = .ok (.iload 4, 2) := by decide +kernel
theorem dP_shareOf_32 : decode cP_shareOf 32 = .ok (.iload 4, 2) := by decide +kernel
theorem dP_shareOf_34 : decode cP_shareOf 34 = .ok (.iload_n 2, 1) := by decide +kernel
theorem dP_shareOf_35 : decode cP_shareOf 35 = .ok (.if_icmp .ne 9, 3) := by decide +kernel
theorem dP_shareOf_38 : decode cP_shareOf 38 = .ok (.ldc2_w 73, 3) := by decide +kernel
theorem dP_shareOf_41 : decode cP_shareOf 41 = .ok (.goto 28, 3) := by decide +kernel
theorem dP_shareOf_44 : decode cP_shareOf 44 = .ok (.aload_n 0, 1) := by decide +kernel
theorem dP_shareOf_45 : decode cP_shareOf 45 = .ok (.aload_n 0, 1) := by decide +kernel
theorem dP_shareOf_46 : decode cP_shareOf 46 = .ok (.iload 4, 2) := by decide +kernel
theorem dP_shareOf_48 : decode cP_shareOf 48 = .ok (.invokevirtual 61, 3) := by decide +kernel
theorem dP_shareOf_51 : decode cP_shareOf 51 = .ok (.invokevirtual 82, 3) := by decide +kernel
theorem dP_shareOf_54 : decode cP_shareOf 54 = .ok (.aload_n 0, 1) := by decide +kernel
theorem dP_shareOf_55 : decode cP_shareOf 55 = .ok (.aload_n 0, 1) := by decide +kernel
theorem dP_shareOf_56 : decode cP_shareOf 56 = .ok (.iload 4, 2) := by decide +kernel
theorem dP_shareOf_58 : decode cP_shareOf 58 = .ok (.invokevirtual 64, 3) := by decide +kernel
theorem dP_shareOf_61 : decode cP_shareOf 61 = .ok (.invokevirtual 82, 3) := by decide +kernel
theorem dP_shareOf_64 : decode cP_shareOf 64 = .ok (.ladd, 1) := by decide +kernel
theorem dP_shareOf_65 : decode cP_shareOf 65 = .ok (.ldc2_w 85, 3) := by decide +kernel
theorem dP_shareOf_68 : decode cP_shareOf 68 = .ok (.ldiv, 1) := by decide +kernel
theorem dP_shareOf_69 : decode cP_shareOf 69 = .ok (.lastore, 1) := by decide +kernel
theorem dP_shareOf_70 : decode cP_shareOf 70 = .ok (.iinc 3 1, 3) := by decide +kernel
theorem dP_shareOf_73 : decode cP_shareOf 73 = .ok (.goto (-71), 3) := by decide +kernel
theorem dP_shareOf_76 : decode cP_shareOf 76 = .ok (.aload_n 0, 1) := by decide +kernel
theorem dP_shareOf_77 : decode cP_shareOf 77 = .ok (.iload_n 1, 1) := by decide +kernel
theorem dP_shareOf_78 : decode cP_shareOf 78 = .ok (.invokevirtual 82, 3) := by decide +kernel
theorem dP_shareOf_81 : decode cP_shareOf 81 = .ok (.lreturn, 1) := by decide +kernel
theorem dP_keepRing_0 : decode cP_keepRing 0 = .ok (.aload_n 0, 1) := by decide +kernel
theorem dP_keepRing_1 : decode cP_keepRing 1 = .ok (.getfield 34, 3) := by decide +kernel
theorem dP_keepRing_4 : decode cP_keepRing 4 = .ok (.iconst 0, 1) := by decide +kernel
theorem dP_keepRing_5 : decode cP_keepRing 5 = .ok (.iload_n 1, 1) := by decide +kernel
theorem dP_keepRing_6 : decode cP_keepRing 6 = .ok (.iastore, 1) := by decide +kernel
theorem dP_keepRing_7 : decode cP_keepRing 7 = .ok (.aload_n 0, 1) := by decide +kernel
theorem dP_keepRing_8 : decode cP_keepRing 8 = .ok (.iconst 1, 1) := by decide +kernel
theorem dP_keepRing_9 : decode cP_keepRing 9 = .ok (.putfield 37, 3) := by decide +kernel
theorem dP_keepRing_12 : decode cP_keepRing 12 = .ok (.aload_n 0, 1) := by decide +kernel
theorem dP_keepRing_13 : decode cP_keepRing 13 = .ok (.iload_n 2, 1) := by decide +kernel
theorem dP_keepRing_14 : decode cP_keepRing 14 = .ok (.iload_n 1, 1) := by decide +kernel
theorem dP_keepRing_15 : decode cP_keepRing 15 = .ok (.invokevirtual 87, 3) := by decide +kernel
theorem dP_keepRing_18 : decode cP_keepRing 18 = .ok (.ifCond .eq 7, 3) := by decide +kernel
theorem dP_keepRing_21 : decode cP_keepRing 21 = .ok (.iload_n 2, 1) := by decide +kernel
theorem dP_keepRing_22 : decode cP_keepRing 22 = .ok (.goto 4, 3) := by decide +kernel
theorem dP_keepRing_25 : decode cP_keepRing 25 = .ok (.iload_n 3, 1) := by decide +kernel
theorem dP_keepRing_26 : decode cP_keepRing 26 = .ok (.istore 4, 2) := by decide +kernel
theorem dP_keepRing_28 : decode cP_keepRing 28 = .ok (.iconst 1, 1) := by decide +kernel
theorem dP_keepRing_29 : decode cP_keepRing 29 = .ok (.istore 5, 2) := by decide +kernel
theorem dP_keepRing_31 : decode cP_keepRing 31 = .ok (.iload 5, 2) := by decide +kernel
theorem dP_keepRing_33 : decode cP_keepRing 33 = .ok (.aload_n 0, 1) := by decide +kernel
theorem dP_keepRing_34 : decode cP_keepRing 34 = .ok (.getfield 34, 3) := by decide +kernel
theorem dP_keepRing_37 : decode cP_keepRing 37 = .ok (.arraylength, 1) := by decide +kernel
theorem dP_keepRing_38 : decode cP_keepRing 38 = .ok (.if_icmp .ge 76, 3) := by decide +kernel
theorem dP_keepRing_41 : decode cP_keepRing 41 = .ok (.aload_n 0, 1) := by decide +kernel
theorem dP_keepRing_42 : decode cP_keepRing 42 = .ok (.iload 4, 2) := by decide +kernel
theorem dP_keepRing_44 : decode cP_keepRing 44 = .ok (.invokevirtual 53, 3) := by decide +kernel
theorem dP_keepRing_47 : decode cP_keepRing 47 = .ok (.ifCond .eq 67, 3) := by decide +kernel
theorem dP_keepRing_50 : decode cP_keepRing 50 = .ok (.aload_n 0, 1) := by decide +kernel
theorem dP_keepRing_51 : decode cP_keepRing 51 = .ok (.getfield 34, 3) := by decide +kernel
theorem dP_keepRing_54 : decode cP_keepRing 54 = .ok (.iload 5, 2) := by decide +kernel
theorem dP_keepRing_56 : decode cP_keepRing 56 = .ok (.iload 4, 2) := by decide +kernel
theorem dP_keepRing_58 : decode cP_keepRing 58 = .ok (.iastore, 1) := by decide +kernel
theorem dP_keepRing_59 : decode cP_keepRing 59 = .ok (.aload_n 0, 1) := by decide +kernel
theorem dP_keepRing_60 : decode cP_keepRing 60 = .ok (.iload 5, 2) := by decide +kernel
theorem dP_keepRing_62 : decode cP_keepRing 62 = .ok (.iconst 1, 1) := by decide +kernel
theorem dP_keepRing_63 : decode cP_keepRing 63 = .ok (.iadd, 1) := by decide +kernel
theorem dP_keepRing_64 : decode cP_keepRing 64 = .ok (.putfield 37, 3) := by decide +kernel
theorem dP_keepRing_67 : decode cP_keepRing 67 = .ok (.iload 4, 2) := by decide +kernel
theorem dP_keepRing_69 : decode cP_keepRing 69 = .ok (.iload_n 1, 1) := by decide +kernel
theorem dP_keepRing_70 : decode cP_keepRing 70 = .ok (.if_icmp .ne 4, 3) := by decide +kernel
theorem dP_keepRing_73 : decode cP_keepRing 73 = .ok (.return_, 1) := by decide +kernel
theorem dP_keepRing_74 : decode cP_keepRing 74 = .ok (.aload_n 0, 1) := by decide +kernel
theorem dP_keepRing_75 : decode cP_keepRing 75 = .ok (.aload_n 0, 1) := by decide +kernel
theorem dP_keepRing_76 : decode cP_keepRing 76 = .ok (.getfield 9, 3) := by decide +kernel
theorem dP_keepRing_79 : decode cP_keepRing 79 = .ok (.iload 4, 2) := by decide +kernel
theorem dP_keepRing_81 : decode cP_keepRing 81 = .ok (.iaload, 1) := by decide +kernel
theorem dP_keepRing_82 : decode cP_keepRing 82 = .ok (.iload_n 1, 1) := by decide +kernel
theorem dP_keepRing_83 : decode cP_keepRing 83 = .ok (.invokevirtual 87, 3) := by decide +kernel
theorem dP_keepRing_86 : decode cP_keepRing 86 = .ok (.ifCond .eq 13, 3) := by decide +kernel
theorem dP_keepRing_89 : decode cP_keepRing 89 = .ok (.aload_n 0, 1) := by decide +kernel
theorem dP_keepRing_90 : decode cP_keepRing 90 = .ok (.getfield 9, 3) := by decide +kernel
theorem dP_keepRing_93 : decode cP_keepRing 93 = .ok (.iload 4, 2) := by decide +kernel
theorem dP_keepRing_95 : decode cP_keepRing 95 = .ok (.iaload, 1) := by decide +kernel
theorem dP_keepRing_96 : decode cP_keepRing 96 = .ok (.goto 10, 3) := by decide +kernel
theorem dP_keepRing_99 : decode cP_keepRing 99 = .ok (.aload_n 0, 1) := by decide +kernel
theorem dP_keepRing_100 : decode cP_keepRing 100 = .ok (.getfield 15, 3) := by decide +kernel
theorem dP_keepRing_103 : decode cP_keepRing 103 = .ok (.iload 4, 2) := by decide +kernel
theorem dP_keepRing_105 : decode cP_keepRing 105 = .ok (.iaload, 1) := by decide +kernel
theorem dP_keepRing_106 : decode cP_keepRing 106 = .ok (.istore 4, 2) := by decide +kernel
theorem dP_keepRing_108 : decode cP_keepRing 108 = .ok (.iinc 5 1, 3) := by decide +kernel
theorem dP_keepRing_111 : decode cP_keepRing 111 = .ok (.goto (-80), 3) := by decide +kernel
theorem dP_keepRing_114 : decode cP_keepRing 114 = .ok (.return_, 1) := by decide +kernel
theorem dP_setKin_0 : decode cP_setKin 0 = .ok (.aload_n 0, 1) := by decide +kernel
theorem dP_setKin_1 : decode cP_setKin 1 = .ok (.iload_n 1, 1) := by decide +kernel
theorem dP_setKin_2 : decode cP_setKin 2 = .ok (.invokevirtual 53, 3) := by decide +kernel
theorem dP_setKin_5 : decode cP_setKin 5 = .ok (.ifCond .eq 35, 3) := by decide +kernel
theorem dP_setKin_8 : decode cP_setKin 8 = .ok (.aload_n 0, 1) := by decide +kernel
theorem dP_setKin_9 : decode cP_setKin 9 = .ok (.iload_n 2, 1) := by decide +kernel
theorem dP_setKin_10 : decode cP_setKin 10 = .ok (.invokevirtual 53, 3) := by decide +kernel
theorem dP_setKin_13 : decode cP_setKin 13 = .ok (.ifCond .eq 27, 3) := by decide +kernel
theorem dP_setKin_16 : decode cP_setKin 16 = .ok (.aload_n 0, 1) := by decide +kernel
theorem dP_setKin_17 : decode cP_setKin 17 = .ok (.getfield 27, 3) := by decide +kernel
theorem dP_setKin_20 : decode cP_setKin 20 = .ok (.iload_n 1, 1) := by decide +kernel
theorem dP_setKin_21 : decode cP_setKin 21 = .ok (.bipush 24, 2) := by decide +kernel
theorem dP_setKin_23 : decode cP_setKin 23 = .ok (.imul, 1) := by decide +kernel
theorem dP_setKin_24 : decode cP_setKin 24 = .ok (.iload_n 2, 1) := by decide +kernel
theorem dP_setKin_25 : decode cP_setKin 25 = .ok (.iadd, 1) := by decide +kernel
theorem dP_setKin_26 : decode cP_setKin 26 = .ok (.lload_n 3, 1) := by decide +kernel
theorem dP_setKin_27 : decode cP_setKin 27 = .ok (.lastore, 1) := by decide +kernel
theorem dP_setKin_28 : decode cP_setKin 28 = .ok (.aload_n 0, 1) := by decide +kernel
theorem dP_setKin_29 : decode cP_setKin 29 = .ok (.getfield 27, 3) := by decide +kernel
theorem dP_setKin_32 : decode cP_setKin 32 = .ok (.iload_n 2, 1) := by decide +kernel
theorem dP_setKin_33 : decode cP_setKin 33 = .ok (.bipush 24, 2) := by decide +kernel
theorem dP_setKin_35 : decode cP_setKin 35 = .ok (.imul, 1) := by decide +kernel
theorem dP_setKin_36 : decode cP_setKin 36 = .ok (.iload_n 1, 1) := by decide +kernel
theorem dP_setKin_37 : decode cP_setKin 37 = .ok (.iadd, 1) := by decide +kernel
theorem dP_setKin_38 : decode cP_setKin 38 = .ok (.lload_n 3, 1) := by decide +kernel
theorem dP_setKin_39 : decode cP_setKin 39 = .ok (.lastore, 1) := by decide +kernel
theorem dP_setKin_40 : decode cP_setKin 40 = .ok (.return_, 1) := by decide +kernel
theorem dP_reckonForbears_0 : decode cP_reckonForbears 0 = .ok (.aload_n 0, 1) := by decide +kernel
theorem dP_reckonForbears_1 : decode cP_reckonForbears 1 = .ok (.iload_n 1, 1) := by decide +kernel
theorem dP_reckonForbears_2 : decode cP_reckonForbears 2 = .ok (.invokevirtual 53, 3) := by decide +kernel
theorem dP_reckonForbears_5 : decode cP_reckonForbears 5 = .ok (.ifCond .eq 30, 3) := by decide +kernel
theorem dP_reckonForbears_8 : decode cP_reckonForbears 8 = .ok (.aload_n 0, 1) := by decide +kernel
theorem dP_reckonForbears_9 : decode cP_reckonForbears 9 = .ok (.getfield 24, 3) := by decide +kernel
theorem dP_reckonForbears_12 : decode cP_reckonForbears 12 = .ok (.iload_n 1, 1) := by decide +kernel
theorem dP_reckonForbears_13 : decode cP_reckonForbears 13 = .ok (.aload_n 0, 1) := by decide +kernel
theorem dP_reckonForbears_14 : decode cP_reckonForbears 14 = .ok (.aload_n 0, 1) := by decide +kernel
theorem dP_reckonForbears_15 : decode cP_reckonForbears 15 = .ok (.getfield 9, 3) := by decide +kernel
theorem dP_reckonForbears_18 : decode cP_reckonForbears 18 = .ok (.iload_n 1, 1) := by decide +kernel
theorem dP_reckonForbears_19 : decode cP_reckonForbears 19 = .ok (.iaload, 1) := by decide +kernel
theorem dP_reckonForbears_20 : decode cP_reckonForbears 20 = .ok (.invokevirtual 121, 3) := by decide +kernel
theorem dP_reckonForbears_23 : decode cP_reckonForbears 23 = .ok (.aload_n 0, 1) := by decide +kernel
theorem dP_reckonForbears_24 : decode cP_reckonForbears 24 = .ok (.aload_n 0, 1) := by decide +kernel
theorem dP_reckonForbears_25 : decode cP_reckonForbears 25 = .ok (.getfield 15, 3) := by decide +kernel
theorem dP_reckonForbears_28 : decode cP_reckonForbears 28 = .ok (.iload_n 1, 1) := by decide +kernel
theorem dP_reckonForbears_29 : decode cP_reckonForbears 29 = .ok (.iaload, 1) := by decide +kernel
theorem dP_reckonForbears_30 : decode cP_reckonForbears 30 = .ok (.invokevirtual 121, 3) := by decide +kernel
theorem dP_reckonForbears_33 : decode cP_reckonForbears 33 = .ok (.ior, 1) := by decide +kernel
theorem dP_reckonForbears_34 : decode cP_reckonForbears 34 = .ok (.iastore, 1) := by decide +kernel
theorem dP_reckonForbears_35 : decode cP_reckonForbears 35 = .ok (.return_, 1) := by decide +kernel
theorem dP_reckonKin_0 : decode cP_reckonKin 0 = .ok (.aload_n 0, 1) := by decide +kernel
theorem dP_reckonKin_1 : decode cP_reckonKin 1 = .ok (.iload_n 1, 1) := by decide +kernel
theorem dP_reckonKin_2 : decode cP_reckonKin 2 = .ok (.invokevirtual 79, 3) := by decide +kernel
theorem dP_reckonKin_5 : decode cP_reckonKin 5 = .ok (.istore_n 2, 1) := by decide +kernel
theorem dP_reckonKin_6 : decode cP_reckonKin 6 = .ok (.aload_n 0, 1) := by decide +kernel
theorem dP_reckonKin_7 : decode cP_reckonKin 7 = .ok (.iload_n 2, 1) := by decide +kernel
theorem dP_reckonKin_8 : decode cP_reckonKin 8 = .ok (.invokevirtual 61, 3) := by decide +kernel
theorem dP_reckonKin_11 : decode cP_reckonKin 11 = .ok (.istore_n 3, 1) := by decide +kernel
theorem dP_reckonKin_12 : decode cP_reckonKin 12 = .ok (.aload_n 0, 1) := by decide +kernel
theorem dP_reckonKin_13 : decode cP_reckonKin 13 = .ok (.iload_n 2, 1) := by decide +kernel
theorem dP_reckonKin_14 : decode cP_reckonKin 14 = .ok (.invokevirtual 64, 3) := by decide +kernel
theorem dP_reckonKin_17 : decode cP_reckonKin 17 = .ok (.istore 4, 2) := by decide +kernel
theorem dP_reckonKin_19 : decode cP_reckonKin 19 = .ok (.iconst 0, 1) := by decide +kernel
theorem dP_reckonKin_20 : decode cP_reckonKin 20 = .ok (.istore 5, 2) := by decide +kernel
theorem dP_reckonKin_22 : decode cP_reckonKin 22 = .ok (.iload 5, 2) := by decide +kernel
theorem dP_reckonKin_24 : decode cP_reckonKin 24 = .ok (.iload_n 1, 1) := by decide +kernel
theorem dP_reckonKin_25 : decode cP_reckonKin 25 = .ok (.if_icmp .ge 44, 3) := by decide +kernel
theorem dP_reckonKin_28 : decode cP_reckonKin 28 = .ok (.aload_n 0, 1) := by decide +kernel
theorem dP_reckonKin_29 : decode cP_reckonKin 29 = .ok (.iload 5, 2) := by decide +kernel
theorem dP_reckonKin_31 : decode cP_reckonKin 31 = .ok (.invokevirtual 79, 3) := by decide +kernel
theorem dP_reckonKin_34 : decode cP_reckonKin 34 = .ok (.istore 6, 2) := by decide +kernel
theorem dP_reckonKin_36 : decode cP_reckonKin 36 = .ok (.aload_n 0, 1) := by decide +kernel
theorem dP_reckonKin_37 : decode cP_reckonKin 37 = .ok (.iload_n 2, 1) := by decide +kernel
theorem dP_reckonKin_38 : decode cP_reckonKin 38 = .ok (.iload 6, 2) := by decide +kernel
theorem dP_reckonKin_40 : decode cP_reckonKin 40 = .ok (.aload_n 0, 1) := by decide +kernel
theorem dP_reckonKin_41 : decode cP_reckonKin 41 = .ok (.iload_n 3, 1) := by decide +kernel
theorem dP_reckonKin_42 : decode cP_reckonKin 42 = .ok (.iload 6, 2) := by decide +kernel
theorem dP_reckonKin_44 : decode cP_reckonKin 44 = .ok (.invokevirtual 67, 3) := by decide +kernel
theorem dP_reckonKin_47 : decode cP_reckonKin 47 = .ok (.aload_n 0, 1) := by decide +kernel
theorem dP_reckonKin_48 : decode cP_reckonKin 48 = .ok (.iload 4, 2) := by decide +kernel
theorem dP_reckonKin_50 : decode cP_reckonKin 50 = .ok (.iload 6, 2) := by decide +kernel
theorem dP_reckonKin_52 : decode cP_reckonKin 52 = .ok (.invokevirtual 67, 3) := by decide +kernel
theorem dP_reckonKin_55 : decode cP_reckonKin 55 = .ok (.ladd, 1) := by decide +kernel
theorem dP_reckonKin_56 : decode cP_reckonKin 56 = .ok (.ldc2_w 85, 3) := by decide +kernel
theorem dP_reckonKin_59 : decode cP_reckonKin 59 = .ok (.ldiv, 1) := by decide +kernel
theorem dP_reckonKin_60 : decode cP_reckonKin 60 = .ok (.invokevirtual 124, 3) := by decide +kernel
theorem dP_reckonKin_63 : decode cP_reckonKin 63 = .ok (.iinc 5 1, 3) := by decide +kernel
theorem dP_reckonKin_66 : decode cP_reckonKin 66 = .ok (.goto (-44), 3) := by decide +kernel
theorem dP_reckonKin_69 : decode cP_reckonKin 69 = .ok (.aload_n 0, 1) := by decide +kernel
theorem dP_reckonKin_70 : decode cP_reckonKin 70 = .ok (.iload_n 2, 1) := by decide +kernel
theorem dP_reckonKin_71 : decode cP_reckonKin 71 = .ok (.iload_n 2, 1) := by decide +kernel
theorem dP_reckonKin_72 : decode cP_reckonKin 72 = .ok (.ldc2_w 73, 3) := by decide +kernel
theorem dP_reckonKin_75 : decode cP_reckonKin 75 = .ok (.aload_n 0, 1) := by decide +kernel
theorem dP_reckonKin_76 : decode cP_reckonKin 76 = .ok (.iload_n 3, 1) := by decide +kernel
theorem dP_reckonKin_77 : decode cP_reckonKin 77 = .ok (.iload 4, 2) := by decide +kernel
theorem dP_reckonKin_79 : decode cP_reckonKin 79 = .ok (.invokevirtual 67, 3) := by decide +kernel
theorem dP_reckonKin_82 : decode cP_reckonKin 82 = .ok (.ladd, 1) := by decide +kernel
theorem dP_reckonKin_83 : decode cP_reckonKin 83 = .ok (.ldc2_w 85, 3) := by decide +kernel
theorem dP_reckonKin_86 : decode cP_reckonKin 86 = .ok (.ldiv, 1) := by decide +kernel
theorem dP_reckonKin_87 : decode cP_reckonKin 87 = .ok (.invokevirtual 124, 3) := by decide +kernel
theorem dP_reckonKin_90 : decode cP_reckonKin 90 = .ok (.return_, 1) := by decide +kernel
theorem dP_reckonOrder_0 : decode cP_reckonOrder 0 = .ok (.iconst 0, 1) := by decide +kernel
theorem dP_reckonOrder_1 : decode cP_reckonOrder 1 = .ok (.istore_n 1, 1) := by decide +kernel
theorem dP_reckonOrder_2 : decode cP_reckonOrder 2 = .ok (.iconst 0, 1) := by decide +kernel
theorem dP_reckonOrder_3 : decode cP_reckonOrder 3 = .ok (.istore_n 2, 1) := by decide +kernel
theorem dP_reckonOrder_4 : decode cP_reckonOrder 4 = .ok (.iload_n 2, 1) := by decide +kernel
theorem dP_reckonOrder_5 : decode cP_reckonOrder 5 = .ok (.aload_n 0, 1) := by decide +kernel
theorem dP_reckonOrder_6 : decode cP_reckonOrder 6 = .ok (.getfield 41, 3) := by decide +kernel
theorem dP_reckonOrder_9 : decode cP_reckonOrder 9 = .ok (.if_icmp .ge 53, 3) := by decide +kernel
theorem dP_reckonOrder_12 : decode cP_reckonOrder 12 = .ok (.iconst 0, 1) := by decide +kernel
theorem dP_reckonOrder_13 : decode cP_reckonOrder 13 = .ok (.istore_n 3, 1) := by decide +kernel
theorem dP_reckonOrder_14 : decode cP_reckonOrder 14 = .ok (.iload_n 3, 1) := by decide +kernel
theorem dP_reckonOrder_15 : decode cP_reckonOrder 15 = .ok (.aload_n 0, 1) := by decide +kernel
theorem dP_reckonOrder_16 : decode cP_reckonOrder 16 = .ok (.getfield 41, 3) := by decide +kernel
theorem dP_reckonOrder_19 : decode cP_reckonOrder 19 = .ok (.if_icmp .ge 37, 3) := by decide +kernel
theorem dP_reckonOrder_22 : decode cP_reckonOrder 22 = .ok (.aload_n 0, 1) := by decide +kernel
theorem dP_reckonOrder_23 : decode cP_reckonOrder 23 = .ok (.getfield 18, 3) := by decide +kernel
theorem dP_reckonOrder_26 : decode cP_reckonOrder 26 = .ok (.iload_n 3, 1) := by decide +kernel
theorem dP_reckonOrder_27 : decode cP_reckonOrder 27 = .ok (.iaload, 1) := by decide +kernel
theorem dP_reckonOrder_28 : decode cP_reckonOrder 28 = .ok (.iload_n 2, 1) := by decide +kernel
theorem dP_reckonOrder_29 : decode cP_reckonOrder 29 = .ok (.if_icmp .ne 21, 3) := by decide +kernel
theorem dP_reckonOrder_32 : decode cP_reckonOrder 32 = .ok (.iload_n 1, 1) := by decide +kernel
theorem dP_reckonOrder_33 : decode cP_reckonOrder 33 = .ok (.aload_n 0, 1) := by decide +kernel
theorem dP_reckonOrder_34 : decode cP_reckonOrder 34 = .ok (.getfield 41, 3) := by decide +kernel
theorem dP_reckonOrder_37 : decode cP_reckonOrder 37 = .ok (.if_icmp .ge 13, 3) := by decide +kernel
theorem dP_reckonOrder_40 : decode cP_reckonOrder 40 = .ok (.aload_n 0, 1) := by decide +kernel
theorem dP_reckonOrder_41 : decode cP_reckonOrder 41 = .ok (.getfield 21, 3) := by decide +kernel
theorem dP_reckonOrder_44 : decode cP_reckonOrder 44 = .ok (.iload_n 1, 1) := by decide +kernel
theorem dP_reckonOrder_45 : decode cP_reckonOrder 45 = .ok (.iload_n 3, 1) := by decide +kernel
theorem dP_reckonOrder_46 : decode cP_reckonOrder 46 = .ok (.iastore, 1) := by decide +kernel
theorem dP_reckonOrder_47 : decode cP_reckonOrder 47 = .ok (.iinc 1 1, 3) := by decide +kernel
theorem dP_reckonOrder_50 : decode cP_reckonOrder 50 = .ok (.iinc 3 1, 3) := by decide +kernel
theorem dP_reckonOrder_53 : decode cP_reckonOrder 53 = .ok (.goto (-39), 3) := by decide +kernel
theorem dP_reckonOrder_56 : decode cP_reckonOrder 56 = .ok (.iinc 2 1, 3) := by decide +kernel
theorem dP_reckonOrder_59 : decode cP_reckonOrder 59 = .ok (.goto (-55), 3) := by decide +kernel
theorem dP_reckonOrder_62 : decode cP_reckonOrder 62 = .ok (.return_, 1) := by decide +kernel
theorem dP_reckonSteps_0 : decode cP_reckonSteps 0 = .ok (.aload_n 0, 1) := by decide +kernel
theorem dP_reckonSteps_1 : decode cP_reckonSteps 1 = .ok (.getfield 18, 3) := by decide +kernel
theorem dP_reckonSteps_4 : decode cP_reckonSteps 4 = .ok (.iconst 0, 1) := by decide +kernel
theorem dP_reckonSteps_5 : decode cP_reckonSteps 5 = .ok (.invokestatic 44, 3) := by decide +kernel
theorem dP_reckonSteps_8 : decode cP_reckonSteps 8 = .ok (.iconst 1, 1) := by decide +kernel
theorem dP_reckonSteps_9 : decode cP_reckonSteps 9 = .ok (.istore_n 1, 1) := by decide +kernel
theorem dP_reckonSteps_10 : decode cP_reckonSteps 10 = .ok (.iconst 0, 1) := by decide +kernel
theorem dP_reckonSteps_11 : decode cP_reckonSteps 11 = .ok (.istore_n 2, 1) := by decide +kernel
theorem dP_reckonSteps_12 : decode cP_reckonSteps 12 = .ok (.iload_n 2, 1) := by decide +kernel
theorem dP_reckonSteps_13 : decode cP_reckonSteps 13 = .ok (.aload_n 0, 1) := by decide +kernel
theorem dP_reckonSteps_14 : decode cP_reckonSteps 14 = .ok (.getfield 41, 3) := by decide +kernel
theorem dP_reckonSteps_17 : decode cP_reckonSteps 17 = .ok (.if_icmp .ge 87, 3) := by decide +kernel
theorem dP_reckonSteps_20 : decode cP_reckonSteps 20 = .ok (.iload_n 1, 1) := by decide +kernel
theorem dP_reckonSteps_21 : decode cP_reckonSteps 21 = .ok (.ifCond .eq 83, 3) := by decide +kernel
end
section
theorem dP_reckonSteps_24 : decode cP_reckonSteps 24 = .ok (.iconst 0, 1) := by decide +kernel
theorem dP_reckonSteps_25 : decode cP_reckonSteps 25 = .ok (.istore_n 1, 1) := by decide +kernel
theorem dP_reckonSteps_26 : decode cP_reckonSteps 26 = .ok (.iconst 0, 1) := by decide +kernel
theorem dP_reckonSteps_27 : decode cP_reckonSteps 27 = .ok (.istore_n 3, 1) := by decide +kernel
theorem dP_reckonSteps_28 : decode cP_reckonSteps 28 = .ok (.iload_n 3, 1) := by decide +kernel
theorem dP_reckonSteps_29 : decode cP_reckonSteps 29 = .ok (.aload_n 0, 1) := by decide +kernel
theorem dP_reckonSteps_30 : decode cP_reckonSteps 30 = .ok (.getfield 41, 3) := by decide +kernel
theorem dP_reckonSteps_33 : decode cP_reckonSteps 33 = .ok (.if_icmp .ge 65, 3) := by decide +kernel
theorem dP_reckonSteps_36 : decode cP_reckonSteps 36 = .ok (.aload_n 0, 1) := by decide +kernel
theorem dP_reckonSteps_37 : decode cP_reckonSteps 37 = .ok (.aload_n 0, 1) := by decide +kernel
theorem dP_reckonSteps_38 : decode cP_reckonSteps 38 = .ok (.getfield 9, 3) := by decide +kernel
theorem dP_reckonSteps_41 : decode cP_reckonSteps 41 = .ok (.iload_n 3, 1) := by decide +kernel
theorem dP_reckonSteps_42 : decode cP_reckonSteps 42 = .ok (.iaload, 1) := by decide +kernel
theorem dP_reckonSteps_43 : decode cP_reckonSteps 43 = .ok (.invokevirtual 112, 3) := by decide +kernel
theorem dP_reckonSteps_46 : decode cP_reckonSteps 46 = .ok (.aload_n 0, 1) := by decide +kernel
theorem dP_reckonSteps_47 : decode cP_reckonSteps 47 = .ok (.aload_n 0, 1) := by decide +kernel
theorem dP_reckonSteps_48 : decode cP_reckonSteps 48 = .ok (.getfield 15, 3) := by decide +kernel
theorem dP_reckonSteps_51 : decode cP_reckonSteps 51 = .ok (.iload_n 3, 1) := by decide +kernel
theorem dP_reckonSteps_52 : decode cP_reckonSteps 52 = .ok (.iaload, 1) := by decide +kernel
theorem dP_reckonSteps_53 : decode cP_reckonSteps 53 = .ok (.invokevirtual 112, 3) := by decide +kernel
theorem dP_reckonSteps_56 : decode cP_reckonSteps 56 = .ok (.invokestatic 115, 3) := by decide +kernel
theorem dP_reckonSteps_59 : decode cP_reckonSteps 59 = .ok (.iconst 1, 1) := by decide +kernel
theorem dP_reckonSteps_60 : decode cP_reckonSteps 60 = .ok (.iadd, 1) := by decide +kernel
theorem dP_reckonSteps_61 : decode cP_reckonSteps 61 = .ok (.istore 4, 2) := by decide +kernel
theorem dP_reckonSteps_63 : decode cP_reckonSteps 63 = .ok (.iload_n 1, 1) := by decide +kernel
theorem dP_reckonSteps_64 : decode cP_reckonSteps 64 = .ok (.ifCond .ne 14, 3) := by decide +kernel
theorem dP_reckonSteps_67 : decode cP_reckonSteps 67 = .ok (.iload 4, 2) := by decide +kernel
theorem dP_reckonSteps_69 : decode cP_reckonSteps 69 = .ok (.aload_n 0, 1) := by decide +kernel
theorem dP_reckonSteps_70 : decode cP_reckonSteps 70 = .ok (.getfield 18, 3) := by decide +kernel
theorem dP_reckonSteps_73 : decode cP_reckonSteps 73 = .ok (.iload_n 3, 1) := by decide +kernel
theorem dP_reckonSteps_74 : decode cP_reckonSteps 74 = .ok (.iaload, 1) := by decide +kernel
theorem dP_reckonSteps_75 : decode cP_reckonSteps 75 = .ok (.if_icmp .eq 7, 3) := by decide +kernel
theorem dP_reckonSteps_78 : decode cP_reckonSteps 78 = .ok (.iconst 1, 1) := by decide +kernel
theorem dP_reckonSteps_79 : decode cP_reckonSteps 79 = .ok (.goto 4, 3) := by decide +kernel
theorem dP_reckonSteps_82 : decode cP_reckonSteps 82 = .ok (.iconst 0, 1) := by decide +kernel
theorem dP_reckonSteps_83 : decode cP_reckonSteps 83 = .ok (.istore_n 1, 1) := by decide +kernel
theorem dP_reckonSteps_84 : decode cP_reckonSteps 84 = .ok (.aload_n 0, 1) := by decide +kernel
theorem dP_reckonSteps_85 : decode cP_reckonSteps 85 = .ok (.getfield 18, 3) := by decide +kernel
theorem dP_reckonSteps_88 : decode cP_reckonSteps 88 = .ok (.iload_n 3, 1) := by decide +kernel
theorem dP_reckonSteps_89 : decode cP_reckonSteps 89 = .ok (.iload 4, 2) := by decide +kernel
theorem dP_reckonSteps_91 : decode cP_reckonSteps 91 = .ok (.iastore, 1) := by decide +kernel
theorem dP_reckonSteps_92 : decode cP_reckonSteps 92 = .ok (.iinc 3 1, 3) := by decide +kernel
theorem dP_reckonSteps_95 : decode cP_reckonSteps 95 = .ok (.goto (-67), 3) := by decide +kernel
theorem dP_reckonSteps_98 : decode cP_reckonSteps 98 = .ok (.iinc 2 1, 3) := by decide +kernel
theorem dP_reckonSteps_101 : decode cP_reckonSteps 101 = .ok (.goto (-89), 3) := by decide +kernel
theorem dP_reckonSteps_104 : decode cP_reckonSteps 104 = .ok (.return_, 1) := by decide +kernel
theorem dP_reckon_0 : decode cP_reckon 0 = .ok (.aload_n 0, 1) := by decide +kernel
theorem dP_reckon_1 : decode cP_reckon 1 = .ok (.invokevirtual 99, 3) := by decide +kernel
theorem dP_reckon_4 : decode cP_reckon 4 = .ok (.aload_n 0, 1) := by decide +kernel
theorem dP_reckon_5 : decode cP_reckon 5 = .ok (.invokevirtual 102, 3) := by decide +kernel
theorem dP_reckon_8 : decode cP_reckon 8 = .ok (.iconst 0, 1) := by decide +kernel
theorem dP_reckon_9 : decode cP_reckon 9 = .ok (.istore_n 1, 1) := by decide +kernel
theorem dP_reckon_10 : decode cP_reckon 10 = .ok (.iload_n 1, 1) := by decide +kernel
theorem dP_reckon_11 : decode cP_reckon 11 = .ok (.aload_n 0, 1) := by decide +kernel
theorem dP_reckon_12 : decode cP_reckon 12 = .ok (.getfield 41, 3) := by decide +kernel
theorem dP_reckon_15 : decode cP_reckon 15 = .ok (.if_icmp .ge 23, 3) := by decide +kernel
theorem dP_reckon_18 : decode cP_reckon 18 = .ok (.aload_n 0, 1) := by decide +kernel
theorem dP_reckon_19 : decode cP_reckon 19 = .ok (.aload_n 0, 1) := by decide +kernel
theorem dP_reckon_20 : decode cP_reckon 20 = .ok (.iload_n 1, 1) := by decide +kernel
theorem dP_reckon_21 : decode cP_reckon 21 = .ok (.invokevirtual 79, 3) := by decide +kernel
theorem dP_reckon_24 : decode cP_reckon 24 = .ok (.invokevirtual 105, 3) := by decide +kernel
theorem dP_reckon_27 : decode cP_reckon 27 = .ok (.aload_n 0, 1) := by decide +kernel
theorem dP_reckon_28 : decode cP_reckon 28 = .ok (.iload_n 1, 1) := by decide +kernel
theorem dP_reckon_29 : decode cP_reckon 29 = .ok (.invokevirtual 109, 3) := by decide +kernel
theorem dP_reckon_32 : decode cP_reckon 32 = .ok (.iinc 1 1, 3) := by decide +kernel
theorem dP_reckon_35 : decode cP_reckon 35 = .ok (.goto (-25), 3) := by decide +kernel
theorem dP_reckon_38 : decode cP_reckon 38 = .ok (.return_, 1) := by decide +kernel
theorem dP_setParents_0 : decode cP_setParents 0 = .ok (.aload_n 0, 1) := by decide +kernel
theorem dP_setParents_1 : decode cP_setParents 1 = .ok (.iload_n 1, 1) := by decide +kernel
theorem dP_setParents_2 : decode cP_setParents 2 = .ok (.invokevirtual 53, 3) := by decide +kernel
theorem dP_setParents_5 : decode cP_setParents 5 = .ok (.ifCond .ne 4, 3) := by decide +kernel
theorem dP_setParents_8 : decode cP_setParents 8 = .ok (.return_, 1) := by decide +kernel
theorem dP_setParents_9 : decode cP_setParents 9 = .ok (.aload_n 0, 1) := by decide +kernel
theorem dP_setParents_10 : decode cP_setParents 10 = .ok (.getfield 9, 3) := by decide +kernel
theorem dP_setParents_13 : decode cP_setParents 13 = .ok (.iload_n 1, 1) := by decide +kernel
theorem dP_setParents_14 : decode cP_setParents 14 = .ok (.iload_n 2, 1) := by decide +kernel
theorem dP_setParents_15 : decode cP_setParents 15 = .ok (.iastore, 1) := by decide +kernel
theorem dP_setParents_16 : decode cP_setParents 16 = .ok (.aload_n 0, 1) := by decide +kernel
theorem dP_setParents_17 : decode cP_setParents 17 = .ok (.getfield 15, 3) := by decide +kernel
theorem dP_setParents_20 : decode cP_setParents 20 = .ok (.iload_n 1, 1) := by decide +kernel
theorem dP_setParents_21 : decode cP_setParents 21 = .ok (.iload_n 3, 1) := by decide +kernel
theorem dP_setParents_22 : decode cP_setParents 22 = .ok (.iastore, 1) := by decide +kernel
theorem dP_setParents_23 : decode cP_setParents 23 = .ok (.aload_n 0, 1) := by decide +kernel
theorem dP_setParents_24 : decode cP_setParents 24 = .ok (.invokevirtual 50, 3) := by decide +kernel
theorem dP_setParents_27 : decode cP_setParents 27 = .ok (.return_, 1) := by decide +kernel
theorem dM_has_0 : decode cM_has 0 = .ok (.iload_n 1, 1) := by decide +kernel
theorem dM_has_1 : decode cM_has 1 = .ok (.ifCond .lt 24, 3) := by decide +kernel
theorem dM_has_4 : decode cM_has 4 = .ok (.iload_n 1, 1) := by decide +kernel
theorem dM_has_5 : decode cM_has 5 = .ok (.aload_n 0, 1) := by decide +kernel
theorem dM_has_6 : decode cM_has 6 = .ok (.getfield 15, 3) := by decide +kernel
theorem dM_has_9 : decode cM_has 9 = .ok (.if_icmp .ge 16, 3) := by decide +kernel
theorem dM_has_12 : decode cM_has 12 = .ok (.iload_n 2, 1) := by decide +kernel
theorem dM_has_13 : decode cM_has 13 = .ok (.ifCond .lt 12, 3) := by decide +kernel
theorem dM_has_16 : decode cM_has 16 = .ok (.iload_n 2, 1) := by decide +kernel
theorem dM_has_17 : decode cM_has 17 = .ok (.iconst 4, 1) := by decide +kernel
theorem dM_has_18 : decode cM_has 18 = .ok (.if_icmp .ge 7, 3) := by decide +kernel
theorem dM_has_21 : decode cM_has 21 = .ok (.iconst 1, 1) := by decide +kernel
theorem dM_has_22 : decode cM_has 22 = .ok (.goto 4, 3) := by decide +kernel
theorem dM_has_25 : decode cM_has 25 = .ok (.iconst 0, 1) := by decide +kernel
theorem dM_has_26 : decode cM_has 26 = .ok (.ireturn, 1) := by decide +kernel
theorem dM_formOf_0 : decode cM_formOf 0 = .ok (.aload_n 0, 1) := by decide +kernel
theorem dM_formOf_1 : decode cM_formOf 1 = .ok (.iload_n 1, 1) := by decide +kernel
theorem dM_formOf_2 : decode cM_formOf 2 = .ok (.iload_n 2, 1) := by decide +kernel
theorem dM_formOf_3 : decode cM_formOf 3 = .ok (.invokevirtual 25, 3) := by decide +kernel
theorem dM_formOf_6 : decode cM_formOf 6 = .ok (.ifCond .eq 16, 3) := by decide +kernel
theorem dM_formOf_9 : decode cM_formOf 9 = .ok (.aload_n 0, 1) := by decide +kernel
theorem dM_formOf_10 : decode cM_formOf 10 = .ok (.getfield 11, 3) := by decide +kernel
theorem dM_formOf_13 : decode cM_formOf 13 = .ok (.iload_n 1, 1) := by decide +kernel
theorem dM_formOf_14 : decode cM_formOf 14 = .ok (.iconst 4, 1) := by decide +kernel
theorem dM_formOf_15 : decode cM_formOf 15 = .ok (.imul, 1) := by decide +kernel
theorem dM_formOf_16 : decode cM_formOf 16 = .ok (.iload_n 2, 1) := by decide +kernel
theorem dM_formOf_17 : decode cM_formOf 17 = .ok (.iadd, 1) := by decide +kernel
theorem dM_formOf_18 : decode cM_formOf 18 = .ok (.iaload, 1) := by decide +kernel
theorem dM_formOf_19 : decode cM_formOf 19 = .ok (.goto 4, 3) := by decide +kernel
theorem dM_formOf_22 : decode cM_formOf 22 = .ok (.iconst (-1), 1) := by decide +kernel
theorem dM_formOf_23 : decode cM_formOf 23 = .ok (.ireturn, 1) := by decide +kernel
theorem dM_isKnownOfBoth_0 : decode cM_isKnownOfBoth 0 = .ok (.aload_n 0, 1) := by decide +kernel
theorem dM_isKnownOfBoth_1 : decode cM_isKnownOfBoth 1 = .ok (.iload_n 1, 1) := by decide +kernel
theorem dM_isKnownOfBoth_2 : decode cM_isKnownOfBoth 2 = .ok (.iload_n 3, 1) := by decide +kernel
theorem dM_isKnownOfBoth_3 : decode cM_isKnownOfBoth 3 = .ok (.invokevirtual 46, 3) := by decide +kernel
theorem dM_isKnownOfBoth_6 : decode cM_isKnownOfBoth 6 = .ok (.iconst (-1), 1) := by decide +kernel
theorem dM_isKnownOfBoth_7 : decode cM_isKnownOfBoth 7 = .ok (.if_icmp .eq 17, 3) := by decide +kernel
theorem dM_isKnownOfBoth_10 : decode cM_isKnownOfBoth 10 = .ok (.aload_n 0, 1) := by decide +kernel
theorem dM_isKnownOfBoth_11 : decode cM_isKnownOfBoth 11 = .ok (.iload_n 2, 1) := by decide +kernel
theorem dM_isKnownOfBoth_12 : decode cM_isKnownOfBoth 12 = .ok (.iload_n 3, 1) := by decide +kernel
theorem dM_isKnownOfBoth_13 : decode cM_isKnownOfBoth 13 = .ok (.invokevirtual 46, 3) := by decide +kernel
theorem dM_isKnownOfBoth_16 : decode cM_isKnownOfBoth 16 = .ok (.iconst (-1), 1) := by decide +kernel
theorem dM_isKnownOfBoth_17 : decode cM_isKnownOfBoth 17 = .ok (.if_icmp .eq 7, 3) := by decide +kernel
theorem dM_isKnownOfBoth_20 : decode cM_isKnownOfBoth 20 = .ok (.iconst 1, 1) := by decide +kernel
theorem dM_isKnownOfBoth_21 : decode cM_isKnownOfBoth 21 = .ok (.goto 4, 3) := by decide +kernel
theorem dM_isKnownOfBoth_24 : decode cM_isKnownOfBoth 24 = .ok (.iconst 0, 1) := by decide +kernel
theorem dM_isKnownOfBoth_25 : decode cM_isKnownOfBoth 25 = .ok (.ireturn, 1) := by decide +kernel
theorem dM_difference_0 : decode cM_difference 0 = .ok (.aload_n 0, 1) := by decide +kernel
theorem dM_difference_1 : decode cM_difference 1 = .ok (.iload_n 1, 1) := by decide +kernel
theorem dM_difference_2 : decode cM_difference 2 = .ok (.iload_n 3, 1) := by decide +kernel
theorem dM_difference_3 : decode cM_difference 3 = .ok (.invokevirtual 46, 3) := by decide +kernel
theorem dM_difference_6 : decode cM_difference 6 = .ok (.aload_n 0, 1) := by decide +kernel
theorem dM_difference_7 : decode cM_difference 7 = .ok (.iload_n 2, 1) := by decide +kernel
theorem dM_difference_8 : decode cM_difference 8 = .ok (.iload_n 3, 1) := by decide +kernel
theorem dM_difference_9 : decode cM_difference 9 = .ok (.invokevirtual 46, 3) := by decide +kernel
theorem dM_difference_12 : decode cM_difference 12 = .ok (.isub, 1) := by decide +kernel
theorem dM_difference_13 : decode cM_difference 13 = .ok (.invokestatic 66, 3) := by decide +kernel
theorem dM_difference_16 : decode cM_difference 16 = .ok (.ireturn, 1) := by decide +kernel
theorem dM_knownForms_0 : decode cM_knownForms 0 = .ok (.iconst 0, 1) := by decide +kernel
theorem dM_knownForms_1 : decode cM_knownForms 1 = .ok (.istore_n 2, 1) := by decide +kernel
theorem dM_knownForms_2 : decode cM_knownForms 2 = .ok (.iconst 0, 1) := by decide +kernel
theorem dM_knownForms_3 : decode cM_knownForms 3 = .ok (.istore_n 3, 1) := by decide +kernel
theorem dM_knownForms_4 : decode cM_knownForms 4 = .ok (.iload_n 3, 1) := by decide +kernel
theorem dM_knownForms_5 : decode cM_knownForms 5 = .ok (.aload_n 0, 1) := by decide +kernel
theorem dM_knownForms_6 : decode cM_knownForms 6 = .ok (.getfield 15, 3) := by decide +kernel
theorem dM_knownForms_9 : decode cM_knownForms 9 = .ok (.if_icmp .ge 22, 3) := by decide +kernel
theorem dM_knownForms_12 : decode cM_knownForms 12 = .ok (.aload_n 0, 1) := by decide +kernel
theorem dM_knownForms_13 : decode cM_knownForms 13 = .ok (.iload_n 3, 1) := by decide +kernel
theorem dM_knownForms_14 : decode cM_knownForms 14 = .ok (.iload_n 1, 1) := by decide +kernel
theorem dM_knownForms_15 : decode cM_knownForms 15 = .ok (.invokevirtual 46, 3) := by decide +kernel
theorem dM_knownForms_18 : decode cM_knownForms 18 = .ok (.iconst (-1), 1) := by decide +kernel
theorem dM_knownForms_19 : decode cM_knownForms 19 = .ok (.if_icmp .eq 6, 3) := by decide +kernel
theorem dM_knownForms_22 : decode cM_knownForms 22 = .ok (.iinc 2 1, 3) := by decide +kernel
theorem dM_knownForms_25 : decode cM_knownForms 25 = .ok (.iinc 3 1, 3) := by decide +kernel
theorem dM_knownForms_28 : decode cM_knownForms 28 = .ok (.goto (-24), 3) := by decide +kernel
theorem dM_knownForms_31 : decode cM_knownForms 31 = .ok (.iload_n 2, 1) := by decide +kernel
theorem dM_knownForms_32 : decode cM_knownForms 32 = .ok (.ireturn, 1) := by decide +kernel
theorem dM_lettersB_0 : decode cM_lettersB 0 = .ok (.iconst 0, 1) := by decide +kernel
theorem dM_lettersB_1 : decode cM_lettersB 1 = .ok (.istore_n 2, 1) := by decide +kernel
theorem dM_lettersB_2 : decode cM_lettersB 2 = .ok (.iconst 0, 1) := by decide +kernel
theorem dM_lettersB_3 : decode cM_lettersB 3 = .ok (.istore_n 3, 1) := by decide +kernel
theorem dM_lettersB_4 : decode cM_lettersB 4 = .ok (.iload_n 3, 1) := by decide +kernel
theorem dM_lettersB_5 : decode cM_lettersB 5 = .ok (.aload_n 0, 1) := by decide +kernel
theorem dM_lettersB_6 : decode cM_lettersB 6 = .ok (.getfield 15, 3) := by decide +kernel
theorem dM_lettersB_9 : decode cM_lettersB 9 = .ok (.if_icmp .ge 22, 3) := by decide +kernel
theorem dM_lettersB_12 : decode cM_lettersB 12 = .ok (.iload_n 2, 1) := by decide +kernel
theorem dM_lettersB_13 : decode cM_lettersB 13 = .ok (.iconst 0, 1) := by decide +kernel
theorem dM_lettersB_14 : decode cM_lettersB 14 = .ok (.aload_n 0, 1) := by decide +kernel
theorem dM_lettersB_15 : decode cM_lettersB 15 = .ok (.iload_n 3, 1) := by decide +kernel
theorem dM_lettersB_16 : decode cM_lettersB 16 = .ok (.iload_n 1, 1) := by decide +kernel
theorem dM_lettersB_17 : decode cM_lettersB 17 = .ok (.invokevirtual 46, 3) := by decide +kernel
theorem dM_lettersB_20 : decode cM_lettersB 20 = .ok (.invokestatic 71, 3) := by decide +kernel
theorem dM_lettersB_23 : decode cM_lettersB 23 = .ok (.iadd, 1) := by decide +kernel
theorem dM_lettersB_24 : decode cM_lettersB 24 = .ok (.istore_n 2, 1) := by decide +kernel
theorem dM_lettersB_25 : decode cM_lettersB 25 = .ok (.iinc 3 1, 3) := by decide +kernel
theorem dM_lettersB_28 : decode cM_lettersB 28 = .ok (.goto (-24), 3) := by decide +kernel
theorem dM_lettersB_31 : decode cM_lettersB 31 = .ok (.iload_n 2, 1) := by decide +kernel
theorem dM_lettersB_32 : decode cM_lettersB 32 = .ok (.ireturn, 1) := by decide +kernel
theorem dM_amongChildren_0 : decode cM_amongChildren 0 = .ok (.iload_n 0, 1) := by decide +kernel
theorem dM_amongChildren_1 : decode cM_amongChildren 1 = .ok (.ifCond .ne 10, 3) := by decide +kernel
theorem dM_amongChildren_4 : decode cM_amongChildren 4 = .ok (.iconst 2, 1) := by decide +kernel
theorem dM_amongChildren_5 : decode cM_amongChildren 5 = .ok (.iload_n 1, 1) := by decide +kernel
theorem dM_amongChildren_6 : decode cM_amongChildren 6 = .ok (.isub, 1) := by decide +kernel
theorem dM_amongChildren_7 : decode cM_amongChildren 7 = .ok (.i2l, 1) := by decide +kernel
theorem dM_amongChildren_8 : decode cM_amongChildren 8 = .ok (.lload_n 2, 1) := by decide +kernel
theorem dM_amongChildren_9 : decode cM_amongChildren 9 = .ok (.lmul, 1) := by decide +kernel
theorem dM_amongChildren_10 : decode cM_amongChildren 10 = .ok (.lreturn, 1) := by decide +kernel
theorem dM_amongChildren_11 : decode cM_amongChildren 11 = .ok (.iload_n 0, 1) := by decide +kernel
theorem dM_amongChildren_12 : decode cM_amongChildren 12 = .ok (.iconst 1, 1) := by decide +kernel
theorem dM_amongChildren_13 : decode cM_amongChildren 13 = .ok (.if_icmp .ne 18, 3) := by decide +kernel
theorem dM_amongChildren_16 : decode cM_amongChildren 16 = .ok (.iload_n 1, 1) := by decide +kernel
theorem dM_amongChildren_17 : decode cM_amongChildren 17 = .ok (.i2l, 1) := by decide +kernel
theorem dM_amongChildren_18 : decode cM_amongChildren 18 = .ok (.lload_n 2, 1) := by decide +kernel
theorem dM_amongChildren_19 : decode cM_amongChildren 19 = .ok (.lmul, 1) := by decide +kernel
theorem dM_amongChildren_20 : decode cM_amongChildren 20 = .ok (.iconst 2, 1) := by decide +kernel
theorem dM_amongChildren_21 : decode cM_amongChildren 21 = .ok (.iload_n 1, 1) := by decide +kernel
theorem dM_amongChildren_22 : decode cM_amongChildren 22 = .ok (.isub, 1) := by decide +kernel
theorem dM_amongChildren_23 : decode cM_amongChildren 23 = .ok (.i2l, 1) := by decide +kernel
theorem dM_amongChildren_24 : decode cM_amongChildren 24 = .ok (.lload 4, 2) := by decide +kernel
theorem dM_amongChildren_26 : decode cM_amongChildren 26 = .ok (.lmul, 1) := by decide +kernel
theorem dM_amongChildren_27 : decode cM_amongChildren 27 = .ok (.ladd, 1) := by decide +kernel
theorem dM_amongChildren_28 : decode cM_amongChildren 28 = .ok (.goto 8, 3) := by decide +kernel
theorem dM_amongChildren_31 : decode cM_amongChildren 31 = .ok (.iload_n 1, 1) := by decide +kernel
theorem dM_amongChildren_32 : decode cM_amongChildren 32 = .ok (.i2l, 1) := by decide +kernel
theorem dM_amongChildren_33 : decode cM_amongChildren 33 = .ok (.lload 4, 2) := by decide +kernel
theorem dM_amongChildren_35 : decode cM_amongChildren 35 = .ok (.lmul, 1) := by decide +kernel
theorem dM_amongChildren_36 : decode cM_amongChildren 36 = .ok (.lreturn, 1) := by decide +kernel
theorem dM_amongStrangers_0 : decode cM_amongStrangers 0 = .ok (.iload_n 0, 1) := by decide +kernel
theorem dM_amongStrangers_1 : decode cM_amongStrangers 1 = .ok (.ifCond .ne 7, 3) := by decide +kernel
theorem dM_amongStrangers_4 : decode cM_amongStrangers 4 = .ok (.lload_n 1, 1) := by decide +kernel
theorem dM_amongStrangers_5 : decode cM_amongStrangers 5 = .ok (.lload_n 1, 1) := by decide +kernel
theorem dM_amongStrangers_6 : decode cM_amongStrangers 6 = .ok (.lmul, 1) := by decide +kernel
theorem dM_amongStrangers_7 : decode cM_amongStrangers 7 = .ok (.lreturn, 1) := by decide +kernel
theorem dM_amongStrangers_8 : decode cM_amongStrangers 8 = .ok (.iload_n 0, 1) := by decide +kernel
theorem dM_amongStrangers_9 : decode cM_amongStrangers 9 = .ok (.iconst 1, 1) := by decide +kernel
theorem dM_amongStrangers_10 : decode cM_amongStrangers 10 = .ok (.if_icmp .ne 13, 3) := by decide +kernel
theorem dM_amongStrangers_13 : decode cM_amongStrangers 13 = .ok (.ldc2_w 37, 3) := by decide +kernel
theorem dM_amongStrangers_16 : decode cM_amongStrangers 16 = .ok (.lload_n 1, 1) := by decide +kernel
theorem dM_amongStrangers_17 : decode cM_amongStrangers 17 = .ok (.lmul, 1) := by decide +kernel
theorem dM_amongStrangers_18 : decode cM_amongStrangers 18 = .ok (.lload_n 3, 1) := by decide +kernel
theorem dM_amongStrangers_19 : decode cM_amongStrangers 19 = .ok (.lmul, 1) := by decide +kernel
theorem dM_amongStrangers_20 : decode cM_amongStrangers 20 = .ok (.goto 6, 3) := by decide +kernel
theorem dM_amongStrangers_23 : decode cM_amongStrangers 23 = .ok (.lload_n 3, 1) := by decide +kernel
theorem dM_amongStrangers_24 : decode cM_amongStrangers 24 = .ok (.lload_n 3, 1) := by decide +kernel
theorem dM_amongStrangers_25 : decode cM_amongStrangers 25 = .ok (.lmul, 1) := by decide +kernel
theorem dM_amongStrangers_26 : decode cM_amongStrangers 26 = .ok (.lreturn, 1) := by decide +kernel
theorem dM_isLeftOut_0 : decode cM_isLeftOut 0 = .ok (.iconst 0, 1) := by decide +kernel
theorem dM_isLeftOut_1 : decode cM_isLeftOut 1 = .ok (.istore_n 3, 1) := by decide +kernel
theorem dM_isLeftOut_2 : decode cM_isLeftOut 2 = .ok (.iload_n 3, 1) := by decide +kernel
theorem dM_isLeftOut_3 : decode cM_isLeftOut 3 = .ok (.iconst 4, 1) := by decide +kernel
theorem dM_isLeftOut_4 : decode cM_isLeftOut 4 = .ok (.if_icmp .ge 32, 3) := by decide +kernel
theorem dM_isLeftOut_7 : decode cM_isLeftOut 7 = .ok (.aload_n 0, 1) := by decide +kernel
theorem dM_isLeftOut_8 : decode cM_isLeftOut 8 = .ok (.iload_n 1, 1) := by decide +kernel
theorem dM_isLeftOut_9 : decode cM_isLeftOut 9 = .ok (.iload_n 2, 1) := by decide +kernel
theorem dM_isLeftOut_10 : decode cM_isLeftOut 10 = .ok (.iload_n 3, 1) := by decide +kernel
theorem dM_isLeftOut_11 : decode cM_isLeftOut 11 = .ok (.invokevirtual 29, 3) := by decide +kernel
theorem dM_isLeftOut_14 : decode cM_isLeftOut 14 = .ok (.ifCond .eq 16, 3) := by decide +kernel
theorem dM_isLeftOut_17 : decode cM_isLeftOut 17 = .ok (.aload_n 0, 1) := by decide +kernel
theorem dM_isLeftOut_18 : decode cM_isLeftOut 18 = .ok (.iload_n 1, 1) := by decide +kernel
theorem dM_isLeftOut_19 : decode cM_isLeftOut 19 = .ok (.iload_n 2, 1) := by decide +kernel
theorem dM_isLeftOut_20 : decode cM_isLeftOut 20 = .ok (.iload_n 3, 1) := by decide +kernel
theorem dM_isLeftOut_21 : decode cM_isLeftOut 21 = .ok (.invokevirtual 33, 3) := by decide +kernel
theorem dM_isLeftOut_24 : decode cM_isLeftOut 24 = .ok (.iconst 2, 1) := by decide +kernel
theorem dM_isLeftOut_25 : decode cM_isLeftOut 25 = .ok (.if_icmp .ne 5, 3) := by decide +kernel
theorem dM_isLeftOut_28 : decode cM_isLeftOut 28 = .ok (.iconst 1, 1) := by decide +kernel
theorem dM_isLeftOut_29 : decode cM_isLeftOut 29 = .ok (.ireturn, 1) := by decide +kernel
theorem dM_isLeftOut_30 : decode cM_isLeftOut 30 = .ok (.iinc 3 1, 3) := by decide +kernel
theorem dM_isLeftOut_33 : decode cM_isLeftOut 33 = .ok (.goto (-31), 3) := by decide +kernel
theorem dM_isLeftOut_36 : decode cM_isLeftOut 36 = .ok (.iconst 0, 1) := by decide +kernel
theorem dM_isLeftOut_37 : decode cM_isLeftOut 37 = .ok (.ireturn, 1) := by decide +kernel
theorem dM_oddsOf_0 : decode cM_oddsOf 0 = .ok (.lconst 1, 1) := by decide +kernel
theorem dM_oddsOf_1 : decode cM_oddsOf 1 = .ok (.lstore 4, 2) := by decide +kernel
theorem dM_oddsOf_3 : decode cM_oddsOf 3 = .ok (.lconst 1, 1) := by decide +kernel
theorem dM_oddsOf_4 : decode cM_oddsOf 4 = .ok (.lstore 6, 2) := by decide +kernel
theorem dM_oddsOf_6 : decode cM_oddsOf 6 = .ok (.iconst 0, 1) := by decide +kernel
theorem dM_oddsOf_7 : decode cM_oddsOf 7 = .ok (.istore 8, 2) := by decide +kernel
theorem dM_oddsOf_9 : decode cM_oddsOf 9 = .ok (.iload 8, 2) := by decide +kernel
theorem dM_oddsOf_11 : decode cM_oddsOf 11 = .ok (.iconst 4, 1) := by decide +kernel
theorem dM_oddsOf_12 : decode cM_oddsOf 12 = .ok (.if_icmp .ge 99, 3) := by decide +kernel
theorem dM_oddsOf_15 : decode cM_oddsOf 15 = .ok (.aload_n 0, 1) := by decide +kernel
theorem dM_oddsOf_16 : decode cM_oddsOf 16 = .ok (.iload_n 1, 1) := by decide +kernel
theorem dM_oddsOf_17 : decode cM_oddsOf 17 = .ok (.iload_n 2, 1) := by decide +kernel
theorem dM_oddsOf_18 : decode cM_oddsOf 18 = .ok (.iload 8, 2) := by decide +kernel
theorem dM_oddsOf_20 : decode cM_oddsOf 20 = .ok (.invokevirtual 29, 3) := by decide +kernel
theorem dM_oddsOf_23 : decode cM_oddsOf 23 = .ok (.ifCond .eq 82, 3) := by decide +kernel
theorem dM_oddsOf_26 : decode cM_oddsOf 26 = .ok (.ldc2_w 37, 3) := by decide +kernel
theorem dM_oddsOf_29 : decode cM_oddsOf 29 = .ok (.aload_n 0, 1) := by decide +kernel
theorem dM_oddsOf_30 : decode cM_oddsOf 30 = .ok (.iload 8, 2) := by decide +kernel
theorem dM_oddsOf_32 : decode cM_oddsOf 32 = .ok (.invokevirtual 39, 3) := by decide +kernel
theorem dM_oddsOf_35 : decode cM_oddsOf 35 = .ok (.i2l, 1) := by decide +kernel
theorem dM_oddsOf_36 : decode cM_oddsOf 36 = .ok (.lmul, 1) := by decide +kernel
theorem dM_oddsOf_37 : decode cM_oddsOf 37 = .ok (.lstore 9, 2) := by decide +kernel
theorem dM_oddsOf_39 : decode cM_oddsOf 39 = .ok (.aload_n 0, 1) := by decide +kernel
theorem dM_oddsOf_40 : decode cM_oddsOf 40 = .ok (.iload 8, 2) := by decide +kernel
theorem dM_oddsOf_42 : decode cM_oddsOf 42 = .ok (.invokevirtual 43, 3) := by decide +kernel
theorem dM_oddsOf_45 : decode cM_oddsOf 45 = .ok (.i2l, 1) := by decide +kernel
theorem dM_oddsOf_46 : decode cM_oddsOf 46 = .ok (.lstore 11, 2) := by decide +kernel
theorem dM_oddsOf_48 : decode cM_oddsOf 48 = .ok (.aload_n 0, 1) := by decide +kernel
theorem dM_oddsOf_49 : decode cM_oddsOf 49 = .ok (.iload_n 1, 1) := by decide +kernel
theorem dM_oddsOf_50 : decode cM_oddsOf 50 = .ok (.iload 8, 2) := by decide +kernel
theorem dM_oddsOf_52 : decode cM_oddsOf 52 = .ok (.invokevirtual 46, 3) := by decide +kernel
theorem dM_oddsOf_55 : decode cM_oddsOf 55 = .ok (.istore 13, 2) := by decide +kernel
theorem dM_oddsOf_57 : decode cM_oddsOf 57 = .ok (.lload 4, 2) := by decide +kernel
theorem dM_oddsOf_59 : decode cM_oddsOf 59 = .ok (.iload 13, 2) := by decide +kernel
theorem dM_oddsOf_61 : decode cM_oddsOf 61 = .ok (.aload_n 0, 1) := by decide +kernel
theorem dM_oddsOf_62 : decode cM_oddsOf 62 = .ok (.iload_n 2, 1) := by decide +kernel
theorem dM_oddsOf_63 : decode cM_oddsOf 63 = .ok (.iload 8, 2) := by decide +kernel
theorem dM_oddsOf_65 : decode cM_oddsOf 65 = .ok (.invokevirtual 46, 3) := by decide +kernel
theorem dM_oddsOf_68 : decode cM_oddsOf 68 = .ok (.lload 9, 2) := by decide +kernel
theorem dM_oddsOf_70 : decode cM_oddsOf 70 = .ok (.lload 11, 2) := by decide +kernel
theorem dM_oddsOf_72 : decode cM_oddsOf 72 = .ok (.lsub, 1) := by decide +kernel
theorem dM_oddsOf_73 : decode cM_oddsOf 73 = .ok (.lload 11, 2) := by decide +kernel
theorem dM_oddsOf_75 : decode cM_oddsOf 75 = .ok (.invokestatic 50, 3) := by decide +kernel
theorem dM_oddsOf_78 : decode cM_oddsOf 78 = .ok (.lload 9, 2) := by decide +kernel
theorem dM_oddsOf_80 : decode cM_oddsOf 80 = .ok (.lmul, 1) := by decide +kernel
theorem dM_oddsOf_81 : decode cM_oddsOf 81 = .ok (.lmul, 1) := by decide +kernel
theorem dM_oddsOf_82 : decode cM_oddsOf 82 = .ok (.lstore 4, 2) := by decide +kernel
theorem dM_oddsOf_84 : decode cM_oddsOf 84 = .ok (.lload 6, 2) := by decide +kernel
theorem dM_oddsOf_86 : decode cM_oddsOf 86 = .ok (.iload 13, 2) := by decide +kernel
theorem dM_oddsOf_88 : decode cM_oddsOf 88 = .ok (.lload 9, 2) := by decide +kernel
theorem dM_oddsOf_90 : decode cM_oddsOf 90 = .ok (.lload 11, 2) := by decide +kernel
theorem dM_oddsOf_92 : decode cM_oddsOf 92 = .ok (.lsub, 1) := by decide +kernel
theorem dM_oddsOf_93 : decode cM_oddsOf 93 = .ok (.lload 11, 2) := by decide +kernel
theorem dM_oddsOf_95 : decode cM_oddsOf 95 = .ok (.invokestatic 54, 3) := by decide +kernel
theorem dM_oddsOf_98 : decode cM_oddsOf 98 = .ok (.ldc2_w 37, 3) := by decide +kernel
theorem dM_oddsOf_101 : decode cM_oddsOf 101 = .ok (.lmul, 1) := by decide +kernel
theorem dM_oddsOf_102 : decode cM_oddsOf 102 = .ok (.lmul, 1) := by decide +kernel
theorem dM_oddsOf_103 : decode cM_oddsOf 103 = .ok (.lstore 6, 2) := by decide +kernel
theorem dM_oddsOf_105 : decode cM_oddsOf 105 = .ok (.iinc 8 1, 3) := by decide +kernel
theorem dM_oddsOf_108 : decode cM_oddsOf 108 = .ok (.goto (-99), 3) := by decide +kernel
theorem dM_oddsOf_111 : decode cM_oddsOf 111 = .ok (.lload 4, 2) := by decide +kernel
theorem dM_oddsOf_113 : decode cM_oddsOf 113 = .ok (.lload 6, 2) := by decide +kernel
theorem dM_oddsOf_115 : decode cM_oddsOf 115 = .ok (.iload_n 3, 1) := by decide +kernel
theorem dM_oddsOf_116 : decode cM_oddsOf 116 = .ok (.invokestatic 58, 3) := by decide +kernel
theorem dM_oddsOf_119 : decode cM_oddsOf 119 = .ok (.lreturn, 1) := by decide +kernel
theorem dM_likenessOf_0 : decode cM_likenessOf 0 = .ok (.lconst 0, 1) := by decide +kernel
theorem dM_likenessOf_1 : decode cM_likenessOf 1 = .ok (.lstore 4, 2) := by decide +kernel
theorem dM_likenessOf_3 : decode cM_likenessOf 3 = .ok (.lconst 0, 1) := by decide +kernel
theorem dM_likenessOf_4 : decode cM_likenessOf 4 = .ok (.lstore 6, 2) := by decide +kernel
theorem dM_likenessOf_6 : decode cM_likenessOf 6 = .ok (.iconst 0, 1) := by decide +kernel
theorem dM_likenessOf_7 : decode cM_likenessOf 7 = .ok (.istore 8, 2) := by decide +kernel
theorem dM_likenessOf_9 : decode cM_likenessOf 9 = .ok (.iload 8, 2) := by decide +kernel
theorem dM_likenessOf_11 : decode cM_likenessOf 11 = .ok (.iconst 4, 1) := by decide +kernel
theorem dM_likenessOf_12 : decode cM_likenessOf 12 = .ok (.if_icmp .ge 42, 3) := by decide +kernel
theorem dM_likenessOf_15 : decode cM_likenessOf 15 = .ok (.aload_n 0, 1) := by decide +kernel
theorem dM_likenessOf_16 : decode cM_likenessOf 16 = .ok (.iload_n 1, 1) := by decide +kernel
theorem dM_likenessOf_17 : decode cM_likenessOf 17 = .ok (.iload_n 2, 1) := by decide +kernel
theorem dM_likenessOf_18 : decode cM_likenessOf 18 = .ok (.iload 8, 2) := by decide +kernel
theorem dM_likenessOf_20 : decode cM_likenessOf 20 = .ok (.invokevirtual 29, 3) := by decide +kernel
theorem dM_likenessOf_23 : decode cM_likenessOf 23 = .ok (.ifCond .eq 25, 3) := by decide +kernel
theorem dM_likenessOf_26 : decode cM_likenessOf 26 = .ok (.lload 4, 2) := by decide +kernel
theorem dM_likenessOf_28 : decode cM_likenessOf 28 = .ok (.iconst 2, 1) := by decide +kernel
theorem dM_likenessOf_29 : decode cM_likenessOf 29 = .ok (.aload_n 0, 1) := by decide +kernel
theorem dM_likenessOf_30 : decode cM_likenessOf 30 = .ok (.iload_n 1, 1) := by decide +kernel
theorem dM_likenessOf_31 : decode cM_likenessOf 31 = .ok (.iload_n 2, 1) := by decide +kernel
theorem dM_likenessOf_32 : decode cM_likenessOf 32 = .ok (.iload 8, 2) := by decide +kernel
theorem dM_likenessOf_34 : decode cM_likenessOf 34 = .ok (.invokevirtual 33, 3) := by decide +kernel
theorem dM_likenessOf_37 : decode cM_likenessOf 37 = .ok (.isub, 1) := by decide +kernel
theorem dM_likenessOf_38 : decode cM_likenessOf 38 = .ok (.i2l, 1) := by decide +kernel
theorem dM_likenessOf_39 : decode cM_likenessOf 39 = .ok (.ladd, 1) := by decide +kernel
theorem dM_likenessOf_40 : decode cM_likenessOf 40 = .ok (.lstore 4, 2) := by decide +kernel
theorem dM_likenessOf_42 : decode cM_likenessOf 42 = .ok (.lload 6, 2) := by decide +kernel
theorem dM_likenessOf_44 : decode cM_likenessOf 44 = .ok (.lconst 1, 1) := by decide +kernel
theorem dM_likenessOf_45 : decode cM_likenessOf 45 = .ok (.ladd, 1) := by decide +kernel
theorem dM_likenessOf_46 : decode cM_likenessOf 46 = .ok (.lstore 6, 2) := by decide +kernel
theorem dM_likenessOf_48 : decode cM_likenessOf 48 = .ok (.iinc 8 1, 3) := by decide +kernel
theorem dM_likenessOf_51 : decode cM_likenessOf 51 = .ok (.goto (-42), 3) := by decide +kernel
theorem dM_likenessOf_54 : decode cM_likenessOf 54 = .ok (.lload 6, 2) := by decide +kernel
theorem dM_likenessOf_56 : decode cM_likenessOf 56 = .ok (.lconst 0, 1) := by decide +kernel
theorem dM_likenessOf_57 : decode cM_likenessOf 57 = .ok (.lcmp, 1) := by decide +kernel
theorem dM_likenessOf_58 : decode cM_likenessOf 58 = .ok (.ifCond .ne 9, 3) := by decide +kernel
theorem dM_likenessOf_61 : decode cM_likenessOf 61 = .ok (.ldc2_w 64, 3) := by decide +kernel
theorem dM_likenessOf_64 : decode cM_likenessOf 64 = .ok (.goto 15, 3) := by decide +kernel
theorem dM_likenessOf_67 : decode cM_likenessOf 67 = .ok (.lload 4, 2) := by decide +kernel
theorem dM_likenessOf_69 : decode cM_likenessOf 69 = .ok (.ldc2_w 37, 3) := by decide +kernel
theorem dM_likenessOf_72 : decode cM_likenessOf 72 = .ok (.lload 6, 2) := by decide +kernel
theorem dM_likenessOf_74 : decode cM_likenessOf 74 = .ok (.lmul, 1) := by decide +kernel
theorem dM_likenessOf_75 : decode cM_likenessOf 75 = .ok (.iload_n 3, 1) := by decide +kernel
theorem dM_likenessOf_76 : decode cM_likenessOf 76 = .ok (.invokestatic 58, 3) := by decide +kernel
theorem dM_likenessOf_79 : decode cM_likenessOf 79 = .ok (.lreturn, 1) := by decide +kernel
theorem dM_setForm_0 : decode cM_setForm 0 = .ok (.aload_n 0, 1) := by decide +kernel
theorem dM_setForm_1 : decode cM_setForm 1 = .ok (.iload_n 1, 1) := by decide +kernel
theorem dM_setForm_2 : decode cM_setForm 2 = .ok (.iload_n 2, 1) := by decide +kernel
theorem dM_setForm_3 : decode cM_setForm 3 = .ok (.invokevirtual 25, 3) := by decide +kernel
theorem dM_setForm_6 : decode cM_setForm 6 = .ok (.ifCond .eq 13, 3) := by decide +kernel
theorem dM_setForm_9 : decode cM_setForm 9 = .ok (.iload_n 3, 1) := by decide +kernel
theorem dM_setForm_10 : decode cM_setForm 10 = .ok (.iconst (-1), 1) := by decide +kernel
theorem dM_setForm_11 : decode cM_setForm 11 = .ok (.if_icmp .lt 8, 3) := by decide +kernel
theorem dM_setForm_14 : decode cM_setForm 14 = .ok (.iload_n 3, 1) := by decide +kernel
theorem dM_setForm_15 : decode cM_setForm 15 = .ok (.iconst 2, 1) := by decide +kernel
theorem dM_setForm_16 : decode cM_setForm 16 = .ok (.if_icmp .le 5, 3) := by decide +kernel
theorem dM_setForm_19 : decode cM_setForm 19 = .ok (.iconst 0, 1) := by decide +kernel
theorem dM_setForm_20 : decode cM_setForm 20 = .ok (.ireturn, 1) := by decide +kernel
theorem dM_setForm_21 : decode cM_setForm 21 = .ok (.aload_n 0, 1) := by decide +kernel
theorem dM_setForm_22 : decode cM_setForm 22 = .ok (.getfield 11, 3) := by decide +kernel
theorem dM_setForm_25 : decode cM_setForm 25 = .ok (.iload_n 1, 1) := by decide +kernel
theorem dM_setForm_26 : decode cM_setForm 26 = .ok (.iconst 4, 1) := by decide +kernel
theorem dM_setForm_27 : decode cM_setForm 27 = .ok (.imul, 1) := by decide +kernel
theorem dM_setForm_28 : decode cM_setForm 28 = .ok (.iload_n 2, 1) := by decide +kernel
theorem dM_setForm_29 : decode cM_setForm 29 = .ok (.iadd, 1) := by decide +kernel
theorem dM_setForm_30 : decode cM_setForm 30 = .ok (.iload_n 3, 1) := by decide +kernel
theorem dM_setForm_31 : decode cM_setForm 31 = .ok (.iastore, 1) := by decide +kernel
theorem dM_setForm_32 : decode cM_setForm 32 = .ok (.iconst 1, 1) := by decide +kernel
theorem dM_setForm_33 : decode cM_setForm 33 = .ok (.ireturn, 1) := by decide +kernel
theorem dK_isAnimal_0 : decode cK_isAnimal 0 = .ok (.iload_n 1, 1) := by decide +kernel
theorem dK_isAnimal_1 : decode cK_isAnimal 1 = .ok (.ifCond .lt 15, 3) := by decide +kernel
theorem dK_isAnimal_4 : decode cK_isAnimal 4 = .ok (.iload_n 1, 1) := by decide +kernel
theorem dK_isAnimal_5 : decode cK_isAnimal 5 = .ok (.aload_n 0, 1) := by decide +kernel
theorem dK_isAnimal_6 : decode cK_isAnimal 6 = .ok (.getfield 29, 3) := by decide +kernel
theorem dK_isAnimal_9 : decode cK_isAnimal 9 = .ok (.if_icmp .ge 7, 3) := by decide +kernel
theorem dK_isAnimal_12 : decode cK_isAnimal 12 = .ok (.iconst 1, 1) := by decide +kernel
theorem dK_isAnimal_13 : decode cK_isAnimal 13 = .ok (.goto 4, 3) := by decide +kernel
theorem dK_isAnimal_16 : decode cK_isAnimal 16 = .ok (.iconst 0, 1) := by decide +kernel
theorem dK_isAnimal_17 : decode cK_isAnimal 17 = .ok (.ireturn, 1) := by decide +kernel
theorem dK_isAnimalOrNone_0 : decode cK_isAnimalOrNone 0 = .ok (.iload_n 1, 1) := by decide +kernel
theorem dK_isAnimalOrNone_1 : decode cK_isAnimalOrNone 1 = .ok (.iconst (-1), 1) := by decide +kernel
theorem dK_isAnimalOrNone_2 : decode cK_isAnimalOrNone 2 = .ok (.if_icmp .eq 11, 3) := by decide +kernel
theorem dK_isAnimalOrNone_5 : decode cK_isAnimalOrNone 5 = .ok (.aload_n 0, 1) := by decide +kernel
theorem dK_isAnimalOrNone_6 : decode cK_isAnimalOrNone 6 = .ok (.iload_n 1, 1) := by decide +kernel
theorem dK_isAnimalOrNone_7 : decode cK_isAnimalOrNone 7 = .ok (.invokevirtual 58, 3) := by decide +kernel
theorem dK_isAnimalOrNone_10 : decode cK_isAnimalOrNone 10 = .ok (.ifCond .eq 7, 3) := by decide +kernel
theorem dK_isAnimalOrNone_13 : decode cK_isAnimalOrNone 13 = .ok (.iconst 1, 1) := by decide +kernel
theorem dK_isAnimalOrNone_14 : decode cK_isAnimalOrNone 14 = .ok (.goto 4, 3) := by decide +kernel
theorem dK_isAnimalOrNone_17 : decode cK_isAnimalOrNone 17 = .ok (.iconst 0, 1) := by decide +kernel
theorem dK_isAnimalOrNone_18 : decode cK_isAnimalOrNone 18 = .ok (.ireturn, 1) := by decide +kernel
theorem dK_mayBeParent_0 : decode cK_mayBeParent 0 = .ok (.aload_n 0, 1) := by decide +kernel
theorem dK_mayBeParent_1 : decode cK_mayBeParent 1 = .ok (.iload_n 1, 1) := by decide +kernel
theorem dK_mayBeParent_2 : decode cK_mayBeParent 2 = .ok (.invokevirtual 58, 3) := by decide +kernel
theorem dK_mayBeParent_5 : decode cK_mayBeParent 5 = .ok (.ifCond .eq 11, 3) := by decide +kernel
theorem dK_mayBeParent_8 : decode cK_mayBeParent 8 = .ok (.aload_n 0, 1) := by decide +kernel
theorem dK_mayBeParent_9 : decode cK_mayBeParent 9 = .ok (.iload_n 2, 1) := by decide +kernel
theorem dK_mayBeParent_10 : decode cK_mayBeParent 10 = .ok (.invokevirtual 58, 3) := by decide +kernel
theorem dK_mayBeParent_13 : decode cK_mayBeParent 13 = .ok (.ifCond .ne 5, 3) := by decide +kernel
theorem dK_mayBeParent_16 : decode cK_mayBeParent 16 = .ok (.iconst 1, 1) := by decide +kernel
theorem dK_mayBeParent_17 : decode cK_mayBeParent 17 = .ok (.ireturn, 1) := by decide +kernel
theorem dK_mayBeParent_18 : decode cK_mayBeParent 18 = .ok (.aload_n 0, 1) := by decide +kernel
theorem dK_mayBeParent_19 : decode cK_mayBeParent 19 = .ok (.getfield 9, 3) := by decide +kernel
theorem dK_mayBeParent_22 : decode cK_mayBeParent 22 = .ok (.iload_n 2, 1) := by decide +kernel
theorem dK_mayBeParent_23 : decode cK_mayBeParent 23 = .ok (.iaload, 1) := by decide +kernel
theorem dK_mayBeParent_24 : decode cK_mayBeParent 24 = .ok (.iload_n 3, 1) := by decide +kernel
theorem dK_mayBeParent_25 : decode cK_mayBeParent 25 = .ok (.if_icmp .ne 5, 3) := by decide +kernel
theorem dK_mayBeParent_28 : decode cK_mayBeParent 28 = .ok (.iconst 0, 1) := by decide +kernel
theorem dK_mayBeParent_29 : decode cK_mayBeParent 29 = .ok (.ireturn, 1) := by decide +kernel
theorem dK_mayBeParent_30 : decode cK_mayBeParent 30 = .ok (.aload_n 0, 1) := by decide +kernel
theorem dK_mayBeParent_31 : decode cK_mayBeParent 31 = .ok (.getfield 13, 3) := by decide +kernel
theorem dK_mayBeParent_34 : decode cK_mayBeParent 34 = .ok (.iload_n 2, 1) := by decide +kernel
theorem dK_mayBeParent_35 : decode cK_mayBeParent 35 = .ok (.iaload, 1) := by decide +kernel
theorem dK_mayBeParent_36 : decode cK_mayBeParent 36 = .ok (.iconst (-1), 1) := by decide +kernel
theorem dK_mayBeParent_37 : decode cK_mayBeParent 37 = .ok (.if_icmp .eq 28, 3) := by decide +kernel
theorem dK_mayBeParent_40 : decode cK_mayBeParent 40 = .ok (.aload_n 0, 1) := by decide +kernel
theorem dK_mayBeParent_41 : decode cK_mayBeParent 41 = .ok (.getfield 13, 3) := by decide +kernel
theorem dK_mayBeParent_44 : decode cK_mayBeParent 44 = .ok (.iload_n 1, 1) := by decide +kernel
theorem dK_mayBeParent_45 : decode cK_mayBeParent 45 = .ok (.iaload, 1) := by decide +kernel
theorem dK_mayBeParent_46 : decode cK_mayBeParent 46 = .ok (.iconst (-1), 1) := by decide +kernel
theorem dK_mayBeParent_47 : decode cK_mayBeParent 47 = .ok (.if_icmp .eq 18, 3) := by decide +kernel
theorem dK_mayBeParent_50 : decode cK_mayBeParent 50 = .ok (.aload_n 0, 1) := by decide +kernel
theorem dK_mayBeParent_51 : decode cK_mayBeParent 51 = .ok (.getfield 13, 3) := by decide +kernel
theorem dK_mayBeParent_54 : decode cK_mayBeParent 54 = .ok (.iload_n 2, 1) := by decide +kernel
theorem dK_mayBeParent_55 : decode cK_mayBeParent 55 = .ok (.iaload, 1) := by decide +kernel
theorem dK_mayBeParent_56 : decode cK_mayBeParent 56 = .ok (.aload_n 0, 1) := by decide +kernel
theorem dK_mayBeParent_57 : decode cK_mayBeParent 57 = .ok (.getfield 13, 3) := by decide +kernel
theorem dK_mayBeParent_60 : decode cK_mayBeParent 60 = .ok (.iload_n 1, 1) := by decide +kernel
theorem dK_mayBeParent_61 : decode cK_mayBeParent 61 = .ok (.iaload, 1) := by decide +kernel
theorem dK_mayBeParent_62 : decode cK_mayBeParent 62 = .ok (.if_icmp .ge 7, 3) := by decide +kernel
theorem dK_mayBeParent_65 : decode cK_mayBeParent 65 = .ok (.iconst 1, 1) := by decide +kernel
theorem dK_mayBeParent_66 : decode cK_mayBeParent 66 = .ok (.goto 4, 3) := by decide +kernel
theorem dK_mayBeParent_69 : decode cK_mayBeParent 69 = .ok (.iconst 0, 1) := by decide +kernel
theorem dK_mayBeParent_70 : decode cK_mayBeParent 70 = .ok (.ireturn, 1) := by decide +kernel
theorem dK_mayBeParents_0 : decode cK_mayBeParents 0 = .ok (.aload_n 0, 1) := by decide +kernel
theorem dK_mayBeParents_1 : decode cK_mayBeParents 1 = .ok (.iload_n 1, 1) := by decide +kernel
theorem dK_mayBeParents_2 : decode cK_mayBeParents 2 = .ok (.iload_n 2, 1) := by decide +kernel
theorem dK_mayBeParents_3 : decode cK_mayBeParents 3 = .ok (.iconst 2, 1) := by decide +kernel
theorem dK_mayBeParents_4 : decode cK_mayBeParents 4 = .ok (.invokevirtual 153, 3) := by decide +kernel
theorem dK_mayBeParents_7 : decode cK_mayBeParents 7 = .ok (.ifCond .eq 17, 3) := by decide +kernel
theorem dK_mayBeParents_10 : decode cK_mayBeParents 10 = .ok (.aload_n 0, 1) := by decide +kernel
theorem dK_mayBeParents_11 : decode cK_mayBeParents 11 = .ok (.iload_n 1, 1) := by decide +kernel
theorem dK_mayBeParents_12 : decode cK_mayBeParents 12 = .ok (.iload_n 3, 1) := by decide +kernel
theorem dK_mayBeParents_13 : decode cK_mayBeParents 13 = .ok (.iconst 1, 1) := by decide +kernel
theorem dK_mayBeParents_14 : decode cK_mayBeParents 14 = .ok (.invokevirtual 153, 3) := by decide +kernel
theorem dK_mayBeParents_17 : decode cK_mayBeParents 17 = .ok (.ifCond .eq 7, 3) := by decide +kernel
theorem dK_mayBeParents_20 : decode cK_mayBeParents 20 = .ok (.iconst 1, 1) := by decide +kernel
theorem dK_mayBeParents_21 : decode cK_mayBeParents 21 = .ok (.goto 4, 3) := by decide +kernel
theorem dK_mayBeParents_24 : decode cK_mayBeParents 24 = .ok (.iconst 0, 1) := by decide +kernel
theorem dK_mayBeParents_25 : decode cK_mayBeParents 25 = .ok (.ireturn, 1) := by decide +kernel
theorem dK_areSexesAndDaysRight_0 : decode cK_areSexesAndDaysRight 0 = .ok (.iconst 0, 1) := by decide +kernel
theorem dK_areSexesAndDaysRight_1 : decode cK_areSexesAndDaysRight 1 = .ok (.istore_n 1, 1) := by decide +kernel
theorem dK_areSexesAndDaysRight_2 : decode cK_areSexesAndDaysRight 2 = .ok (.iload_n 1, 1) := by decide +kernel
theorem dK_areSexesAndDaysRight_3 : decode cK_areSexesAndDaysRight 3 = .ok (.aload_n 0, 1) := by decide +kernel
theorem dK_areSexesAndDaysRight_4 : decode cK_areSexesAndDaysRight 4 = .ok (.getfield 29, 3) := by decide +kernel
theorem dK_areSexesAndDaysRight_7 : decode cK_areSexesAndDaysRight 7 = .ok (.if_icmp .ge 35, 3) := by decide +kernel
theorem dK_areSexesAndDaysRight_10 : decode cK_areSexesAndDaysRight 10 = .ok (.aload_n 0, 1) := by decide +kernel
theorem dK_areSexesAndDaysRight_11 : decode cK_areSexesAndDaysRight 11 = .ok (.iload_n 1, 1) := by decide +kernel
theorem dK_areSexesAndDaysRight_12 : decode cK_areSexesAndDaysRight 12 = .ok (.aload_n 0, 1) := by decide +kernel
theorem dK_areSexesAndDaysRight_13 : decode cK_areSexesAndDaysRight 13 = .ok (.getfield 38, 3) := by decide +kernel
theorem dK_areSexesAndDaysRight_16 : decode cK_areSexesAndDaysRight 16 = .ok (.iload_n 1, 1) := by decide +kernel
theorem dK_areSexesAndDaysRight_17 : decode cK_areSexesAndDaysRight 17 = .ok (.invokevirtual 144, 3) := by decide +kernel
theorem dK_areSexesAndDaysRight_20 : decode cK_areSexesAndDaysRight 20 = .ok (.aload_n 0, 1) := by decide +kernel
theorem dK_areSexesAndDaysRight_21 : decode cK_areSexesAndDaysRight 21 = .ok (.getfield 38, 3) := by decide +kernel
theorem dK_areSexesAndDaysRight_24 : decode cK_areSexesAndDaysRight 24 = .ok (.iload_n 1, 1) := by decide +kernel
theorem dK_areSexesAndDaysRight_25 : decode cK_areSexesAndDaysRight 25 = .ok (.invokevirtual 147, 3) := by decide +kernel
theorem dK_areSexesAndDaysRight_28 : decode cK_areSexesAndDaysRight 28 = .ok (.invokevirtual 73, 3) := by decide +kernel
theorem dK_areSexesAndDaysRight_31 : decode cK_areSexesAndDaysRight 31 = .ok (.ifCond .ne 5, 3) := by decide +kernel
theorem dK_areSexesAndDaysRight_34 : decode cK_areSexesAndDaysRight 34 = .ok (.iconst 0, 1) := by decide +kernel
theorem dK_areSexesAndDaysRight_35 : decode cK_areSexesAndDaysRight 35 = .ok (.ireturn, 1) := by decide +kernel
theorem dK_areSexesAndDaysRight_36 : decode cK_areSexesAndDaysRight 36 = .ok (.iinc 1 1, 3) := by decide +kernel
theorem dK_areSexesAndDaysRight_39 : decode cK_areSexesAndDaysRight 39 = .ok (.goto (-37), 3) := by decide +kernel
theorem dK_areSexesAndDaysRight_42 : decode cK_areSexesAndDaysRight 42 = .ok (.iconst 1, 1) := by decide +kernel
theorem dK_areSexesAndDaysRight_43 : decode cK_areSexesAndDaysRight 43 = .ok (.ireturn, 1) := by decide +kernel
theorem dK_isLost_0 : decode cK_isLost 0 = .ok (.aload_n 0, 1) := by decide +kernel
theorem dK_isLost_1 : decode cK_isLost 1 = .ok (.iload_n 1, 1) := by decide +kernel
theorem dK_isLost_2 : decode cK_isLost 2 = .ok (.invokevirtual 58, 3) := by decide +kernel
theorem dK_isLost_5 : decode cK_isLost 5 = .ok (.ifCond .eq 23, 3) := by decide +kernel
theorem dK_isLost_8 : decode cK_isLost 8 = .ok (.aload_n 0, 1) := by decide +kernel
theorem dK_isLost_9 : decode cK_isLost 9 = .ok (.getfield 38, 3) := by decide +kernel
theorem dK_isLost_12 : decode cK_isLost 12 = .ok (.iload_n 1, 1) := by decide +kernel
theorem dK_isLost_13 : decode cK_isLost 13 = .ok (.invokevirtual 112, 3) := by decide +kernel
theorem dK_isLost_16 : decode cK_isLost 16 = .ok (.ifCond .eq 12, 3) := by decide +kernel
theorem dK_isLost_19 : decode cK_isLost 19 = .ok (.aload_n 0, 1) := by decide +kernel
theorem dK_isLost_20 : decode cK_isLost 20 = .ok (.getfield 16, 3) := by decide +kernel
theorem dK_isLost_23 : decode cK_isLost 23 = .ok (.iload_n 1, 1) := by decide +kernel
theorem dK_isLost_24 : decode cK_isLost 24 = .ok (.baload, 1) := by decide +kernel
theorem dK_isLost_25 : decode cK_isLost 25 = .ok (.ifCond .ne 5, 3) := by decide +kernel
theorem dK_isLost_28 : decode cK_isLost 28 = .ok (.iconst 0, 1) := by decide +kernel
theorem dK_isLost_29 : decode cK_isLost 29 = .ok (.ireturn, 1) := by decide +kernel
theorem dK_isLost_30 : decode cK_isLost 30 = .ok (.iconst 0, 1) := by decide +kernel
theorem dK_isLost_31 : decode cK_isLost 31 = .ok (.istore_n 2, 1) := by decide +kernel
theorem dK_isLost_32 : decode cK_isLost 32 = .ok (.iload_n 2, 1) := by decide +kernel
theorem dK_isLost_33 : decode cK_isLost 33 = .ok (.aload_n 0, 1) := by decide +kernel
theorem dK_isLost_34 : decode cK_isLost 34 = .ok (.getfield 29, 3) := by decide +kernel
theorem dK_isLost_37 : decode cK_isLost 37 = .ok (.if_icmp .ge 32, 3) := by decide +kernel
theorem dK_isLost_40 : decode cK_isLost 40 = .ok (.aload_n 0, 1) := by decide +kernel
theorem dK_isLost_41 : decode cK_isLost 41 = .ok (.getfield 16, 3) := by decide +kernel
theorem dK_isLost_44 : decode cK_isLost 44 = .ok (.iload_n 2, 1) := by decide +kernel
theorem dK_isLost_45 : decode cK_isLost 45 = .ok (.baload, 1) := by decide +kernel
theorem dK_isLost_46 : decode cK_isLost 46 = .ok (.ifCond .ne 17, 3) := by decide +kernel
theorem dK_isLost_49 : decode cK_isLost 49 = .ok (.aload_n 0, 1) := by decide +kernel
theorem dK_isLost_50 : decode cK_isLost 50 = .ok (.getfield 38, 3) := by decide +kernel
theorem dK_isLost_53 : decode cK_isLost 53 = .ok (.iload_n 2, 1) := by decide +kernel
theorem dK_isLost_54 : decode cK_isLost 54 = .ok (.iload_n 1, 1) := by decide +kernel
theorem dK_isLost_55 : decode cK_isLost 55 = .ok (.invokevirtual 118, 3) := by decide +kernel
theorem dK_isLost_58 : decode cK_isLost 58 = .ok (.ifCond .eq 5, 3) := by decide +kernel
theorem dK_isLost_61 : decode cK_isLost 61 = .ok (.iconst 0, 1) := by decide +kernel
theorem dK_isLost_62 : decode cK_isLost 62 = .ok (.ireturn, 1) := by decide +kernel
theorem dK_isLost_63 : decode cK_isLost 63 = .ok (.iinc 2 1, 3) := by decide +kernel
theorem dK_isLost_66 : decode cK_isLost 66 = .ok (.goto (-34), 3) := by decide +kernel
theorem dK_isLost_69 : decode cK_isLost 69 = .ok (.iconst 1, 1) := by decide +kernel
theorem dK_isLost_70 : decode cK_isLost 70 = .ok (.ireturn, 1) := by decide +kernel
theorem dK_kinWithLiving_0 : decode cK_kinWithLiving 0 = .ok (.lconst 0, 1) := by decide +kernel
theorem dK_kinWithLiving_1 : decode cK_kinWithLiving 1 = .ok (.lstore_n 2, 1) := by decide +kernel
theorem dK_kinWithLiving_2 : decode cK_kinWithLiving 2 = .ok (.iconst 0, 1) := by decide +kernel
theorem dK_kinWithLiving_3 : decode cK_kinWithLiving 3 = .ok (.istore 4, 2) := by decide +kernel
theorem dK_kinWithLiving_5 : decode cK_kinWithLiving 5 = .ok (.iload 4, 2) := by decide +kernel
theorem dK_kinWithLiving_7 : decode cK_kinWithLiving 7 = .ok (.aload_n 0, 1) := by decide +kernel
theorem dK_kinWithLiving_8 : decode cK_kinWithLiving 8 = .ok (.getfield 29, 3) := by decide +kernel
theorem dK_kinWithLiving_11 : decode cK_kinWithLiving 11 = .ok (.if_icmp .ge 32, 3) := by decide +kernel
theorem dK_kinWithLiving_14 : decode cK_kinWithLiving 14 = .ok (.aload_n 0, 1) := by decide +kernel
theorem dK_kinWithLiving_15 : decode cK_kinWithLiving 15 = .ok (.getfield 16, 3) := by decide +kernel
theorem dK_kinWithLiving_18 : decode cK_kinWithLiving 18 = .ok (.iload 4, 2) := by decide +kernel
theorem dK_kinWithLiving_20 : decode cK_kinWithLiving 20 = .ok (.baload, 1) := by decide +kernel
theorem dK_kinWithLiving_21 : decode cK_kinWithLiving 21 = .ok (.ifCond .ne 16, 3) := by decide +kernel
theorem dK_kinWithLiving_24 : decode cK_kinWithLiving 24 = .ok (.lload_n 2, 1) := by decide +kernel
theorem dK_kinWithLiving_25 : decode cK_kinWithLiving 25 = .ok (.aload_n 0, 1) := by decide +kernel
theorem dK_kinWithLiving_26 : decode cK_kinWithLiving 26 = .ok (.getfield 38, 3) := by decide +kernel
end
section
theorem dK_kinWithLiving_29 : decode cK_kinWithLiving 29 = .ok (.iload_n 1, 1) := by decide +kernel
theorem dK_kinWithLiving_30 : decode cK_kinWithLiving 30 = .ok (.iload 4, 2) := by decide +kernel
theorem dK_kinWithLiving_32 : decode cK_kinWithLiving 32 = .ok (.invokevirtual 95, 3) := by decide +kernel
theorem dK_kinWithLiving_35 : decode cK_kinWithLiving 35 = .ok (.ladd, 1) := by decide +kernel
theorem dK_kinWithLiving_36 : decode cK_kinWithLiving 36 = .ok (.lstore_n 2, 1) := by decide +kernel
theorem dK_kinWithLiving_37 : decode cK_kinWithLiving 37 = .ok (.iinc 4 1, 3) := by decide +kernel
theorem dK_kinWithLiving_40 : decode cK_kinWithLiving 40 = .ok (.goto (-35), 3) := by decide +kernel
theorem dK_kinWithLiving_43 : decode cK_kinWithLiving 43 = .ok (.lload_n 2, 1) := by decide +kernel
theorem dK_kinWithLiving_44 : decode cK_kinWithLiving 44 = .ok (.lreturn, 1) := by decide +kernel
theorem dK_parents_0 : decode cK_parents 0 = .ok (.aload_n 0, 1) := by decide +kernel
theorem dK_parents_1 : decode cK_parents 1 = .ok (.getfield 38, 3) := by decide +kernel
theorem dK_parents_4 : decode cK_parents 4 = .ok (.invokevirtual 55, 3) := by decide +kernel
theorem dK_parents_7 : decode cK_parents 7 = .ok (.aload_n 0, 1) := by decide +kernel
theorem dK_parents_8 : decode cK_parents 8 = .ok (.iload_n 1, 1) := by decide +kernel
theorem dK_parents_9 : decode cK_parents 9 = .ok (.invokevirtual 58, 3) := by decide +kernel
theorem dK_parents_12 : decode cK_parents 12 = .ok (.ifCond .eq 19, 3) := by decide +kernel
theorem dK_parents_15 : decode cK_parents 15 = .ok (.aload_n 0, 1) := by decide +kernel
theorem dK_parents_16 : decode cK_parents 16 = .ok (.iload_n 2, 1) := by decide +kernel
theorem dK_parents_17 : decode cK_parents 17 = .ok (.invokevirtual 62, 3) := by decide +kernel
theorem dK_parents_20 : decode cK_parents 20 = .ok (.ifCond .eq 11, 3) := by decide +kernel
theorem dK_parents_23 : decode cK_parents 23 = .ok (.aload_n 0, 1) := by decide +kernel
theorem dK_parents_24 : decode cK_parents 24 = .ok (.iload_n 3, 1) := by decide +kernel
theorem dK_parents_25 : decode cK_parents 25 = .ok (.invokevirtual 62, 3) := by decide +kernel
theorem dK_parents_28 : decode cK_parents 28 = .ok (.ifCond .ne 5, 3) := by decide +kernel
theorem dK_parents_31 : decode cK_parents 31 = .ok (.iconst 0, 1) := by decide +kernel
theorem dK_parents_32 : decode cK_parents 32 = .ok (.ireturn, 1) := by decide +kernel
theorem dK_parents_33 : decode cK_parents 33 = .ok (.iload_n 2, 1) := by decide +kernel
theorem dK_parents_34 : decode cK_parents 34 = .ok (.iload_n 3, 1) := by decide +kernel
theorem dK_parents_35 : decode cK_parents 35 = .ok (.if_icmp .ne 10, 3) := by decide +kernel
theorem dK_parents_38 : decode cK_parents 38 = .ok (.iload_n 2, 1) := by decide +kernel
theorem dK_parents_39 : decode cK_parents 39 = .ok (.iconst (-1), 1) := by decide +kernel
theorem dK_parents_40 : decode cK_parents 40 = .ok (.if_icmp .eq 5, 3) := by decide +kernel
theorem dK_parents_43 : decode cK_parents 43 = .ok (.iconst 0, 1) := by decide +kernel
theorem dK_parents_44 : decode cK_parents 44 = .ok (.ireturn, 1) := by decide +kernel
theorem dK_parents_45 : decode cK_parents 45 = .ok (.aload_n 0, 1) := by decide +kernel
theorem dK_parents_46 : decode cK_parents 46 = .ok (.getfield 38, 3) := by decide +kernel
theorem dK_parents_49 : decode cK_parents 49 = .ok (.iload_n 1, 1) := by decide +kernel
theorem dK_parents_50 : decode cK_parents 50 = .ok (.iload_n 2, 1) := by decide +kernel
theorem dK_parents_51 : decode cK_parents 51 = .ok (.iload_n 3, 1) := by decide +kernel
theorem dK_parents_52 : decode cK_parents 52 = .ok (.invokevirtual 65, 3) := by decide +kernel
theorem dK_parents_55 : decode cK_parents 55 = .ok (.ifCond .eq 15, 3) := by decide +kernel
theorem dK_parents_58 : decode cK_parents 58 = .ok (.aload_n 0, 1) := by decide +kernel
theorem dK_parents_59 : decode cK_parents 59 = .ok (.getfield 38, 3) := by decide +kernel
theorem dK_parents_62 : decode cK_parents 62 = .ok (.iload_n 1, 1) := by decide +kernel
theorem dK_parents_63 : decode cK_parents 63 = .ok (.iload_n 2, 1) := by decide +kernel
theorem dK_parents_64 : decode cK_parents 64 = .ok (.iload_n 3, 1) := by decide +kernel
theorem dK_parents_65 : decode cK_parents 65 = .ok (.invokevirtual 69, 3) := by decide +kernel
theorem dK_parents_68 : decode cK_parents 68 = .ok (.iconst 0, 1) := by decide +kernel
theorem dK_parents_69 : decode cK_parents 69 = .ok (.ireturn, 1) := by decide +kernel
theorem dK_parents_70 : decode cK_parents 70 = .ok (.aload_n 0, 1) := by decide +kernel
theorem dK_parents_71 : decode cK_parents 71 = .ok (.iload_n 1, 1) := by decide +kernel
theorem dK_parents_72 : decode cK_parents 72 = .ok (.iload_n 2, 1) := by decide +kernel
theorem dK_parents_73 : decode cK_parents 73 = .ok (.iload_n 3, 1) := by decide +kernel
theorem dK_parents_74 : decode cK_parents 74 = .ok (.invokevirtual 73, 3) := by decide +kernel
theorem dK_parents_77 : decode cK_parents 77 = .ok (.ifCond .ne 5, 3) := by decide +kernel
theorem dK_parents_80 : decode cK_parents 80 = .ok (.iconst 0, 1) := by decide +kernel
theorem dK_parents_81 : decode cK_parents 81 = .ok (.ireturn, 1) := by decide +kernel
theorem dK_parents_82 : decode cK_parents 82 = .ok (.aload_n 0, 1) := by decide +kernel
theorem dK_parents_83 : decode cK_parents 83 = .ok (.getfield 38, 3) := by decide +kernel
theorem dK_parents_86 : decode cK_parents 86 = .ok (.iload_n 1, 1) := by decide +kernel
theorem dK_parents_87 : decode cK_parents 87 = .ok (.iload_n 2, 1) := by decide +kernel
theorem dK_parents_88 : decode cK_parents 88 = .ok (.iload_n 3, 1) := by decide +kernel
theorem dK_parents_89 : decode cK_parents 89 = .ok (.invokevirtual 76, 3) := by decide +kernel
theorem dK_parents_92 : decode cK_parents 92 = .ok (.iconst 1, 1) := by decide +kernel
theorem dK_parents_93 : decode cK_parents 93 = .ok (.ireturn, 1) := by decide +kernel
theorem dK_ring_0 : decode cK_ring 0 = .ok (.aload_n 0, 1) := by decide +kernel
theorem dK_ring_1 : decode cK_ring 1 = .ok (.getfield 38, 3) := by decide +kernel
theorem dK_ring_4 : decode cK_ring 4 = .ok (.iload_n 1, 1) := by decide +kernel
theorem dK_ring_5 : decode cK_ring 5 = .ok (.invokevirtual 79, 3) := by decide +kernel
theorem dK_ring_8 : decode cK_ring 8 = .ok (.ireturn, 1) := by decide +kernel
theorem dK_told_0 : decode cK_told 0 = .ok (.aload_n 0, 1) := by decide +kernel
theorem dK_told_1 : decode cK_told 1 = .ok (.iload_n 1, 1) := by decide +kernel
theorem dK_told_2 : decode cK_told 2 = .ok (.invokevirtual 58, 3) := by decide +kernel
theorem dK_told_5 : decode cK_told 5 = .ok (.ifCond .eq 23, 3) := by decide +kernel
theorem dK_told_8 : decode cK_told 8 = .ok (.iload_n 2, 1) := by decide +kernel
theorem dK_told_9 : decode cK_told 9 = .ok (.ifCond .lt 19, 3) := by decide +kernel
theorem dK_told_12 : decode cK_told 12 = .ok (.iload_n 2, 1) := by decide +kernel
theorem dK_told_13 : decode cK_told 13 = .ok (.iconst 2, 1) := by decide +kernel
theorem dK_told_14 : decode cK_told 14 = .ok (.if_icmp .gt 14, 3) := by decide +kernel
theorem dK_told_17 : decode cK_told 17 = .ok (.iload_n 3, 1) := by decide +kernel
theorem dK_told_18 : decode cK_told 18 = .ok (.iconst (-1), 1) := by decide +kernel
theorem dK_told_19 : decode cK_told 19 = .ok (.if_icmp .lt 9, 3) := by decide +kernel
theorem dK_told_22 : decode cK_told 22 = .ok (.iload_n 3, 1) := by decide +kernel
theorem dK_told_23 : decode cK_told 23 = .ok (.ldc 83, 2) := by decide +kernel
theorem dK_told_25 : decode cK_told 25 = .ok (.if_icmp .le 5, 3) := by decide +kernel
theorem dK_told_28 : decode cK_told 28 = .ok (.iconst 0, 1) := by decide +kernel
theorem dK_told_29 : decode cK_told 29 = .ok (.ireturn, 1) := by decide +kernel
theorem dK_told_30 : decode cK_told 30 = .ok (.aload_n 0, 1) := by decide +kernel
theorem dK_told_31 : decode cK_told 31 = .ok (.getfield 9, 3) := by decide +kernel
theorem dK_told_34 : decode cK_told 34 = .ok (.iload_n 1, 1) := by decide +kernel
theorem dK_told_35 : decode cK_told 35 = .ok (.iaload, 1) := by decide +kernel
theorem dK_told_36 : decode cK_told 36 = .ok (.istore 4, 2) := by decide +kernel
theorem dK_told_38 : decode cK_told 38 = .ok (.aload_n 0, 1) := by decide +kernel
theorem dK_told_39 : decode cK_told 39 = .ok (.getfield 13, 3) := by decide +kernel
theorem dK_told_42 : decode cK_told 42 = .ok (.iload_n 1, 1) := by decide +kernel
theorem dK_told_43 : decode cK_told 43 = .ok (.iaload, 1) := by decide +kernel
theorem dK_told_44 : decode cK_told 44 = .ok (.istore 5, 2) := by decide +kernel
theorem dK_told_46 : decode cK_told 46 = .ok (.aload_n 0, 1) := by decide +kernel
theorem dK_told_47 : decode cK_told 47 = .ok (.getfield 9, 3) := by decide +kernel
theorem dK_told_50 : decode cK_told 50 = .ok (.iload_n 1, 1) := by decide +kernel
theorem dK_told_51 : decode cK_told 51 = .ok (.iload_n 2, 1) := by decide +kernel
theorem dK_told_52 : decode cK_told 52 = .ok (.iastore, 1) := by decide +kernel
theorem dK_told_53 : decode cK_told 53 = .ok (.aload_n 0, 1) := by decide +kernel
theorem dK_told_54 : decode cK_told 54 = .ok (.getfield 13, 3) := by decide +kernel
theorem dK_told_57 : decode cK_told 57 = .ok (.iload_n 1, 1) := by decide +kernel
theorem dK_told_58 : decode cK_told 58 = .ok (.iload_n 3, 1) := by decide +kernel
theorem dK_told_59 : decode cK_told 59 = .ok (.iastore, 1) := by decide +kernel
theorem dK_told_60 : decode cK_told 60 = .ok (.aload_n 0, 1) := by decide +kernel
theorem dK_told_61 : decode cK_told 61 = .ok (.invokevirtual 84, 3) := by decide +kernel
theorem dK_told_64 : decode cK_told 64 = .ok (.ifCond .eq 5, 3) := by decide +kernel
theorem dK_told_67 : decode cK_told 67 = .ok (.iconst 1, 1) := by decide +kernel
theorem dK_told_68 : decode cK_told 68 = .ok (.ireturn, 1) := by decide +kernel
theorem dK_told_69 : decode cK_told 69 = .ok (.aload_n 0, 1) := by decide +kernel
theorem dK_told_70 : decode cK_told 70 = .ok (.getfield 9, 3) := by decide +kernel
theorem dK_told_73 : decode cK_told 73 = .ok (.iload_n 1, 1) := by decide +kernel
theorem dK_told_74 : decode cK_told 74 = .ok (.iload 4, 2) := by decide +kernel
theorem dK_told_76 : decode cK_told 76 = .ok (.iastore, 1) := by decide +kernel
theorem dK_told_77 : decode cK_told 77 = .ok (.aload_n 0, 1) := by decide +kernel
theorem dK_told_78 : decode cK_told 78 = .ok (.getfield 13, 3) := by decide +kernel
theorem dK_told_81 : decode cK_told 81 = .ok (.iload_n 1, 1) := by decide +kernel
theorem dK_told_82 : decode cK_told 82 = .ok (.iload 5, 2) := by decide +kernel
theorem dK_told_84 : decode cK_told 84 = .ok (.iastore, 1) := by decide +kernel
theorem dK_told_85 : decode cK_told 85 = .ok (.iconst 0, 1) := by decide +kernel
theorem dK_told_86 : decode cK_told 86 = .ok (.ireturn, 1) := by decide +kernel
theorem dK_lives_0 : decode cK_lives 0 = .ok (.aload_n 0, 1) := by decide +kernel
theorem dK_lives_1 : decode cK_lives 1 = .ok (.iload_n 1, 1) := by decide +kernel
theorem dK_lives_2 : decode cK_lives 2 = .ok (.invokevirtual 58, 3) := by decide +kernel
theorem dK_lives_5 : decode cK_lives 5 = .ok (.ifCond .ne 5, 3) := by decide +kernel
theorem dK_lives_8 : decode cK_lives 8 = .ok (.iconst 0, 1) := by decide +kernel
theorem dK_lives_9 : decode cK_lives 9 = .ok (.ireturn, 1) := by decide +kernel
theorem dK_lives_10 : decode cK_lives 10 = .ok (.aload_n 0, 1) := by decide +kernel
theorem dK_lives_11 : decode cK_lives 11 = .ok (.getfield 16, 3) := by decide +kernel
theorem dK_lives_14 : decode cK_lives 14 = .ok (.iload_n 1, 1) := by decide +kernel
theorem dK_lives_15 : decode cK_lives 15 = .ok (.iload_n 2, 1) := by decide +kernel
theorem dK_lives_16 : decode cK_lives 16 = .ok (.ifCond .ne 7, 3) := by decide +kernel
theorem dK_lives_19 : decode cK_lives 19 = .ok (.iconst 1, 1) := by decide +kernel
theorem dK_lives_20 : decode cK_lives 20 = .ok (.goto 4, 3) := by decide +kernel
theorem dK_lives_23 : decode cK_lives 23 = .ok (.iconst 0, 1) := by decide +kernel
theorem dK_lives_24 : decode cK_lives 24 = .ok (.bastore, 1) := by decide +kernel
theorem dK_lives_25 : decode cK_lives 25 = .ok (.iconst 1, 1) := by decide +kernel
theorem dK_lives_26 : decode cK_lives 26 = .ok (.ireturn, 1) := by decide +kernel
theorem dK_kin_0 : decode cK_kin 0 = .ok (.aload_n 0, 1) := by decide +kernel
theorem dK_kin_1 : decode cK_kin 1 = .ok (.iload_n 1, 1) := by decide +kernel
theorem dK_kin_2 : decode cK_kin 2 = .ok (.invokevirtual 58, 3) := by decide +kernel
theorem dK_kin_5 : decode cK_kin 5 = .ok (.ifCond .eq 18, 3) := by decide +kernel
theorem dK_kin_8 : decode cK_kin 8 = .ok (.aload_n 0, 1) := by decide +kernel
theorem dK_kin_9 : decode cK_kin 9 = .ok (.iload_n 2, 1) := by decide +kernel
theorem dK_kin_10 : decode cK_kin 10 = .ok (.invokevirtual 58, 3) := by decide +kernel
theorem dK_kin_13 : decode cK_kin 13 = .ok (.ifCond .eq 10, 3) := by decide +kernel
theorem dK_kin_16 : decode cK_kin 16 = .ok (.iload_n 3, 1) := by decide +kernel
theorem dK_kin_17 : decode cK_kin 17 = .ok (.invokestatic 88, 3) := by decide +kernel
theorem dK_kin_20 : decode cK_kin 20 = .ok (.ifCond .ne 7, 3) := by decide +kernel
theorem dK_kin_23 : decode cK_kin 23 = .ok (.ldc2_w 93, 3) := by decide +kernel
theorem dK_kin_26 : decode cK_kin 26 = .ok (.lreturn, 1) := by decide +kernel
theorem dK_kin_27 : decode cK_kin 27 = .ok (.aload_n 0, 1) := by decide +kernel
theorem dK_kin_28 : decode cK_kin 28 = .ok (.getfield 38, 3) := by decide +kernel
theorem dK_kin_31 : decode cK_kin 31 = .ok (.iload_n 1, 1) := by decide +kernel
theorem dK_kin_32 : decode cK_kin 32 = .ok (.iload_n 2, 1) := by decide +kernel
theorem dK_kin_33 : decode cK_kin 33 = .ok (.invokevirtual 95, 3) := by decide +kernel
theorem dK_kin_36 : decode cK_kin 36 = .ok (.ldc2_w 99, 3) := by decide +kernel
theorem dK_kin_39 : decode cK_kin 39 = .ok (.iload_n 3, 1) := by decide +kernel
theorem dK_kin_40 : decode cK_kin 40 = .ok (.invokestatic 101, 3) := by decide +kernel
theorem dK_kin_43 : decode cK_kin 43 = .ok (.lreturn, 1) := by decide +kernel
theorem dK_inbred_0 : decode cK_inbred 0 = .ok (.aload_n 0, 1) := by decide +kernel
theorem dK_inbred_1 : decode cK_inbred 1 = .ok (.iload_n 1, 1) := by decide +kernel
theorem dK_inbred_2 : decode cK_inbred 2 = .ok (.invokevirtual 58, 3) := by decide +kernel
theorem dK_inbred_5 : decode cK_inbred 5 = .ok (.ifCond .eq 10, 3) := by decide +kernel
theorem dK_inbred_8 : decode cK_inbred 8 = .ok (.iload_n 2, 1) := by decide +kernel
theorem dK_inbred_9 : decode cK_inbred 9 = .ok (.invokestatic 88, 3) := by decide +kernel
theorem dK_inbred_12 : decode cK_inbred 12 = .ok (.ifCond .ne 7, 3) := by decide +kernel
theorem dK_inbred_15 : decode cK_inbred 15 = .ok (.ldc2_w 93, 3) := by decide +kernel
theorem dK_inbred_18 : decode cK_inbred 18 = .ok (.lreturn, 1) := by decide +kernel
theorem dK_inbred_19 : decode cK_inbred 19 = .ok (.aload_n 0, 1) := by decide +kernel
theorem dK_inbred_20 : decode cK_inbred 20 = .ok (.getfield 38, 3) := by decide +kernel
theorem dK_inbred_23 : decode cK_inbred 23 = .ok (.iload_n 1, 1) := by decide +kernel
theorem dK_inbred_24 : decode cK_inbred 24 = .ok (.invokevirtual 105, 3) := by decide +kernel
theorem dK_inbred_27 : decode cK_inbred 27 = .ok (.ldc2_w 99, 3) := by decide +kernel
theorem dK_inbred_30 : decode cK_inbred 30 = .ok (.iload_n 2, 1) := by decide +kernel
theorem dK_inbred_31 : decode cK_inbred 31 = .ok (.invokestatic 101, 3) := by decide +kernel
theorem dK_inbred_34 : decode cK_inbred 34 = .ok (.lreturn, 1) := by decide +kernel
theorem dK_chance_0 : decode cK_chance 0 = .ok (.aload_n 0, 1) := by decide +kernel
theorem dK_chance_1 : decode cK_chance 1 = .ok (.iload_n 1, 1) := by decide +kernel
theorem dK_chance_2 : decode cK_chance 2 = .ok (.invokevirtual 58, 3) := by decide +kernel
theorem dK_chance_5 : decode cK_chance 5 = .ok (.ifCond .eq 10, 3) := by decide +kernel
theorem dK_chance_8 : decode cK_chance 8 = .ok (.iload_n 2, 1) := by decide +kernel
theorem dK_chance_9 : decode cK_chance 9 = .ok (.invokestatic 88, 3) := by decide +kernel
theorem dK_chance_12 : decode cK_chance 12 = .ok (.ifCond .ne 7, 3) := by decide +kernel
theorem dK_chance_15 : decode cK_chance 15 = .ok (.ldc2_w 93, 3) := by decide +kernel
theorem dK_chance_18 : decode cK_chance 18 = .ok (.lreturn, 1) := by decide +kernel
theorem dK_chance_19 : decode cK_chance 19 = .ok (.aload_n 0, 1) := by decide +kernel
theorem dK_chance_20 : decode cK_chance 20 = .ok (.getfield 38, 3) := by decide +kernel
theorem dK_chance_23 : decode cK_chance 23 = .ok (.iload_n 1, 1) := by decide +kernel
theorem dK_chance_24 : decode cK_chance 24 = .ok (.invokevirtual 109, 3) := by decide +kernel
theorem dK_chance_27 : decode cK_chance 27 = .ok (.ldc2_w 99, 3) := by decide +kernel
theorem dK_chance_30 : decode cK_chance 30 = .ok (.iload_n 2, 1) := by decide +kernel
theorem dK_chance_31 : decode cK_chance 31 = .ok (.invokestatic 101, 3) := by decide +kernel
theorem dK_chance_34 : decode cK_chance 34 = .ok (.lreturn, 1) := by decide +kernel
theorem dK_share_0 : decode cK_share 0 = .ok (.aload_n 0, 1) := by decide +kernel
theorem dK_share_1 : decode cK_share 1 = .ok (.iload_n 1, 1) := by decide +kernel
theorem dK_share_2 : decode cK_share 2 = .ok (.invokevirtual 58, 3) := by decide +kernel
theorem dK_share_5 : decode cK_share 5 = .ok (.ifCond .eq 21, 3) := by decide +kernel
theorem dK_share_8 : decode cK_share 8 = .ok (.aload_n 0, 1) := by decide +kernel
theorem dK_share_9 : decode cK_share 9 = .ok (.getfield 38, 3) := by decide +kernel
theorem dK_share_12 : decode cK_share 12 = .ok (.iload_n 2, 1) := by decide +kernel
theorem dK_share_13 : decode cK_share 13 = .ok (.invokevirtual 112, 3) := by decide +kernel
theorem dK_share_16 : decode cK_share 16 = .ok (.ifCond .eq 10, 3) := by decide +kernel
theorem dK_share_19 : decode cK_share 19 = .ok (.iload_n 3, 1) := by decide +kernel
theorem dK_share_20 : decode cK_share 20 = .ok (.invokestatic 88, 3) := by decide +kernel
theorem dK_share_23 : decode cK_share 23 = .ok (.ifCond .ne 7, 3) := by decide +kernel
theorem dK_share_26 : decode cK_share 26 = .ok (.ldc2_w 93, 3) := by decide +kernel
theorem dK_share_29 : decode cK_share 29 = .ok (.lreturn, 1) := by decide +kernel
theorem dK_share_30 : decode cK_share 30 = .ok (.aload_n 0, 1) := by decide +kernel
theorem dK_share_31 : decode cK_share 31 = .ok (.getfield 38, 3) := by decide +kernel
theorem dK_share_34 : decode cK_share 34 = .ok (.iload_n 1, 1) := by decide +kernel
theorem dK_share_35 : decode cK_share 35 = .ok (.iload_n 2, 1) := by decide +kernel
theorem dK_share_36 : decode cK_share 36 = .ok (.invokevirtual 115, 3) := by decide +kernel
theorem dK_share_39 : decode cK_share 39 = .ok (.ldc2_w 99, 3) := by decide +kernel
theorem dK_share_42 : decode cK_share 42 = .ok (.iload_n 3, 1) := by decide +kernel
theorem dK_share_43 : decode cK_share 43 = .ok (.invokestatic 101, 3) := by decide +kernel
theorem dK_share_46 : decode cK_share 46 = .ok (.lreturn, 1) := by decide +kernel
theorem dK_isForbear_0 : decode cK_isForbear 0 = .ok (.aload_n 0, 1) := by decide +kernel
theorem dK_isForbear_1 : decode cK_isForbear 1 = .ok (.getfield 38, 3) := by decide +kernel
theorem dK_isForbear_4 : decode cK_isForbear 4 = .ok (.iload_n 2, 1) := by decide +kernel
theorem dK_isForbear_5 : decode cK_isForbear 5 = .ok (.iload_n 1, 1) := by decide +kernel
theorem dK_isForbear_6 : decode cK_isForbear 6 = .ok (.invokevirtual 118, 3) := by decide +kernel
theorem dK_isForbear_9 : decode cK_isForbear 9 = .ok (.ireturn, 1) := by decide +kernel
theorem dK_order_0 : decode cK_order 0 = .ok (.aload_n 0, 1) := by decide +kernel
theorem dK_order_1 : decode cK_order 1 = .ok (.getfield 38, 3) := by decide +kernel
theorem dK_order_4 : decode cK_order 4 = .ok (.iload_n 1, 1) := by decide +kernel
theorem dK_order_5 : decode cK_order 5 = .ok (.invokevirtual 122, 3) := by decide +kernel
theorem dK_order_8 : decode cK_order 8 = .ok (.ireturn, 1) := by decide +kernel
theorem dK_mark_0 : decode cK_mark 0 = .ok (.aload_n 0, 1) := by decide +kernel
theorem dK_mark_1 : decode cK_mark 1 = .ok (.getfield 45, 3) := by decide +kernel
theorem dK_mark_4 : decode cK_mark 4 = .ok (.iload_n 1, 1) := by decide +kernel
theorem dK_mark_5 : decode cK_mark 5 = .ok (.iload_n 2, 1) := by decide +kernel
theorem dK_mark_6 : decode cK_mark 6 = .ok (.iload_n 3, 1) := by decide +kernel
theorem dK_mark_7 : decode cK_mark 7 = .ok (.invokevirtual 125, 3) := by decide +kernel
theorem dK_mark_10 : decode cK_mark 10 = .ok (.ireturn, 1) := by decide +kernel
theorem dK_left_0 : decode cK_left 0 = .ok (.aload_n 0, 1) := by decide +kernel
theorem dK_left_1 : decode cK_left 1 = .ok (.iload_n 1, 1) := by decide +kernel
theorem dK_left_2 : decode cK_left 2 = .ok (.invokevirtual 58, 3) := by decide +kernel
theorem dK_left_5 : decode cK_left 5 = .ok (.ifCond .eq 13, 3) := by decide +kernel
theorem dK_left_8 : decode cK_left 8 = .ok (.iload_n 2, 1) := by decide +kernel
theorem dK_left_9 : decode cK_left 9 = .ok (.iconst 1, 1) := by decide +kernel
theorem dK_left_10 : decode cK_left 10 = .ok (.if_icmp .eq 10, 3) := by decide +kernel
theorem dK_left_13 : decode cK_left 13 = .ok (.iload_n 2, 1) := by decide +kernel
theorem dK_left_14 : decode cK_left 14 = .ok (.iconst 2, 1) := by decide +kernel
theorem dK_left_15 : decode cK_left 15 = .ok (.if_icmp .eq 5, 3) := by decide +kernel
theorem dK_left_18 : decode cK_left 18 = .ok (.iconst (-1), 1) := by decide +kernel
theorem dK_left_19 : decode cK_left 19 = .ok (.ireturn, 1) := by decide +kernel
theorem dK_left_20 : decode cK_left 20 = .ok (.iload_n 2, 1) := by decide +kernel
theorem dK_left_21 : decode cK_left 21 = .ok (.iconst 1, 1) := by decide +kernel
theorem dK_left_22 : decode cK_left 22 = .ok (.if_icmp .ne 7, 3) := by decide +kernel
theorem dK_left_25 : decode cK_left 25 = .ok (.iconst 2, 1) := by decide +kernel
theorem dK_left_26 : decode cK_left 26 = .ok (.goto 4, 3) := by decide +kernel
theorem dK_left_29 : decode cK_left 29 = .ok (.iconst 1, 1) := by decide +kernel
theorem dK_left_30 : decode cK_left 30 = .ok (.istore_n 3, 1) := by decide +kernel
theorem dK_left_31 : decode cK_left 31 = .ok (.iconst 0, 1) := by decide +kernel
theorem dK_left_32 : decode cK_left 32 = .ok (.istore 4, 2) := by decide +kernel
theorem dK_left_34 : decode cK_left 34 = .ok (.iconst 0, 1) := by decide +kernel
theorem dK_left_35 : decode cK_left 35 = .ok (.istore 5, 2) := by decide +kernel
theorem dK_left_37 : decode cK_left 37 = .ok (.iload 5, 2) := by decide +kernel
theorem dK_left_39 : decode cK_left 39 = .ok (.aload_n 0, 1) := by decide +kernel
theorem dK_left_40 : decode cK_left 40 = .ok (.getfield 29, 3) := by decide +kernel
theorem dK_left_43 : decode cK_left 43 = .ok (.if_icmp .ge 42, 3) := by decide +kernel
theorem dK_left_46 : decode cK_left 46 = .ok (.iload 5, 2) := by decide +kernel
theorem dK_left_48 : decode cK_left 48 = .ok (.iload_n 1, 1) := by decide +kernel
theorem dK_left_49 : decode cK_left 49 = .ok (.if_icmp .eq 30, 3) := by decide +kernel
theorem dK_left_52 : decode cK_left 52 = .ok (.aload_n 0, 1) := by decide +kernel
theorem dK_left_53 : decode cK_left 53 = .ok (.getfield 9, 3) := by decide +kernel
theorem dK_left_56 : decode cK_left 56 = .ok (.iload 5, 2) := by decide +kernel
theorem dK_left_58 : decode cK_left 58 = .ok (.iaload, 1) := by decide +kernel
theorem dK_left_59 : decode cK_left 59 = .ok (.iload_n 3, 1) := by decide +kernel
theorem dK_left_60 : decode cK_left 60 = .ok (.if_icmp .eq 19, 3) := by decide +kernel
theorem dK_left_63 : decode cK_left 63 = .ok (.aload_n 0, 1) := by decide +kernel
theorem dK_left_64 : decode cK_left 64 = .ok (.getfield 45, 3) := by decide +kernel
theorem dK_left_67 : decode cK_left 67 = .ok (.iload_n 1, 1) := by decide +kernel
theorem dK_left_68 : decode cK_left 68 = .ok (.iload 5, 2) := by decide +kernel
theorem dK_left_70 : decode cK_left 70 = .ok (.invokevirtual 128, 3) := by decide +kernel
theorem dK_left_73 : decode cK_left 73 = .ok (.ifCond .ne 6, 3) := by decide +kernel
theorem dK_left_76 : decode cK_left 76 = .ok (.iinc 4 1, 3) := by decide +kernel
theorem dK_left_79 : decode cK_left 79 = .ok (.iinc 5 1, 3) := by decide +kernel
theorem dK_left_82 : decode cK_left 82 = .ok (.goto (-45), 3) := by decide +kernel
theorem dK_left_85 : decode cK_left 85 = .ok (.iload 4, 2) := by decide +kernel
theorem dK_left_87 : decode cK_left 87 = .ok (.ireturn, 1) := by decide +kernel
theorem dK_odds_0 : decode cK_odds 0 = .ok (.aload_n 0, 1) := by decide +kernel
theorem dK_odds_1 : decode cK_odds 1 = .ok (.iload_n 1, 1) := by decide +kernel
theorem dK_odds_2 : decode cK_odds 2 = .ok (.invokevirtual 58, 3) := by decide +kernel
theorem dK_odds_5 : decode cK_odds 5 = .ok (.ifCond .eq 23, 3) := by decide +kernel
theorem dK_odds_8 : decode cK_odds 8 = .ok (.aload_n 0, 1) := by decide +kernel
theorem dK_odds_9 : decode cK_odds 9 = .ok (.iload_n 2, 1) := by decide +kernel
theorem dK_odds_10 : decode cK_odds 10 = .ok (.invokevirtual 58, 3) := by decide +kernel
theorem dK_odds_13 : decode cK_odds 13 = .ok (.ifCond .eq 15, 3) := by decide +kernel
theorem dK_odds_16 : decode cK_odds 16 = .ok (.iload_n 1, 1) := by decide +kernel
theorem dK_odds_17 : decode cK_odds 17 = .ok (.iload_n 2, 1) := by decide +kernel
theorem dK_odds_18 : decode cK_odds 18 = .ok (.if_icmp .eq 10, 3) := by decide +kernel
theorem dK_odds_21 : decode cK_odds 21 = .ok (.iload_n 3, 1) := by decide +kernel
theorem dK_odds_22 : decode cK_odds 22 = .ok (.invokestatic 88, 3) := by decide +kernel
theorem dK_odds_25 : decode cK_odds 25 = .ok (.ifCond .ne 7, 3) := by decide +kernel
theorem dK_odds_28 : decode cK_odds 28 = .ok (.ldc2_w 93, 3) := by decide +kernel
theorem dK_odds_31 : decode cK_odds 31 = .ok (.lreturn, 1) := by decide +kernel
theorem dK_odds_32 : decode cK_odds 32 = .ok (.aload_n 0, 1) := by decide +kernel
theorem dK_odds_33 : decode cK_odds 33 = .ok (.getfield 45, 3) := by decide +kernel
theorem dK_odds_36 : decode cK_odds 36 = .ok (.iload_n 1, 1) := by decide +kernel
theorem dK_odds_37 : decode cK_odds 37 = .ok (.iload_n 2, 1) := by decide +kernel
theorem dK_odds_38 : decode cK_odds 38 = .ok (.iload_n 3, 1) := by decide +kernel
theorem dK_odds_39 : decode cK_odds 39 = .ok (.invokevirtual 131, 3) := by decide +kernel
theorem dK_odds_42 : decode cK_odds 42 = .ok (.lreturn, 1) := by decide +kernel
theorem dK_like_0 : decode cK_like 0 = .ok (.aload_n 0, 1) := by decide +kernel
theorem dK_like_1 : decode cK_like 1 = .ok (.iload_n 1, 1) := by decide +kernel
theorem dK_like_2 : decode cK_like 2 = .ok (.invokevirtual 58, 3) := by decide +kernel
theorem dK_like_5 : decode cK_like 5 = .ok (.ifCond .eq 18, 3) := by decide +kernel
theorem dK_like_8 : decode cK_like 8 = .ok (.aload_n 0, 1) := by decide +kernel
theorem dK_like_9 : decode cK_like 9 = .ok (.iload_n 2, 1) := by decide +kernel
theorem dK_like_10 : decode cK_like 10 = .ok (.invokevirtual 58, 3) := by decide +kernel
theorem dK_like_13 : decode cK_like 13 = .ok (.ifCond .eq 10, 3) := by decide +kernel
theorem dK_like_16 : decode cK_like 16 = .ok (.iload_n 3, 1) := by decide +kernel
theorem dK_like_17 : decode cK_like 17 = .ok (.invokestatic 88, 3) := by decide +kernel
theorem dK_like_20 : decode cK_like 20 = .ok (.ifCond .ne 7, 3) := by decide +kernel
theorem dK_like_23 : decode cK_like 23 = .ok (.ldc2_w 93, 3) := by decide +kernel
theorem dK_like_26 : decode cK_like 26 = .ok (.lreturn, 1) := by decide +kernel
theorem dK_like_27 : decode cK_like 27 = .ok (.aload_n 0, 1) := by decide +kernel
theorem dK_like_28 : decode cK_like 28 = .ok (.getfield 45, 3) := by decide +kernel
theorem dK_like_31 : decode cK_like 31 = .ok (.iload_n 1, 1) := by decide +kernel
theorem dK_like_32 : decode cK_like 32 = .ok (.iload_n 2, 1) := by decide +kernel
theorem dK_like_33 : decode cK_like 33 = .ok (.iload_n 3, 1) := by decide +kernel
theorem dK_like_34 : decode cK_like 34 = .ok (.invokevirtual 135, 3) := by decide +kernel
theorem dK_like_37 : decode cK_like 37 = .ok (.lreturn, 1) := by decide +kernel
theorem dK_lost_0 : decode cK_lost 0 = .ok (.iconst 0, 1) := by decide +kernel
theorem dK_lost_1 : decode cK_lost 1 = .ok (.istore_n 2, 1) := by decide +kernel
theorem dK_lost_2 : decode cK_lost 2 = .ok (.iconst 0, 1) := by decide +kernel
theorem dK_lost_3 : decode cK_lost 3 = .ok (.istore_n 3, 1) := by decide +kernel
theorem dK_lost_4 : decode cK_lost 4 = .ok (.iload_n 3, 1) := by decide +kernel
theorem dK_lost_5 : decode cK_lost 5 = .ok (.aload_n 0, 1) := by decide +kernel
theorem dK_lost_6 : decode cK_lost 6 = .ok (.getfield 29, 3) := by decide +kernel
theorem dK_lost_9 : decode cK_lost 9 = .ok (.if_icmp .ge 27, 3) := by decide +kernel
theorem dK_lost_12 : decode cK_lost 12 = .ok (.aload_n 0, 1) := by decide +kernel
theorem dK_lost_13 : decode cK_lost 13 = .ok (.iload_n 3, 1) := by decide +kernel
theorem dK_lost_14 : decode cK_lost 14 = .ok (.invokevirtual 138, 3) := by decide +kernel
theorem dK_lost_17 : decode cK_lost 17 = .ok (.ifCond .eq 13, 3) := by decide +kernel
theorem dK_lost_20 : decode cK_lost 20 = .ok (.iload_n 2, 1) := by decide +kernel
theorem dK_lost_21 : decode cK_lost 21 = .ok (.iload_n 1, 1) := by decide +kernel
theorem dK_lost_22 : decode cK_lost 22 = .ok (.if_icmp .ne 5, 3) := by decide +kernel
theorem dK_lost_25 : decode cK_lost 25 = .ok (.iload_n 3, 1) := by decide +kernel
theorem dK_lost_26 : decode cK_lost 26 = .ok (.ireturn, 1) := by decide +kernel
theorem dK_lost_27 : decode cK_lost 27 = .ok (.iinc 2 1, 3) := by decide +kernel
theorem dK_lost_30 : decode cK_lost 30 = .ok (.iinc 3 1, 3) := by decide +kernel
theorem dK_lost_33 : decode cK_lost 33 = .ok (.goto (-29), 3) := by decide +kernel
theorem dK_lost_36 : decode cK_lost 36 = .ok (.iconst (-1), 1) := by decide +kernel
theorem dK_lost_37 : decode cK_lost 37 = .ok (.ireturn, 1) := by decide +kernel
theorem dK_diverse_0 : decode cK_diverse 0 = .ok (.iload_n 1, 1) := by decide +kernel
theorem dK_diverse_1 : decode cK_diverse 1 = .ok (.invokestatic 88, 3) := by decide +kernel
theorem dK_diverse_4 : decode cK_diverse 4 = .ok (.ifCond .ne 7, 3) := by decide +kernel
theorem dK_diverse_7 : decode cK_diverse 7 = .ok (.ldc2_w 93, 3) := by decide +kernel
theorem dK_diverse_10 : decode cK_diverse 10 = .ok (.lreturn, 1) := by decide +kernel
theorem dK_diverse_11 : decode cK_diverse 11 = .ok (.lconst 0, 1) := by decide +kernel
theorem dK_diverse_12 : decode cK_diverse 12 = .ok (.lstore_n 2, 1) := by decide +kernel
theorem dK_diverse_13 : decode cK_diverse 13 = .ok (.lconst 0, 1) := by decide +kernel
theorem dK_diverse_14 : decode cK_diverse 14 = .ok (.lstore 4, 2) := by decide +kernel
theorem dK_diverse_16 : decode cK_diverse 16 = .ok (.iconst 0, 1) := by decide +kernel
theorem dK_diverse_17 : decode cK_diverse 17 = .ok (.istore 6, 2) := by decide +kernel
theorem dK_diverse_19 : decode cK_diverse 19 = .ok (.iload 6, 2) := by decide +kernel
theorem dK_diverse_21 : decode cK_diverse 21 = .ok (.aload_n 0, 1) := by decide +kernel
theorem dK_diverse_22 : decode cK_diverse 22 = .ok (.getfield 29, 3) := by decide +kernel
theorem dK_diverse_25 : decode cK_diverse 25 = .ok (.if_icmp .ge 34, 3) := by decide +kernel
theorem dK_diverse_28 : decode cK_diverse 28 = .ok (.aload_n 0, 1) := by decide +kernel
theorem dK_diverse_29 : decode cK_diverse 29 = .ok (.getfield 16, 3) := by decide +kernel
theorem dK_diverse_32 : decode cK_diverse 32 = .ok (.iload 6, 2) := by decide +kernel
theorem dK_diverse_34 : decode cK_diverse 34 = .ok (.baload, 1) := by decide +kernel
theorem dK_diverse_35 : decode cK_diverse 35 = .ok (.ifCond .ne 18, 3) := by decide +kernel
theorem dK_diverse_38 : decode cK_diverse 38 = .ok (.lload_n 2, 1) := by decide +kernel
theorem dK_diverse_39 : decode cK_diverse 39 = .ok (.lconst 1, 1) := by decide +kernel
theorem dK_diverse_40 : decode cK_diverse 40 = .ok (.ladd, 1) := by decide +kernel
theorem dK_diverse_41 : decode cK_diverse 41 = .ok (.lstore_n 2, 1) := by decide +kernel
theorem dK_diverse_42 : decode cK_diverse 42 = .ok (.lload 4, 2) := by decide +kernel
theorem dK_diverse_44 : decode cK_diverse 44 = .ok (.aload_n 0, 1) := by decide +kernel
theorem dK_diverse_45 : decode cK_diverse 45 = .ok (.iload 6, 2) := by decide +kernel
theorem dK_diverse_47 : decode cK_diverse 47 = .ok (.invokevirtual 141, 3) := by decide +kernel
theorem dK_diverse_50 : decode cK_diverse 50 = .ok (.ladd, 1) := by decide +kernel
theorem dK_diverse_51 : decode cK_diverse 51 = .ok (.lstore 4, 2) := by decide +kernel
theorem dK_diverse_53 : decode cK_diverse 53 = .ok (.iinc 6 1, 3) := by decide +kernel
theorem dK_diverse_56 : decode cK_diverse 56 = .ok (.goto (-37), 3) := by decide +kernel
theorem dK_diverse_59 : decode cK_diverse 59 = .ok (.lload_n 2, 1) := by decide +kernel
theorem dK_diverse_60 : decode cK_diverse 60 = .ok (.lconst 0, 1) := by decide +kernel
theorem dK_diverse_61 : decode cK_diverse 61 = .ok (.lcmp, 1) := by decide +kernel
theorem dK_diverse_62 : decode cK_diverse 62 = .ok (.ifCond .ne 9, 3) := by decide +kernel
theorem dK_diverse_65 : decode cK_diverse 65 = .ok (.ldc2_w 93, 3) := by decide +kernel
theorem dK_diverse_68 : decode cK_diverse 68 = .ok (.goto 16, 3) := by decide +kernel
theorem dK_diverse_71 : decode cK_diverse 71 = .ok (.lload 4, 2) := by decide +kernel
theorem dK_diverse_73 : decode cK_diverse 73 = .ok (.lload_n 2, 1) := by decide +kernel
theorem dK_diverse_74 : decode cK_diverse 74 = .ok (.lload_n 2, 1) := by decide +kernel
theorem dK_diverse_75 : decode cK_diverse 75 = .ok (.lmul, 1) := by decide +kernel
theorem dK_diverse_76 : decode cK_diverse 76 = .ok (.ldc2_w 99, 3) := by decide +kernel
theorem dK_diverse_79 : decode cK_diverse 79 = .ok (.lmul, 1) := by decide +kernel
theorem dK_diverse_80 : decode cK_diverse 80 = .ok (.iload_n 1, 1) := by decide +kernel
theorem dK_diverse_81 : decode cK_diverse 81 = .ok (.invokestatic 101, 3) := by decide +kernel
theorem dK_diverse_84 : decode cK_diverse 84 = .ok (.lreturn, 1) := by decide +kernel
theorem dK_animal_0 : decode cK_animal 0 = .ok (.aload_n 0, 1) := by decide +kernel
theorem dK_animal_1 : decode cK_animal 1 = .ok (.iload_n 1, 1) := by decide +kernel
theorem dK_animal_2 : decode cK_animal 2 = .ok (.invokevirtual 58, 3) := by decide +kernel
theorem dK_animal_5 : decode cK_animal 5 = .ok (.ifCond .ne 5, 3) := by decide +kernel
theorem dK_animal_8 : decode cK_animal 8 = .ok (.iconst (-1), 1) := by decide +kernel
theorem dK_animal_9 : decode cK_animal 9 = .ok (.ireturn, 1) := by decide +kernel
theorem dK_animal_10 : decode cK_animal 10 = .ok (.iload_n 2, 1) := by decide +kernel
theorem dK_animal_11 : decode cK_animal 11 = .ok (.tableswitch 93 0 5 #[37, 46, 55, 62, 69, 84], 37) := by decide +kernel
theorem dK_animal_48 : decode cK_animal 48 = .ok (.aload_n 0, 1) := by decide +kernel
theorem dK_animal_49 : decode cK_animal 49 = .ok (.getfield 38, 3) := by decide +kernel
theorem dK_animal_52 : decode cK_animal 52 = .ok (.iload_n 1, 1) := by decide +kernel
theorem dK_animal_53 : decode cK_animal 53 = .ok (.invokevirtual 144, 3) := by decide +kernel
theorem dK_animal_56 : decode cK_animal 56 = .ok (.ireturn, 1) := by decide +kernel
theorem dK_animal_57 : decode cK_animal 57 = .ok (.aload_n 0, 1) := by decide +kernel
theorem dK_animal_58 : decode cK_animal 58 = .ok (.getfield 38, 3) := by decide +kernel
theorem dK_animal_61 : decode cK_animal 61 = .ok (.iload_n 1, 1) := by decide +kernel
theorem dK_animal_62 : decode cK_animal 62 = .ok (.invokevirtual 147, 3) := by decide +kernel
theorem dK_animal_65 : decode cK_animal 65 = .ok (.ireturn, 1) := by decide +kernel
theorem dK_animal_66 : decode cK_animal 66 = .ok (.aload_n 0, 1) := by decide +kernel
theorem dK_animal_67 : decode cK_animal 67 = .ok (.getfield 9, 3) := by decide +kernel
theorem dK_animal_70 : decode cK_animal 70 = .ok (.iload_n 1, 1) := by decide +kernel
theorem dK_animal_71 : decode cK_animal 71 = .ok (.iaload, 1) := by decide +kernel
theorem dK_animal_72 : decode cK_animal 72 = .ok (.ireturn, 1) := by decide +kernel
theorem dK_animal_73 : decode cK_animal 73 = .ok (.aload_n 0, 1) := by decide +kernel
theorem dK_animal_74 : decode cK_animal 74 = .ok (.getfield 13, 3) := by decide +kernel
theorem dK_animal_77 : decode cK_animal 77 = .ok (.iload_n 1, 1) := by decide +kernel
theorem dK_animal_78 : decode cK_animal 78 = .ok (.iaload, 1) := by decide +kernel
theorem dK_animal_79 : decode cK_animal 79 = .ok (.ireturn, 1) := by decide +kernel
theorem dK_animal_80 : decode cK_animal 80 = .ok (.aload_n 0, 1) := by decide +kernel
theorem dK_animal_81 : decode cK_animal 81 = .ok (.getfield 16, 3) := by decide +kernel
theorem dK_animal_84 : decode cK_animal 84 = .ok (.iload_n 1, 1) := by decide +kernel
theorem dK_animal_85 : decode cK_animal 85 = .ok (.baload, 1) := by decide +kernel
theorem dK_animal_86 : decode cK_animal 86 = .ok (.ifCond .eq 7, 3) := by decide +kernel
theorem dK_animal_89 : decode cK_animal 89 = .ok (.iconst 0, 1) := by decide +kernel
theorem dK_animal_90 : decode cK_animal 90 = .ok (.goto 4, 3) := by decide +kernel
theorem dK_animal_93 : decode cK_animal 93 = .ok (.iconst 1, 1) := by decide +kernel
theorem dK_animal_94 : decode cK_animal 94 = .ok (.ireturn, 1) := by decide +kernel
theorem dK_animal_95 : decode cK_animal 95 = .ok (.aload_n 0, 1) := by decide +kernel
theorem dK_animal_96 : decode cK_animal 96 = .ok (.getfield 38, 3) := by decide +kernel
theorem dK_animal_99 : decode cK_animal 99 = .ok (.iload_n 1, 1) := by decide +kernel
theorem dK_animal_100 : decode cK_animal 100 = .ok (.invokevirtual 150, 3) := by decide +kernel
theorem dK_animal_103 : decode cK_animal 103 = .ok (.ireturn, 1) := by decide +kernel
theorem dK_animal_104 : decode cK_animal 104 = .ok (.iconst (-1), 1) := by decide +kernel
theorem dK_animal_105 : decode cK_animal 105 = .ok (.ireturn, 1) := by decide +kernel
theorem dP_init_0 : decode cP_init 0 = .ok (.aload_n 0, 1) := by decide +kernel
theorem dP_init_1 : decode cP_init 1 = .ok (.invokespecial 3, 3) := by decide +kernel
theorem dP_init_4 : decode cP_init 4 = .ok (.aload_n 0, 1) := by decide +kernel
theorem dP_init_5 : decode cP_init 5 = .ok (.bipush 24, 2) := by decide +kernel
theorem dP_init_7 : decode cP_init 7 = .ok (.newarray .int, 2) := by decide +kernel
theorem dP_init_9 : decode cP_init 9 = .ok (.putfield 9, 3) := by decide +kernel
theorem dP_init_12 : decode cP_init 12 = .ok (.aload_n 0, 1) := by decide +kernel
theorem dP_init_13 : decode cP_init 13 = .ok (.bipush 24, 2) := by decide +kernel
theorem dP_init_15 : decode cP_init 15 = .ok (.newarray .int, 2) := by decide +kernel
theorem dP_init_17 : decode cP_init 17 = .ok (.putfield 15, 3) := by decide +kernel
theorem dP_init_20 : decode cP_init 20 = .ok (.aload_n 0, 1) := by decide +kernel
theorem dP_init_21 : decode cP_init 21 = .ok (.bipush 24, 2) := by decide +kernel
theorem dP_init_23 : decode cP_init 23 = .ok (.newarray .int, 2) := by decide +kernel
theorem dP_init_25 : decode cP_init 25 = .ok (.putfield 18, 3) := by decide +kernel
theorem dP_init_28 : decode cP_init 28 = .ok (.aload_n 0, 1) := by decide +kernel
theorem dP_init_29 : decode cP_init 29 = .ok (.bipush 24, 2) := by decide +kernel
theorem dP_init_31 : decode cP_init 31 = .ok (.newarray .int, 2) := by decide +kernel
theorem dP_init_33 : decode cP_init 33 = .ok (.putfield 21, 3) := by decide +kernel
theorem dP_init_36 : decode cP_init 36 = .ok (.aload_n 0, 1) := by decide +kernel
theorem dP_init_37 : decode cP_init 37 = .ok (.bipush 24, 2) := by decide +kernel
theorem dP_init_39 : decode cP_init 39 = .ok (.newarray .int, 2) := by decide +kernel
theorem dP_init_41 : decode cP_init 41 = .ok (.putfield 24, 3) := by decide +kernel
theorem dP_init_44 : decode cP_init 44 = .ok (.aload_n 0, 1) := by decide +kernel
theorem dP_init_45 : decode cP_init 45 = .ok (.sipush 576, 3) := by decide +kernel
theorem dP_init_48 : decode cP_init 48 = .ok (.newarray .long, 2) := by decide +kernel
theorem dP_init_50 : decode cP_init 50 = .ok (.putfield 27, 3) := by decide +kernel
theorem dP_init_53 : decode cP_init 53 = .ok (.aload_n 0, 1) := by decide +kernel
theorem dP_init_54 : decode cP_init 54 = .ok (.bipush 24, 2) := by decide +kernel
theorem dP_init_56 : decode cP_init 56 = .ok (.newarray .long, 2) := by decide +kernel
theorem dP_init_58 : decode cP_init 58 = .ok (.putfield 31, 3) := by decide +kernel
theorem dP_init_61 : decode cP_init 61 = .ok (.aload_n 0, 1) := by decide +kernel
theorem dP_init_62 : decode cP_init 62 = .ok (.bipush 25, 2) := by decide +kernel
theorem dP_init_64 : decode cP_init 64 = .ok (.newarray .int, 2) := by decide +kernel
theorem dP_init_66 : decode cP_init 66 = .ok (.putfield 34, 3) := by decide +kernel
theorem dP_init_69 : decode cP_init 69 = .ok (.aload_n 0, 1) := by decide +kernel
theorem dP_init_70 : decode cP_init 70 = .ok (.iconst 0, 1) := by decide +kernel
theorem dP_init_71 : decode cP_init 71 = .ok (.putfield 37, 3) := by decide +kernel
theorem dP_init_74 : decode cP_init 74 = .ok (.aload_n 0, 1) := by decide +kernel
theorem dP_init_75 : decode cP_init 75 = .ok (.iload_n 1, 1) := by decide +kernel
theorem dP_init_76 : decode cP_init 76 = .ok (.putfield 41, 3) := by decide +kernel
theorem dP_init_79 : decode cP_init 79 = .ok (.aload_n 0, 1) := by decide +kernel
theorem dP_init_80 : decode cP_init 80 = .ok (.getfield 9, 3) := by decide +kernel
theorem dP_init_83 : decode cP_init 83 = .ok (.iconst (-1), 1) := by decide +kernel
theorem dP_init_84 : decode cP_init 84 = .ok (.invokestatic 44, 3) := by decide +kernel
theorem dP_init_87 : decode cP_init 87 = .ok (.aload_n 0, 1) := by decide +kernel
theorem dP_init_88 : decode cP_init 88 = .ok (.getfield 15, 3) := by decide +kernel
theorem dP_init_91 : decode cP_init 91 = .ok (.iconst (-1), 1) := by decide +kernel
theorem dP_init_92 : decode cP_init 92 = .ok (.invokestatic 44, 3) := by decide +kernel
theorem dP_init_95 : decode cP_init 95 = .ok (.aload_n 0, 1) := by decide +kernel
theorem dP_init_96 : decode cP_init 96 = .ok (.invokevirtual 50, 3) := by decide +kernel
theorem dP_init_99 : decode cP_init 99 = .ok (.return_, 1) := by decide +kernel
theorem dM_init_0 : decode cM_init 0 = .ok (.aload_n 0, 1) := by decide +kernel
theorem dM_init_1 : decode cM_init 1 = .ok (.invokespecial 3, 3) := by decide +kernel
theorem dM_init_4 : decode cM_init 4 = .ok (.aload_n 0, 1) := by decide +kernel
theorem dM_init_5 : decode cM_init 5 = .ok (.bipush 96, 2) := by decide +kernel
theorem dM_init_7 : decode cM_init 7 = .ok (.newarray .int, 2) := by decide +kernel
theorem dM_init_9 : decode cM_init 9 = .ok (.putfield 11, 3) := by decide +kernel
theorem dM_init_12 : decode cM_init 12 = .ok (.aload_n 0, 1) := by decide +kernel
theorem dM_init_13 : decode cM_init 13 = .ok (.iload_n 1, 1) := by decide +kernel
theorem dM_init_14 : decode cM_init 14 = .ok (.putfield 15, 3) := by decide +kernel
theorem dM_init_17 : decode cM_init 17 = .ok (.aload_n 0, 1) := by decide +kernel
theorem dM_init_18 : decode cM_init 18 = .ok (.getfield 11, 3) := by decide +kernel
theorem dM_init_21 : decode cM_init 21 = .ok (.iconst (-1), 1) := by decide +kernel
theorem dM_init_22 : decode cM_init 22 = .ok (.invokestatic 19, 3) := by decide +kernel
theorem dM_init_25 : decode cM_init 25 = .ok (.return_, 1) := by decide +kernel
theorem dK_init_0 : decode cK_init 0 = .ok (.aload_n 0, 1) := by decide +kernel
theorem dK_init_1 : decode cK_init 1 = .ok (.invokespecial 1, 3) := by decide +kernel
theorem dK_init_4 : decode cK_init 4 = .ok (.aload_n 0, 1) := by decide +kernel
theorem dK_init_5 : decode cK_init 5 = .ok (.bipush 24, 2) := by decide +kernel
theorem dK_init_7 : decode cK_init 7 = .ok (.newarray .int, 2) := by decide +kernel
theorem dK_init_9 : decode cK_init 9 = .ok (.putfield 9, 3) := by decide +kernel
theorem dK_init_12 : decode cK_init 12 = .ok (.aload_n 0, 1) := by decide +kernel
theorem dK_init_13 : decode cK_init 13 = .ok (.bipush 24, 2) := by decide +kernel
theorem dK_init_15 : decode cK_init 15 = .ok (.newarray .int, 2) := by decide +kernel
theorem dK_init_17 : decode cK_init 17 = .ok (.putfield 13, 3) := by decide +kernel
theorem dK_init_20 : decode cK_init 20 = .ok (.aload_n 0, 1) := by decide +kernel
theorem dK_init_21 : decode cK_init 21 = .ok (.bipush 24, 2) := by decide +kernel
theorem dK_init_23 : decode cK_init 23 = .ok (.newarray .boolean, 2) := by decide +kernel
theorem dK_init_25 : decode cK_init 25 = .ok (.putfield 16, 3) := by decide +kernel
theorem dK_init_28 : decode cK_init 28 = .ok (.aload_n 0, 1) := by decide +kernel
theorem dK_init_29 : decode cK_init 29 = .ok (.iconst 1, 1) := by decide +kernel
theorem dK_init_30 : decode cK_init 30 = .ok (.iload_n 1, 1) := by decide +kernel
theorem dK_init_31 : decode cK_init 31 = .ok (.bipush 24, 2) := by decide +kernel
theorem dK_init_33 : decode cK_init 33 = .ok (.invokestatic 20, 3) := by decide +kernel
theorem dK_init_36 : decode cK_init 36 = .ok (.invokestatic 26, 3) := by decide +kernel
theorem dK_init_39 : decode cK_init 39 = .ok (.putfield 29, 3) := by decide +kernel
theorem dK_init_42 : decode cK_init 42 = .ok (.aload_n 0, 1) := by decide +kernel
theorem dK_init_43 : decode cK_init 43 = .ok (.new 33, 3) := by decide +kernel
theorem dK_init_46 : decode cK_init 46 = .ok (.dup, 1) := by decide +kernel
theorem dK_init_47 : decode cK_init 47 = .ok (.aload_n 0, 1) := by decide +kernel
theorem dK_init_48 : decode cK_init 48 = .ok (.getfield 29, 3) := by decide +kernel
theorem dK_init_51 : decode cK_init 51 = .ok (.invokespecial 35, 3) := by decide +kernel
theorem dK_init_54 : decode cK_init 54 = .ok (.putfield 38, 3) := by decide +kernel
theorem dK_init_57 : decode cK_init 57 = .ok (.aload_n 0, 1) := by decide +kernel
theorem dK_init_58 : decode cK_init 58 = .ok (.new 42, 3) := by decide +kernel
theorem dK_init_61 : decode cK_init 61 = .ok (.dup, 1) := by decide +kernel
theorem dK_init_62 : decode cK_init 62 = .ok (.aload_n 0, 1) := by decide +kernel
theorem dK_init_63 : decode cK_init 63 = .ok (.getfield 29, 3) := by decide +kernel
theorem dK_init_66 : decode cK_init 66 = .ok (.invokespecial 44, 3) := by decide +kernel
theorem dK_init_69 : decode cK_init 69 = .ok (.putfield 45, 3) := by decide +kernel
theorem dK_init_72 : decode cK_init 72 = .ok (.aload_n 0, 1) := by decide +kernel
theorem dK_init_73 : decode cK_init 73 = .ok (.getfield 13, 3) := by decide +kernel
theorem dK_init_76 : decode cK_init 76 = .ok (.iconst (-1), 1) := by decide +kernel
theorem dK_init_77 : decode cK_init 77 = .ok (.invokestatic 49, 3) := by decide +kernel
theorem dK_init_80 : decode cK_init 80 = .ok (.return_, 1) := by decide +kernel
end
section
-- ===== the class's state, in words of numbers, and its cells =====
/-- a pedigree: mothers, fathers, steps, sequence, forbears, kinTable, shares, ringRows, ringLength -/
abbrev vP : Type := (Nat → Int32) × (Nat → Int32) × (Nat → Int32) × (Nat → Int32) × (Nat → Int32) × (Nat → Int64) × (Nat → Int64) × (Nat → Int32) × Int32
abbrev g_mo (P : vP) : Nat → Int32 := P.1
abbrev g_fa (P : vP) : Nat → Int32 := P.2.1
abbrev g_st (P : vP) : Nat → Int32 := P.2.2.1
abbrev g_sq (P : vP) : Nat → Int32 := P.2.2.2.1
abbrev g_fb (P : vP) : Nat → Int32 := P.2.2.2.2.1
abbrev g_kt (P : vP) : Nat → Int64 := P.2.2.2.2.2.1
abbrev g_sh (P : vP) : Nat → Int64 := P.2.2.2.2.2.2.1
abbrev g_rr (P : vP) : Nat → Int32 := P.2.2.2.2.2.2.2.1
abbrev g_rl (P : vP) : Int32 := P.2.2.2.2.2.2.2.2
abbrev p_mo (P : vP) (f : Nat → Int32) : vP := (f, P.2)
abbrev p_fa (P : vP) (f : Nat → Int32) : vP := (P.1, f, P.2.2)
abbrev p_st (P : vP) (f : Nat → Int32) : vP := (P.1, P.2.1, f, P.2.2.2)
abbrev p_sq (P : vP) (f : Nat → Int32) : vP := (P.1, P.2.1, P.2.2.1, f, P.2.2.2.2)
abbrev p_fb (P : vP) (f : Nat → Int32) : vP := (P.1, P.2.1, P.2.2.1, P.2.2.2.1, f, P.2.2.2.2.2)
abbrev p_kt (P : vP) (f : Nat → Int64) : vP := (P.1, P.2.1, P.2.2.1, P.2.2.2.1, P.2.2.2.2.1, f, P.2.2.2.2.2.2)
abbrev p_sh (P : vP) (f : Nat → Int64) : vP := (P.1, P.2.1, P.2.2.1, P.2.2.2.1, P.2.2.2.2.1, P.2.2.2.2.2.1, f, P.2.2.2.2.2.2.2)
abbrev p_rr (P : vP) (f : Nat → Int32) : vP := (P.1, P.2.1, P.2.2.1, P.2.2.2.1, P.2.2.2.2.1, P.2.2.2.2.2.1, P.2.2.2.2.2.2.1, f, P.2.2.2.2.2.2.2.2)
abbrev p_rl (P : vP) (x : Int32) : vP := (P.1, P.2.1, P.2.2.1, P.2.2.2.1, P.2.2.2.2.1, P.2.2.2.2.2.1, P.2.2.2.2.2.2.1, P.2.2.2.2.2.2.2.1, x)
abbrev vM : Type := Nat → Int32
/-- the whole class: sexes, days, dead, the pedigree, the forms -/
abbrev vK : Type := (Nat → Int32) × (Nat → Int32) × (Nat → Int32) × vP × vM
abbrev g_sx (S : vK) : Nat → Int32 := S.1
abbrev g_dy (S : vK) : Nat → Int32 := S.2.1
abbrev g_dd (S : vK) : Nat → Int32 := S.2.2.1
abbrev g_P (S : vK) : vP := S.2.2.2.1
abbrev g_M (S : vK) : vM := S.2.2.2.2
abbrev s_sx (S : vK) (f : Nat → Int32) : vK := (f, S.2)
abbrev s_dy (S : vK) (f : Nat → Int32) : vK := (S.1, f, S.2.2)
abbrev s_dd (S : vK) (f : Nat → Int32) : vK := (S.1, S.2.1, f, S.2.2.2)
abbrev s_P (S : vK) (P : vP) : vK := (S.1, S.2.1, S.2.2.1, P, S.2.2.2.2)
abbrev s_M (S : vK) (M : vM) : vK := (S.1, S.2.1, S.2.2.1, S.2.2.2.1, M)
def tysK (Y : Nat → ClassId) : List (ClassId × FieldType) := [(Y 0, .int), (Y 1, .long), (Y 2, .boolean)]
def wA (Y : Nat → ClassId) (h : Nat → Nat) (n : Nat) (f : Nat → Int32) : va_W := [(h 0, .inl (Y 0, n, .inl f))]
def wP (Y : Nat → ClassId) (h : Nat → Nat) (n : Nat) (P : vP) : va_W := [(h 0, .inr (1, [.int (nI n), .ref (h 1), .ref (h 2), .ref (h 3), .ref (h 4), .ref (h 5), .ref (h 6), .ref (h 7), .ref (h 8), .int (g_rl P)])), (h 1, .inl (Y 0, 24, .inl (g_mo P))), (h 2, .inl (Y 0, 24, .inl (g_fa P))), (h 3, .inl (Y 0, 24, .inl (g_st P))), (h 4, .inl (Y 0, 24, .inl (g_sq P))), (h 5, .inl (Y 0, 24, .inl (g_fb P))), (h 6, .inl (Y 1, 576, .inr (.inl (g_kt P)))), (h 7, .inl (Y 1, 24, .inr (.inl (g_sh P)))), (h 8, .inl (Y 0, 25, .inl (g_rr P)))]
def wM (Y : Nat → ClassId) (h : Nat → Nat) (n : Nat) (M : vM) : va_W := [(h 0, .inr (2, [.int (nI n), .ref (h 1)])), (h 1, .inl (Y 0, 96, .inl M))]
def wKo (Y : Nat → ClassId) (h : Nat → Nat) (n : Nat) (S : vK) : va_W := [(h 0, .inr (0, [.ref (h 4), .ref (h 13), .int (nI n), .ref (h 1), .ref (h 2), .ref (h 3)])), (h 1, .inl (Y 0, 24, .inl (g_sx S))), (h 2, .inl (Y 0, 24, .inl (g_dy S))), (h 3, .inl (Y 2, 24, .inl (g_dd S)))]
def wK (Y : Nat → ClassId) (h : Nat → Nat) (n : Nat) (S : vK) : va_W := wKo Y h n S ++ (wP Y (fun i => h (i + 4)) n (g_P S) ++ wM Y (fun i => h (i + 13)) n (g_M S))
theorem kP_sub {D : va_G} {cl : List vw_C} {Y : Nat → ClassId} {h : Nat → Nat} {n : Nat} {S : vK} {H : Heap} (hP : va_P D cl (wK Y h n S) H) : va_P D cl (wP Y (fun i => h (i + 4)) n (g_P S)) H := zsub [4, 5, 6, 7, 8, 9, 10, 11, 12] hP rfl
theorem kM_sub {D : va_G} {cl : List vw_C} {Y : Nat → ClassId} {h : Nat → Nat} {n : Nat} {S : vK} {H : Heap} (hP : va_P D cl (wK Y h n S) H) : va_P D cl (wM Y (fun i => h (i + 13)) n (g_M S)) H := zsub [13, 14] hP rfl
end
section
def fA_fill_5 (n : Nat) : Nat → Nat → Int32 → Nat → (Nat → Int32) → (Nat → Int32)
  | 0, i, x1, x3, S => S
  | k + 1, i, x1, x3, S => (fA_fill_5 n k (i + 1) x1 x3 (upd S ((nI i) : Int32).toNatClampNeg x1))
def fA_fill (n : Nat) (S : (Nat → Int32)) (a1 : Int32) : (Nat → Int32) :=
  (fA_fill_5 n n 0 a1 n S)
def fF_isPart (a1 : Int32) : Int32 :=
  (if a1 = 0 then 1 else (if a1 = 1 then 1 else 0))
def fF_commonDivisor_9 : Nat → Nat → Int64 → Int64 → Int64 → Int64 → Int64
  | 0, i, x0, x2, x4, x6 => x4
  | k + 1, i, x0, x2, x4, x6 => (if (lg_cmp x6 0) = 0 then x4 else (fF_commonDivisor_9 k (i + 1) x0 x2 x6 (x4 - x4 / x6 * x6)))
def fF_commonDivisor (a1 : Int64) (a2 : Int64) : Int64 :=
  (fF_commonDivisor_9 100 0 a1 a2 a1 a2)
def fF_lowest (a1 : Int64) (a2 : Int64) (a3 : Int32) : Int64 :=
  (if 0 ≤ (lg_cmp (fF_commonDivisor a1 a2) 1) then (if a3 = 0 then (a1 / (fF_commonDivisor a1 a2)) else (a2 / (fF_commonDivisor a1 a2))) else (-1))
def fP_has (n : Nat) (a1 : Int32) : Int32 :=
  (if a1 < 0 then 0 else (if (nI n) ≤ a1 then 0 else 1))
def fP_bitOf (a1 : Int32) : Int32 :=
  ((1 : Int32) <<< (a1 &&& 31))
def fP_motherOf (n : Nat) (S : vP) (a1 : Int32) : Int32 :=
  (if (fP_has n a1) = 0 then (-1) else ((g_mo S) (a1 : Int32).toNatClampNeg))
def fP_fatherOf (n : Nat) (S : vP) (a1 : Int32) : Int32 :=
  (if (fP_has n a1) = 0 then (-1) else ((g_fa S) (a1 : Int32).toNatClampNeg))
def fP_stepsOf (n : Nat) (S : vP) (a1 : Int32) : Int32 :=
  (if (fP_has n a1) = 0 then (-1) else ((g_st S) (a1 : Int32).toNatClampNeg))
def fP_inOrder (n : Nat) (S : vP) (a1 : Int32) : Int32 :=
  (if (fP_has n a1) = 0 then (-1) else ((g_sq S) (a1 : Int32).toNatClampNeg))
def fP_isFounder (n : Nat) (S : vP) (a1 : Int32) : Int32 :=
  (if (fP_has n a1) = 0 then 0 else (if ((g_mo S) (a1 : Int32).toNatClampNeg) = (-1) then (if ((g_fa S) (a1 : Int32).toNatClampNeg) = (-1) then 1 else 0) else 0))
def fP_hasForbear (n : Nat) (S : vP) (a1 : Int32) (a2 : Int32) : Int32 :=
  (if (fP_has n a1) = 0 then 0 else (if (fP_has n a2) = 0 then 0 else (if (((g_fb S) (a1 : Int32).toNatClampNeg) &&& (fP_bitOf a2)) = 0 then 0 else 1)))
def fP_kinOf (n : Nat) (S : vP) (a1 : Int32) (a2 : Int32) : Int64 :=
  (if (fP_has n a1) = 0 then 0 else (if (fP_has n a2) = 0 then 0 else ((g_kt S) (((a1 * 24) + a2) : Int32).toNatClampNeg)))
def fP_inbreedingOf (n : Nat) (S : vP) (a1 : Int32) : Int64 :=
  (fP_kinOf n S (fP_motherOf n S a1) (fP_fatherOf n S a1))
def fP_settledBy (n : Nat) (S : vP) (a1 : Int32) : Int64 :=
  (if (fP_has n a1) = 0 then 0 else ((1073741824 + (fP_inbreedingOf n S a1)) / 4))
def fP_chanceOf (n : Nat) (S : vP) (a1 : Int32) : Int64 :=
  ((1073741824 - (fP_settledBy n S (fP_motherOf n S a1))) - (fP_settledBy n S (fP_fatherOf n S a1)))
def fP_shareRow (n : Nat) (S : vP) (a1 : Int32) : Int64 :=
  (if (fP_has n a1) = 0 then 0 else ((g_sh S) (a1 : Int32).toNatClampNeg))
def fP_leadsTo (n : Nat) (S : vP) (a1 : Int32) (a2 : Int32) : Int32 :=
  (if a1 = a2 then 1 else (if (fP_hasForbear n S a1 a2) = 0 then 0 else 1))
def fP_wouldClose (n : Nat) (S : vP) (a1 : Int32) (a2 : Int32) (a3 : Int32) : Int32 :=
  (if (fP_leadsTo n S a2 a1) = 0 then (if (fP_leadsTo n S a3 a1) = 0 then 0 else 1) else 1)
def fP_ringAt (n : Nat) (S : vP) (a1 : Int32) : Int32 :=
  (if a1 < 0 then (-1) else (if (g_rl S) ≤ a1 then (-1) else (if 25 ≤ a1 then (-1) else ((g_rr S) (a1 : Int32).toNatClampNeg))))
def fP_lineOf (n : Nat) (S : vP) (a1 : Int32) : Int32 :=
  (if (fP_has n a1) = 0 then 0 else ((fP_bitOf a1) ||| ((g_fb S) (a1 : Int32).toNatClampNeg)))
def fP_forgetRing (n : Nat) (S : vP) : vP :=
  (p_rl S (0))
def fP_shareOf_2 (n : Nat) : Nat → Nat → Int32 → Int32 → vP → Int64 × vP
  | 0, i, x1, x2, S => ((fP_shareRow n S x1), S)
  | k + 1, i, x1, x2, S => (if (fP_has n (fP_inOrder n S (nI i))) = 0 then (fP_shareOf_2 n k (i + 1) x1 x2 S) else (if (fP_inOrder n S (nI i)) = x2 then (fP_shareOf_2 n k (i + 1) x1 x2 (p_sh S (vp_updL (g_sh S) ((fP_inOrder n S (nI i)) : Int32).toNatClampNeg 1073741824))) else (fP_shareOf_2 n k (i + 1) x1 x2 (p_sh S (vp_updL (g_sh S) ((fP_inOrder n S (nI i)) : Int32).toNatClampNeg (((fP_shareRow n S (fP_motherOf n S (fP_inOrder n S (nI i)))) + (fP_shareRow n S (fP_fatherOf n S (fP_inOrder n S (nI i))))) / 2))))))
def fP_shareOf (n : Nat) (S : vP) (a1 : Int32) (a2 : Int32) : Int64 × vP :=
  (fP_shareOf_2 n n 0 a1 a2 S)
def fP_keepRing_31 (n : Nat) : Nat → Nat → Int32 → Int32 → Int32 → Int32 → vP → vP
  | 0, i, x1, x2, x3, x4, S => S
  | k + 1, i, x1, x2, x3, x4, S => (if (fP_has n x4) = 0 then S else (if x4 = x1 then (p_rl (p_rr S (upd (g_rr S) ((nI i) : Int32).toNatClampNeg x4)) (((nI i) + 1))) else (if (fP_leadsTo n (p_rl (p_rr S (upd (g_rr S) ((nI i) : Int32).toNatClampNeg x4)) (((nI i) + 1))) ((g_mo (p_rl (p_rr S (upd (g_rr S) ((nI i) : Int32).toNatClampNeg x4)) (((nI i) + 1)))) (x4 : Int32).toNatClampNeg) x1) = 0 then (fP_keepRing_31 n k (i + 1) x1 x2 x3 ((g_fa (p_rl (p_rr S (upd (g_rr S) ((nI i) : Int32).toNatClampNeg x4)) (((nI i) + 1)))) (x4 : Int32).toNatClampNeg) (p_rl (p_rr S (upd (g_rr S) ((nI i) : Int32).toNatClampNeg x4)) (((nI i) + 1)))) else (fP_keepRing_31 n k (i + 1) x1 x2 x3 ((g_mo (p_rl (p_rr S (upd (g_rr S) ((nI i) : Int32).toNatClampNeg x4)) (((nI i) + 1)))) (x4 : Int32).toNatClampNeg) (p_rl (p_rr S (upd (g_rr S) ((nI i) : Int32).toNatClampNeg x4)) (((nI i) + 1)))))))
def fP_keepRing (n : Nat) (S : vP) (a1 : Int32) (a2 : Int32) (a3 : Int32) : vP :=
  (if (fP_leadsTo n (p_rl (p_rr S (upd (g_rr S) (0 : Int32).toNatClampNeg a1)) (1)) a2 a1) = 0 then (fP_keepRing_31 n (25 - 1) 1 a1 a2 a3 a3 (p_rl (p_rr S (upd (g_rr S) (0 : Int32).toNatClampNeg a1)) (1))) else (fP_keepRing_31 n (25 - 1) 1 a1 a2 a3 a2 (p_rl (p_rr S (upd (g_rr S) (0 : Int32).toNatClampNeg a1)) (1))))
def fP_setKin (n : Nat) (S : vP) (a1 : Int32) (a2 : Int32) (a3 : Int64) : vP :=
  (if (fP_has n a1) = 0 then S else (if (fP_has n a2) = 0 then S else (p_kt (p_kt S (vp_updL (g_kt S) (((a1 * 24) + a2) : Int32).toNatClampNeg a3)) (vp_updL (g_kt (p_kt S (vp_updL (g_kt S) (((a1 * 24) + a2) : Int32).toNatClampNeg a3))) (((a2 * 24) + a1) : Int32).toNatClampNeg a3))))
def fP_reckonForbears (n : Nat) (S : vP) (a1 : Int32) : vP :=
  (if (fP_has n a1) = 0 then S else (p_fb S (upd (g_fb S) (a1 : Int32).toNatClampNeg ((fP_lineOf n S ((g_mo S) (a1 : Int32).toNatClampNeg)) ||| (fP_lineOf n S ((g_fa S) (a1 : Int32).toNatClampNeg))))))
def fP_reckonKin_22 (n : Nat) : Nat → Nat → Nat → Int32 → Int32 → Int32 → vP → vP
  | 0, i, x1, x2, x3, x4, S => (fP_setKin n S x2 x2 ((1073741824 + (fP_kinOf n S x3 x4)) / 2))
  | k + 1, i, x1, x2, x3, x4, S => (fP_reckonKin_22 n k (i + 1) x1 x2 x3 x4 (fP_setKin n S x2 (fP_inOrder n S (nI i)) (((fP_kinOf n S x3 (fP_inOrder n S (nI i))) + (fP_kinOf n S x4 (fP_inOrder n S (nI i)))) / 2)))
def fP_reckonKin (n : Nat) (S : vP) (a1 : Nat) : vP :=
  (fP_reckonKin_22 n a1 0 a1 (fP_inOrder n S (nI a1)) (fP_motherOf n S (fP_inOrder n S (nI a1))) (fP_fatherOf n S (fP_inOrder n S (nI a1))) S)
def fP_reckonOrder_14 (n : Nat) : Nat → Nat → Nat → Nat → vP → Nat × vP
  | 0, i, x1, x2, S => (x1, S)
  | k + 1, i, x1, x2, S => (if ((g_st S) ((nI i) : Int32).toNatClampNeg) = (nI x2) then (if (nI n) ≤ (nI x1) then (fP_reckonOrder_14 n k (i + 1) x1 x2 S) else (fP_reckonOrder_14 n k (i + 1) (x1 + 1) x2 (p_sq S (upd (g_sq S) ((nI x1) : Int32).toNatClampNeg (nI i))))) else (fP_reckonOrder_14 n k (i + 1) x1 x2 S))
def fP_reckonOrder_4 (n : Nat) : Nat → Nat → Nat → vP → vP
  | 0, i, x1, S => S
  | k + 1, i, x1, S => (fP_reckonOrder_4 n k (i + 1) ((fP_reckonOrder_14 n n 0 x1 i S).1) ((fP_reckonOrder_14 n n 0 x1 i S).2))
def fP_reckonOrder (n : Nat) (S : vP) : vP :=
  (fP_reckonOrder_4 n n 0 0 S)
def fP_reckonSteps_28 (n : Nat) : Nat → Nat → Int32 → Nat → vP → Int32 × vP
  | 0, i, x1, x2, S => (x1, S)
  | k + 1, i, x1, x2, S => (if x1 = 0 then (if ((fJ_max (fP_stepsOf n S ((g_mo S) ((nI i) : Int32).toNatClampNeg)) (fP_stepsOf n S ((g_fa S) ((nI i) : Int32).toNatClampNeg))) + 1) = ((g_st S) ((nI i) : Int32).toNatClampNeg) then (fP_reckonSteps_28 n k (i + 1) 0 x2 (p_st S (upd (g_st S) ((nI i) : Int32).toNatClampNeg ((fJ_max (fP_stepsOf n S ((g_mo S) ((nI i) : Int32).toNatClampNeg)) (fP_stepsOf n S ((g_fa S) ((nI i) : Int32).toNatClampNeg))) + 1)))) else (fP_reckonSteps_28 n k (i + 1) 1 x2 (p_st S (upd (g_st S) ((nI i) : Int32).toNatClampNeg ((fJ_max (fP_stepsOf n S ((g_mo S) ((nI i) : Int32).toNatClampNeg)) (fP_stepsOf n S ((g_fa S) ((nI i) : Int32).toNatClampNeg))) + 1))))) else (fP_reckonSteps_28 n k (i + 1) 1 x2 (p_st S (upd (g_st S) ((nI i) : Int32).toNatClampNeg ((fJ_max (fP_stepsOf n S ((g_mo S) ((nI i) : Int32).toNatClampNeg)) (fP_stepsOf n S ((g_fa S) ((nI i) : Int32).toNatClampNeg))) + 1)))))
def fP_reckonSteps_12 (n : Nat) : Nat → Nat → Int32 → vP → vP
  | 0, i, x1, S => S
  | k + 1, i, x1, S => (if x1 = 0 then S else (fP_reckonSteps_12 n k (i + 1) ((fP_reckonSteps_28 n n 0 0 i S).1) ((fP_reckonSteps_28 n n 0 0 i S).2)))
def fP_reckonSteps (n : Nat) (S : vP) : vP :=
  (fP_reckonSteps_12 n n 0 1 (p_st S (fA_fill 24 (g_st S) 0)))
def fP_reckon_10 (n : Nat) : Nat → Nat → vP → vP
  | 0, i, S => S
  | k + 1, i, S => (fP_reckon_10 n k (i + 1) (fP_reckonKin n (fP_reckonForbears n S (fP_inOrder n S (nI i))) i))
def fP_reckon (n : Nat) (S : vP) : vP :=
  (fP_reckon_10 n n 0 (fP_reckonOrder n (fP_reckonSteps n S)))
def fP_setParents (n : Nat) (S : vP) (a1 : Int32) (a2 : Int32) (a3 : Int32) : vP :=
  (if (fP_has n a1) = 0 then S else (fP_reckon n (p_fa (p_mo S (upd (g_mo S) (a1 : Int32).toNatClampNeg a2)) (upd (g_fa (p_mo S (upd (g_mo S) (a1 : Int32).toNatClampNeg a2))) (a1 : Int32).toNatClampNeg a3))))
def fM_has (n : Nat) (a1 : Int32) (a2 : Int32) : Int32 :=
  (if a1 < 0 then 0 else (if (nI n) ≤ a1 then 0 else (if a2 < 0 then 0 else (if 4 ≤ a2 then 0 else 1))))
def fM_formOf (n : Nat) (S : vM) (a1 : Int32) (a2 : Int32) : Int32 :=
  (if (fM_has n a1 a2) = 0 then (-1) else (S (((a1 * 4) + a2) : Int32).toNatClampNeg))
def fM_isKnownOfBoth (n : Nat) (S : vM) (a1 : Int32) (a2 : Int32) (a3 : Int32) : Int32 :=
  (if (fM_formOf n S a1 a3) = (-1) then 0 else (if (fM_formOf n S a2 a3) = (-1) then 0 else 1))
def fM_difference (n : Nat) (S : vM) (a1 : Int32) (a2 : Int32) (a3 : Int32) : Int32 :=
  (fJ_abs ((fM_formOf n S a1 a3) - (fM_formOf n S a2 a3)))
def fM_knownForms_4 (n : Nat) (S : vM) : Nat → Nat → Int32 → Int32 → Int32
  | 0, i, x1, x2 => x2
  | k + 1, i, x1, x2 => (if (fM_formOf n S (nI i) x1) = (-1) then (fM_knownForms_4 n S k (i + 1) x1 x2) else (fM_knownForms_4 n S k (i + 1) x1 (x2 + 1)))
def fM_knownForms (n : Nat) (S : vM) (a1 : Int32) : Int32 :=
  (fM_knownForms_4 n S n 0 a1 0)
def fM_lettersB_4 (n : Nat) (S : vM) : Nat → Nat → Int32 → Int32 → Int32
  | 0, i, x1, x2 => x2
  | k + 1, i, x1, x2 => (fM_lettersB_4 n S k (i + 1) x1 (x2 + (fJ_max 0 (fM_formOf n S (nI i) x1))))
def fM_lettersB (n : Nat) (S : vM) (a1 : Int32) : Int32 :=
  (fM_lettersB_4 n S n 0 a1 0)
def fM_amongChildren (a1 : Int32) (a2 : Int32) (a3 : Int64) (a4 : Int64) : Int64 :=
  (if a1 = 0 then (((2 - a2) : Int32).toInt64 * a3) else (if a1 = 1 then (((a2 : Int32).toInt64 * a3) + (((2 - a2) : Int32).toInt64 * a4)) else ((a2 : Int32).toInt64 * a4)))
def fM_amongStrangers (a1 : Int32) (a2 : Int64) (a3 : Int64) : Int64 :=
  (if a1 = 0 then (a2 * a2) else (if a1 = 1 then ((2 * a2) * a3) else (a3 * a3)))
def fM_isLeftOut_2 (n : Nat) (S : vM) : Nat → Nat → Int32 → Int32 → Int32
  | 0, i, x1, x2 => 0
  | k + 1, i, x1, x2 => (if (fM_isKnownOfBoth n S x1 x2 (nI i)) = 0 then (fM_isLeftOut_2 n S k (i + 1) x1 x2) else (if (fM_difference n S x1 x2 (nI i)) = 2 then 1 else (fM_isLeftOut_2 n S k (i + 1) x1 x2)))
def fM_isLeftOut (n : Nat) (S : vM) (a1 : Int32) (a2 : Int32) : Int32 :=
  (fM_isLeftOut_2 n S 4 0 a1 a2)
def fM_oddsOf_9 (n : Nat) (S : vM) : Nat → Nat → Int32 → Int32 → Int32 → Int64 → Int64 → Int64
  | 0, i, x1, x2, x3, x4, x6 => (fF_lowest x4 x6 x3)
  | k + 1, i, x1, x2, x3, x4, x6 => (if (fM_isKnownOfBoth n S x1 x2 (nI i)) = 0 then (fM_oddsOf_9 n S k (i + 1) x1 x2 x3 x4 x6) else (fM_oddsOf_9 n S k (i + 1) x1 x2 x3 (x4 * ((fM_amongChildren (fM_formOf n S x1 (nI i)) (fM_formOf n S x2 (nI i)) ((2 * ((fM_knownForms n S (nI i)) : Int32).toInt64) - ((fM_lettersB n S (nI i)) : Int32).toInt64) (((fM_lettersB n S (nI i)) : Int32).toInt64)) * (2 * ((fM_knownForms n S (nI i)) : Int32).toInt64))) (x6 * ((fM_amongStrangers (fM_formOf n S x1 (nI i)) ((2 * ((fM_knownForms n S (nI i)) : Int32).toInt64) - ((fM_lettersB n S (nI i)) : Int32).toInt64) (((fM_lettersB n S (nI i)) : Int32).toInt64)) * 2))))
def fM_oddsOf (n : Nat) (S : vM) (a1 : Int32) (a2 : Int32) (a3 : Int32) : Int64 :=
  (fM_oddsOf_9 n S 4 0 a1 a2 a3 1 1)
def fM_likenessOf_9 (n : Nat) (S : vM) : Nat → Nat → Int32 → Int32 → Int32 → Int64 → Int64 → Int64
  | 0, i, x1, x2, x3, x4, x6 => (if (lg_cmp x6 0) = 0 then (-1) else (fF_lowest x4 (2 * x6) x3))
  | k + 1, i, x1, x2, x3, x4, x6 => (if (fM_isKnownOfBoth n S x1 x2 (nI i)) = 0 then (fM_likenessOf_9 n S k (i + 1) x1 x2 x3 x4 x6) else (fM_likenessOf_9 n S k (i + 1) x1 x2 x3 (x4 + ((2 - (fM_difference n S x1 x2 (nI i))) : Int32).toInt64) (x6 + 1)))
def fM_likenessOf (n : Nat) (S : vM) (a1 : Int32) (a2 : Int32) (a3 : Int32) : Int64 :=
  (fM_likenessOf_9 n S 4 0 a1 a2 a3 0 0)
def fM_setForm (n : Nat) (S : vM) (a1 : Int32) (a2 : Int32) (a3 : Int32) : Int32 × vM :=
  (if (fM_has n a1 a2) = 0 then (0, S) else (if a3 < (-1) then (0, S) else (if a3 ≤ 2 then (1, (upd S (((a1 * 4) + a2) : Int32).toNatClampNeg a3)) else (0, S))))
def fK_isAnimal (n : Nat) (a1 : Int32) : Int32 :=
  (if a1 < 0 then 0 else (if (nI n) ≤ a1 then 0 else 1))
def fK_isAnimalOrNone (n : Nat) (a1 : Int32) : Int32 :=
  (if a1 = (-1) then 1 else (if (fK_isAnimal n a1) = 0 then 0 else 1))
def fK_mayBeParent (n : Nat) (S : vK) (a1 : Int32) (a2 : Int32) (a3 : Int32) : Int32 :=
  (if (fK_isAnimal n a1) = 0 then 1 else (if (fK_isAnimal n a2) = 0 then 1 else (if ((g_sx S) (a2 : Int32).toNatClampNeg) = a3 then 0 else (if ((g_dy S) (a2 : Int32).toNatClampNeg) = (-1) then 1 else (if ((g_dy S) (a1 : Int32).toNatClampNeg) = (-1) then 1 else (if ((g_dy S) (a1 : Int32).toNatClampNeg) ≤ ((g_dy S) (a2 : Int32).toNatClampNeg) then 0 else 1))))))
def fK_mayBeParents (n : Nat) (S : vK) (a1 : Int32) (a2 : Int32) (a3 : Int32) : Int32 :=
  (if (fK_mayBeParent n S a1 a2 2) = 0 then 0 else (if (fK_mayBeParent n S a1 a3 1) = 0 then 0 else 1))
def fK_areSexesAndDaysRight_2 (n : Nat) (S : vK) : Nat → Nat → Int32
  | 0, i => 1
  | k + 1, i => (if (fK_mayBeParents n S (nI i) (fP_motherOf n (g_P S) (nI i)) (fP_fatherOf n (g_P S) (nI i))) = 0 then 0 else (fK_areSexesAndDaysRight_2 n S k (i + 1)))
def fK_areSexesAndDaysRight (n : Nat) (S : vK) : Int32 :=
  (fK_areSexesAndDaysRight_2 n S n 0)
def fK_isLost_32 (n : Nat) (S : vK) : Nat → Nat → Int32 → Int32
  | 0, i, x1 => 1
  | k + 1, i, x1 => (if ((g_dd S) ((nI i) : Int32).toNatClampNeg) = 0 then (if (fP_hasForbear n (g_P S) (nI i) x1) = 0 then (fK_isLost_32 n S k (i + 1) x1) else 0) else (fK_isLost_32 n S k (i + 1) x1))
def fK_isLost (n : Nat) (S : vK) (a1 : Int32) : Int32 :=
  (if (fK_isAnimal n a1) = 0 then 0 else (if (fP_isFounder n (g_P S) a1) = 0 then 0 else (if ((g_dd S) (a1 : Int32).toNatClampNeg) = 0 then 0 else (fK_isLost_32 n S n 0 a1))))
def fK_kinWithLiving_5 (n : Nat) (S : vK) : Nat → Nat → Int32 → Int64 → Int64
  | 0, i, x1, x2 => x2
  | k + 1, i, x1, x2 => (if ((g_dd S) ((nI i) : Int32).toNatClampNeg) = 0 then (fK_kinWithLiving_5 n S k (i + 1) x1 (x2 + (fP_kinOf n (g_P S) x1 (nI i)))) else (fK_kinWithLiving_5 n S k (i + 1) x1 x2))
def fK_kinWithLiving (n : Nat) (S : vK) (a1 : Int32) : Int64 :=
  (fK_kinWithLiving_5 n S n 0 a1 0)
def fK_parents (n : Nat) (S : vK) (a1 : Int32) (a2 : Int32) (a3 : Int32) : Int32 × vK :=
  (if (fK_isAnimal n a1) = 0 then (0, (s_P S (fP_forgetRing n (g_P S)))) else (if (fK_isAnimalOrNone n a2) = 0 then (0, (s_P S (fP_forgetRing n (g_P S)))) else (if (fK_isAnimalOrNone n a3) = 0 then (0, (s_P S (fP_forgetRing n (g_P S)))) else (if a2 = a3 then (if a2 = (-1) then (if (fP_wouldClose n (g_P (s_P S (fP_forgetRing n (g_P S)))) a1 a2 a3) = 0 then (if (fK_mayBeParents n (s_P S (fP_forgetRing n (g_P S))) a1 a2 a3) = 0 then (0, (s_P S (fP_forgetRing n (g_P S)))) else (1, (s_P (s_P S (fP_forgetRing n (g_P S))) (fP_setParents n (g_P (s_P S (fP_forgetRing n (g_P S)))) a1 a2 a3)))) else (0, (s_P (s_P S (fP_forgetRing n (g_P S))) (fP_keepRing n (g_P (s_P S (fP_forgetRing n (g_P S)))) a1 a2 a3)))) else (0, (s_P S (fP_forgetRing n (g_P S))))) else (if (fP_wouldClose n (g_P (s_P S (fP_forgetRing n (g_P S)))) a1 a2 a3) = 0 then (if (fK_mayBeParents n (s_P S (fP_forgetRing n (g_P S))) a1 a2 a3) = 0 then (0, (s_P S (fP_forgetRing n (g_P S)))) else (1, (s_P (s_P S (fP_forgetRing n (g_P S))) (fP_setParents n (g_P (s_P S (fP_forgetRing n (g_P S)))) a1 a2 a3)))) else (0, (s_P (s_P S (fP_forgetRing n (g_P S))) (fP_keepRing n (g_P (s_P S (fP_forgetRing n (g_P S)))) a1 a2 a3))))))))
def fK_ring (n : Nat) (S : vK) (a1 : Int32) : Int32 :=
  (fP_ringAt n (g_P S) a1)
def fK_told (n : Nat) (S : vK) (a1 : Int32) (a2 : Int32) (a3 : Int32) : Int32 × vK :=
  (if (fK_isAnimal n a1) = 0 then (0, S) else (if a2 < 0 then (0, S) else (if 2 < a2 then (0, S) else (if a3 < (-1) then (0, S) else (if a3 ≤ 99999 then (if (fK_areSexesAndDaysRight n (s_dy (s_sx S (upd (g_sx S) (a1 : Int32).toNatClampNeg a2)) (upd (g_dy (s_sx S (upd (g_sx S) (a1 : Int32).toNatClampNeg a2))) (a1 : Int32).toNatClampNeg a3))) = 0 then (0, (s_dy (s_sx (s_dy (s_sx S (upd (g_sx S) (a1 : Int32).toNatClampNeg a2)) (upd (g_dy (s_sx S (upd (g_sx S) (a1 : Int32).toNatClampNeg a2))) (a1 : Int32).toNatClampNeg a3)) (upd (g_sx (s_dy (s_sx S (upd (g_sx S) (a1 : Int32).toNatClampNeg a2)) (upd (g_dy (s_sx S (upd (g_sx S) (a1 : Int32).toNatClampNeg a2))) (a1 : Int32).toNatClampNeg a3))) (a1 : Int32).toNatClampNeg ((g_sx S) (a1 : Int32).toNatClampNeg))) (upd (g_dy (s_sx (s_dy (s_sx S (upd (g_sx S) (a1 : Int32).toNatClampNeg a2)) (upd (g_dy (s_sx S (upd (g_sx S) (a1 : Int32).toNatClampNeg a2))) (a1 : Int32).toNatClampNeg a3)) (upd (g_sx (s_dy (s_sx S (upd (g_sx S) (a1 : Int32).toNatClampNeg a2)) (upd (g_dy (s_sx S (upd (g_sx S) (a1 : Int32).toNatClampNeg a2))) (a1 : Int32).toNatClampNeg a3))) (a1 : Int32).toNatClampNeg ((g_sx S) (a1 : Int32).toNatClampNeg)))) (a1 : Int32).toNatClampNeg ((g_dy S) (a1 : Int32).toNatClampNeg)))) else (1, (s_dy (s_sx S (upd (g_sx S) (a1 : Int32).toNatClampNeg a2)) (upd (g_dy (s_sx S (upd (g_sx S) (a1 : Int32).toNatClampNeg a2))) (a1 : Int32).toNatClampNeg a3)))) else (0, S))))))
def fK_lives (n : Nat) (S : vK) (a1 : Int32) (a2 : Int32) : Int32 × vK :=
  (if (fK_isAnimal n a1) = 0 then (0, S) else (if a2 = 0 then (1, (s_dd S (upd (g_dd S) (a1 : Int32).toNatClampNeg (vp_nar .boolean 1)))) else (1, (s_dd S (upd (g_dd S) (a1 : Int32).toNatClampNeg (vp_nar .boolean 0))))))
def fK_kin (n : Nat) (S : vK) (a1 : Int32) (a2 : Int32) (a3 : Int32) : Int64 :=
  (if (fK_isAnimal n a1) = 0 then (-1) else (if (fK_isAnimal n a2) = 0 then (-1) else (if (fF_isPart a3) = 0 then (-1) else (fF_lowest (fP_kinOf n (g_P S) a1 a2) 1073741824 a3))))
def fK_inbred (n : Nat) (S : vK) (a1 : Int32) (a2 : Int32) : Int64 :=
  (if (fK_isAnimal n a1) = 0 then (-1) else (if (fF_isPart a2) = 0 then (-1) else (fF_lowest (fP_inbreedingOf n (g_P S) a1) 1073741824 a2)))
def fK_chance (n : Nat) (S : vK) (a1 : Int32) (a2 : Int32) : Int64 :=
  (if (fK_isAnimal n a1) = 0 then (-1) else (if (fF_isPart a2) = 0 then (-1) else (fF_lowest (fP_chanceOf n (g_P S) a1) 1073741824 a2)))
def fK_share (n : Nat) (S : vK) (a1 : Int32) (a2 : Int32) (a3 : Int32) : Int64 × vK :=
  (if (fK_isAnimal n a1) = 0 then ((-1), S) else (if (fP_isFounder n (g_P S) a2) = 0 then ((-1), S) else (if (fF_isPart a3) = 0 then ((-1), S) else ((fF_lowest ((fP_shareOf n (g_P S) a1 a2).1) 1073741824 a3), (s_P S ((fP_shareOf n (g_P S) a1 a2).2))))))
def fK_isForbear (n : Nat) (S : vK) (a1 : Int32) (a2 : Int32) : Int32 :=
  (fP_hasForbear n (g_P S) a2 a1)
def fK_order (n : Nat) (S : vK) (a1 : Int32) : Int32 :=
  (fP_inOrder n (g_P S) a1)
def fK_mark (n : Nat) (S : vK) (a1 : Int32) (a2 : Int32) (a3 : Int32) : Int32 × vK :=
  ((fM_setForm n (g_M S) a1 a2 a3).1, (s_M S ((fM_setForm n (g_M S) a1 a2 a3).2)))
def fK_left_37 (n : Nat) (S : vK) : Nat → Nat → Int32 → Int32 → Int32 → Int32 → Int32
  | 0, i, x1, x2, x3, x4 => x4
  | k + 1, i, x1, x2, x3, x4 => (if (nI i) = x1 then (fK_left_37 n S k (i + 1) x1 x2 x3 x4) else (if ((g_sx S) ((nI i) : Int32).toNatClampNeg) = x3 then (fK_left_37 n S k (i + 1) x1 x2 x3 x4) else (if (fM_isLeftOut n (g_M S) x1 (nI i)) = 0 then (fK_left_37 n S k (i + 1) x1 x2 x3 (x4 + 1)) else (fK_left_37 n S k (i + 1) x1 x2 x3 x4))))
def fK_left (n : Nat) (S : vK) (a1 : Int32) (a2 : Int32) : Int32 :=
  (if (fK_isAnimal n a1) = 0 then (-1) else (if a2 = 1 then (fK_left_37 n S n 0 a1 a2 2 0) else (if a2 = 2 then (fK_left_37 n S n 0 a1 a2 1 0) else (-1))))
def fK_odds (n : Nat) (S : vK) (a1 : Int32) (a2 : Int32) (a3 : Int32) : Int64 :=
  (if (fK_isAnimal n a1) = 0 then (-1) else (if (fK_isAnimal n a2) = 0 then (-1) else (if a1 = a2 then (-1) else (if (fF_isPart a3) = 0 then (-1) else (fM_oddsOf n (g_M S) a1 a2 a3)))))
def fK_like (n : Nat) (S : vK) (a1 : Int32) (a2 : Int32) (a3 : Int32) : Int64 :=
  (if (fK_isAnimal n a1) = 0 then (-1) else (if (fK_isAnimal n a2) = 0 then (-1) else (if (fF_isPart a3) = 0 then (-1) else (fM_likenessOf n (g_M S) a1 a2 a3))))
def fK_lost_4 (n : Nat) (S : vK) : Nat → Nat → Int32 → Int32 → Int32
  | 0, i, x1, x2 => (-1)
  | k + 1, i, x1, x2 => (if (fK_isLost n S (nI i)) = 0 then (fK_lost_4 n S k (i + 1) x1 x2) else (if x2 = x1 then (nI i) else (fK_lost_4 n S k (i + 1) x1 (x2 + 1))))
def fK_lost (n : Nat) (S : vK) (a1 : Int32) : Int32 :=
  (fK_lost_4 n S n 0 a1 0)
def fK_diverse_19 (n : Nat) (S : vK) : Nat → Nat → Int32 → Int64 → Int64 → Int64
  | 0, i, x1, x2, x4 => (if (lg_cmp x2 0) = 0 then (-1) else (fF_lowest x4 ((x2 * x2) * 1073741824) x1))
  | k + 1, i, x1, x2, x4 => (if ((g_dd S) ((nI i) : Int32).toNatClampNeg) = 0 then (fK_diverse_19 n S k (i + 1) x1 (x2 + 1) (x4 + (fK_kinWithLiving n S (nI i)))) else (fK_diverse_19 n S k (i + 1) x1 x2 x4))
def fK_diverse (n : Nat) (S : vK) (a1 : Int32) : Int64 :=
  (if (fF_isPart a1) = 0 then (-1) else (fK_diverse_19 n S n 0 a1 0 0))
def fK_animal (n : Nat) (S : vK) (a1 : Int32) (a2 : Int32) : Int32 :=
  (if (fK_isAnimal n a1) = 0 then (-1) else (if a2 = 0 then (fP_motherOf n (g_P S) a1) else (if a2 = 1 then (fP_fatherOf n (g_P S) a1) else (if a2 = 2 then ((g_sx S) (a1 : Int32).toNatClampNeg) else (if a2 = 3 then ((g_dy S) (a1 : Int32).toNatClampNeg) else (if a2 = 4 then (if ((g_dd S) (a1 : Int32).toNatClampNeg) = 0 then 1 else 0) else (if a2 = 5 then (fP_stepsOf n (g_P S) a1) else (-1))))))))
def fP_init (n : Nat) : vP :=
  (fP_reckon n ((fA_fill 24 (fun _ => 0) (-1)), (fA_fill 24 (fun _ => 0) (-1)), (fun _ => 0), (fun _ => 0), (fun _ => 0), (fun _ => 0), (fun _ => 0), (fun _ => 0), 0))
def fM_init (n : Nat) : vM :=
  (fA_fill 96 (fun _ => 0) (-1))
def fK_init (n : Nat) : vK :=
  ((fun _ => 0), (fA_fill 24 (fun _ => 0) (-1)), (fun _ => 0), fP_init n, fM_init n)
theorem has_nat {n : Nat} {a : Int32} (hn : n ≤ 24) (c : ¬ fP_has n a = 0) : ∃ i : Nat, i < n ∧ a = nI i := by
  by_cases h0 : a < 0
  · exact absurd (by rw [fP_has, if_pos h0]) c
  · by_cases h1 : nI n ≤ a
    · exact absurd (by rw [fP_has, if_neg h0, if_pos h1]) c
    · obtain ⟨j, hj, rfl⟩ := nI_of h0
      refine ⟨j, ?_, rfl⟩
      rcases Nat.lt_or_ge j n with q | q
      · exact q
      · exact absurd (nI_le q hj) h1
theorem has_in {n : Nat} {a : Int32} (hn : n ≤ 24) (c : ¬ fP_has n a = 0) : vp_in a 24 := by
  obtain ⟨i, hi, rfl⟩ := has_nat hn c
  exact vp_in_nI (by omega) (by decide)
theorem ani_in {n : Nat} {a : Int32} (hn : n ≤ 24) (c : ¬ fK_isAnimal n a = 0) : vp_in a 24 := has_in hn c
theorem kt_in {n : Nat} {a b : Int32} (hn : n ≤ 24) (ca : ¬ fP_has n a = 0) (cb : ¬ fP_has n b = 0) : vp_in (a * 24 + b) 576 := by
  obtain ⟨i, hi, rfl⟩ := has_nat hn ca
  obtain ⟨j, hj, rfl⟩ := has_nat hn cb
  show vp_in (nI i * nI 24 + nI j) 576
  rw [pk_mul, nI_add]
  exact vp_in_nI (by omega) (by decide)
theorem mhas_nat {n : Nat} {a b : Int32} (hn : n ≤ 24) (c : ¬ fM_has n a b = 0) : ∃ i j : Nat, i < n ∧ j < 4 ∧ a = nI i ∧ b = nI j := by
  by_cases h0 : a < 0
  · exact absurd (by rw [fM_has, if_pos h0]) c
  · by_cases h1 : nI n ≤ a
    · exact absurd (by rw [fM_has, if_neg h0, if_pos h1]) c
    · by_cases h2 : b < 0
      · exact absurd (by rw [fM_has, if_neg h0, if_neg h1, if_pos h2]) c
      · by_cases h3 : (4 : Int32) ≤ b
        · exact absurd (by rw [fM_has, if_neg h0, if_neg h1, if_neg h2, if_pos h3]) c
        · obtain ⟨i, hi, rfl⟩ := nI_of h0
          obtain ⟨j, hj, rfl⟩ := nI_of h2
          refine ⟨i, j, ?_, ?_, rfl, rfl⟩
          · rcases Nat.lt_or_ge i n with q | q
            · exact q
            · exact absurd (nI_le q hi) h1
          · rcases Nat.lt_or_ge j 4 with q | q
            · exact q
            · exact absurd (nI_le (a := 4) q hj) h3
theorem fm_in {n : Nat} {a b : Int32} (hn : n ≤ 24) (c : ¬ fM_has n a b = 0) : vp_in (a * 4 + b) 96 := by
  obtain ⟨i, j, hi, hj, rfl, rfl⟩ := mhas_nat hn c
  show vp_in (nI i * nI 4 + nI j) 96
  rw [pk_mul, nI_add]
  exact vp_in_nI (by omega) (by decide)
theorem fP_reckonOrder_14_le {n : Nat} : ∀ {k i x1 x2 : Nat} {S : vP}, n ≤ 24 → x1 ≤ n → (fP_reckonOrder_14 n k i x1 x2 S).1 ≤ n := by
  intro k
  induction k with
  | zero => intro i x1 x2 S _ h; exact h
  | succ k ih =>
    intro i x1 x2 S hn h
    rw [fP_reckonOrder_14]
    split
    · split
      · exact ih hn h
      · rename_i c
        exact ih hn (ord_lt h hn c)
    · exact ih hn h
theorem fP_hasForbear_01 {n : Nat} {S : vP} {a b : Int32} : fP_hasForbear n S a b = 0 ∨ fP_hasForbear n S a b = 1 := by
  unfold fP_hasForbear
  repeat' split
  all_goals first | exact Or.inl rfl | exact Or.inr rfl
theorem fM_setForm_01 {n : Nat} {S : vM} {a b d : Int32} : (fM_setForm n S a b d).1 = 0 ∨ (fM_setForm n S a b d).1 = 1 := by
  unfold fM_setForm
  repeat' split
  all_goals first | exact Or.inl rfl | exact Or.inr rfl
end
section
abbrev rmA_fill : Room := { frames := 0, cells := 0, slots := 0, locals := 0 }
set_option maxHeartbeats 4000000 in
set_option maxRecDepth 100000 in
theorem tA_fill_5 {p : Program} {l : Launch} {e : Env} {s : State} {m : MethodId} {args : Array Value} {below : List Frame} {meth : Method} {c : Code} {D : va_G} {Y : Nat → ClassId} {h : Nat → Nat} {n : Nat} (hn : n ≤ 600) {A : Nat → Prop} (hA : ∀ q : Nat, s.heap.size ≤ q → A q) (CF : CallFix p m c cA_fill 4 s args uT RA) (hr : meth.sig.returnType = none) (hlocks : meth.locks = false) (hK : va_K D vwCl (tysK Y) s) : ∀ (k i : Nat) (x1 : Int32) (x3 : Nat) (S : (Nat → Int32)), i + k = x3 → x3 = n → ∀ (H : Heap) (locs : List Loc), va_P D vwCl (wA Y h n S) H → va_D A (wA Y h n S) → va_S A s.heap H locs → ∀ ls : Array Slot, lv_has ls 4 [(0, .ref (h 0)), (1, .int x1), (3, .int (nI x3)), (2, .int (nI i))] → W p l e rmA_fill s m args below meth c H locs 0 0 (zMv D vwCl (tysK Y) A (wA Y h n) below args s 0 0 (fA_fill_5 n k i x1 x3 S)) (F0 m 5 ls []) := by
  obtain ⟨hx, hb, hml, hown, hts⟩ := CF
  intro k
  induction k with
  | zero =>
    intro i x1 x3 S hi hx3 H locs hP hD hS ls hl
    rw [fA_fill_5]
    refine lv_iload_n hx hb dA_fill_5 rfl (lv_at hl 3 rfl) ?_
    refine lv_iload_n hx hb dA_fill_6 rfl (lv_at hl 2 rfl) ?_
    refine lv_icmp_ge (tgt := 20) hx hb dA_fill_7 (by decide) (fun _ => ?_) (fun z => absurd (lp_ge (n := x3) hi) z)
    exact zMv_ret (u := S) hx hb hr hlocks hK hP hD hS dA_fill_20
  | succ k ih =>
    intro i x1 x3 S hi hx3 H locs hP hD hS ls hl
    rw [fA_fill_5]
    refine lv_iload_n hx hb dA_fill_5 rfl (lv_at hl 3 rfl) ?_
    refine lv_iload_n hx hb dA_fill_6 rfl (lv_at hl 2 rfl) ?_
    refine lv_icmp_ge (tgt := 20) hx hb dA_fill_7 (by decide) (fun z => absurd z (lp_lt (n := x3) hi (by omega))) (fun _ => ?_)
    refine lv_aload_n hx hb dA_fill_10 rfl (lv_at hl 0 rfl) ?_
    refine lv_iload_n hx hb dA_fill_11 rfl (lv_at hl 3 rfl) ?_
    refine lv_iload_n hx hb dA_fill_12 rfl (lv_at hl 1 rfl) ?_
    refine va_iast hx hb hK hP hD hS 0 0 rfl rfl (vp_in_nI (n := i) (by omega) (by omega)) dA_fill_13 (fun H locs hP hD hS => ?_)
    have hP : va_P D vwCl (wA Y h n (upd S ((nI i) : Int32).toNatClampNeg x1)) H := hP
    have hD : va_D A (wA Y h n (upd S ((nI i) : Int32).toNatClampNeg x1)) := hD
    refine lv_iinc (v := (nI (i + 1))) (lv' := [(2, .int (nI (i + 1))), (0, .ref (h 0)), (1, .int x1), (3, .int (nI x3))]) hx hb dA_fill_14 hl (k := 3) rfl (nI_1 _) (by decide) rfl (fun ls hl => ?_)
    refine lv_goto (tgt := 5) hx hb dA_fill_17 (by decide) ?_
    exact ih (i + 1) x1 x3 (upd S ((nI i) : Int32).toNatClampNeg x1) (by omega) (hx3) _ _ hP hD hS ls (lv_sub hl [1, 2, 3, 0] rfl)
set_option maxHeartbeats 4000000 in
set_option maxRecDepth 100000 in
theorem kA_fill (l : Launch) (D : va_G) (Y : Nat → ClassId) (h : Nat → Nat) (n : Nat) (hn : n ≤ 600) (S : (Nat → Int32)) (a1 : Int32) (sz : Nat) : Met l yA_fill wsA_fill rmA_fill (va_Pc [.ref (h 0), .int a1] (zPreM D vwCl (tysK Y) (wA Y h n S) sz)) (va_Qv (fun u => u = (fA_fill n S a1)) (zAt D vwCl (tysK Y) (va_A (wA Y h n S) sz) (wA Y h n)) (va_A (wA Y h n S) sz)) 0 0 (va_A (wA Y h n S) sz) := by
  refine Met.ofW (cc := cA_fill) (maxL := 4) (ret := none) (by decide) rfl ?_
  intro p e s m args below meth c s₁ B hml hv
  obtain ⟨rfl, hsz, hP, hK, hD0⟩ := hv
  have hx := B.exec
  have hb := B.bytes
  have hr := B.returns
  have hts : ∀ w ∈ uT, w.before _ s = true := fun w hw => atoms_spec (ws := wsA_fill) B.pre w (List.mem_cons_of_mem _ hw)
  have hown : s.vm.findClass RA = some m.cls := findClass_of_methodNamed B.named
  have hlocks := B.notSynchronized
  subst hsz
  have hD := hD0.self (sz := s.heap.size)
  generalize hAe : va_A (wA Y h n S) s.heap.size = A at hD ⊢
  have hA : ∀ q : Nat, s.heap.size ≤ q → A q := fun q h => by rw [← hAe]; exact Or.inr h
  have hS : va_S A s.heap s.heap [] := va_S.rf
  have hl := lv_entry ([.ref (h 0), .int a1]) (n := 4) (Nat.le_of_ble_eq_true rfl)
  rw [lg_entry_eq]
  generalize (lg_sl ([.ref (h 0), .int a1]) ++ List.replicate (4 - (lg_sl ([.ref (h 0), .int a1])).length) Slot.unset).toArray = ls at hl ⊢
  have hl : lv_has ls 4 [(0, .ref (h 0)), (1, .int a1)] := hl
  show W p l e rmA_fill s m _ below meth c s.heap [] 0 0 (zMv D vwCl (tysK Y) A (wA Y h n) below _ s 0 0 (fA_fill n S a1)) _
  unfold fA_fill
  show W p l e rmA_fill s m _ below meth c s.heap [] 0 0 (zMv D vwCl (tysK Y) A (wA Y h n) below _ s 0 0 _) (F0 m 0 ls [])
  refine lv_iconst (v := 0) hx hb dA_fill_0 (by decide) ?_
  refine lv_istore_n (lv' := [(2, .int 0), (0, .ref (h 0)), (1, .int a1)]) hx hb dA_fill_1 rfl hl (by decide) rfl (fun ls hl => ?_)
  refine lv_aload_n hx hb dA_fill_2 rfl (lv_at hl 1 rfl) ?_
  refine va_alen (v := (nI n)) hx hb hK hP 0 0 rfl rfl rfl dA_fill_3 ?_
  refine lv_istore_n (lv' := [(3, .int (nI n)), (2, .int 0), (0, .ref (h 0)), (1, .int a1)]) hx hb dA_fill_4 rfl hl (by decide) rfl (fun ls hl => ?_)
  exact tA_fill_5 hn hA ⟨hx, hb, hml, hown, hts⟩ hr hlocks hK n 0 a1 n S (by omega) (rfl) _ _ hP hD hS ls (lv_sub hl [2, 3, 0, 1] rfl)
abbrev rmF_isPart : Room := { frames := 0, cells := 0, slots := 0, locals := 0 }
set_option maxHeartbeats 4000000 in
set_option maxRecDepth 100000 in
theorem kF_isPart (l : Launch) (D : va_G) (Y : Nat → ClassId) (a1 : Int32) : Met l yF_isPart wsF_isPart rmF_isPart (va_Pc [.int a1] (zPre D vwCl (tysK Y) ([]))) (vp_Si (fun r => r = (fF_isPart a1))) 0 0 (fun _ => False) := by
  refine Met.ofW (cc := cF_isPart) (maxL := 1) (ret := (some .boolean)) (by decide) rfl ?_
  intro p e s m args below meth c s₁ B hml hv
  obtain ⟨rfl, hP, hK⟩ := hv
  have hx := B.exec
  have hb := B.bytes
  have hr := B.returns
  have hts : ∀ w ∈ uT, w.before _ s = true := fun w hw => atoms_spec (ws := wsF_isPart) B.pre w (List.mem_cons_of_mem _ hw)
  have hown : s.vm.findClass RF = some m.cls := findClass_of_methodNamed B.named
  have hlocks := B.notSynchronized
  have hl := lv_entry ([.int a1]) (n := 1) (Nat.le_of_ble_eq_true rfl)
  rw [lg_entry_eq]
  generalize (lg_sl ([.int a1]) ++ List.replicate (1 - (lg_sl ([.int a1])).length) Slot.unset).toArray = ls at hl ⊢
  have hl : lv_has ls 1 [(0, .int a1)] := hl
  show W p l e rmF_isPart s m _ below meth c s.heap [] 0 0 (zI below _ s (fF_isPart a1)) _
  unfold fF_isPart
  show W p l e rmF_isPart s m _ below meth c s.heap [] 0 0 (zI below _ s _) (F0 m 0 ls [])
  refine lv_iload_n hx hb dF_isPart_0 rfl (lv_at hl 0 rfl) ?_
  refine zif (C := a1 = 0) (fun c1 => ?_) (fun c1 => ?_)
  · skip
    refine lv_if_eq (tgt := 9) hx hb dF_isPart_1 (by decide) (fun _ => ?_) (fun z => absurd c1 z)
    refine lv_iconst (v := 1) hx hb dF_isPart_9 (by decide) ?_
    refine lv_goto (tgt := 14) hx hb dF_isPart_10 (by decide) ?_
    exact zB_ret hx hb hr hlocks (Or.inr rfl) dF_isPart_14
  · skip
    refine lv_if_eq (tgt := 9) hx hb dF_isPart_1 (by decide) (fun z => absurd z c1) (fun _ => ?_)
    refine lv_iload_n hx hb dF_isPart_4 rfl (lv_at hl 0 rfl) ?_
    refine lv_iconst (v := 1) hx hb dF_isPart_5 (by decide) ?_
    refine zif (C := a1 = 1) (fun c6 => ?_) (fun c6 => ?_)
    · skip
      refine lv_icmp_ne (tgt := 13) hx hb dF_isPart_6 (by decide) (fun z => absurd c6 z) (fun _ => ?_)
      refine lv_iconst (v := 1) hx hb dF_isPart_9 (by decide) ?_
      refine lv_goto (tgt := 14) hx hb dF_isPart_10 (by decide) ?_
      exact zB_ret hx hb hr hlocks (Or.inr rfl) dF_isPart_14
    · skip
      refine lv_icmp_ne (tgt := 13) hx hb dF_isPart_6 (by decide) (fun _ => ?_) (fun z => absurd z c6)
      refine lv_iconst (v := 0) hx hb dF_isPart_13 (by decide) ?_
      exact zB_ret hx hb hr hlocks (Or.inl rfl) dF_isPart_14
abbrev rmF_commonDivisor : Room := { frames := 0, cells := 0, slots := 0, locals := 0 }
set_option maxHeartbeats 4000000 in
set_option maxRecDepth 100000 in
theorem tF_commonDivisor_9 {p : Program} {l : Launch} {e : Env} {s : State} {m : MethodId} {args : Array Value} {below : List Frame} {meth : Method} {c : Code} {D : va_G} {Y : Nat → ClassId} (CF : CallFix p m c cF_commonDivisor 11 s args uT RF) (hr : meth.sig.returnType = (some .long)) (hlocks : meth.locks = false) (hK : va_K D vwCl (tysK Y) s) (hP : va_P D vwCl ([]) s.heap) : ∀ (k i : Nat) (x0 : Int64) (x2 : Int64) (x4 : Int64) (x6 : Int64), i + k = 100 → ∀ ls : Array Slot, lv_has ls 11 [(0, .long x0), (2, .long x2), (4, .long x4), (6, .long x6), (8, .int (nI i))] → W p l e rmF_commonDivisor s m args below meth c s.heap [] 0 0 (zL below args s (fF_commonDivisor_9 k i x0 x2 x4 x6)) (F0 m 9 ls []) := by
  obtain ⟨hx, hb, hml, hown, hts⟩ := CF
  intro k
  induction k with
  | zero =>
    intro i x0 x2 x4 x6 hi  ls hl
    rw [fF_commonDivisor_9]
    refine lv_iload hx hb dF_commonDivisor_9 (lv_at hl 4 rfl) ?_
    refine lv_bipush (v := 100) hx hb dF_commonDivisor_11 (by decide) ?_
    refine lv_icmp_ge (tgt := 44) hx hb dF_commonDivisor_13 (by decide) (fun _ => ?_) (fun z => absurd (lp_ge (n := 100) hi) z)
    refine lv_lload hx hb dF_commonDivisor_44 (lv_at hl 2 rfl) ?_
    exact zL_ret hx hb hr hlocks dF_commonDivisor_46
  | succ k ih =>
    intro i x0 x2 x4 x6 hi  ls hl
    rw [fF_commonDivisor_9]
    refine lv_iload hx hb dF_commonDivisor_9 (lv_at hl 4 rfl) ?_
    refine lv_bipush (v := 100) hx hb dF_commonDivisor_11 (by decide) ?_
    refine lv_icmp_ge (tgt := 44) hx hb dF_commonDivisor_13 (by decide) (fun z => absurd z (lp_lt (n := 100) hi (by omega))) (fun _ => ?_)
    refine lv_lload hx hb dF_commonDivisor_16 (lv_at hl 3 rfl) ?_
    refine lv_lconst (v := 0) hx hb dF_commonDivisor_18 (by decide) ?_
    refine W.lcmp hx hb dF_commonDivisor_19 ?_
    refine zif (C := (lg_cmp x6 0) = 0) (fun c20 => ?_) (fun c20 => ?_)
    · skip
      refine lv_if_eq (tgt := 44) hx hb dF_commonDivisor_20 (by decide) (fun _ => ?_) (fun z => absurd c20 z)
      refine lv_lload hx hb dF_commonDivisor_44 (lv_at hl 2 rfl) ?_
      exact zL_ret hx hb hr hlocks dF_commonDivisor_46
    · skip
      refine lv_if_eq (tgt := 44) hx hb dF_commonDivisor_20 (by decide) (fun z => absurd z c20) (fun _ => ?_)
      refine lv_lload hx hb dF_commonDivisor_23 (lv_at hl 2 rfl) ?_
      refine lv_lload hx hb dF_commonDivisor_25 (lv_at hl 3 rfl) ?_
      refine lv_lrem hx hb dF_commonDivisor_27 (lcmp_nz c20) ?_
      refine lv_lstore (lv' := [(9, .long (x4 - x4 / x6 * x6)), (0, .long x0), (2, .long x2), (4, .long x4), (6, .long x6), (8, .int (nI i))]) hx hb dF_commonDivisor_28 hl (by decide) rfl (fun ls hl => ?_)
      refine lv_lload hx hb dF_commonDivisor_30 (lv_at hl 4 rfl) ?_
      refine lv_lstore (lv' := [(4, .long x6), (9, .long (x4 - x4 / x6 * x6)), (0, .long x0), (2, .long x2), (6, .long x6), (8, .int (nI i))]) hx hb dF_commonDivisor_32 hl (by decide) rfl (fun ls hl => ?_)
      refine lv_lload hx hb dF_commonDivisor_34 (lv_at hl 1 rfl) ?_
      refine lv_lstore (lv' := [(6, .long (x4 - x4 / x6 * x6)), (4, .long x6), (9, .long (x4 - x4 / x6 * x6)), (0, .long x0), (2, .long x2), (8, .int (nI i))]) hx hb dF_commonDivisor_36 hl (by decide) rfl (fun ls hl => ?_)
      refine lv_iinc (v := (nI (i + 1))) (lv' := [(8, .int (nI (i + 1))), (6, .long (x4 - x4 / x6 * x6)), (4, .long x6), (9, .long (x4 - x4 / x6 * x6)), (0, .long x0), (2, .long x2)]) hx hb dF_commonDivisor_38 hl (k := 5) rfl (nI_1 _) (by decide) rfl (fun ls hl => ?_)
      refine lv_goto (tgt := 9) hx hb dF_commonDivisor_41 (by decide) ?_
      exact ih (i + 1) x0 x2 x6 (x4 - x4 / x6 * x6) (by omega) ls (lv_sub hl [4, 5, 2, 1, 0] rfl)
set_option maxHeartbeats 4000000 in
set_option maxRecDepth 100000 in
theorem kF_commonDivisor (l : Launch) (D : va_G) (Y : Nat → ClassId) (a1 : Int64) (a2 : Int64) : Met l yF_commonDivisor wsF_commonDivisor rmF_commonDivisor (va_Pc [.long a1, .long a2] (zPre D vwCl (tysK Y) ([]))) (vp_Sl (fun r => r = (fF_commonDivisor a1 a2))) 0 0 (fun _ => False) := by
  refine Met.ofW (cc := cF_commonDivisor) (maxL := 11) (ret := (some .long)) (by decide) rfl ?_
  intro p e s m args below meth c s₁ B hml hv
  obtain ⟨rfl, hP, hK⟩ := hv
  have hx := B.exec
  have hb := B.bytes
  have hr := B.returns
  have hts : ∀ w ∈ uT, w.before _ s = true := fun w hw => atoms_spec (ws := wsF_commonDivisor) B.pre w (List.mem_cons_of_mem _ hw)
  have hown : s.vm.findClass RF = some m.cls := findClass_of_methodNamed B.named
  have hlocks := B.notSynchronized
  have hl := lv_entry ([.long a1, .long a2]) (n := 11) (Nat.le_of_ble_eq_true rfl)
  rw [lg_entry_eq]
  generalize (lg_sl ([.long a1, .long a2]) ++ List.replicate (11 - (lg_sl ([.long a1, .long a2])).length) Slot.unset).toArray = ls at hl ⊢
  have hl : lv_has ls 11 [(0, .long a1), (2, .long a2)] := hl
  show W p l e rmF_commonDivisor s m _ below meth c s.heap [] 0 0 (zL below _ s (fF_commonDivisor a1 a2)) _
  unfold fF_commonDivisor
  show W p l e rmF_commonDivisor s m _ below meth c s.heap [] 0 0 (zL below _ s _) (F0 m 0 ls [])
  refine lv_lload_n hx hb dF_commonDivisor_0 rfl (lv_at hl 0 rfl) ?_
  refine lv_lstore (lv' := [(4, .long a1), (0, .long a1), (2, .long a2)]) hx hb dF_commonDivisor_1 hl (by decide) rfl (fun ls hl => ?_)
  refine lv_lload_n hx hb dF_commonDivisor_3 rfl (lv_at hl 2 rfl) ?_
  refine lv_lstore (lv' := [(6, .long a2), (4, .long a1), (0, .long a1), (2, .long a2)]) hx hb dF_commonDivisor_4 hl (by decide) rfl (fun ls hl => ?_)
  refine lv_iconst (v := 0) hx hb dF_commonDivisor_6 (by decide) ?_
  refine lv_istore (lv' := [(8, .int 0), (6, .long a2), (4, .long a1), (0, .long a1), (2, .long a2)]) hx hb dF_commonDivisor_7 hl (by decide) rfl (fun ls hl => ?_)
  exact tF_commonDivisor_9 ⟨hx, hb, hml, hown, hts⟩ hr hlocks hK (zsub [] hP rfl) 100 0 a1 a2 a1 a2 (by omega) ls (lv_sub hl [3, 4, 2, 1, 0] rfl)
abbrev rmF_lowest : Room := { frames := 1, cells := 0, slots := 0, locals := 30 }
set_option maxHeartbeats 4000000 in
set_option maxRecDepth 100000 in
theorem kF_lowest (l : Launch) (D : va_G) (Y : Nat → ClassId) (a1 : Int64) (a2 : Int64) (a3 : Int32) : Met l yF_lowest wsF_lowest rmF_lowest (va_Pc [.long a1, .long a2, .int a3] (zPre D vwCl (tysK Y) ([]))) (vp_Sl (fun r => r = (fF_lowest a1 a2 a3))) 0 0 (fun _ => False) := by
  refine Met.ofW (cc := cF_lowest) (maxL := 7) (ret := (some .long)) (by decide) rfl ?_
  intro p e s m args below meth c s₁ B hml hv
  obtain ⟨rfl, hP, hK⟩ := hv
  have hx := B.exec
  have hb := B.bytes
  have hr := B.returns
  have hts : ∀ w ∈ uT, w.before _ s = true := fun w hw => atoms_spec (ws := wsF_lowest) B.pre w (List.mem_cons_of_mem _ hw)
  have hown : s.vm.findClass RF = some m.cls := findClass_of_methodNamed B.named
  have hlocks := B.notSynchronized
  have hl := lv_entry ([.long a1, .long a2, .int a3]) (n := 7) (Nat.le_of_ble_eq_true rfl)
  rw [lg_entry_eq]
  generalize (lg_sl ([.long a1, .long a2, .int a3]) ++ List.replicate (7 - (lg_sl ([.long a1, .long a2, .int a3])).length) Slot.unset).toArray = ls at hl ⊢
  have hl : lv_has ls 7 [(0, .long a1), (2, .long a2), (4, .int a3)] := hl
  show W p l e rmF_lowest s m _ below meth c s.heap [] 0 0 (zL below _ s (fF_lowest a1 a2 a3)) _
  unfold fF_lowest
  show W p l e rmF_lowest s m _ below meth c s.heap [] 0 0 (zL below _ s _) (F0 m 0 ls [])
  refine lv_lload_n hx hb dF_lowest_0 rfl (lv_at hl 0 rfl) ?_
  refine lv_lload_n hx hb dF_lowest_1 rfl (lv_at hl 1 rfl) ?_
  refine qSl (rest := []) ⟨hx, hb, hml, hown, hts⟩ (kF_commonDivisor l D Y a1 a2) (va_cwS 2 hts (gS uw0 uw1 uw2 ucF_commonDivisor) rfl rfl rfl hsF_commonDivisor ⟨Nat.le_of_ble_eq_true rfl, Nat.le_of_ble_eq_true rfl⟩) hK hP rfl hl.1 rfl (Nat.le_of_ble_eq_true rfl) dF_lowest_2 ⟨Nat.le_of_ble_eq_true rfl, Nat.le_of_ble_eq_true rfl⟩ ?_
  refine lv_lstore (lv' := [(5, .long (fF_commonDivisor a1 a2)), (0, .long a1), (2, .long a2), (4, .int a3)]) hx hb dF_lowest_5 hl (by decide) rfl (fun ls hl => ?_)
  refine lv_lload hx hb dF_lowest_7 (lv_at hl 0 rfl) ?_
  refine lv_lconst (v := 1) hx hb dF_lowest_9 (by decide) ?_
  refine W.lcmp hx hb dF_lowest_10 ?_
  refine zif (C := 0 ≤ (lg_cmp (fF_commonDivisor a1 a2) 1)) (fun c11 => ?_) (fun c11 => ?_)
  · skip
    refine lv_if_ge (tgt := 18) hx hb dF_lowest_11 (by decide) (fun _ => ?_) (fun z => absurd c11 z)
    refine lv_iload hx hb dF_lowest_18 (lv_at hl 3 rfl) ?_
    refine zif (C := a3 = 0) (fun c20 => ?_) (fun c20 => ?_)
    · skip
      refine lv_if_ne (tgt := 27) hx hb dF_lowest_20 (by decide) (fun z => absurd c20 z) (fun _ => ?_)
      refine lv_lload_n hx hb dF_lowest_23 rfl (lv_at hl 1 rfl) ?_
      refine lv_goto (tgt := 28) hx hb dF_lowest_24 (by decide) ?_
      refine lv_lload hx hb dF_lowest_28 (lv_at hl 0 rfl) ?_
      refine lv_ldiv hx hb dF_lowest_30 (low_nz c11) ?_
      exact zL_ret hx hb hr hlocks dF_lowest_31
    · skip
      refine lv_if_ne (tgt := 27) hx hb dF_lowest_20 (by decide) (fun _ => ?_) (fun z => absurd z c20)
      refine lv_lload_n hx hb dF_lowest_27 rfl (lv_at hl 2 rfl) ?_
      refine lv_lload hx hb dF_lowest_28 (lv_at hl 0 rfl) ?_
      refine lv_ldiv hx hb dF_lowest_30 (low_nz c11) ?_
      exact zL_ret hx hb hr hlocks dF_lowest_31
  · skip
    refine lv_if_ge (tgt := 18) hx hb dF_lowest_11 (by decide) (fun z => absurd z c11) (fun _ => ?_)
    refine lv_ldc2 (v := (-1)) hx hb hown (hts _ uw3) dF_lowest_14 ?_
    exact zL_ret hx hb hr hlocks dF_lowest_17
abbrev rmP_has : Room := { frames := 0, cells := 0, slots := 0, locals := 0 }
set_option maxHeartbeats 4000000 in
set_option maxRecDepth 100000 in
theorem kP_has (l : Launch) (D : va_G) (Y : Nat → ClassId) (h : Nat → Nat) (n : Nat) (hn : n ≤ 24) (S : vP) (a1 : Int32) : Met l yP_has wsP_has rmP_has (va_Pc [.ref (h 0), .int a1] (zPre D vwCl (tysK Y) (wP Y h n S))) (vp_Si (fun r => r = (fP_has n a1))) 0 0 (fun _ => False) := by
  refine Met.ofW (cc := cP_has) (maxL := 2) (ret := (some .boolean)) (by decide) rfl ?_
  intro p e s m args below meth c s₁ B hml hv
  obtain ⟨rfl, hP, hK⟩ := hv
  have hx := B.exec
  have hb := B.bytes
  have hr := B.returns
  have hts : ∀ w ∈ uT, w.before _ s = true := fun w hw => atoms_spec (ws := wsP_has) B.pre w (List.mem_cons_of_mem _ hw)
  have hown : s.vm.findClass RP = some m.cls := findClass_of_methodNamed B.named
  have hlocks := B.notSynchronized
  have hl := lv_entry ([.ref (h 0), .int a1]) (n := 2) (Nat.le_of_ble_eq_true rfl)
  rw [lg_entry_eq]
  generalize (lg_sl ([.ref (h 0), .int a1]) ++ List.replicate (2 - (lg_sl ([.ref (h 0), .int a1])).length) Slot.unset).toArray = ls at hl ⊢
  have hl : lv_has ls 2 [(0, .ref (h 0)), (1, .int a1)] := hl
  show W p l e rmP_has s m _ below meth c s.heap [] 0 0 (zI below _ s (fP_has n a1)) _
  unfold fP_has
  show W p l e rmP_has s m _ below meth c s.heap [] 0 0 (zI below _ s _) (F0 m 0 ls [])
  refine lv_iload_n hx hb dP_has_0 rfl (lv_at hl 1 rfl) ?_
  refine zif (C := a1 < 0) (fun c1 => ?_) (fun c1 => ?_)
  · skip
    refine lv_if_lt (tgt := 16) hx hb dP_has_1 (by decide) (fun _ => ?_) (fun z => absurd c1 z)
    refine lv_iconst (v := 0) hx hb dP_has_16 (by decide) ?_
    exact zB_ret hx hb hr hlocks (Or.inl rfl) dP_has_17
  · skip
    refine lv_if_lt (tgt := 16) hx hb dP_has_1 (by decide) (fun z => absurd z c1) (fun _ => ?_)
    refine lv_iload_n hx hb dP_has_4 rfl (lv_at hl 1 rfl) ?_
    refine lv_aload_n hx hb dP_has_5 rfl (lv_at hl 0 rfl) ?_
    refine va_get (D := D) (ci := 1) (v := .int (nI n)) (C := RP) (T := TP) (N := 10) hx hb hts hinP hown hK hP 0 rfl rfl 0 (by decide) (hts _ uw4) (fun _ h9 => h9) rfl dP_has_6 ?_
    refine zif (C := (nI n) ≤ a1) (fun c9 => ?_) (fun c9 => ?_)
    · skip
      refine lv_icmp_ge (tgt := 16) hx hb dP_has_9 (by decide) (fun _ => ?_) (fun z => absurd c9 z)
      refine lv_iconst (v := 0) hx hb dP_has_16 (by decide) ?_
      exact zB_ret hx hb hr hlocks (Or.inl rfl) dP_has_17
    · skip
      refine lv_icmp_ge (tgt := 16) hx hb dP_has_9 (by decide) (fun z => absurd z c9) (fun _ => ?_)
      refine lv_iconst (v := 1) hx hb dP_has_12 (by decide) ?_
      refine lv_goto (tgt := 17) hx hb dP_has_13 (by decide) ?_
      exact zB_ret hx hb hr hlocks (Or.inr rfl) dP_has_17
abbrev rmP_bitOf : Room := { frames := 0, cells := 0, slots := 0, locals := 0 }
set_option maxHeartbeats 4000000 in
set_option maxRecDepth 100000 in
theorem kP_bitOf (l : Launch) (D : va_G) (Y : Nat → ClassId) (a1 : Int32) : Met l yP_bitOf wsP_bitOf rmP_bitOf (va_Pc [.int a1] (zPre D vwCl (tysK Y) ([]))) (vp_Si (fun r => r = (fP_bitOf a1))) 0 0 (fun _ => False) := by
  refine Met.ofW (cc := cP_bitOf) (maxL := 1) (ret := (some .int)) (by decide) rfl ?_
  intro p e s m args below meth c s₁ B hml hv
  obtain ⟨rfl, hP, hK⟩ := hv
  have hx := B.exec
  have hb := B.bytes
  have hr := B.returns
  have hts : ∀ w ∈ uT, w.before _ s = true := fun w hw => atoms_spec (ws := wsP_bitOf) B.pre w (List.mem_cons_of_mem _ hw)
  have hown : s.vm.findClass RP = some m.cls := findClass_of_methodNamed B.named
  have hlocks := B.notSynchronized
  have hl := lv_entry ([.int a1]) (n := 1) (Nat.le_of_ble_eq_true rfl)
  rw [lg_entry_eq]
  generalize (lg_sl ([.int a1]) ++ List.replicate (1 - (lg_sl ([.int a1])).length) Slot.unset).toArray = ls at hl ⊢
  have hl : lv_has ls 1 [(0, .int a1)] := hl
  show W p l e rmP_bitOf s m _ below meth c s.heap [] 0 0 (zI below _ s (fP_bitOf a1)) _
  unfold fP_bitOf
  show W p l e rmP_bitOf s m _ below meth c s.heap [] 0 0 (zI below _ s _) (F0 m 0 ls [])
  refine lv_iconst (v := 1) hx hb dP_bitOf_0 (by decide) ?_
  refine lv_iload_n hx hb dP_bitOf_1 rfl (lv_at hl 0 rfl) ?_
  refine lv_ishl hx hb dP_bitOf_2 ?_
  exact zI_ret hx hb hr hlocks dP_bitOf_3
abbrev rmP_motherOf : Room := { frames := 1, cells := 0, slots := 0, locals := 21 }
set_option maxHeartbeats 4000000 in
set_option maxRecDepth 100000 in
theorem kP_motherOf (l : Launch) (D : va_G) (Y : Nat → ClassId) (h : Nat → Nat) (n : Nat) (hn : n ≤ 24) (S : vP) (a1 : Int32) : Met l yP_motherOf wsP_motherOf rmP_motherOf (va_Pc [.ref (h 0), .int a1] (zPre D vwCl (tysK Y) (wP Y h n S))) (vp_Si (fun r => r = (fP_motherOf n S a1))) 0 0 (fun _ => False) := by
  refine Met.ofW (cc := cP_motherOf) (maxL := 2) (ret := (some .int)) (by decide) rfl ?_
  intro p e s m args below meth c s₁ B hml hv
  obtain ⟨rfl, hP, hK⟩ := hv
  have hx := B.exec
  have hb := B.bytes
  have hr := B.returns
  have hts : ∀ w ∈ uT, w.before _ s = true := fun w hw => atoms_spec (ws := wsP_motherOf) B.pre w (List.mem_cons_of_mem _ hw)
  have hown : s.vm.findClass RP = some m.cls := findClass_of_methodNamed B.named
  have hlocks := B.notSynchronized
  have hl := lv_entry ([.ref (h 0), .int a1]) (n := 2) (Nat.le_of_ble_eq_true rfl)
  rw [lg_entry_eq]
  generalize (lg_sl ([.ref (h 0), .int a1]) ++ List.replicate (2 - (lg_sl ([.ref (h 0), .int a1])).length) Slot.unset).toArray = ls at hl ⊢
  have hl : lv_has ls 2 [(0, .ref (h 0)), (1, .int a1)] := hl
  show W p l e rmP_motherOf s m _ below meth c s.heap [] 0 0 (zI below _ s (fP_motherOf n S a1)) _
  unfold fP_motherOf
  show W p l e rmP_motherOf s m _ below meth c s.heap [] 0 0 (zI below _ s _) (F0 m 0 ls [])
  refine lv_aload_n hx hb dP_motherOf_0 rfl (lv_at hl 0 rfl) ?_
  refine lv_iload_n hx hb dP_motherOf_1 rfl (lv_at hl 1 rfl) ?_
  refine qVi (rest := []) ⟨hx, hb, hml, hown, hts⟩ (kP_has l D Y h n hn S a1) (cwV 1 hts (gV uw5 uw6 uw7 uw8 ucP_has) rfl rfl rfl hvP_has ⟨Nat.le_of_ble_eq_true rfl, Nat.le_of_ble_eq_true rfl⟩) hK hP (va_recv hK hP (ci := 1) (q0 := 0) rfl rfl) rfl hl.1 rfl (Nat.le_of_ble_eq_true rfl) dP_motherOf_2 ⟨Nat.le_of_ble_eq_true rfl, Nat.le_of_ble_eq_true rfl⟩ ?_
  refine zif (C := (fP_has n a1) = 0) (fun c5 => ?_) (fun c5 => ?_)
  · skip
    refine lv_if_eq (tgt := 17) hx hb dP_motherOf_5 (by decide) (fun _ => ?_) (fun z => absurd c5 z)
    refine lv_iconst (v := (-1)) hx hb dP_motherOf_17 (by decide) ?_
    exact zI_ret hx hb hr hlocks dP_motherOf_18
  · skip
    refine lv_if_eq (tgt := 17) hx hb dP_motherOf_5 (by decide) (fun z => absurd z c5) (fun _ => ?_)
    refine lv_aload_n hx hb dP_motherOf_8 rfl (lv_at hl 0 rfl) ?_
    refine va_get (D := D) (ci := 1) (v := .ref (h 1)) (C := RP) (T := TP) (N := 10) hx hb hts hinP hown hK hP 0 rfl rfl 1 (by decide) (hts _ uw9) (fun _ h9 => h9) rfl dP_motherOf_9 ?_
    refine lv_iload_n hx hb dP_motherOf_12 rfl (lv_at hl 1 rfl) ?_
    refine va_iald hx hb hK hP 1 0 rfl rfl (has_in hn c5) dP_motherOf_13 ?_
    refine lv_goto (tgt := 18) hx hb dP_motherOf_14 (by decide) ?_
    exact zI_ret hx hb hr hlocks dP_motherOf_18
abbrev rmP_fatherOf : Room := { frames := 1, cells := 0, slots := 0, locals := 21 }
set_option maxHeartbeats 4000000 in
set_option maxRecDepth 100000 in
theorem kP_fatherOf (l : Launch) (D : va_G) (Y : Nat → ClassId) (h : Nat → Nat) (n : Nat) (hn : n ≤ 24) (S : vP) (a1 : Int32) : Met l yP_fatherOf wsP_fatherOf rmP_fatherOf (va_Pc [.ref (h 0), .int a1] (zPre D vwCl (tysK Y) (wP Y h n S))) (vp_Si (fun r => r = (fP_fatherOf n S a1))) 0 0 (fun _ => False) := by
  refine Met.ofW (cc := cP_fatherOf) (maxL := 2) (ret := (some .int)) (by decide) rfl ?_
  intro p e s m args below meth c s₁ B hml hv
  obtain ⟨rfl, hP, hK⟩ := hv
  have hx := B.exec
  have hb := B.bytes
  have hr := B.returns
  have hts : ∀ w ∈ uT, w.before _ s = true := fun w hw => atoms_spec (ws := wsP_fatherOf) B.pre w (List.mem_cons_of_mem _ hw)
  have hown : s.vm.findClass RP = some m.cls := findClass_of_methodNamed B.named
  have hlocks := B.notSynchronized
  have hl := lv_entry ([.ref (h 0), .int a1]) (n := 2) (Nat.le_of_ble_eq_true rfl)
  rw [lg_entry_eq]
  generalize (lg_sl ([.ref (h 0), .int a1]) ++ List.replicate (2 - (lg_sl ([.ref (h 0), .int a1])).length) Slot.unset).toArray = ls at hl ⊢
  have hl : lv_has ls 2 [(0, .ref (h 0)), (1, .int a1)] := hl
  show W p l e rmP_fatherOf s m _ below meth c s.heap [] 0 0 (zI below _ s (fP_fatherOf n S a1)) _
  unfold fP_fatherOf
  show W p l e rmP_fatherOf s m _ below meth c s.heap [] 0 0 (zI below _ s _) (F0 m 0 ls [])
  refine lv_aload_n hx hb dP_fatherOf_0 rfl (lv_at hl 0 rfl) ?_
  refine lv_iload_n hx hb dP_fatherOf_1 rfl (lv_at hl 1 rfl) ?_
  refine qVi (rest := []) ⟨hx, hb, hml, hown, hts⟩ (kP_has l D Y h n hn S a1) (cwV 1 hts (gV uw5 uw6 uw7 uw8 ucP_has) rfl rfl rfl hvP_has ⟨Nat.le_of_ble_eq_true rfl, Nat.le_of_ble_eq_true rfl⟩) hK hP (va_recv hK hP (ci := 1) (q0 := 0) rfl rfl) rfl hl.1 rfl (Nat.le_of_ble_eq_true rfl) dP_fatherOf_2 ⟨Nat.le_of_ble_eq_true rfl, Nat.le_of_ble_eq_true rfl⟩ ?_
  refine zif (C := (fP_has n a1) = 0) (fun c5 => ?_) (fun c5 => ?_)
  · skip
    refine lv_if_eq (tgt := 17) hx hb dP_fatherOf_5 (by decide) (fun _ => ?_) (fun z => absurd c5 z)
    refine lv_iconst (v := (-1)) hx hb dP_fatherOf_17 (by decide) ?_
    exact zI_ret hx hb hr hlocks dP_fatherOf_18
  · skip
    refine lv_if_eq (tgt := 17) hx hb dP_fatherOf_5 (by decide) (fun z => absurd z c5) (fun _ => ?_)
    refine lv_aload_n hx hb dP_fatherOf_8 rfl (lv_at hl 0 rfl) ?_
    refine va_get (D := D) (ci := 1) (v := .ref (h 2)) (C := RP) (T := TP) (N := 10) hx hb hts hinP hown hK hP 0 rfl rfl 2 (by decide) (hts _ uw10) (fun _ h9 => h9) rfl dP_fatherOf_9 ?_
    refine lv_iload_n hx hb dP_fatherOf_12 rfl (lv_at hl 1 rfl) ?_
    refine va_iald hx hb hK hP 2 0 rfl rfl (has_in hn c5) dP_fatherOf_13 ?_
    refine lv_goto (tgt := 18) hx hb dP_fatherOf_14 (by decide) ?_
    exact zI_ret hx hb hr hlocks dP_fatherOf_18
abbrev rmP_stepsOf : Room := { frames := 1, cells := 0, slots := 0, locals := 21 }
set_option maxHeartbeats 4000000 in
set_option maxRecDepth 100000 in
theorem kP_stepsOf (l : Launch) (D : va_G) (Y : Nat → ClassId) (h : Nat → Nat) (n : Nat) (hn : n ≤ 24) (S : vP) (a1 : Int32) : Met l yP_stepsOf wsP_stepsOf rmP_stepsOf (va_Pc [.ref (h 0), .int a1] (zPre D vwCl (tysK Y) (wP Y h n S))) (vp_Si (fun r => r = (fP_stepsOf n S a1))) 0 0 (fun _ => False) := by
  refine Met.ofW (cc := cP_stepsOf) (maxL := 2) (ret := (some .int)) (by decide) rfl ?_
  intro p e s m args below meth c s₁ B hml hv
  obtain ⟨rfl, hP, hK⟩ := hv
  have hx := B.exec
  have hb := B.bytes
  have hr := B.returns
  have hts : ∀ w ∈ uT, w.before _ s = true := fun w hw => atoms_spec (ws := wsP_stepsOf) B.pre w (List.mem_cons_of_mem _ hw)
  have hown : s.vm.findClass RP = some m.cls := findClass_of_methodNamed B.named
  have hlocks := B.notSynchronized
  have hl := lv_entry ([.ref (h 0), .int a1]) (n := 2) (Nat.le_of_ble_eq_true rfl)
  rw [lg_entry_eq]
  generalize (lg_sl ([.ref (h 0), .int a1]) ++ List.replicate (2 - (lg_sl ([.ref (h 0), .int a1])).length) Slot.unset).toArray = ls at hl ⊢
  have hl : lv_has ls 2 [(0, .ref (h 0)), (1, .int a1)] := hl
  show W p l e rmP_stepsOf s m _ below meth c s.heap [] 0 0 (zI below _ s (fP_stepsOf n S a1)) _
  unfold fP_stepsOf
  show W p l e rmP_stepsOf s m _ below meth c s.heap [] 0 0 (zI below _ s _) (F0 m 0 ls [])
  refine lv_aload_n hx hb dP_stepsOf_0 rfl (lv_at hl 0 rfl) ?_
  refine lv_iload_n hx hb dP_stepsOf_1 rfl (lv_at hl 1 rfl) ?_
  refine qVi (rest := []) ⟨hx, hb, hml, hown, hts⟩ (kP_has l D Y h n hn S a1) (cwV 1 hts (gV uw5 uw6 uw7 uw8 ucP_has) rfl rfl rfl hvP_has ⟨Nat.le_of_ble_eq_true rfl, Nat.le_of_ble_eq_true rfl⟩) hK hP (va_recv hK hP (ci := 1) (q0 := 0) rfl rfl) rfl hl.1 rfl (Nat.le_of_ble_eq_true rfl) dP_stepsOf_2 ⟨Nat.le_of_ble_eq_true rfl, Nat.le_of_ble_eq_true rfl⟩ ?_
  refine zif (C := (fP_has n a1) = 0) (fun c5 => ?_) (fun c5 => ?_)
  · skip
    refine lv_if_eq (tgt := 17) hx hb dP_stepsOf_5 (by decide) (fun _ => ?_) (fun z => absurd c5 z)
    refine lv_iconst (v := (-1)) hx hb dP_stepsOf_17 (by decide) ?_
    exact zI_ret hx hb hr hlocks dP_stepsOf_18
  · skip
    refine lv_if_eq (tgt := 17) hx hb dP_stepsOf_5 (by decide) (fun z => absurd z c5) (fun _ => ?_)
    refine lv_aload_n hx hb dP_stepsOf_8 rfl (lv_at hl 0 rfl) ?_
    refine va_get (D := D) (ci := 1) (v := .ref (h 3)) (C := RP) (T := TP) (N := 10) hx hb hts hinP hown hK hP 0 rfl rfl 3 (by decide) (hts _ uw11) (fun _ h9 => h9) rfl dP_stepsOf_9 ?_
    refine lv_iload_n hx hb dP_stepsOf_12 rfl (lv_at hl 1 rfl) ?_
    refine va_iald hx hb hK hP 3 0 rfl rfl (has_in hn c5) dP_stepsOf_13 ?_
    refine lv_goto (tgt := 18) hx hb dP_stepsOf_14 (by decide) ?_
    exact zI_ret hx hb hr hlocks dP_stepsOf_18
abbrev rmP_inOrder : Room := { frames := 1, cells := 0, slots := 0, locals := 21 }
set_option maxHeartbeats 4000000 in
set_option maxRecDepth 100000 in
theorem kP_inOrder (l : Launch) (D : va_G) (Y : Nat → ClassId) (h : Nat → Nat) (n : Nat) (hn : n ≤ 24) (S : vP) (a1 : Int32) : Met l yP_inOrder wsP_inOrder rmP_inOrder (va_Pc [.ref (h 0), .int a1] (zPre D vwCl (tysK Y) (wP Y h n S))) (vp_Si (fun r => r = (fP_inOrder n S a1))) 0 0 (fun _ => False) := by
  refine Met.ofW (cc := cP_inOrder) (maxL := 2) (ret := (some .int)) (by decide) rfl ?_
  intro p e s m args below meth c s₁ B hml hv
  obtain ⟨rfl, hP, hK⟩ := hv
  have hx := B.exec
  have hb := B.bytes
  have hr := B.returns
  have hts : ∀ w ∈ uT, w.before _ s = true := fun w hw => atoms_spec (ws := wsP_inOrder) B.pre w (List.mem_cons_of_mem _ hw)
  have hown : s.vm.findClass RP = some m.cls := findClass_of_methodNamed B.named
  have hlocks := B.notSynchronized
  have hl := lv_entry ([.ref (h 0), .int a1]) (n := 2) (Nat.le_of_ble_eq_true rfl)
  rw [lg_entry_eq]
  generalize (lg_sl ([.ref (h 0), .int a1]) ++ List.replicate (2 - (lg_sl ([.ref (h 0), .int a1])).length) Slot.unset).toArray = ls at hl ⊢
  have hl : lv_has ls 2 [(0, .ref (h 0)), (1, .int a1)] := hl
  show W p l e rmP_inOrder s m _ below meth c s.heap [] 0 0 (zI below _ s (fP_inOrder n S a1)) _
  unfold fP_inOrder
  show W p l e rmP_inOrder s m _ below meth c s.heap [] 0 0 (zI below _ s _) (F0 m 0 ls [])
  refine lv_aload_n hx hb dP_inOrder_0 rfl (lv_at hl 0 rfl) ?_
  refine lv_iload_n hx hb dP_inOrder_1 rfl (lv_at hl 1 rfl) ?_
  refine qVi (rest := []) ⟨hx, hb, hml, hown, hts⟩ (kP_has l D Y h n hn S a1) (cwV 1 hts (gV uw5 uw6 uw7 uw8 ucP_has) rfl rfl rfl hvP_has ⟨Nat.le_of_ble_eq_true rfl, Nat.le_of_ble_eq_true rfl⟩) hK hP (va_recv hK hP (ci := 1) (q0 := 0) rfl rfl) rfl hl.1 rfl (Nat.le_of_ble_eq_true rfl) dP_inOrder_2 ⟨Nat.le_of_ble_eq_true rfl, Nat.le_of_ble_eq_true rfl⟩ ?_
  refine zif (C := (fP_has n a1) = 0) (fun c5 => ?_) (fun c5 => ?_)
  · skip
    refine lv_if_eq (tgt := 17) hx hb dP_inOrder_5 (by decide) (fun _ => ?_) (fun z => absurd c5 z)
    refine lv_iconst (v := (-1)) hx hb dP_inOrder_17 (by decide) ?_
    exact zI_ret hx hb hr hlocks dP_inOrder_18
  · skip
    refine lv_if_eq (tgt := 17) hx hb dP_inOrder_5 (by decide) (fun z => absurd z c5) (fun _ => ?_)
    refine lv_aload_n hx hb dP_inOrder_8 rfl (lv_at hl 0 rfl) ?_
    refine va_get (D := D) (ci := 1) (v := .ref (h 4)) (C := RP) (T := TP) (N := 10) hx hb hts hinP hown hK hP 0 rfl rfl 4 (by decide) (hts _ uw12) (fun _ h9 => h9) rfl dP_inOrder_9 ?_
    refine lv_iload_n hx hb dP_inOrder_12 rfl (lv_at hl 1 rfl) ?_
    refine va_iald hx hb hK hP 4 0 rfl rfl (has_in hn c5) dP_inOrder_13 ?_
    refine lv_goto (tgt := 18) hx hb dP_inOrder_14 (by decide) ?_
    exact zI_ret hx hb hr hlocks dP_inOrder_18
abbrev rmP_isFounder : Room := { frames := 1, cells := 0, slots := 0, locals := 21 }
set_option maxHeartbeats 4000000 in
set_option maxRecDepth 100000 in
theorem kP_isFounder (l : Launch) (D : va_G) (Y : Nat → ClassId) (h : Nat → Nat) (n : Nat) (hn : n ≤ 24) (S : vP) (a1 : Int32) : Met l yP_isFounder wsP_isFounder rmP_isFounder (va_Pc [.ref (h 0), .int a1] (zPre D vwCl (tysK Y) (wP Y h n S))) (vp_Si (fun r => r = (fP_isFounder n S a1))) 0 0 (fun _ => False) := by
  refine Met.ofW (cc := cP_isFounder) (maxL := 2) (ret := (some .boolean)) (by decide) rfl ?_
  intro p e s m args below meth c s₁ B hml hv
  obtain ⟨rfl, hP, hK⟩ := hv
  have hx := B.exec
  have hb := B.bytes
  have hr := B.returns
  have hts : ∀ w ∈ uT, w.before _ s = true := fun w hw => atoms_spec (ws := wsP_isFounder) B.pre w (List.mem_cons_of_mem _ hw)
  have hown : s.vm.findClass RP = some m.cls := findClass_of_methodNamed B.named
  have hlocks := B.notSynchronized
  have hl := lv_entry ([.ref (h 0), .int a1]) (n := 2) (Nat.le_of_ble_eq_true rfl)
  rw [lg_entry_eq]
  generalize (lg_sl ([.ref (h 0), .int a1]) ++ List.replicate (2 - (lg_sl ([.ref (h 0), .int a1])).length) Slot.unset).toArray = ls at hl ⊢
  have hl : lv_has ls 2 [(0, .ref (h 0)), (1, .int a1)] := hl
  show W p l e rmP_isFounder s m _ below meth c s.heap [] 0 0 (zI below _ s (fP_isFounder n S a1)) _
  unfold fP_isFounder
  show W p l e rmP_isFounder s m _ below meth c s.heap [] 0 0 (zI below _ s _) (F0 m 0 ls [])
  refine lv_aload_n hx hb dP_isFounder_0 rfl (lv_at hl 0 rfl) ?_
  refine lv_iload_n hx hb dP_isFounder_1 rfl (lv_at hl 1 rfl) ?_
  refine qVi (rest := []) ⟨hx, hb, hml, hown, hts⟩ (kP_has l D Y h n hn S a1) (cwV 1 hts (gV uw5 uw6 uw7 uw8 ucP_has) rfl rfl rfl hvP_has ⟨Nat.le_of_ble_eq_true rfl, Nat.le_of_ble_eq_true rfl⟩) hK hP (va_recv hK hP (ci := 1) (q0 := 0) rfl rfl) rfl hl.1 rfl (Nat.le_of_ble_eq_true rfl) dP_isFounder_2 ⟨Nat.le_of_ble_eq_true rfl, Nat.le_of_ble_eq_true rfl⟩ ?_
  refine zif (C := (fP_has n a1) = 0) (fun c5 => ?_) (fun c5 => ?_)
  · skip
    refine lv_if_eq (tgt := 32) hx hb dP_isFounder_5 (by decide) (fun _ => ?_) (fun z => absurd c5 z)
    refine lv_iconst (v := 0) hx hb dP_isFounder_32 (by decide) ?_
    exact zB_ret hx hb hr hlocks (Or.inl rfl) dP_isFounder_33
  · skip
    refine lv_if_eq (tgt := 32) hx hb dP_isFounder_5 (by decide) (fun z => absurd z c5) (fun _ => ?_)
    refine lv_aload_n hx hb dP_isFounder_8 rfl (lv_at hl 0 rfl) ?_
    refine va_get (D := D) (ci := 1) (v := .ref (h 1)) (C := RP) (T := TP) (N := 10) hx hb hts hinP hown hK hP 0 rfl rfl 1 (by decide) (hts _ uw9) (fun _ h9 => h9) rfl dP_isFounder_9 ?_
    refine lv_iload_n hx hb dP_isFounder_12 rfl (lv_at hl 1 rfl) ?_
    refine va_iald hx hb hK hP 1 0 rfl rfl (has_in hn c5) dP_isFounder_13 ?_
    refine lv_iconst (v := (-1)) hx hb dP_isFounder_14 (by decide) ?_
    refine zif (C := ((g_mo S) (a1 : Int32).toNatClampNeg) = (-1)) (fun c15 => ?_) (fun c15 => ?_)
    · skip
      refine lv_icmp_ne (tgt := 32) hx hb dP_isFounder_15 (by decide) (fun z => absurd c15 z) (fun _ => ?_)
      refine lv_aload_n hx hb dP_isFounder_18 rfl (lv_at hl 0 rfl) ?_
      refine va_get (D := D) (ci := 1) (v := .ref (h 2)) (C := RP) (T := TP) (N := 10) hx hb hts hinP hown hK hP 0 rfl rfl 2 (by decide) (hts _ uw10) (fun _ h9 => h9) rfl dP_isFounder_19 ?_
      refine lv_iload_n hx hb dP_isFounder_22 rfl (lv_at hl 1 rfl) ?_
      refine va_iald hx hb hK hP 2 0 rfl rfl (has_in hn c5) dP_isFounder_23 ?_
      refine lv_iconst (v := (-1)) hx hb dP_isFounder_24 (by decide) ?_
      refine zif (C := ((g_fa S) (a1 : Int32).toNatClampNeg) = (-1)) (fun c25 => ?_) (fun c25 => ?_)
      · skip
        refine lv_icmp_ne (tgt := 32) hx hb dP_isFounder_25 (by decide) (fun z => absurd c25 z) (fun _ => ?_)
        refine lv_iconst (v := 1) hx hb dP_isFounder_28 (by decide) ?_
        refine lv_goto (tgt := 33) hx hb dP_isFounder_29 (by decide) ?_
        exact zB_ret hx hb hr hlocks (Or.inr rfl) dP_isFounder_33
      · skip
        refine lv_icmp_ne (tgt := 32) hx hb dP_isFounder_25 (by decide) (fun _ => ?_) (fun z => absurd z c25)
        refine lv_iconst (v := 0) hx hb dP_isFounder_32 (by decide) ?_
        exact zB_ret hx hb hr hlocks (Or.inl rfl) dP_isFounder_33
    · skip
      refine lv_icmp_ne (tgt := 32) hx hb dP_isFounder_15 (by decide) (fun _ => ?_) (fun z => absurd z c15)
      refine lv_iconst (v := 0) hx hb dP_isFounder_32 (by decide) ?_
      exact zB_ret hx hb hr hlocks (Or.inl rfl) dP_isFounder_33
abbrev rmP_hasForbear : Room := { frames := 1, cells := 0, slots := 0, locals := 21 }
set_option maxHeartbeats 4000000 in
set_option maxRecDepth 100000 in
theorem kP_hasForbear (l : Launch) (D : va_G) (Y : Nat → ClassId) (h : Nat → Nat) (n : Nat) (hn : n ≤ 24) (S : vP) (a1 : Int32) (a2 : Int32) : Met l yP_hasForbear wsP_hasForbear rmP_hasForbear (va_Pc [.ref (h 0), .int a1, .int a2] (zPre D vwCl (tysK Y) (wP Y h n S))) (vp_Si (fun r => r = (fP_hasForbear n S a1 a2))) 0 0 (fun _ => False) := by
  refine Met.ofW (cc := cP_hasForbear) (maxL := 3) (ret := (some .boolean)) (by decide) rfl ?_
  intro p e s m args below meth c s₁ B hml hv
  obtain ⟨rfl, hP, hK⟩ := hv
  have hx := B.exec
  have hb := B.bytes
  have hr := B.returns
  have hts : ∀ w ∈ uT, w.before _ s = true := fun w hw => atoms_spec (ws := wsP_hasForbear) B.pre w (List.mem_cons_of_mem _ hw)
  have hown : s.vm.findClass RP = some m.cls := findClass_of_methodNamed B.named
  have hlocks := B.notSynchronized
  have hl := lv_entry ([.ref (h 0), .int a1, .int a2]) (n := 3) (Nat.le_of_ble_eq_true rfl)
  rw [lg_entry_eq]
  generalize (lg_sl ([.ref (h 0), .int a1, .int a2]) ++ List.replicate (3 - (lg_sl ([.ref (h 0), .int a1, .int a2])).length) Slot.unset).toArray = ls at hl ⊢
  have hl : lv_has ls 3 [(0, .ref (h 0)), (1, .int a1), (2, .int a2)] := hl
  show W p l e rmP_hasForbear s m _ below meth c s.heap [] 0 0 (zI below _ s (fP_hasForbear n S a1 a2)) _
  unfold fP_hasForbear
  show W p l e rmP_hasForbear s m _ below meth c s.heap [] 0 0 (zI below _ s _) (F0 m 0 ls [])
  refine lv_aload_n hx hb dP_hasForbear_0 rfl (lv_at hl 0 rfl) ?_
  refine lv_iload_n hx hb dP_hasForbear_1 rfl (lv_at hl 1 rfl) ?_
  refine qVi (rest := []) ⟨hx, hb, hml, hown, hts⟩ (kP_has l D Y h n hn S a1) (cwV 1 hts (gV uw5 uw6 uw7 uw8 ucP_has) rfl rfl rfl hvP_has ⟨Nat.le_of_ble_eq_true rfl, Nat.le_of_ble_eq_true rfl⟩) hK hP (va_recv hK hP (ci := 1) (q0 := 0) rfl rfl) rfl hl.1 rfl (Nat.le_of_ble_eq_true rfl) dP_hasForbear_2 ⟨Nat.le_of_ble_eq_true rfl, Nat.le_of_ble_eq_true rfl⟩ ?_
  refine zif (C := (fP_has n a1) = 0) (fun c5 => ?_) (fun c5 => ?_)
  · skip
    refine lv_if_eq (tgt := 34) hx hb dP_hasForbear_5 (by decide) (fun _ => ?_) (fun z => absurd c5 z)
    refine lv_iconst (v := 0) hx hb dP_hasForbear_34 (by decide) ?_
    exact zB_ret hx hb hr hlocks (Or.inl rfl) dP_hasForbear_35
  · skip
    refine lv_if_eq (tgt := 34) hx hb dP_hasForbear_5 (by decide) (fun z => absurd z c5) (fun _ => ?_)
    refine lv_aload_n hx hb dP_hasForbear_8 rfl (lv_at hl 0 rfl) ?_
    refine lv_iload_n hx hb dP_hasForbear_9 rfl (lv_at hl 2 rfl) ?_
    refine qVi (rest := []) ⟨hx, hb, hml, hown, hts⟩ (kP_has l D Y h n hn S a2) (cwV 1 hts (gV uw5 uw6 uw7 uw8 ucP_has) rfl rfl rfl hvP_has ⟨Nat.le_of_ble_eq_true rfl, Nat.le_of_ble_eq_true rfl⟩) hK hP (va_recv hK hP (ci := 1) (q0 := 0) rfl rfl) rfl hl.1 rfl (Nat.le_of_ble_eq_true rfl) dP_hasForbear_10 ⟨Nat.le_of_ble_eq_true rfl, Nat.le_of_ble_eq_true rfl⟩ ?_
    refine zif (C := (fP_has n a2) = 0) (fun c13 => ?_) (fun c13 => ?_)
    · skip
      refine lv_if_eq (tgt := 34) hx hb dP_hasForbear_13 (by decide) (fun _ => ?_) (fun z => absurd c13 z)
      refine lv_iconst (v := 0) hx hb dP_hasForbear_34 (by decide) ?_
      exact zB_ret hx hb hr hlocks (Or.inl rfl) dP_hasForbear_35
    · skip
      refine lv_if_eq (tgt := 34) hx hb dP_hasForbear_13 (by decide) (fun z => absurd z c13) (fun _ => ?_)
      refine lv_aload_n hx hb dP_hasForbear_16 rfl (lv_at hl 0 rfl) ?_
      refine va_get (D := D) (ci := 1) (v := .ref (h 5)) (C := RP) (T := TP) (N := 10) hx hb hts hinP hown hK hP 0 rfl rfl 5 (by decide) (hts _ uw13) (fun _ h9 => h9) rfl dP_hasForbear_17 ?_
      refine lv_iload_n hx hb dP_hasForbear_20 rfl (lv_at hl 1 rfl) ?_
      refine va_iald hx hb hK hP 5 0 rfl rfl (has_in hn c5) dP_hasForbear_21 ?_
      refine lv_iload_n hx hb dP_hasForbear_22 rfl (lv_at hl 2 rfl) ?_
      refine qSi (rest := [.int ((g_fb S) (a1 : Int32).toNatClampNeg)]) ⟨hx, hb, hml, hown, hts⟩ (kP_bitOf l D Y a2) (va_cwS 1 hts (gS uw14 uw15 uw8 ucP_bitOf) rfl rfl rfl hsP_bitOf ⟨Nat.le_of_ble_eq_true rfl, Nat.le_of_ble_eq_true rfl⟩) hK (zsub [] hP rfl) rfl hl.1 rfl (Nat.le_of_ble_eq_true rfl) dP_hasForbear_23 ⟨Nat.le_of_ble_eq_true rfl, Nat.le_of_ble_eq_true rfl⟩ ?_
      refine lv_iand hx hb dP_hasForbear_26 ?_
      refine zif (C := (((g_fb S) (a1 : Int32).toNatClampNeg) &&& (fP_bitOf a2)) = 0) (fun c27 => ?_) (fun c27 => ?_)
      · skip
        refine lv_if_eq (tgt := 34) hx hb dP_hasForbear_27 (by decide) (fun _ => ?_) (fun z => absurd c27 z)
        refine lv_iconst (v := 0) hx hb dP_hasForbear_34 (by decide) ?_
        exact zB_ret hx hb hr hlocks (Or.inl rfl) dP_hasForbear_35
      · skip
        refine lv_if_eq (tgt := 34) hx hb dP_hasForbear_27 (by decide) (fun z => absurd z c27) (fun _ => ?_)
        refine lv_iconst (v := 1) hx hb dP_hasForbear_30 (by decide) ?_
        refine lv_goto (tgt := 35) hx hb dP_hasForbear_31 (by decide) ?_
        exact zB_ret hx hb hr hlocks (Or.inr rfl) dP_hasForbear_35
abbrev rmP_kinOf : Room := { frames := 1, cells := 0, slots := 0, locals := 21 }
set_option maxHeartbeats 4000000 in
set_option maxRecDepth 100000 in
theorem kP_kinOf (l : Launch) (D : va_G) (Y : Nat → ClassId) (h : Nat → Nat) (n : Nat) (hn : n ≤ 24) (S : vP) (a1 : Int32) (a2 : Int32) : Met l yP_kinOf wsP_kinOf rmP_kinOf (va_Pc [.ref (h 0), .int a1, .int a2] (zPre D vwCl (tysK Y) (wP Y h n S))) (vp_Sl (fun r => r = (fP_kinOf n S a1 a2))) 0 0 (fun _ => False) := by
  refine Met.ofW (cc := cP_kinOf) (maxL := 3) (ret := (some .long)) (by decide) rfl ?_
  intro p e s m args below meth c s₁ B hml hv
  obtain ⟨rfl, hP, hK⟩ := hv
  have hx := B.exec
  have hb := B.bytes
  have hr := B.returns
  have hts : ∀ w ∈ uT, w.before _ s = true := fun w hw => atoms_spec (ws := wsP_kinOf) B.pre w (List.mem_cons_of_mem _ hw)
  have hown : s.vm.findClass RP = some m.cls := findClass_of_methodNamed B.named
  have hlocks := B.notSynchronized
  have hl := lv_entry ([.ref (h 0), .int a1, .int a2]) (n := 3) (Nat.le_of_ble_eq_true rfl)
  rw [lg_entry_eq]
  generalize (lg_sl ([.ref (h 0), .int a1, .int a2]) ++ List.replicate (3 - (lg_sl ([.ref (h 0), .int a1, .int a2])).length) Slot.unset).toArray = ls at hl ⊢
  have hl : lv_has ls 3 [(0, .ref (h 0)), (1, .int a1), (2, .int a2)] := hl
  show W p l e rmP_kinOf s m _ below meth c s.heap [] 0 0 (zL below _ s (fP_kinOf n S a1 a2)) _
  unfold fP_kinOf
  show W p l e rmP_kinOf s m _ below meth c s.heap [] 0 0 (zL below _ s _) (F0 m 0 ls [])
  refine lv_aload_n hx hb dP_kinOf_0 rfl (lv_at hl 0 rfl) ?_
  refine lv_iload_n hx hb dP_kinOf_1 rfl (lv_at hl 1 rfl) ?_
  refine qVi (rest := []) ⟨hx, hb, hml, hown, hts⟩ (kP_has l D Y h n hn S a1) (cwV 1 hts (gV uw5 uw6 uw7 uw8 ucP_has) rfl rfl rfl hvP_has ⟨Nat.le_of_ble_eq_true rfl, Nat.le_of_ble_eq_true rfl⟩) hK hP (va_recv hK hP (ci := 1) (q0 := 0) rfl rfl) rfl hl.1 rfl (Nat.le_of_ble_eq_true rfl) dP_kinOf_2 ⟨Nat.le_of_ble_eq_true rfl, Nat.le_of_ble_eq_true rfl⟩ ?_
  refine zif (C := (fP_has n a1) = 0) (fun c5 => ?_) (fun c5 => ?_)
  · skip
    refine lv_if_eq (tgt := 30) hx hb dP_kinOf_5 (by decide) (fun _ => ?_) (fun z => absurd c5 z)
    refine lv_lconst (v := 0) hx hb dP_kinOf_30 (by decide) ?_
    exact zL_ret hx hb hr hlocks dP_kinOf_31
  · skip
    refine lv_if_eq (tgt := 30) hx hb dP_kinOf_5 (by decide) (fun z => absurd z c5) (fun _ => ?_)
    refine lv_aload_n hx hb dP_kinOf_8 rfl (lv_at hl 0 rfl) ?_
    refine lv_iload_n hx hb dP_kinOf_9 rfl (lv_at hl 2 rfl) ?_
    refine qVi (rest := []) ⟨hx, hb, hml, hown, hts⟩ (kP_has l D Y h n hn S a2) (cwV 1 hts (gV uw5 uw6 uw7 uw8 ucP_has) rfl rfl rfl hvP_has ⟨Nat.le_of_ble_eq_true rfl, Nat.le_of_ble_eq_true rfl⟩) hK hP (va_recv hK hP (ci := 1) (q0 := 0) rfl rfl) rfl hl.1 rfl (Nat.le_of_ble_eq_true rfl) dP_kinOf_10 ⟨Nat.le_of_ble_eq_true rfl, Nat.le_of_ble_eq_true rfl⟩ ?_
    refine zif (C := (fP_has n a2) = 0) (fun c13 => ?_) (fun c13 => ?_)
    · skip
      refine lv_if_eq (tgt := 30) hx hb dP_kinOf_13 (by decide) (fun _ => ?_) (fun z => absurd c13 z)
      refine lv_lconst (v := 0) hx hb dP_kinOf_30 (by decide) ?_
      exact zL_ret hx hb hr hlocks dP_kinOf_31
    · skip
      refine lv_if_eq (tgt := 30) hx hb dP_kinOf_13 (by decide) (fun z => absurd z c13) (fun _ => ?_)
      refine lv_aload_n hx hb dP_kinOf_16 rfl (lv_at hl 0 rfl) ?_
      refine va_get (D := D) (ci := 1) (v := .ref (h 6)) (C := RP) (T := TP) (N := 10) hx hb hts hinP hown hK hP 0 rfl rfl 6 (by decide) (hts _ uw16) (fun _ h9 => h9) rfl dP_kinOf_17 ?_
      refine lv_iload_n hx hb dP_kinOf_20 rfl (lv_at hl 1 rfl) ?_
      refine lv_bipush (v := 24) hx hb dP_kinOf_21 (by decide) ?_
      refine lv_imul hx hb dP_kinOf_23 ?_
      refine lv_iload_n hx hb dP_kinOf_24 rfl (lv_at hl 2 rfl) ?_
      refine lv_iadd hx hb dP_kinOf_25 ?_
      refine va_lald hx hb hK hP 6 1 rfl rfl (kt_in hn c5 c13) dP_kinOf_26 ?_
      refine lv_goto (tgt := 31) hx hb dP_kinOf_27 (by decide) ?_
      exact zL_ret hx hb hr hlocks dP_kinOf_31
abbrev rmP_inbreedingOf : Room := { frames := 2, cells := 0, slots := 0, locals := 43 }
set_option maxHeartbeats 4000000 in
set_option maxRecDepth 100000 in
theorem kP_inbreedingOf (l : Launch) (D : va_G) (Y : Nat → ClassId) (h : Nat → Nat) (n : Nat) (hn : n ≤ 24) (S : vP) (a1 : Int32) : Met l yP_inbreedingOf wsP_inbreedingOf rmP_inbreedingOf (va_Pc [.ref (h 0), .int a1] (zPre D vwCl (tysK Y) (wP Y h n S))) (vp_Sl (fun r => r = (fP_inbreedingOf n S a1))) 0 0 (fun _ => False) := by
  refine Met.ofW (cc := cP_inbreedingOf) (maxL := 2) (ret := (some .long)) (by decide) rfl ?_
  intro p e s m args below meth c s₁ B hml hv
  obtain ⟨rfl, hP, hK⟩ := hv
  have hx := B.exec
  have hb := B.bytes
  have hr := B.returns
  have hts : ∀ w ∈ uT, w.before _ s = true := fun w hw => atoms_spec (ws := wsP_inbreedingOf) B.pre w (List.mem_cons_of_mem _ hw)
  have hown : s.vm.findClass RP = some m.cls := findClass_of_methodNamed B.named
  have hlocks := B.notSynchronized
  have hl := lv_entry ([.ref (h 0), .int a1]) (n := 2) (Nat.le_of_ble_eq_true rfl)
  rw [lg_entry_eq]
  generalize (lg_sl ([.ref (h 0), .int a1]) ++ List.replicate (2 - (lg_sl ([.ref (h 0), .int a1])).length) Slot.unset).toArray = ls at hl ⊢
  have hl : lv_has ls 2 [(0, .ref (h 0)), (1, .int a1)] := hl
  show W p l e rmP_inbreedingOf s m _ below meth c s.heap [] 0 0 (zL below _ s (fP_inbreedingOf n S a1)) _
  unfold fP_inbreedingOf
  show W p l e rmP_inbreedingOf s m _ below meth c s.heap [] 0 0 (zL below _ s _) (F0 m 0 ls [])
  refine lv_aload_n hx hb dP_inbreedingOf_0 rfl (lv_at hl 0 rfl) ?_
  refine lv_aload_n hx hb dP_inbreedingOf_1 rfl (lv_at hl 0 rfl) ?_
  refine lv_iload_n hx hb dP_inbreedingOf_2 rfl (lv_at hl 1 rfl) ?_
  refine qVi (rest := [.ref (h 0)]) ⟨hx, hb, hml, hown, hts⟩ (kP_motherOf l D Y h n hn S a1) (cwV 1 hts (gV uw17 uw18 uw19 uw8 ucP_motherOf) rfl rfl rfl hvP_motherOf ⟨Nat.le_of_ble_eq_true rfl, Nat.le_of_ble_eq_true rfl⟩) hK hP (va_recv hK hP (ci := 1) (q0 := 0) rfl rfl) rfl hl.1 rfl (Nat.le_of_ble_eq_true rfl) dP_inbreedingOf_3 ⟨Nat.le_of_ble_eq_true rfl, Nat.le_of_ble_eq_true rfl⟩ ?_
  refine lv_aload_n hx hb dP_inbreedingOf_6 rfl (lv_at hl 0 rfl) ?_
  refine lv_iload_n hx hb dP_inbreedingOf_7 rfl (lv_at hl 1 rfl) ?_
  refine qVi (rest := [.int (fP_motherOf n S a1), .ref (h 0)]) ⟨hx, hb, hml, hown, hts⟩ (kP_fatherOf l D Y h n hn S a1) (cwV 1 hts (gV uw20 uw21 uw22 uw8 ucP_fatherOf) rfl rfl rfl hvP_fatherOf ⟨Nat.le_of_ble_eq_true rfl, Nat.le_of_ble_eq_true rfl⟩) hK hP (va_recv hK hP (ci := 1) (q0 := 0) rfl rfl) rfl hl.1 rfl (Nat.le_of_ble_eq_true rfl) dP_inbreedingOf_8 ⟨Nat.le_of_ble_eq_true rfl, Nat.le_of_ble_eq_true rfl⟩ ?_
  refine qVl (rest := []) ⟨hx, hb, hml, hown, hts⟩ (kP_kinOf l D Y h n hn S (fP_motherOf n S a1) (fP_fatherOf n S a1)) (cwV 2 hts (gV uw23 uw24 uw25 uw8 ucP_kinOf) rfl rfl rfl hvP_kinOf ⟨Nat.le_of_ble_eq_true rfl, Nat.le_of_ble_eq_true rfl⟩) hK hP (va_recv hK hP (ci := 1) (q0 := 0) rfl rfl) rfl hl.1 rfl (Nat.le_of_ble_eq_true rfl) dP_inbreedingOf_11 ⟨Nat.le_of_ble_eq_true rfl, Nat.le_of_ble_eq_true rfl⟩ ?_
  exact zL_ret hx hb hr hlocks dP_inbreedingOf_14
abbrev rmP_settledBy : Room := { frames := 3, cells := 0, slots := 0, locals := 64 }
set_option maxHeartbeats 4000000 in
set_option maxRecDepth 100000 in
theorem kP_settledBy (l : Launch) (D : va_G) (Y : Nat → ClassId) (h : Nat → Nat) (n : Nat) (hn : n ≤ 24) (S : vP) (a1 : Int32) : Met l yP_settledBy wsP_settledBy rmP_settledBy (va_Pc [.ref (h 0), .int a1] (zPre D vwCl (tysK Y) (wP Y h n S))) (vp_Sl (fun r => r = (fP_settledBy n S a1))) 0 0 (fun _ => False) := by
  refine Met.ofW (cc := cP_settledBy) (maxL := 2) (ret := (some .long)) (by decide) rfl ?_
  intro p e s m args below meth c s₁ B hml hv
  obtain ⟨rfl, hP, hK⟩ := hv
  have hx := B.exec
  have hb := B.bytes
  have hr := B.returns
  have hts : ∀ w ∈ uT, w.before _ s = true := fun w hw => atoms_spec (ws := wsP_settledBy) B.pre w (List.mem_cons_of_mem _ hw)
  have hown : s.vm.findClass RP = some m.cls := findClass_of_methodNamed B.named
  have hlocks := B.notSynchronized
  have hl := lv_entry ([.ref (h 0), .int a1]) (n := 2) (Nat.le_of_ble_eq_true rfl)
  rw [lg_entry_eq]
  generalize (lg_sl ([.ref (h 0), .int a1]) ++ List.replicate (2 - (lg_sl ([.ref (h 0), .int a1])).length) Slot.unset).toArray = ls at hl ⊢
  have hl : lv_has ls 2 [(0, .ref (h 0)), (1, .int a1)] := hl
  show W p l e rmP_settledBy s m _ below meth c s.heap [] 0 0 (zL below _ s (fP_settledBy n S a1)) _
  unfold fP_settledBy
  show W p l e rmP_settledBy s m _ below meth c s.heap [] 0 0 (zL below _ s _) (F0 m 0 ls [])
  refine lv_aload_n hx hb dP_settledBy_0 rfl (lv_at hl 0 rfl) ?_
  refine lv_iload_n hx hb dP_settledBy_1 rfl (lv_at hl 1 rfl) ?_
  refine qVi (rest := []) ⟨hx, hb, hml, hown, hts⟩ (kP_has l D Y h n hn S a1) (cwV 1 hts (gV uw5 uw6 uw7 uw8 ucP_has) rfl rfl rfl hvP_has ⟨Nat.le_of_ble_eq_true rfl, Nat.le_of_ble_eq_true rfl⟩) hK hP (va_recv hK hP (ci := 1) (q0 := 0) rfl rfl) rfl hl.1 rfl (Nat.le_of_ble_eq_true rfl) dP_settledBy_2 ⟨Nat.le_of_ble_eq_true rfl, Nat.le_of_ble_eq_true rfl⟩ ?_
  refine zif (C := (fP_has n a1) = 0) (fun c5 => ?_) (fun c5 => ?_)
  · skip
    refine lv_if_eq (tgt := 24) hx hb dP_settledBy_5 (by decide) (fun _ => ?_) (fun z => absurd c5 z)
    refine lv_lconst (v := 0) hx hb dP_settledBy_24 (by decide) ?_
    exact zL_ret hx hb hr hlocks dP_settledBy_25
  · skip
    refine lv_if_eq (tgt := 24) hx hb dP_settledBy_5 (by decide) (fun z => absurd z c5) (fun _ => ?_)
    refine lv_ldc2 (v := 1073741824) hx hb hown (hts _ uw26) dP_settledBy_8 ?_
    refine lv_aload_n hx hb dP_settledBy_11 rfl (lv_at hl 0 rfl) ?_
    refine lv_iload_n hx hb dP_settledBy_12 rfl (lv_at hl 1 rfl) ?_
    refine qVl (rest := [.long 1073741824]) ⟨hx, hb, hml, hown, hts⟩ (kP_inbreedingOf l D Y h n hn S a1) (cwV 1 hts (gV uw27 uw28 uw29 uw8 ucP_inbreedingOf) rfl rfl rfl hvP_inbreedingOf ⟨Nat.le_of_ble_eq_true rfl, Nat.le_of_ble_eq_true rfl⟩) hK hP (va_recv hK hP (ci := 1) (q0 := 0) rfl rfl) rfl hl.1 rfl (Nat.le_of_ble_eq_true rfl) dP_settledBy_13 ⟨Nat.le_of_ble_eq_true rfl, Nat.le_of_ble_eq_true rfl⟩ ?_
    refine lv_ladd hx hb dP_settledBy_16 ?_
    refine lv_ldc2 (v := 4) hx hb hown (hts _ uw30) dP_settledBy_17 ?_
    refine lv_ldiv hx hb dP_settledBy_20 (by decide) ?_
    refine lv_goto (tgt := 25) hx hb dP_settledBy_21 (by decide) ?_
    exact zL_ret hx hb hr hlocks dP_settledBy_25
abbrev rmP_chanceOf : Room := { frames := 4, cells := 0, slots := 0, locals := 85 }
set_option maxHeartbeats 4000000 in
set_option maxRecDepth 100000 in
theorem kP_chanceOf (l : Launch) (D : va_G) (Y : Nat → ClassId) (h : Nat → Nat) (n : Nat) (hn : n ≤ 24) (S : vP) (a1 : Int32) : Met l yP_chanceOf wsP_chanceOf rmP_chanceOf (va_Pc [.ref (h 0), .int a1] (zPre D vwCl (tysK Y) (wP Y h n S))) (vp_Sl (fun r => r = (fP_chanceOf n S a1))) 0 0 (fun _ => False) := by
  refine Met.ofW (cc := cP_chanceOf) (maxL := 2) (ret := (some .long)) (by decide) rfl ?_
  intro p e s m args below meth c s₁ B hml hv
  obtain ⟨rfl, hP, hK⟩ := hv
  have hx := B.exec
  have hb := B.bytes
  have hr := B.returns
  have hts : ∀ w ∈ uT, w.before _ s = true := fun w hw => atoms_spec (ws := wsP_chanceOf) B.pre w (List.mem_cons_of_mem _ hw)
  have hown : s.vm.findClass RP = some m.cls := findClass_of_methodNamed B.named
  have hlocks := B.notSynchronized
  have hl := lv_entry ([.ref (h 0), .int a1]) (n := 2) (Nat.le_of_ble_eq_true rfl)
  rw [lg_entry_eq]
  generalize (lg_sl ([.ref (h 0), .int a1]) ++ List.replicate (2 - (lg_sl ([.ref (h 0), .int a1])).length) Slot.unset).toArray = ls at hl ⊢
  have hl : lv_has ls 2 [(0, .ref (h 0)), (1, .int a1)] := hl
  show W p l e rmP_chanceOf s m _ below meth c s.heap [] 0 0 (zL below _ s (fP_chanceOf n S a1)) _
  unfold fP_chanceOf
  show W p l e rmP_chanceOf s m _ below meth c s.heap [] 0 0 (zL below _ s _) (F0 m 0 ls [])
  refine lv_ldc2 (v := 1073741824) hx hb hown (hts _ uw26) dP_chanceOf_0 ?_
  refine lv_aload_n hx hb dP_chanceOf_3 rfl (lv_at hl 0 rfl) ?_
  refine lv_aload_n hx hb dP_chanceOf_4 rfl (lv_at hl 0 rfl) ?_
  refine lv_iload_n hx hb dP_chanceOf_5 rfl (lv_at hl 1 rfl) ?_
  refine qVi (rest := [.ref (h 0), .long 1073741824]) ⟨hx, hb, hml, hown, hts⟩ (kP_motherOf l D Y h n hn S a1) (cwV 1 hts (gV uw17 uw18 uw19 uw8 ucP_motherOf) rfl rfl rfl hvP_motherOf ⟨Nat.le_of_ble_eq_true rfl, Nat.le_of_ble_eq_true rfl⟩) hK hP (va_recv hK hP (ci := 1) (q0 := 0) rfl rfl) rfl hl.1 rfl (Nat.le_of_ble_eq_true rfl) dP_chanceOf_6 ⟨Nat.le_of_ble_eq_true rfl, Nat.le_of_ble_eq_true rfl⟩ ?_
  refine qVl (rest := [.long 1073741824]) ⟨hx, hb, hml, hown, hts⟩ (kP_settledBy l D Y h n hn S (fP_motherOf n S a1)) (cwV 1 hts (gV uw31 uw32 uw33 uw8 ucP_settledBy) rfl rfl rfl hvP_settledBy ⟨Nat.le_of_ble_eq_true rfl, Nat.le_of_ble_eq_true rfl⟩) hK hP (va_recv hK hP (ci := 1) (q0 := 0) rfl rfl) rfl hl.1 rfl (Nat.le_of_ble_eq_true rfl) dP_chanceOf_9 ⟨Nat.le_of_ble_eq_true rfl, Nat.le_of_ble_eq_true rfl⟩ ?_
  refine lv_lsub hx hb dP_chanceOf_12 ?_
  refine lv_aload_n hx hb dP_chanceOf_13 rfl (lv_at hl 0 rfl) ?_
  refine lv_aload_n hx hb dP_chanceOf_14 rfl (lv_at hl 0 rfl) ?_
  refine lv_iload_n hx hb dP_chanceOf_15 rfl (lv_at hl 1 rfl) ?_
  refine qVi (rest := [.ref (h 0), .long (1073741824 - (fP_settledBy n S (fP_motherOf n S a1)))]) ⟨hx, hb, hml, hown, hts⟩ (kP_fatherOf l D Y h n hn S a1) (cwV 1 hts (gV uw20 uw21 uw22 uw8 ucP_fatherOf) rfl rfl rfl hvP_fatherOf ⟨Nat.le_of_ble_eq_true rfl, Nat.le_of_ble_eq_true rfl⟩) hK hP (va_recv hK hP (ci := 1) (q0 := 0) rfl rfl) rfl hl.1 rfl (Nat.le_of_ble_eq_true rfl) dP_chanceOf_16 ⟨Nat.le_of_ble_eq_true rfl, Nat.le_of_ble_eq_true rfl⟩ ?_
  refine qVl (rest := [.long (1073741824 - (fP_settledBy n S (fP_motherOf n S a1)))]) ⟨hx, hb, hml, hown, hts⟩ (kP_settledBy l D Y h n hn S (fP_fatherOf n S a1)) (cwV 1 hts (gV uw31 uw32 uw33 uw8 ucP_settledBy) rfl rfl rfl hvP_settledBy ⟨Nat.le_of_ble_eq_true rfl, Nat.le_of_ble_eq_true rfl⟩) hK hP (va_recv hK hP (ci := 1) (q0 := 0) rfl rfl) rfl hl.1 rfl (Nat.le_of_ble_eq_true rfl) dP_chanceOf_19 ⟨Nat.le_of_ble_eq_true rfl, Nat.le_of_ble_eq_true rfl⟩ ?_
  refine lv_lsub hx hb dP_chanceOf_22 ?_
  exact zL_ret hx hb hr hlocks dP_chanceOf_23
abbrev rmP_shareRow : Room := { frames := 1, cells := 0, slots := 0, locals := 21 }
set_option maxHeartbeats 4000000 in
set_option maxRecDepth 100000 in
theorem kP_shareRow (l : Launch) (D : va_G) (Y : Nat → ClassId) (h : Nat → Nat) (n : Nat) (hn : n ≤ 24) (S : vP) (a1 : Int32) : Met l yP_shareRow wsP_shareRow rmP_shareRow (va_Pc [.ref (h 0), .int a1] (zPre D vwCl (tysK Y) (wP Y h n S))) (vp_Sl (fun r => r = (fP_shareRow n S a1))) 0 0 (fun _ => False) := by
  refine Met.ofW (cc := cP_shareRow) (maxL := 2) (ret := (some .long)) (by decide) rfl ?_
  intro p e s m args below meth c s₁ B hml hv
  obtain ⟨rfl, hP, hK⟩ := hv
  have hx := B.exec
  have hb := B.bytes
  have hr := B.returns
  have hts : ∀ w ∈ uT, w.before _ s = true := fun w hw => atoms_spec (ws := wsP_shareRow) B.pre w (List.mem_cons_of_mem _ hw)
  have hown : s.vm.findClass RP = some m.cls := findClass_of_methodNamed B.named
  have hlocks := B.notSynchronized
  have hl := lv_entry ([.ref (h 0), .int a1]) (n := 2) (Nat.le_of_ble_eq_true rfl)
  rw [lg_entry_eq]
  generalize (lg_sl ([.ref (h 0), .int a1]) ++ List.replicate (2 - (lg_sl ([.ref (h 0), .int a1])).length) Slot.unset).toArray = ls at hl ⊢
  have hl : lv_has ls 2 [(0, .ref (h 0)), (1, .int a1)] := hl
  show W p l e rmP_shareRow s m _ below meth c s.heap [] 0 0 (zL below _ s (fP_shareRow n S a1)) _
  unfold fP_shareRow
  show W p l e rmP_shareRow s m _ below meth c s.heap [] 0 0 (zL below _ s _) (F0 m 0 ls [])
  refine lv_aload_n hx hb dP_shareRow_0 rfl (lv_at hl 0 rfl) ?_
  refine lv_iload_n hx hb dP_shareRow_1 rfl (lv_at hl 1 rfl) ?_
  refine qVi (rest := []) ⟨hx, hb, hml, hown, hts⟩ (kP_has l D Y h n hn S a1) (cwV 1 hts (gV uw5 uw6 uw7 uw8 ucP_has) rfl rfl rfl hvP_has ⟨Nat.le_of_ble_eq_true rfl, Nat.le_of_ble_eq_true rfl⟩) hK hP (va_recv hK hP (ci := 1) (q0 := 0) rfl rfl) rfl hl.1 rfl (Nat.le_of_ble_eq_true rfl) dP_shareRow_2 ⟨Nat.le_of_ble_eq_true rfl, Nat.le_of_ble_eq_true rfl⟩ ?_
  refine zif (C := (fP_has n a1) = 0) (fun c5 => ?_) (fun c5 => ?_)
  · skip
    refine lv_if_eq (tgt := 17) hx hb dP_shareRow_5 (by decide) (fun _ => ?_) (fun z => absurd c5 z)
    refine lv_lconst (v := 0) hx hb dP_shareRow_17 (by decide) ?_
    exact zL_ret hx hb hr hlocks dP_shareRow_18
  · skip
    refine lv_if_eq (tgt := 17) hx hb dP_shareRow_5 (by decide) (fun z => absurd z c5) (fun _ => ?_)
    refine lv_aload_n hx hb dP_shareRow_8 rfl (lv_at hl 0 rfl) ?_
    refine va_get (D := D) (ci := 1) (v := .ref (h 7)) (C := RP) (T := TP) (N := 10) hx hb hts hinP hown hK hP 0 rfl rfl 7 (by decide) (hts _ uw34) (fun _ h9 => h9) rfl dP_shareRow_9 ?_
    refine lv_iload_n hx hb dP_shareRow_12 rfl (lv_at hl 1 rfl) ?_
    refine va_lald hx hb hK hP 7 1 rfl rfl (has_in hn c5) dP_shareRow_13 ?_
    refine lv_goto (tgt := 18) hx hb dP_shareRow_14 (by decide) ?_
    exact zL_ret hx hb hr hlocks dP_shareRow_18
abbrev rmP_leadsTo : Room := { frames := 2, cells := 0, slots := 0, locals := 43 }
set_option maxHeartbeats 4000000 in
set_option maxRecDepth 100000 in
theorem kP_leadsTo (l : Launch) (D : va_G) (Y : Nat → ClassId) (h : Nat → Nat) (n : Nat) (hn : n ≤ 24) (S : vP) (a1 : Int32) (a2 : Int32) : Met l yP_leadsTo wsP_leadsTo rmP_leadsTo (va_Pc [.ref (h 0), .int a1, .int a2] (zPre D vwCl (tysK Y) (wP Y h n S))) (vp_Si (fun r => r = (fP_leadsTo n S a1 a2))) 0 0 (fun _ => False) := by
  refine Met.ofW (cc := cP_leadsTo) (maxL := 3) (ret := (some .boolean)) (by decide) rfl ?_
  intro p e s m args below meth c s₁ B hml hv
  obtain ⟨rfl, hP, hK⟩ := hv
  have hx := B.exec
  have hb := B.bytes
  have hr := B.returns
  have hts : ∀ w ∈ uT, w.before _ s = true := fun w hw => atoms_spec (ws := wsP_leadsTo) B.pre w (List.mem_cons_of_mem _ hw)
  have hown : s.vm.findClass RP = some m.cls := findClass_of_methodNamed B.named
  have hlocks := B.notSynchronized
  have hl := lv_entry ([.ref (h 0), .int a1, .int a2]) (n := 3) (Nat.le_of_ble_eq_true rfl)
  rw [lg_entry_eq]
  generalize (lg_sl ([.ref (h 0), .int a1, .int a2]) ++ List.replicate (3 - (lg_sl ([.ref (h 0), .int a1, .int a2])).length) Slot.unset).toArray = ls at hl ⊢
  have hl : lv_has ls 3 [(0, .ref (h 0)), (1, .int a1), (2, .int a2)] := hl
  show W p l e rmP_leadsTo s m _ below meth c s.heap [] 0 0 (zI below _ s (fP_leadsTo n S a1 a2)) _
  unfold fP_leadsTo
  show W p l e rmP_leadsTo s m _ below meth c s.heap [] 0 0 (zI below _ s _) (F0 m 0 ls [])
  refine lv_iload_n hx hb dP_leadsTo_0 rfl (lv_at hl 1 rfl) ?_
  refine lv_iload_n hx hb dP_leadsTo_1 rfl (lv_at hl 2 rfl) ?_
  refine zif (C := a1 = a2) (fun c2 => ?_) (fun c2 => ?_)
  · skip
    refine lv_icmp_eq (tgt := 14) hx hb dP_leadsTo_2 (by decide) (fun _ => ?_) (fun z => absurd c2 z)
    refine lv_iconst (v := 1) hx hb dP_leadsTo_14 (by decide) ?_
    refine lv_goto (tgt := 19) hx hb dP_leadsTo_15 (by decide) ?_
    exact zB_ret hx hb hr hlocks (Or.inr rfl) dP_leadsTo_19
  · skip
    refine lv_icmp_eq (tgt := 14) hx hb dP_leadsTo_2 (by decide) (fun z => absurd z c2) (fun _ => ?_)
    refine lv_aload_n hx hb dP_leadsTo_5 rfl (lv_at hl 0 rfl) ?_
    refine lv_iload_n hx hb dP_leadsTo_6 rfl (lv_at hl 1 rfl) ?_
    refine lv_iload_n hx hb dP_leadsTo_7 rfl (lv_at hl 2 rfl) ?_
    refine qVi (rest := []) ⟨hx, hb, hml, hown, hts⟩ (kP_hasForbear l D Y h n hn S a1 a2) (cwV 2 hts (gV uw35 uw36 uw37 uw8 ucP_hasForbear) rfl rfl rfl hvP_hasForbear ⟨Nat.le_of_ble_eq_true rfl, Nat.le_of_ble_eq_true rfl⟩) hK hP (va_recv hK hP (ci := 1) (q0 := 0) rfl rfl) rfl hl.1 rfl (Nat.le_of_ble_eq_true rfl) dP_leadsTo_8 ⟨Nat.le_of_ble_eq_true rfl, Nat.le_of_ble_eq_true rfl⟩ ?_
    refine zif (C := (fP_hasForbear n S a1 a2) = 0) (fun c11 => ?_) (fun c11 => ?_)
    · skip
      refine lv_if_eq (tgt := 18) hx hb dP_leadsTo_11 (by decide) (fun _ => ?_) (fun z => absurd c11 z)
      refine lv_iconst (v := 0) hx hb dP_leadsTo_18 (by decide) ?_
      exact zB_ret hx hb hr hlocks (Or.inl rfl) dP_leadsTo_19
    · skip
      refine lv_if_eq (tgt := 18) hx hb dP_leadsTo_11 (by decide) (fun z => absurd z c11) (fun _ => ?_)
      refine lv_iconst (v := 1) hx hb dP_leadsTo_14 (by decide) ?_
      refine lv_goto (tgt := 19) hx hb dP_leadsTo_15 (by decide) ?_
      exact zB_ret hx hb hr hlocks (Or.inr rfl) dP_leadsTo_19
abbrev rmP_wouldClose : Room := { frames := 3, cells := 0, slots := 0, locals := 65 }
set_option maxHeartbeats 4000000 in
set_option maxRecDepth 100000 in
theorem kP_wouldClose (l : Launch) (D : va_G) (Y : Nat → ClassId) (h : Nat → Nat) (n : Nat) (hn : n ≤ 24) (S : vP) (a1 : Int32) (a2 : Int32) (a3 : Int32) : Met l yP_wouldClose wsP_wouldClose rmP_wouldClose (va_Pc [.ref (h 0), .int a1, .int a2, .int a3] (zPre D vwCl (tysK Y) (wP Y h n S))) (vp_Si (fun r => r = (fP_wouldClose n S a1 a2 a3))) 0 0 (fun _ => False) := by
  refine Met.ofW (cc := cP_wouldClose) (maxL := 4) (ret := (some .boolean)) (by decide) rfl ?_
  intro p e s m args below meth c s₁ B hml hv
  obtain ⟨rfl, hP, hK⟩ := hv
  have hx := B.exec
  have hb := B.bytes
  have hr := B.returns
  have hts : ∀ w ∈ uT, w.before _ s = true := fun w hw => atoms_spec (ws := wsP_wouldClose) B.pre w (List.mem_cons_of_mem _ hw)
  have hown : s.vm.findClass RP = some m.cls := findClass_of_methodNamed B.named
  have hlocks := B.notSynchronized
  have hl := lv_entry ([.ref (h 0), .int a1, .int a2, .int a3]) (n := 4) (Nat.le_of_ble_eq_true rfl)
  rw [lg_entry_eq]
  generalize (lg_sl ([.ref (h 0), .int a1, .int a2, .int a3]) ++ List.replicate (4 - (lg_sl ([.ref (h 0), .int a1, .int a2, .int a3])).length) Slot.unset).toArray = ls at hl ⊢
  have hl : lv_has ls 4 [(0, .ref (h 0)), (1, .int a1), (2, .int a2), (3, .int a3)] := hl
  show W p l e rmP_wouldClose s m _ below meth c s.heap [] 0 0 (zI below _ s (fP_wouldClose n S a1 a2 a3)) _
  unfold fP_wouldClose
  show W p l e rmP_wouldClose s m _ below meth c s.heap [] 0 0 (zI below _ s _) (F0 m 0 ls [])
  refine lv_aload_n hx hb dP_wouldClose_0 rfl (lv_at hl 0 rfl) ?_
  refine lv_iload_n hx hb dP_wouldClose_1 rfl (lv_at hl 2 rfl) ?_
  refine lv_iload_n hx hb dP_wouldClose_2 rfl (lv_at hl 1 rfl) ?_
  refine qVi (rest := []) ⟨hx, hb, hml, hown, hts⟩ (kP_leadsTo l D Y h n hn S a2 a1) (cwV 2 hts (gV uw38 uw39 uw40 uw8 ucP_leadsTo) rfl rfl rfl hvP_leadsTo ⟨Nat.le_of_ble_eq_true rfl, Nat.le_of_ble_eq_true rfl⟩) hK hP (va_recv hK hP (ci := 1) (q0 := 0) rfl rfl) rfl hl.1 rfl (Nat.le_of_ble_eq_true rfl) dP_wouldClose_3 ⟨Nat.le_of_ble_eq_true rfl, Nat.le_of_ble_eq_true rfl⟩ ?_
  refine zif (C := (fP_leadsTo n S a2 a1) = 0) (fun c6 => ?_) (fun c6 => ?_)
  · skip
    refine lv_if_ne (tgt := 18) hx hb dP_wouldClose_6 (by decide) (fun z => absurd c6 z) (fun _ => ?_)
    refine lv_aload_n hx hb dP_wouldClose_9 rfl (lv_at hl 0 rfl) ?_
    refine lv_iload_n hx hb dP_wouldClose_10 rfl (lv_at hl 3 rfl) ?_
    refine lv_iload_n hx hb dP_wouldClose_11 rfl (lv_at hl 1 rfl) ?_
    refine qVi (rest := []) ⟨hx, hb, hml, hown, hts⟩ (kP_leadsTo l D Y h n hn S a3 a1) (cwV 2 hts (gV uw38 uw39 uw40 uw8 ucP_leadsTo) rfl rfl rfl hvP_leadsTo ⟨Nat.le_of_ble_eq_true rfl, Nat.le_of_ble_eq_true rfl⟩) hK hP (va_recv hK hP (ci := 1) (q0 := 0) rfl rfl) rfl hl.1 rfl (Nat.le_of_ble_eq_true rfl) dP_wouldClose_12 ⟨Nat.le_of_ble_eq_true rfl, Nat.le_of_ble_eq_true rfl⟩ ?_
    refine zif (C := (fP_leadsTo n S a3 a1) = 0) (fun c15 => ?_) (fun c15 => ?_)
    · skip
      refine lv_if_eq (tgt := 22) hx hb dP_wouldClose_15 (by decide) (fun _ => ?_) (fun z => absurd c15 z)
      refine lv_iconst (v := 0) hx hb dP_wouldClose_22 (by decide) ?_
      exact zB_ret hx hb hr hlocks (Or.inl rfl) dP_wouldClose_23
    · skip
      refine lv_if_eq (tgt := 22) hx hb dP_wouldClose_15 (by decide) (fun z => absurd z c15) (fun _ => ?_)
      refine lv_iconst (v := 1) hx hb dP_wouldClose_18 (by decide) ?_
      refine lv_goto (tgt := 23) hx hb dP_wouldClose_19 (by decide) ?_
      exact zB_ret hx hb hr hlocks (Or.inr rfl) dP_wouldClose_23
  · skip
    refine lv_if_ne (tgt := 18) hx hb dP_wouldClose_6 (by decide) (fun _ => ?_) (fun z => absurd z c6)
    refine lv_iconst (v := 1) hx hb dP_wouldClose_18 (by decide) ?_
    refine lv_goto (tgt := 23) hx hb dP_wouldClose_19 (by decide) ?_
    exact zB_ret hx hb hr hlocks (Or.inr rfl) dP_wouldClose_23
abbrev rmP_ringAt : Room := { frames := 0, cells := 0, slots := 0, locals := 0 }
set_option maxHeartbeats 4000000 in
set_option maxRecDepth 100000 in
theorem kP_ringAt (l : Launch) (D : va_G) (Y : Nat → ClassId) (h : Nat → Nat) (n : Nat) (hn : n ≤ 24) (S : vP) (a1 : Int32) : Met l yP_ringAt wsP_ringAt rmP_ringAt (va_Pc [.ref (h 0), .int a1] (zPre D vwCl (tysK Y) (wP Y h n S))) (vp_Si (fun r => r = (fP_ringAt n S a1))) 0 0 (fun _ => False) := by
  refine Met.ofW (cc := cP_ringAt) (maxL := 2) (ret := (some .int)) (by decide) rfl ?_
  intro p e s m args below meth c s₁ B hml hv
  obtain ⟨rfl, hP, hK⟩ := hv
  have hx := B.exec
  have hb := B.bytes
  have hr := B.returns
  have hts : ∀ w ∈ uT, w.before _ s = true := fun w hw => atoms_spec (ws := wsP_ringAt) B.pre w (List.mem_cons_of_mem _ hw)
  have hown : s.vm.findClass RP = some m.cls := findClass_of_methodNamed B.named
  have hlocks := B.notSynchronized
  have hl := lv_entry ([.ref (h 0), .int a1]) (n := 2) (Nat.le_of_ble_eq_true rfl)
  rw [lg_entry_eq]
  generalize (lg_sl ([.ref (h 0), .int a1]) ++ List.replicate (2 - (lg_sl ([.ref (h 0), .int a1])).length) Slot.unset).toArray = ls at hl ⊢
  have hl : lv_has ls 2 [(0, .ref (h 0)), (1, .int a1)] := hl
  show W p l e rmP_ringAt s m _ below meth c s.heap [] 0 0 (zI below _ s (fP_ringAt n S a1)) _
  unfold fP_ringAt
  show W p l e rmP_ringAt s m _ below meth c s.heap [] 0 0 (zI below _ s _) (F0 m 0 ls [])
  refine lv_iload_n hx hb dP_ringAt_0 rfl (lv_at hl 1 rfl) ?_
  refine zif (C := a1 < 0) (fun c1 => ?_) (fun c1 => ?_)
  · skip
    refine lv_if_lt (tgt := 30) hx hb dP_ringAt_1 (by decide) (fun _ => ?_) (fun z => absurd c1 z)
    refine lv_iconst (v := (-1)) hx hb dP_ringAt_30 (by decide) ?_
    exact zI_ret hx hb hr hlocks dP_ringAt_31
  · skip
    refine lv_if_lt (tgt := 30) hx hb dP_ringAt_1 (by decide) (fun z => absurd z c1) (fun _ => ?_)
    refine lv_iload_n hx hb dP_ringAt_4 rfl (lv_at hl 1 rfl) ?_
    refine lv_aload_n hx hb dP_ringAt_5 rfl (lv_at hl 0 rfl) ?_
    refine va_get (D := D) (ci := 1) (v := .int (g_rl S)) (C := RP) (T := TP) (N := 10) hx hb hts hinP hown hK hP 0 rfl rfl 9 (by decide) (hts _ uw41) (fun _ h9 => h9) rfl dP_ringAt_6 ?_
    refine zif (C := (g_rl S) ≤ a1) (fun c9 => ?_) (fun c9 => ?_)
    · skip
      refine lv_icmp_ge (tgt := 30) hx hb dP_ringAt_9 (by decide) (fun _ => ?_) (fun z => absurd c9 z)
      refine lv_iconst (v := (-1)) hx hb dP_ringAt_30 (by decide) ?_
      exact zI_ret hx hb hr hlocks dP_ringAt_31
    · skip
      refine lv_icmp_ge (tgt := 30) hx hb dP_ringAt_9 (by decide) (fun z => absurd z c9) (fun _ => ?_)
      refine lv_iload_n hx hb dP_ringAt_12 rfl (lv_at hl 1 rfl) ?_
      refine lv_aload_n hx hb dP_ringAt_13 rfl (lv_at hl 0 rfl) ?_
      refine va_get (D := D) (ci := 1) (v := .ref (h 8)) (C := RP) (T := TP) (N := 10) hx hb hts hinP hown hK hP 0 rfl rfl 8 (by decide) (hts _ uw42) (fun _ h9 => h9) rfl dP_ringAt_14 ?_
      refine va_alen (v := 25) hx hb hK hP 8 0 rfl rfl rfl dP_ringAt_17 ?_
      refine zif (C := 25 ≤ a1) (fun c18 => ?_) (fun c18 => ?_)
      · skip
        refine lv_icmp_ge (tgt := 30) hx hb dP_ringAt_18 (by decide) (fun _ => ?_) (fun z => absurd c18 z)
        refine lv_iconst (v := (-1)) hx hb dP_ringAt_30 (by decide) ?_
        exact zI_ret hx hb hr hlocks dP_ringAt_31
      · skip
        refine lv_icmp_ge (tgt := 30) hx hb dP_ringAt_18 (by decide) (fun z => absurd z c18) (fun _ => ?_)
        refine lv_aload_n hx hb dP_ringAt_21 rfl (lv_at hl 0 rfl) ?_
        refine va_get (D := D) (ci := 1) (v := .ref (h 8)) (C := RP) (T := TP) (N := 10) hx hb hts hinP hown hK hP 0 rfl rfl 8 (by decide) (hts _ uw42) (fun _ h9 => h9) rfl dP_ringAt_22 ?_
        refine lv_iload_n hx hb dP_ringAt_25 rfl (lv_at hl 1 rfl) ?_
        refine va_iald hx hb hK hP 8 0 rfl rfl (vin_lt (n := 25) (Nat.le_refl _) (by decide) c1 c18) dP_ringAt_26 ?_
        refine lv_goto (tgt := 31) hx hb dP_ringAt_27 (by decide) ?_
        exact zI_ret hx hb hr hlocks dP_ringAt_31
abbrev rmP_lineOf : Room := { frames := 1, cells := 0, slots := 0, locals := 21 }
set_option maxHeartbeats 4000000 in
set_option maxRecDepth 100000 in
theorem kP_lineOf (l : Launch) (D : va_G) (Y : Nat → ClassId) (h : Nat → Nat) (n : Nat) (hn : n ≤ 24) (S : vP) (a1 : Int32) : Met l yP_lineOf wsP_lineOf rmP_lineOf (va_Pc [.ref (h 0), .int a1] (zPre D vwCl (tysK Y) (wP Y h n S))) (vp_Si (fun r => r = (fP_lineOf n S a1))) 0 0 (fun _ => False) := by
  refine Met.ofW (cc := cP_lineOf) (maxL := 2) (ret := (some .int)) (by decide) rfl ?_
  intro p e s m args below meth c s₁ B hml hv
  obtain ⟨rfl, hP, hK⟩ := hv
  have hx := B.exec
  have hb := B.bytes
  have hr := B.returns
  have hts : ∀ w ∈ uT, w.before _ s = true := fun w hw => atoms_spec (ws := wsP_lineOf) B.pre w (List.mem_cons_of_mem _ hw)
  have hown : s.vm.findClass RP = some m.cls := findClass_of_methodNamed B.named
  have hlocks := B.notSynchronized
  have hl := lv_entry ([.ref (h 0), .int a1]) (n := 2) (Nat.le_of_ble_eq_true rfl)
  rw [lg_entry_eq]
  generalize (lg_sl ([.ref (h 0), .int a1]) ++ List.replicate (2 - (lg_sl ([.ref (h 0), .int a1])).length) Slot.unset).toArray = ls at hl ⊢
  have hl : lv_has ls 2 [(0, .ref (h 0)), (1, .int a1)] := hl
  show W p l e rmP_lineOf s m _ below meth c s.heap [] 0 0 (zI below _ s (fP_lineOf n S a1)) _
  unfold fP_lineOf
  show W p l e rmP_lineOf s m _ below meth c s.heap [] 0 0 (zI below _ s _) (F0 m 0 ls [])
  refine lv_aload_n hx hb dP_lineOf_0 rfl (lv_at hl 0 rfl) ?_
  refine lv_iload_n hx hb dP_lineOf_1 rfl (lv_at hl 1 rfl) ?_
  refine qVi (rest := []) ⟨hx, hb, hml, hown, hts⟩ (kP_has l D Y h n hn S a1) (cwV 1 hts (gV uw5 uw6 uw7 uw8 ucP_has) rfl rfl rfl hvP_has ⟨Nat.le_of_ble_eq_true rfl, Nat.le_of_ble_eq_true rfl⟩) hK hP (va_recv hK hP (ci := 1) (q0 := 0) rfl rfl) rfl hl.1 rfl (Nat.le_of_ble_eq_true rfl) dP_lineOf_2 ⟨Nat.le_of_ble_eq_true rfl, Nat.le_of_ble_eq_true rfl⟩ ?_
  refine zif (C := (fP_has n a1) = 0) (fun c5 => ?_) (fun c5 => ?_)
  · skip
    refine lv_if_eq (tgt := 22) hx hb dP_lineOf_5 (by decide) (fun _ => ?_) (fun z => absurd c5 z)
    refine lv_iconst (v := 0) hx hb dP_lineOf_22 (by decide) ?_
    exact zI_ret hx hb hr hlocks dP_lineOf_23
  · skip
    refine lv_if_eq (tgt := 22) hx hb dP_lineOf_5 (by decide) (fun z => absurd z c5) (fun _ => ?_)
    refine lv_iload_n hx hb dP_lineOf_8 rfl (lv_at hl 1 rfl) ?_
    refine qSi (rest := []) ⟨hx, hb, hml, hown, hts⟩ (kP_bitOf l D Y a1) (va_cwS 1 hts (gS uw14 uw15 uw8 ucP_bitOf) rfl rfl rfl hsP_bitOf ⟨Nat.le_of_ble_eq_true rfl, Nat.le_of_ble_eq_true rfl⟩) hK (zsub [] hP rfl) rfl hl.1 rfl (Nat.le_of_ble_eq_true rfl) dP_lineOf_9 ⟨Nat.le_of_ble_eq_true rfl, Nat.le_of_ble_eq_true rfl⟩ ?_
    refine lv_aload_n hx hb dP_lineOf_12 rfl (lv_at hl 0 rfl) ?_
    refine va_get (D := D) (ci := 1) (v := .ref (h 5)) (C := RP) (T := TP) (N := 10) hx hb hts hinP hown hK hP 0 rfl rfl 5 (by decide) (hts _ uw13) (fun _ h9 => h9) rfl dP_lineOf_13 ?_
    refine lv_iload_n hx hb dP_lineOf_16 rfl (lv_at hl 1 rfl) ?_
    refine va_iald hx hb hK hP 5 0 rfl rfl (has_in hn c5) dP_lineOf_17 ?_
    refine lv_ior hx hb dP_lineOf_18 ?_
    refine lv_goto (tgt := 23) hx hb dP_lineOf_19 (by decide) ?_
    exact zI_ret hx hb hr hlocks dP_lineOf_23
abbrev rmP_forgetRing : Room := { frames := 0, cells := 0, slots := 0, locals := 0 }
set_option maxHeartbeats 4000000 in
set_option maxRecDepth 100000 in
theorem kP_forgetRing (l : Launch) (D : va_G) (Y : Nat → ClassId) (h : Nat → Nat) (n : Nat) (hn : n ≤ 24) (S : vP) (sz : Nat) : Met l yP_forgetRing wsP_forgetRing rmP_forgetRing (va_Pc [.ref (h 0)] (zPreM D vwCl (tysK Y) (wP Y h n S) sz)) (va_Qv (fun u => u = (fP_forgetRing n S)) (zAt D vwCl (tysK Y) (va_A (wP Y h n S) sz) (wP Y h n)) (va_A (wP Y h n S) sz)) 0 0 (va_A (wP Y h n S) sz) := by
  refine Met.ofW (cc := cP_forgetRing) (maxL := 1) (ret := none) (by decide) rfl ?_
  intro p e s m args below meth c s₁ B hml hv
  obtain ⟨rfl, hsz, hP, hK, hD0⟩ := hv
  have hx := B.exec
  have hb := B.bytes
  have hr := B.returns
  have hts : ∀ w ∈ uT, w.before _ s = true := fun w hw => atoms_spec (ws := wsP_forgetRing) B.pre w (List.mem_cons_of_mem _ hw)
  have hown : s.vm.findClass RP = some m.cls := findClass_of_methodNamed B.named
  have hlocks := B.notSynchronized
  subst hsz
  have hD := hD0.self (sz := s.heap.size)
  generalize hAe : va_A (wP Y h n S) s.heap.size = A at hD ⊢
  have hA : ∀ q : Nat, s.heap.size ≤ q → A q := fun q h => by rw [← hAe]; exact Or.inr h
  have hS : va_S A s.heap s.heap [] := va_S.rf
  have hl := lv_entry ([.ref (h 0)]) (n := 1) (Nat.le_of_ble_eq_true rfl)
  rw [lg_entry_eq]
  generalize (lg_sl ([.ref (h 0)]) ++ List.replicate (1 - (lg_sl ([.ref (h 0)])).length) Slot.unset).toArray = ls at hl ⊢
  have hl : lv_has ls 1 [(0, .ref (h 0))] := hl
  show W p l e rmP_forgetRing s m _ below meth c s.heap [] 0 0 (zMv D vwCl (tysK Y) A (wP Y h n) below _ s 0 0 (fP_forgetRing n S)) _
  unfold fP_forgetRing
  show W p l e rmP_forgetRing s m _ below meth c s.heap [] 0 0 (zMv D vwCl (tysK Y) A (wP Y h n) below _ s 0 0 _) (F0 m 0 ls [])
  refine lv_aload_n hx hb dP_forgetRing_0 rfl (lv_at hl 0 rfl) ?_
  refine lv_iconst (v := 0) hx hb dP_forgetRing_1 (by decide) ?_
  refine va_put (D := D) (ci := 1) (v := .int 0) (ty := .int) (C := RP) (T := TP) (N := 10) hx hb hts hinP tyP tyP_ok nmP hown hK hP hD hS 0 rfl rfl 9 (by decide) (hts _ uw41) (fun _ h9 => h9) rfl (by decide +kernel) rfl rfl (Nat.le_of_ble_eq_true rfl) dP_forgetRing_2 (fun H locs hP hD hS => ?_)
  have hP : va_P D vwCl (wP Y h n (p_rl S (0))) H := hP
  have hD : va_D A (wP Y h n (p_rl S (0))) := hD
  exact zMv_ret (u := (p_rl S (0))) hx hb hr hlocks hK hP hD hS dP_forgetRing_5
abbrev rmP_shareOf : Room := { frames := 2, cells := 0, slots := 0, locals := 42 }
set_option maxHeartbeats 4000000 in
set_option maxRecDepth 100000 in
theorem tP_shareOf_2 {p : Program} {l : Launch} {e : Env} {s : State} {m : MethodId} {args : Array Value} {below : List Frame} {meth : Method} {c : Code} {D : va_G} {Y : Nat → ClassId} {h : Nat → Nat} {n : Nat} (hn : n ≤ 24) {A : Nat → Prop} (hA : ∀ q : Nat, s.heap.size ≤ q → A q) (CF : CallFix p m c cP_shareOf 5 s args uT RP) (hr : meth.sig.returnType = (some .long)) (hlocks : meth.locks = false) (hK : va_K D vwCl (tysK Y) s) : ∀ (k i : Nat) (x1 : Int32) (x2 : Int32) (S : vP), i + k = n → ∀ (H : Heap) (locs : List Loc), va_P D vwCl (wP Y h n S) H → va_D A (wP Y h n S) → va_S A s.heap H locs → ∀ ls : Array Slot, lv_has ls 5 [(0, .ref (h 0)), (1, .int x1), (2, .int x2), (3, .int (nI i))] → W p l e rmP_shareOf s m args below meth c H locs 0 0 (zMl D vwCl (tysK Y) A (wP Y h n) below args s 0 0 (fP_shareOf_2 n k i x1 x2 S)) (F0 m 2 ls []) := by
  obtain ⟨hx, hb, hml, hown, hts⟩ := CF
  intro k
  induction k with
  | zero =>
    intro i x1 x2 S hi  H locs hP hD hS ls hl
    rw [fP_shareOf_2]
    refine lv_iload_n hx hb dP_shareOf_2 rfl (lv_at hl 3 rfl) ?_
    refine lv_aload_n hx hb dP_shareOf_3 rfl (lv_at hl 0 rfl) ?_
    refine va_get (D := D) (ci := 1) (v := .int (nI n)) (C := RP) (T := TP) (N := 10) hx hb hts hinP hown hK hP 0 rfl rfl 0 (by decide) (hts _ uw4) (fun _ h9 => h9) rfl dP_shareOf_4 ?_
    refine lv_icmp_ge (tgt := 76) hx hb dP_shareOf_7 (by decide) (fun _ => ?_) (fun z => absurd (lp_ge (n := n) hi) z)
    refine lv_aload_n hx hb dP_shareOf_76 rfl (lv_at hl 0 rfl) ?_
    refine lv_iload_n hx hb dP_shareOf_77 rfl (lv_at hl 1 rfl) ?_
    refine qVl (rest := []) ⟨hx, hb, hml, hown, hts⟩ (kP_shareRow l D Y h n hn S x1) (cwV 1 hts (gV uw43 uw44 uw45 uw8 ucP_shareRow) rfl rfl rfl hvP_shareRow ⟨Nat.le_of_ble_eq_true rfl, Nat.le_of_ble_eq_true rfl⟩) hK hP (va_recv hK hP (ci := 1) (q0 := 0) rfl rfl) rfl hl.1 rfl (Nat.le_of_ble_eq_true rfl) dP_shareOf_78 ⟨Nat.le_of_ble_eq_true rfl, Nat.le_of_ble_eq_true rfl⟩ ?_
    exact zMl_ret (u := S) hx hb hr hlocks hK hP hD hS dP_shareOf_81
  | succ k ih =>
    intro i x1 x2 S hi  H locs hP hD hS ls hl
    rw [fP_shareOf_2]
    refine lv_iload_n hx hb dP_shareOf_2 rfl (lv_at hl 3 rfl) ?_
    refine lv_aload_n hx hb dP_shareOf_3 rfl (lv_at hl 0 rfl) ?_
    refine va_get (D := D) (ci := 1) (v := .int (nI n)) (C := RP) (T := TP) (N := 10) hx hb hts hinP hown hK hP 0 rfl rfl 0 (by decide) (hts _ uw4) (fun _ h9 => h9) rfl dP_shareOf_4 ?_
    refine lv_icmp_ge (tgt := 76) hx hb dP_shareOf_7 (by decide) (fun z => absurd z (lp_lt (n := n) hi (by omega))) (fun _ => ?_)
    refine lv_aload_n hx hb dP_shareOf_10 rfl (lv_at hl 0 rfl) ?_
    refine lv_iload_n hx hb dP_shareOf_11 rfl (lv_at hl 3 rfl) ?_
    refine qVi (rest := []) ⟨hx, hb, hml, hown, hts⟩ (kP_inOrder l D Y h n hn S (nI i)) (cwV 1 hts (gV uw46 uw47 uw48 uw8 ucP_inOrder) rfl rfl rfl hvP_inOrder ⟨Nat.le_of_ble_eq_true rfl, Nat.le_of_ble_eq_true rfl⟩) hK hP (va_recv hK hP (ci := 1) (q0 := 0) rfl rfl) rfl hl.1 rfl (Nat.le_of_ble_eq_true rfl) dP_shareOf_12 ⟨Nat.le_of_ble_eq_true rfl, Nat.le_of_ble_eq_true rfl⟩ ?_
    refine lv_istore (lv' := [(4, .int (fP_inOrder n S (nI i))), (0, .ref (h 0)), (1, .int x1), (2, .int x2), (3, .int (nI i))]) hx hb dP_shareOf_15 hl (by decide) rfl (fun ls hl => ?_)
    refine lv_aload_n hx hb dP_shareOf_17 rfl (lv_at hl 1 rfl) ?_
    refine lv_iload hx hb dP_shareOf_18 (lv_at hl 0 rfl) ?_
    refine qVi (rest := []) ⟨hx, hb, hml, hown, hts⟩ (kP_has l D Y h n hn S (fP_inOrder n S (nI i))) (cwV 1 hts (gV uw5 uw6 uw7 uw8 ucP_has) rfl rfl rfl hvP_has ⟨Nat.le_of_ble_eq_true rfl, Nat.le_of_ble_eq_true rfl⟩) hK hP (va_recv hK hP (ci := 1) (q0 := 0) rfl rfl) rfl hl.1 rfl (Nat.le_of_ble_eq_true rfl) dP_shareOf_20 ⟨Nat.le_of_ble_eq_true rfl, Nat.le_of_ble_eq_true rfl⟩ ?_
    refine zif (C := (fP_has n (fP_inOrder n S (nI i))) = 0) (fun c23 => ?_) (fun c23 => ?_)
    · skip
      refine lv_if_eq (tgt := 70) hx hb dP_shareOf_23 (by decide) (fun _ => ?_) (fun z => absurd c23 z)
      refine lv_iinc (v := (nI (i + 1))) (lv' := [(3, .int (nI (i + 1))), (4, .int (fP_inOrder n S (nI i))), (0, .ref (h 0)), (1, .int x1), (2, .int x2)]) hx hb dP_shareOf_70 hl (k := 4) rfl (nI_1 _) (by decide) rfl (fun ls hl => ?_)
      refine lv_goto (tgt := 2) hx hb dP_shareOf_73 (by decide) ?_
      exact ih (i + 1) x1 x2 S (by omega) _ _ hP hD hS ls (lv_sub hl [2, 3, 4, 0] rfl)
    · skip
      refine lv_if_eq (tgt := 70) hx hb dP_shareOf_23 (by decide) (fun z => absurd z c23) (fun _ => ?_)
      refine lv_aload_n hx hb dP_shareOf_26 rfl (lv_at hl 1 rfl) ?_
      refine va_get (D := D) (ci := 1) (v := .ref (h 7)) (C := RP) (T := TP) (N := 10) hx hb hts hinP hown hK hP 0 rfl rfl 7 (by decide) (hts _ uw34) (fun _ h9 => h9) rfl dP_shareOf_27 ?_
      refine lv_iload hx hb dP_shareOf_30 (lv_at hl 0 rfl) ?_
      refine lv_iload hx hb dP_shareOf_32 (lv_at hl 0 rfl) ?_
      refine lv_iload_n hx hb dP_shareOf_34 rfl (lv_at hl 3 rfl) ?_
      refine zif (C := (fP_inOrder n S (nI i)) = x2) (fun c35 => ?_) (fun c35 => ?_)
      · skip
        refine lv_icmp_ne (tgt := 44) hx hb dP_shareOf_35 (by decide) (fun z => absurd c35 z) (fun _ => ?_)
        refine lv_ldc2 (v := 1073741824) hx hb hown (hts _ uw26) dP_shareOf_38 ?_
        refine lv_goto (tgt := 69) hx hb dP_shareOf_41 (by decide) ?_
        refine va_last hx hb hK hP hD hS 7 1 rfl rfl (has_in hn c23) dP_shareOf_69 (fun H locs hP hD hS => ?_)
        have hP : va_P D vwCl (wP Y h n (p_sh S (vp_updL (g_sh S) ((fP_inOrder n S (nI i)) : Int32).toNatClampNeg 1073741824))) H := hP
        have hD : va_D A (wP Y h n (p_sh S (vp_updL (g_sh S) ((fP_inOrder n S (nI i)) : Int32).toNatClampNeg 1073741824))) := hD
        refine lv_iinc (v := (nI (i + 1))) (lv' := [(3, .int (nI (i + 1))), (4, .int (fP_inOrder n S (nI i))), (0, .ref (h 0)), (1, .int x1), (2, .int x2)]) hx hb dP_shareOf_70 hl (k := 4) rfl (nI_1 _) (by decide) rfl (fun ls hl => ?_)
        refine lv_goto (tgt := 2) hx hb dP_shareOf_73 (by decide) ?_
        exact ih (i + 1) x1 x2 (p_sh S (vp_updL (g_sh S) ((fP_inOrder n S (nI i)) : Int32).toNatClampNeg 1073741824)) (by omega) _ _ hP hD hS ls (lv_sub hl [2, 3, 4, 0] rfl)
      · skip
        refine lv_icmp_ne (tgt := 44) hx hb dP_shareOf_35 (by decide) (fun _ => ?_) (fun z => absurd z c35)
        refine lv_aload_n hx hb dP_shareOf_44 rfl (lv_at hl 1 rfl) ?_
        refine lv_aload_n hx hb dP_shareOf_45 rfl (lv_at hl 1 rfl) ?_
        refine lv_iload hx hb dP_shareOf_46 (lv_at hl 0 rfl) ?_
        refine qVi (rest := [.ref (h 0), .int (fP_inOrder n S (nI i)), .ref (h 7)]) ⟨hx, hb, hml, hown, hts⟩ (kP_motherOf l D Y h n hn S (fP_inOrder n S (nI i))) (cwV 1 hts (gV uw17 uw18 uw19 uw8 ucP_motherOf) rfl rfl rfl hvP_motherOf ⟨Nat.le_of_ble_eq_true rfl, Nat.le_of_ble_eq_true rfl⟩) hK hP (va_recv hK hP (ci := 1) (q0 := 0) rfl rfl) rfl hl.1 rfl (Nat.le_of_ble_eq_true rfl) dP_shareOf_48 ⟨Nat.le_of_ble_eq_true rfl, Nat.le_of_ble_eq_true rfl⟩ ?_
        refine qVl (rest := [.int (fP_inOrder n S (nI i)), .ref (h 7)]) ⟨hx, hb, hml, hown, hts⟩ (kP_shareRow l D Y h n hn S (fP_motherOf n S (fP_inOrder n S (nI i)))) (cwV 1 hts (gV uw43 uw44 uw45 uw8 ucP_shareRow) rfl rfl rfl hvP_shareRow ⟨Nat.le_of_ble_eq_true rfl, Nat.le_of_ble_eq_true rfl⟩) hK hP (va_recv hK hP (ci := 1) (q0 := 0) rfl rfl) rfl hl.1 rfl (Nat.le_of_ble_eq_true rfl) dP_shareOf_51 ⟨Nat.le_of_ble_eq_true rfl, Nat.le_of_ble_eq_true rfl⟩ ?_
        refine lv_aload_n hx hb dP_shareOf_54 rfl (lv_at hl 1 rfl) ?_
        refine lv_aload_n hx hb dP_shareOf_55 rfl (lv_at hl 1 rfl) ?_
        refine lv_iload hx hb dP_shareOf_56 (lv_at hl 0 rfl) ?_
        refine qVi (rest := [.ref (h 0), .long (fP_shareRow n S (fP_motherOf n S (fP_inOrder n S (nI i)))), .int (fP_inOrder n S (nI i)), .ref (h 7)]) ⟨hx, hb, hml, hown, hts⟩ (kP_fatherOf l D Y h n hn S (fP_inOrder n S (nI i))) (cwV 1 hts (gV uw20 uw21 uw22 uw8 ucP_fatherOf) rfl rfl rfl hvP_fatherOf ⟨Nat.le_of_ble_eq_true rfl, Nat.le_of_ble_eq_true rfl⟩) hK hP (va_recv hK hP (ci := 1) (q0 := 0) rfl rfl) rfl hl.1 rfl (Nat.le_of_ble_eq_true rfl) dP_shareOf_58 ⟨Nat.le_of_ble_eq_true rfl, Nat.le_of_ble_eq_true rfl⟩ ?_
        refine qVl (rest := [.long (fP_shareRow n S (fP_motherOf n S (fP_inOrder n S (nI i)))), .int (fP_inOrder n S (nI i)), .ref (h 7)]) ⟨hx, hb, hml, hown, hts⟩ (kP_shareRow l D Y h n hn S (fP_fatherOf n S (fP_inOrder n S (nI i)))) (cwV 1 hts (gV uw43 uw44 uw45 uw8 ucP_shareRow) rfl rfl rfl hvP_shareRow ⟨Nat.le_of_ble_eq_true rfl, Nat.le_of_ble_eq_true rfl⟩) hK hP (va_recv hK hP (ci := 1) (q0 := 0) rfl rfl) rfl hl.1 rfl (Nat.le_of_ble_eq_true rfl) dP_shareOf_61 ⟨Nat.le_of_ble_eq_true rfl, Nat.le_of_ble_eq_true rfl⟩ ?_
        refine lv_ladd hx hb dP_shareOf_64 ?_
        refine lv_ldc2 (v := 2) hx hb hown (hts _ uw49) dP_shareOf_65 ?_
        refine lv_ldiv hx hb dP_shareOf_68 (by decide) ?_
        refine va_last hx hb hK hP hD hS 7 1 rfl rfl (has_in hn c23) dP_shareOf_69 (fun H locs hP hD hS => ?_)
        have hP : va_P D vwCl (wP Y h n (p_sh S (vp_updL (g_sh S) ((fP_inOrder n S (nI i)) : Int32).toNatClampNeg (((fP_shareRow n S (fP_motherOf n S (fP_inOrder n S (nI i)))) + (fP_shareRow n S (fP_fatherOf n S (fP_inOrder n S (nI i))))) / 2)))) H := hP
        have hD : va_D A (wP Y h n (p_sh S (vp_updL (g_sh S) ((fP_inOrder n S (nI i)) : Int32).toNatClampNeg (((fP_shareRow n S (fP_motherOf n S (fP_inOrder n S (nI i)))) + (fP_shareRow n S (fP_fatherOf n S (fP_inOrder n S (nI i))))) / 2)))) := hD
        refine lv_iinc (v := (nI (i + 1))) (lv' := [(3, .int (nI (i + 1))), (4, .int (fP_inOrder n S (nI i))), (0, .ref (h 0)), (1, .int x1), (2, .int x2)]) hx hb dP_shareOf_70 hl (k := 4) rfl (nI_1 _) (by decide) rfl (fun ls hl => ?_)
        refine lv_goto (tgt := 2) hx hb dP_shareOf_73 (by decide) ?_
        exact ih (i + 1) x1 x2 (p_sh S (vp_updL (g_sh S) ((fP_inOrder n S (nI i)) : Int32).toNatClampNeg (((fP_shareRow n S (fP_motherOf n S (fP_inOrder n S (nI i)))) + (fP_shareRow n S (fP_fatherOf n S (fP_inOrder n S (nI i))))) / 2))) (by omega) _ _ hP hD hS ls (lv_sub hl [2, 3, 4, 0] rfl)
set_option maxHeartbeats 4000000 in
set_option maxRecDepth 100000 in
theorem kP_shareOf (l : Launch) (D : va_G) (Y : Nat → ClassId) (h : Nat → Nat) (n : Nat) (hn : n ≤ 24) (S : vP) (a1 : Int32) (a2 : Int32) (sz : Nat) : Met l yP_shareOf wsP_shareOf rmP_shareOf (va_Pc [.ref (h 0), .int a1, .int a2] (zPreM D vwCl (tysK Y) (wP Y h n S) sz)) (va_Ql (fun r u => (r, u) = (fP_shareOf n S a1 a2)) (zAt D vwCl (tysK Y) (va_A (wP Y h n S) sz) (wP Y h n)) (va_A (wP Y h n S) sz)) 0 0 (va_A (wP Y h n S) sz) := by
  refine Met.ofW (cc := cP_shareOf) (maxL := 5) (ret := (some .long)) (by decide) rfl ?_
  intro p e s m args below meth c s₁ B hml hv
  obtain ⟨rfl, hsz, hP, hK, hD0⟩ := hv
  have hx := B.exec
  have hb := B.bytes
  have hr := B.returns
  have hts : ∀ w ∈ uT, w.before _ s = true := fun w hw => atoms_spec (ws := wsP_shareOf) B.pre w (List.mem_cons_of_mem _ hw)
  have hown : s.vm.findClass RP = some m.cls := findClass_of_methodNamed B.named
  have hlocks := B.notSynchronized
  subst hsz
  have hD := hD0.self (sz := s.heap.size)
  generalize hAe : va_A (wP Y h n S) s.heap.size = A at hD ⊢
  have hA : ∀ q : Nat, s.heap.size ≤ q → A q := fun q h => by rw [← hAe]; exact Or.inr h
  have hS : va_S A s.heap s.heap [] := va_S.rf
  have hl := lv_entry ([.ref (h 0), .int a1, .int a2]) (n := 5) (Nat.le_of_ble_eq_true rfl)
  rw [lg_entry_eq]
  generalize (lg_sl ([.ref (h 0), .int a1, .int a2]) ++ List.replicate (5 - (lg_sl ([.ref (h 0), .int a1, .int a2])).length) Slot.unset).toArray = ls at hl ⊢
  have hl : lv_has ls 5 [(0, .ref (h 0)), (1, .int a1), (2, .int a2)] := hl
  show W p l e rmP_shareOf s m _ below meth c s.heap [] 0 0 (zMl D vwCl (tysK Y) A (wP Y h n) below _ s 0 0 (fP_shareOf n S a1 a2)) _
  unfold fP_shareOf
  show W p l e rmP_shareOf s m _ below meth c s.heap [] 0 0 (zMl D vwCl (tysK Y) A (wP Y h n) below _ s 0 0 _) (F0 m 0 ls [])
  refine lv_iconst (v := 0) hx hb dP_shareOf_0 (by decide) ?_
  refine lv_istore_n (lv' := [(3, .int 0), (0, .ref (h 0)), (1, .int a1), (2, .int a2)]) hx hb dP_shareOf_1 rfl hl (by decide) rfl (fun ls hl => ?_)
  exact tP_shareOf_2 hn hA ⟨hx, hb, hml, hown, hts⟩ hr hlocks hK n 0 a1 a2 S (by omega) _ _ hP hD hS ls (lv_sub hl [1, 2, 3, 0] rfl)
end
section
abbrev rmP_keepRing : Room := { frames := 3, cells := 0, slots := 0, locals := 65 }
set_option maxHeartbeats 4000000 in
set_option maxRecDepth 100000 in
theorem tP_keepRing_31 {p : Program} {l : Launch} {e : Env} {s : State} {m : MethodId} {args : Array Value} {below : List Frame} {meth : Method} {c : Code} {D : va_G} {Y : Nat → ClassId} {h : Nat → Nat} {n : Nat} (hn : n ≤ 24) {A : Nat → Prop} (hA : ∀ q : Nat, s.heap.size ≤ q → A q) (CF : CallFix p m c cP_keepRing 6 s args uT RP) (hr : meth.sig.returnType = none) (hlocks : meth.locks = false) (hK : va_K D vwCl (tysK Y) s) : ∀ (k i : Nat) (x1 : Int32) (x2 : Int32) (x3 : Int32) (x4 : Int32) (S : vP), i + k = 25 → ∀ (H : Heap) (locs : List Loc), va_P D vwCl (wP Y h n S) H → va_D A (wP Y h n S) → va_S A s.heap H locs → ∀ ls : Array Slot, lv_has ls 6 [(0, .ref (h 0)), (1, .int x1), (2, .int x2), (3, .int x3), (4, .int x4), (5, .int (nI i))] → W p l e rmP_keepRing s m args below meth c H locs 0 0 (zMv D vwCl (tysK Y) A (wP Y h n) below args s 0 0 (fP_keepRing_31 n k i x1 x2 x3 x4 S)) (F0 m 31 ls []) := by
  obtain ⟨hx, hb, hml, hown, hts⟩ := CF
  intro k
  induction k with
  | zero =>
    intro i x1 x2 x3 x4 S hi  H locs hP hD hS ls hl
    rw [fP_keepRing_31]
    refine lv_iload hx hb dP_keepRing_31 (lv_at hl 5 rfl) ?_
    refine lv_aload_n hx hb dP_keepRing_33 rfl (lv_at hl 0 rfl) ?_
    refine va_get (D := D) (ci := 1) (v := .ref (h 8)) (C := RP) (T := TP) (N := 10) hx hb hts hinP hown hK hP 0 rfl rfl 8 (by decide) (hts _ uw42) (fun _ h9 => h9) rfl dP_keepRing_34 ?_
    refine va_alen (v := 25) hx hb hK hP 8 0 rfl rfl rfl dP_keepRing_37 ?_
    refine lv_icmp_ge (tgt := 114) hx hb dP_keepRing_38 (by decide) (fun _ => ?_) (fun z => absurd (lp_ge (n := 25) hi) z)
    exact zMv_ret (u := S) hx hb hr hlocks hK hP hD hS dP_keepRing_114
  | succ k ih =>
    intro i x1 x2 x3 x4 S hi  H locs hP hD hS ls hl
    rw [fP_keepRing_31]
    refine lv_iload hx hb dP_keepRing_31 (lv_at hl 5 rfl) ?_
    refine lv_aload_n hx hb dP_keepRing_33 rfl (lv_at hl 0 rfl) ?_
    refine va_get (D := D) (ci := 1) (v := .ref (h 8)) (C := RP) (T := TP) (N := 10) hx hb hts hinP hown hK hP 0 rfl rfl 8 (by decide) (hts _ uw42) (fun _ h9 => h9) rfl dP_keepRing_34 ?_
    refine va_alen (v := 25) hx hb hK hP 8 0 rfl rfl rfl dP_keepRing_37 ?_
    refine lv_icmp_ge (tgt := 114) hx hb dP_keepRing_38 (by decide) (fun z => absurd z (lp_lt (n := 25) hi (by omega))) (fun _ => ?_)
    refine lv_aload_n hx hb dP_keepRing_41 rfl (lv_at hl 0 rfl) ?_
    refine lv_iload hx hb dP_keepRing_42 (lv_at hl 4 rfl) ?_
    refine qVi (rest := []) ⟨hx, hb, hml, hown, hts⟩ (kP_has l D Y h n hn S x4) (cwV 1 hts (gV uw5 uw6 uw7 uw8 ucP_has) rfl rfl rfl hvP_has ⟨Nat.le_of_ble_eq_true rfl, Nat.le_of_ble_eq_true rfl⟩) hK hP (va_recv hK hP (ci := 1) (q0 := 0) rfl rfl) rfl hl.1 rfl (Nat.le_of_ble_eq_true rfl) dP_keepRing_44 ⟨Nat.le_of_ble_eq_true rfl, Nat.le_of_ble_eq_true rfl⟩ ?_
    refine zif (C := (fP_has n x4) = 0) (fun c47 => ?_) (fun c47 => ?_)
    · skip
      refine lv_if_eq (tgt := 114) hx hb dP_keepRing_47 (by decide) (fun _ => ?_) (fun z => absurd c47 z)
      exact zMv_ret (u := S) hx hb hr hlocks hK hP hD hS dP_keepRing_114
    · skip
      refine lv_if_eq (tgt := 114) hx hb dP_keepRing_47 (by decide) (fun z => absurd z c47) (fun _ => ?_)
      refine lv_aload_n hx hb dP_keepRing_50 rfl (lv_at hl 0 rfl) ?_
      refine va_get (D := D) (ci := 1) (v := .ref (h 8)) (C := RP) (T := TP) (N := 10) hx hb hts hinP hown hK hP 0 rfl rfl 8 (by decide) (hts _ uw42) (fun _ h9 => h9) rfl dP_keepRing_51 ?_
      refine lv_iload hx hb dP_keepRing_54 (lv_at hl 5 rfl) ?_
      refine lv_iload hx hb dP_keepRing_56 (lv_at hl 4 rfl) ?_
      refine va_iast hx hb hK hP hD hS 8 0 rfl rfl (vp_in_nI (n := i) (by omega) (by omega)) dP_keepRing_58 (fun H locs hP hD hS => ?_)
      have hP : va_P D vwCl (wP Y h n (p_rr S (upd (g_rr S) ((nI i) : Int32).toNatClampNeg x4))) H := hP
      have hD : va_D A (wP Y h n (p_rr S (upd (g_rr S) ((nI i) : Int32).toNatClampNeg x4))) := hD
      refine lv_aload_n hx hb dP_keepRing_59 rfl (lv_at hl 0 rfl) ?_
      refine lv_iload hx hb dP_keepRing_60 (lv_at hl 5 rfl) ?_
      refine lv_iconst (v := 1) hx hb dP_keepRing_62 (by decide) ?_
      refine lv_iadd hx hb dP_keepRing_63 ?_
      refine va_put (D := D) (ci := 1) (v := .int ((nI i) + 1)) (ty := .int) (C := RP) (T := TP) (N := 10) hx hb hts hinP tyP tyP_ok nmP hown hK hP hD hS 0 rfl rfl 9 (by decide) (hts _ uw41) (fun _ h9 => h9) rfl (by decide +kernel) rfl rfl (Nat.le_of_ble_eq_true rfl) dP_keepRing_64 (fun H locs hP hD hS => ?_)
      have hP : va_P D vwCl (wP Y h n (p_rl (p_rr S (upd (g_rr S) ((nI i) : Int32).toNatClampNeg x4)) (((nI i) + 1)))) H := hP
      have hD : va_D A (wP Y h n (p_rl (p_rr S (upd (g_rr S) ((nI i) : Int32).toNatClampNeg x4)) (((nI i) + 1)))) := hD
      refine lv_iload hx hb dP_keepRing_67 (lv_at hl 4 rfl) ?_
      refine lv_iload_n hx hb dP_keepRing_69 rfl (lv_at hl 1 rfl) ?_
      refine zif (C := x4 = x1) (fun c70 => ?_) (fun c70 => ?_)
      · skip
        refine lv_icmp_ne (tgt := 74) hx hb dP_keepRing_70 (by decide) (fun z => absurd c70 z) (fun _ => ?_)
        exact zMv_ret (u := (p_rl (p_rr S (upd (g_rr S) ((nI i) : Int32).toNatClampNeg x4)) (((nI i) + 1)))) hx hb hr hlocks hK hP hD hS dP_keepRing_73
      · skip
        refine lv_icmp_ne (tgt := 74) hx hb dP_keepRing_70 (by decide) (fun _ => ?_) (fun z => absurd z c70)
        refine lv_aload_n hx hb dP_keepRing_74 rfl (lv_at hl 0 rfl) ?_
        refine lv_aload_n hx hb dP_keepRing_75 rfl (lv_at hl 0 rfl) ?_
        refine va_get (D := D) (ci := 1) (v := .ref (h 1)) (C := RP) (T := TP) (N := 10) hx hb hts hinP hown hK hP 0 rfl rfl 1 (by decide) (hts _ uw9) (fun _ h9 => h9) rfl dP_keepRing_76 ?_
        refine lv_iload hx hb dP_keepRing_79 (lv_at hl 4 rfl) ?_
        refine va_iald hx hb hK hP 1 0 rfl rfl (has_in hn c47) dP_keepRing_81 ?_
        refine lv_iload_n hx hb dP_keepRing_82 rfl (lv_at hl 1 rfl) ?_
        refine qVi (rest := []) ⟨hx, hb, hml, hown, hts⟩ (kP_leadsTo l D Y h n hn (p_rl (p_rr S (upd (g_rr S) ((nI i) : Int32).toNatClampNeg x4)) (((nI i) + 1))) ((g_mo (p_rl (p_rr S (upd (g_rr S) ((nI i) : Int32).toNatClampNeg x4)) (((nI i) + 1)))) (x4 : Int32).toNatClampNeg) x1) (cwV 2 hts (gV uw38 uw39 uw40 uw8 ucP_leadsTo) rfl rfl rfl hvP_leadsTo ⟨Nat.le_of_ble_eq_true rfl, Nat.le_of_ble_eq_true rfl⟩) hK hP (va_recv hK hP (ci := 1) (q0 := 0) rfl rfl) rfl hl.1 rfl (Nat.le_of_ble_eq_true rfl) dP_keepRing_83 ⟨Nat.le_of_ble_eq_true rfl, Nat.le_of_ble_eq_true rfl⟩ ?_
        refine zif (C := (fP_leadsTo n (p_rl (p_rr S (upd (g_rr S) ((nI i) : Int32).toNatClampNeg x4)) (((nI i) + 1))) ((g_mo (p_rl (p_rr S (upd (g_rr S) ((nI i) : Int32).toNatClampNeg x4)) (((nI i) + 1)))) (x4 : Int32).toNatClampNeg) x1) = 0) (fun c86 => ?_) (fun c86 => ?_)
        · skip
          refine lv_if_eq (tgt := 99) hx hb dP_keepRing_86 (by decide) (fun _ => ?_) (fun z => absurd c86 z)
          refine lv_aload_n hx hb dP_keepRing_99 rfl (lv_at hl 0 rfl) ?_
          refine va_get (D := D) (ci := 1) (v := .ref (h 2)) (C := RP) (T := TP) (N := 10) hx hb hts hinP hown hK hP 0 rfl rfl 2 (by decide) (hts _ uw10) (fun _ h9 => h9) rfl dP_keepRing_100 ?_
          refine lv_iload hx hb dP_keepRing_103 (lv_at hl 4 rfl) ?_
          refine va_iald hx hb hK hP 2 0 rfl rfl (has_in hn c47) dP_keepRing_105 ?_
          refine lv_istore (lv' := [(4, .int ((g_fa (p_rl (p_rr S (upd (g_rr S) ((nI i) : Int32).toNatClampNeg x4)) (((nI i) + 1)))) (x4 : Int32).toNatClampNeg)), (0, .ref (h 0)), (1, .int x1), (2, .int x2), (3, .int x3), (5, .int (nI i))]) hx hb dP_keepRing_106 hl (by decide) rfl (fun ls hl => ?_)
          refine lv_iinc (v := (nI (i + 1))) (lv' := [(5, .int (nI (i + 1))), (4, .int ((g_fa (p_rl (p_rr S (upd (g_rr S) ((nI i) : Int32).toNatClampNeg x4)) (((nI i) + 1)))) (x4 : Int32).toNatClampNeg)), (0, .ref (h 0)), (1, .int x1), (2, .int x2), (3, .int x3)]) hx hb dP_keepRing_108 hl (k := 5) rfl (nI_1 _) (by decide) rfl (fun ls hl => ?_)
          refine lv_goto (tgt := 31) hx hb dP_keepRing_111 (by decide) ?_
          exact ih (i + 1) x1 x2 x3 ((g_fa (p_rl (p_rr S (upd (g_rr S) ((nI i) : Int32).toNatClampNeg x4)) (((nI i) + 1)))) (x4 : Int32).toNatClampNeg) (p_rl (p_rr S (upd (g_rr S) ((nI i) : Int32).toNatClampNeg x4)) (((nI i) + 1))) (by omega) _ _ hP hD hS ls (lv_sub hl [2, 3, 4, 5, 1, 0] rfl)
        · skip
          refine lv_if_eq (tgt := 99) hx hb dP_keepRing_86 (by decide) (fun z => absurd z c86) (fun _ => ?_)
          refine lv_aload_n hx hb dP_keepRing_89 rfl (lv_at hl 0 rfl) ?_
          refine va_get (D := D) (ci := 1) (v := .ref (h 1)) (C := RP) (T := TP) (N := 10) hx hb hts hinP hown hK hP 0 rfl rfl 1 (by decide) (hts _ uw9) (fun _ h9 => h9) rfl dP_keepRing_90 ?_
          refine lv_iload hx hb dP_keepRing_93 (lv_at hl 4 rfl) ?_
          refine va_iald hx hb hK hP 1 0 rfl rfl (has_in hn c47) dP_keepRing_95 ?_
          refine lv_goto (tgt := 106) hx hb dP_keepRing_96 (by decide) ?_
          refine lv_istore (lv' := [(4, .int ((g_mo (p_rl (p_rr S (upd (g_rr S) ((nI i) : Int32).toNatClampNeg x4)) (((nI i) + 1)))) (x4 : Int32).toNatClampNeg)), (0, .ref (h 0)), (1, .int x1), (2, .int x2), (3, .int x3), (5, .int (nI i))]) hx hb dP_keepRing_106 hl (by decide) rfl (fun ls hl => ?_)
          refine lv_iinc (v := (nI (i + 1))) (lv' := [(5, .int (nI (i + 1))), (4, .int ((g_mo (p_rl (p_rr S (upd (g_rr S) ((nI i) : Int32).toNatClampNeg x4)) (((nI i) + 1)))) (x4 : Int32).toNatClampNeg)), (0, .ref (h 0)), (1, .int x1), (2, .int x2), (3, .int x3)]) hx hb dP_keepRing_108 hl (k := 5) rfl (nI_1 _) (by decide) rfl (fun ls hl => ?_)
          refine lv_goto (tgt := 31) hx hb dP_keepRing_111 (by decide) ?_
          exact ih (i + 1) x1 x2 x3 ((g_mo (p_rl (p_rr S (upd (g_rr S) ((nI i) : Int32).toNatClampNeg x4)) (((nI i) + 1)))) (x4 : Int32).toNatClampNeg) (p_rl (p_rr S (upd (g_rr S) ((nI i) : Int32).toNatClampNeg x4)) (((nI i) + 1))) (by omega) _ _ hP hD hS ls (lv_sub hl [2, 3, 4, 5, 1, 0] rfl)
set_option maxHeartbeats 4000000 in
set_option maxRecDepth 100000 in
theorem kP_keepRing (l : Launch) (D : va_G) (Y : Nat → ClassId) (h : Nat → Nat) (n : Nat) (hn : n ≤ 24) (S : vP) (a1 : Int32) (a2 : Int32) (a3 : Int32) (sz : Nat) : Met l yP_keepRing wsP_keepRing rmP_keepRing (va_Pc [.ref (h 0), .int a1, .int a2, .int a3] (zPreM D vwCl (tysK Y) (wP Y h n S) sz)) (va_Qv (fun u => u = (fP_keepRing n S a1 a2 a3)) (zAt D vwCl (tysK Y) (va_A (wP Y h n S) sz) (wP Y h n)) (va_A (wP Y h n S) sz)) 0 0 (va_A (wP Y h n S) sz) := by
  refine Met.ofW (cc := cP_keepRing) (maxL := 6) (ret := none) (by decide) rfl ?_
  intro p e s m args below meth c s₁ B hml hv
  obtain ⟨rfl, hsz, hP, hK, hD0⟩ := hv
  have hx := B.exec
  have hb := B.bytes
  have hr := B.returns
  have hts : ∀ w ∈ uT, w.before _ s = true := fun w hw => atoms_spec (ws := wsP_keepRing) B.pre w (List.mem_cons_of_mem _ hw)
  have hown : s.vm.findClass RP = some m.cls := findClass_of_methodNamed B.named
  have hlocks := B.notSynchronized
  subst hsz
  have hD := hD0.self (sz := s.heap.size)
  generalize hAe : va_A (wP Y h n S) s.heap.size = A at hD ⊢
  have hA : ∀ q : Nat, s.heap.size ≤ q → A q := fun q h => by rw [← hAe]; exact Or.inr h
  have hS : va_S A s.heap s.heap [] := va_S.rf
  have hl := lv_entry ([.ref (h 0), .int a1, .int a2, .int a3]) (n := 6) (Nat.le_of_ble_eq_true rfl)
  rw [lg_entry_eq]
  generalize (lg_sl ([.ref (h 0), .int a1, .int a2, .int a3]) ++ List.replicate (6 - (lg_sl ([.ref (h 0), .int a1, .int a2, .int a3])).length) Slot.unset).toArray = ls at hl ⊢
  have hl : lv_has ls 6 [(0, .ref (h 0)), (1, .int a1), (2, .int a2), (3, .int a3)] := hl
  show W p l e rmP_keepRing s m _ below meth c s.heap [] 0 0 (zMv D vwCl (tysK Y) A (wP Y h n) below _ s 0 0 (fP_keepRing n S a1 a2 a3)) _
  unfold fP_keepRing
  show W p l e rmP_keepRing s m _ below meth c s.heap [] 0 0 (zMv D vwCl (tysK Y) A (wP Y h n) below _ s 0 0 _) (F0 m 0 ls [])
  refine lv_aload_n hx hb dP_keepRing_0 rfl (lv_at hl 0 rfl) ?_
  refine va_get (D := D) (ci := 1) (v := .ref (h 8)) (C := RP) (T := TP) (N := 10) hx hb hts hinP hown hK hP 0 rfl rfl 8 (by decide) (hts _ uw42) (fun _ h9 => h9) rfl dP_keepRing_1 ?_
  refine lv_iconst (v := 0) hx hb dP_keepRing_4 (by decide) ?_
  refine lv_iload_n hx hb dP_keepRing_5 rfl (lv_at hl 1 rfl) ?_
  refine va_iast hx hb hK hP hD hS 8 0 rfl rfl (vp_in_nI (n := 0) (by omega) (by omega)) dP_keepRing_6 (fun H locs hP hD hS => ?_)
  have hP : va_P D vwCl (wP Y h n (p_rr S (upd (g_rr S) (0 : Int32).toNatClampNeg a1))) H := hP
  have hD : va_D A (wP Y h n (p_rr S (upd (g_rr S) (0 : Int32).toNatClampNeg a1))) := hD
  refine lv_aload_n hx hb dP_keepRing_7 rfl (lv_at hl 0 rfl) ?_
  refine lv_iconst (v := 1) hx hb dP_keepRing_8 (by decide) ?_
  refine va_put (D := D) (ci := 1) (v := .int 1) (ty := .int) (C := RP) (T := TP) (N := 10) hx hb hts hinP tyP tyP_ok nmP hown hK hP hD hS 0 rfl rfl 9 (by decide) (hts _ uw41) (fun _ h9 => h9) rfl (by decide +kernel) rfl rfl (Nat.le_of_ble_eq_true rfl) dP_keepRing_9 (fun H locs hP hD hS => ?_)
  have hP : va_P D vwCl (wP Y h n (p_rl (p_rr S (upd (g_rr S) (0 : Int32).toNatClampNeg a1)) (1))) H := hP
  have hD : va_D A (wP Y h n (p_rl (p_rr S (upd (g_rr S) (0 : Int32).toNatClampNeg a1)) (1))) := hD
  refine lv_aload_n hx hb dP_keepRing_12 rfl (lv_at hl 0 rfl) ?_
  refine lv_iload_n hx hb dP_keepRing_13 rfl (lv_at hl 2 rfl) ?_
  refine lv_iload_n hx hb dP_keepRing_14 rfl (lv_at hl 1 rfl) ?_
  refine qVi (rest := []) ⟨hx, hb, hml, hown, hts⟩ (kP_leadsTo l D Y h n hn (p_rl (p_rr S (upd (g_rr S) (0 : Int32).toNatClampNeg a1)) (1)) a2 a1) (cwV 2 hts (gV uw38 uw39 uw40 uw8 ucP_leadsTo) rfl rfl rfl hvP_leadsTo ⟨Nat.le_of_ble_eq_true rfl, Nat.le_of_ble_eq_true rfl⟩) hK hP (va_recv hK hP (ci := 1) (q0 := 0) rfl rfl) rfl hl.1 rfl (Nat.le_of_ble_eq_true rfl) dP_keepRing_15 ⟨Nat.le_of_ble_eq_true rfl, Nat.le_of_ble_eq_true rfl⟩ ?_
  refine zif (C := (fP_leadsTo n (p_rl (p_rr S (upd (g_rr S) (0 : Int32).toNatClampNeg a1)) (1)) a2 a1) = 0) (fun c18 => ?_) (fun c18 => ?_)
  · skip
    refine lv_if_eq (tgt := 25) hx hb dP_keepRing_18 (by decide) (fun _ => ?_) (fun z => absurd c18 z)
    refine lv_iload_n hx hb dP_keepRing_25 rfl (lv_at hl 3 rfl) ?_
    refine lv_istore (lv' := [(4, .int a3), (0, .ref (h 0)), (1, .int a1), (2, .int a2), (3, .int a3)]) hx hb dP_keepRing_26 hl (by decide) rfl (fun ls hl => ?_)
    refine lv_iconst (v := 1) hx hb dP_keepRing_28 (by decide) ?_
    refine lv_istore (lv' := [(5, .int 1), (4, .int a3), (0, .ref (h 0)), (1, .int a1), (2, .int a2), (3, .int a3)]) hx hb dP_keepRing_29 hl (by decide) rfl (fun ls hl => ?_)
    exact tP_keepRing_31 hn hA ⟨hx, hb, hml, hown, hts⟩ hr hlocks hK (25 - 1) 1 a1 a2 a3 a3 (p_rl (p_rr S (upd (g_rr S) (0 : Int32).toNatClampNeg a1)) (1)) (by omega) _ _ hP hD hS ls (lv_sub hl [2, 3, 4, 5, 1, 0] rfl)
  · skip
    refine lv_if_eq (tgt := 25) hx hb dP_keepRing_18 (by decide) (fun z => absurd z c18) (fun _ => ?_)
    refine lv_iload_n hx hb dP_keepRing_21 rfl (lv_at hl 2 rfl) ?_
    refine lv_goto (tgt := 26) hx hb dP_keepRing_22 (by decide) ?_
    refine lv_istore (lv' := [(4, .int a2), (0, .ref (h 0)), (1, .int a1), (2, .int a2), (3, .int a3)]) hx hb dP_keepRing_26 hl (by decide) rfl (fun ls hl => ?_)
    refine lv_iconst (v := 1) hx hb dP_keepRing_28 (by decide) ?_
    refine lv_istore (lv' := [(5, .int 1), (4, .int a2), (0, .ref (h 0)), (1, .int a1), (2, .int a2), (3, .int a3)]) hx hb dP_keepRing_29 hl (by decide) rfl (fun ls hl => ?_)
    exact tP_keepRing_31 hn hA ⟨hx, hb, hml, hown, hts⟩ hr hlocks hK (25 - 1) 1 a1 a2 a3 a2 (p_rl (p_rr S (upd (g_rr S) (0 : Int32).toNatClampNeg a1)) (1)) (by omega) _ _ hP hD hS ls (lv_sub hl [2, 3, 4, 5, 1, 0] rfl)
abbrev rmP_setKin : Room := { frames := 1, cells := 0, slots := 0, locals := 21 }
set_option maxHeartbeats 4000000 in
set_option maxRecDepth 100000 in
theorem kP_setKin (l : Launch) (D : va_G) (Y : Nat → ClassId) (h : Nat → Nat) (n : Nat) (hn : n ≤ 24) (S : vP) (a1 : Int32) (a2 : Int32) (a3 : Int64) (sz : Nat) : Met l yP_setKin wsP_setKin rmP_setKin (va_Pc [.ref (h 0), .int a1, .int a2, .long a3] (zPreM D vwCl (tysK Y) (wP Y h n S) sz)) (va_Qv (fun u => u = (fP_setKin n S a1 a2 a3)) (zAt D vwCl (tysK Y) (va_A (wP Y h n S) sz) (wP Y h n)) (va_A (wP Y h n S) sz)) 0 0 (va_A (wP Y h n S) sz) := by
  refine Met.ofW (cc := cP_setKin) (maxL := 5) (ret := none) (by decide) rfl ?_
  intro p e s m args below meth c s₁ B hml hv
  obtain ⟨rfl, hsz, hP, hK, hD0⟩ := hv
  have hx := B.exec
  have hb := B.bytes
  have hr := B.returns
  have hts : ∀ w ∈ uT, w.before _ s = true := fun w hw => atoms_spec (ws := wsP_setKin) B.pre w (List.mem_cons_of_mem _ hw)
  have hown : s.vm.findClass RP = some m.cls := findClass_of_methodNamed B.named
  have hlocks := B.notSynchronized
  subst hsz
  have hD := hD0.self (sz := s.heap.size)
  generalize hAe : va_A (wP Y h n S) s.heap.size = A at hD ⊢
  have hA : ∀ q : Nat, s.heap.size ≤ q → A q := fun q h => by rw [← hAe]; exact Or.inr h
  have hS : va_S A s.heap s.heap [] := va_S.rf
  have hl := lv_entry ([.ref (h 0), .int a1, .int a2, .long a3]) (n := 5) (Nat.le_of_ble_eq_true rfl)
  rw [lg_entry_eq]
  generalize (lg_sl ([.ref (h 0), .int a1, .int a2, .long a3]) ++ List.replicate (5 - (lg_sl ([.ref (h 0), .int a1, .int a2, .long a3])).length) Slot.unset).toArray = ls at hl ⊢
  have hl : lv_has ls 5 [(0, .ref (h 0)), (1, .int a1), (2, .int a2), (3, .long a3)] := hl
  show W p l e rmP_setKin s m _ below meth c s.heap [] 0 0 (zMv D vwCl (tysK Y) A (wP Y h n) below _ s 0 0 (fP_setKin n S a1 a2 a3)) _
  unfold fP_setKin
  show W p l e rmP_setKin s m _ below meth c s.heap [] 0 0 (zMv D vwCl (tysK Y) A (wP Y h n) below _ s 0 0 _) (F0 m 0 ls [])
  refine lv_aload_n hx hb dP_setKin_0 rfl (lv_at hl 0 rfl) ?_
  refine lv_iload_n hx hb dP_setKin_1 rfl (lv_at hl 1 rfl) ?_
  refine qVi (rest := []) ⟨hx, hb, hml, hown, hts⟩ (kP_has l D Y h n hn S a1) (cwV 1 hts (gV uw5 uw6 uw7 uw8 ucP_has) rfl rfl rfl hvP_has ⟨Nat.le_of_ble_eq_true rfl, Nat.le_of_ble_eq_true rfl⟩) hK hP (va_recv hK hP (ci := 1) (q0 := 0) rfl rfl) rfl hl.1 rfl (Nat.le_of_ble_eq_true rfl) dP_setKin_2 ⟨Nat.le_of_ble_eq_true rfl, Nat.le_of_ble_eq_true rfl⟩ ?_
  refine zif (C := (fP_has n a1) = 0) (fun c5 => ?_) (fun c5 => ?_)
  · skip
    refine lv_if_eq (tgt := 40) hx hb dP_setKin_5 (by decide) (fun _ => ?_) (fun z => absurd c5 z)
    exact zMv_ret (u := S) hx hb hr hlocks hK hP hD hS dP_setKin_40
  · skip
    refine lv_if_eq (tgt := 40) hx hb dP_setKin_5 (by decide) (fun z => absurd z c5) (fun _ => ?_)
    refine lv_aload_n hx hb dP_setKin_8 rfl (lv_at hl 0 rfl) ?_
    refine lv_iload_n hx hb dP_setKin_9 rfl (lv_at hl 2 rfl) ?_
    refine qVi (rest := []) ⟨hx, hb, hml, hown, hts⟩ (kP_has l D Y h n hn S a2) (cwV 1 hts (gV uw5 uw6 uw7 uw8 ucP_has) rfl rfl rfl hvP_has ⟨Nat.le_of_ble_eq_true rfl, Nat.le_of_ble_eq_true rfl⟩) hK hP (va_recv hK hP (ci := 1) (q0 := 0) rfl rfl) rfl hl.1 rfl (Nat.le_of_ble_eq_true rfl) dP_setKin_10 ⟨Nat.le_of_ble_eq_true rfl, Nat.le_of_ble_eq_true rfl⟩ ?_
    refine zif (C := (fP_has n a2) = 0) (fun c13 => ?_) (fun c13 => ?_)
    · skip
      refine lv_if_eq (tgt := 40) hx hb dP_setKin_13 (by decide) (fun _ => ?_) (fun z => absurd c13 z)
      exact zMv_ret (u := S) hx hb hr hlocks hK hP hD hS dP_setKin_40
    · skip
      refine lv_if_eq (tgt := 40) hx hb dP_setKin_13 (by decide) (fun z => absurd z c13) (fun _ => ?_)
      refine lv_aload_n hx hb dP_setKin_16 rfl (lv_at hl 0 rfl) ?_
      refine va_get (D := D) (ci := 1) (v := .ref (h 6)) (C := RP) (T := TP) (N := 10) hx hb hts hinP hown hK hP 0 rfl rfl 6 (by decide) (hts _ uw16) (fun _ h9 => h9) rfl dP_setKin_17 ?_
      refine lv_iload_n hx hb dP_setKin_20 rfl (lv_at hl 1 rfl) ?_
      refine lv_bipush (v := 24) hx hb dP_setKin_21 (by decide) ?_
      refine lv_imul hx hb dP_setKin_23 ?_
      refine lv_iload_n hx hb dP_setKin_24 rfl (lv_at hl 2 rfl) ?_
      refine lv_iadd hx hb dP_setKin_25 ?_
      refine lv_lload_n hx hb dP_setKin_26 rfl (lv_at hl 3 rfl) ?_
      refine va_last hx hb hK hP hD hS 6 1 rfl rfl (kt_in hn c5 c13) dP_setKin_27 (fun H locs hP hD hS => ?_)
      have hP : va_P D vwCl (wP Y h n (p_kt S (vp_updL (g_kt S) (((a1 * 24) + a2) : Int32).toNatClampNeg a3))) H := hP
      have hD : va_D A (wP Y h n (p_kt S (vp_updL (g_kt S) (((a1 * 24) + a2) : Int32).toNatClampNeg a3))) := hD
      refine lv_aload_n hx hb dP_setKin_28 rfl (lv_at hl 0 rfl) ?_
      refine va_get (D := D) (ci := 1) (v := .ref (h 6)) (C := RP) (T := TP) (N := 10) hx hb hts hinP hown hK hP 0 rfl rfl 6 (by decide) (hts _ uw16) (fun _ h9 => h9) rfl dP_setKin_29 ?_
      refine lv_iload_n hx hb dP_setKin_32 rfl (lv_at hl 2 rfl) ?_
      refine lv_bipush (v := 24) hx hb dP_setKin_33 (by decide) ?_
      refine lv_imul hx hb dP_setKin_35 ?_
      refine lv_iload_n hx hb dP_setKin_36 rfl (lv_at hl 1 rfl) ?_
      refine lv_iadd hx hb dP_setKin_37 ?_
      refine lv_lload_n hx hb dP_setKin_38 rfl (lv_at hl 3 rfl) ?_
      refine va_last hx hb hK hP hD hS 6 1 rfl rfl (kt_in hn c13 c5) dP_setKin_39 (fun H locs hP hD hS => ?_)
      have hP : va_P D vwCl (wP Y h n (p_kt (p_kt S (vp_updL (g_kt S) (((a1 * 24) + a2) : Int32).toNatClampNeg a3)) (vp_updL (g_kt (p_kt S (vp_updL (g_kt S) (((a1 * 24) + a2) : Int32).toNatClampNeg a3))) (((a2 * 24) + a1) : Int32).toNatClampNeg a3))) H := hP
      have hD : va_D A (wP Y h n (p_kt (p_kt S (vp_updL (g_kt S) (((a1 * 24) + a2) : Int32).toNatClampNeg a3)) (vp_updL (g_kt (p_kt S (vp_updL (g_kt S) (((a1 * 24) + a2) : Int32).toNatClampNeg a3))) (((a2 * 24) + a1) : Int32).toNatClampNeg a3))) := hD
      exact zMv_ret (u := (p_kt (p_kt S (vp_updL (g_kt S) (((a1 * 24) + a2) : Int32).toNatClampNeg a3)) (vp_updL (g_kt (p_kt S (vp_updL (g_kt S) (((a1 * 24) + a2) : Int32).toNatClampNeg a3))) (((a2 * 24) + a1) : Int32).toNatClampNeg a3))) hx hb hr hlocks hK hP hD hS dP_setKin_40
abbrev rmP_reckonForbears : Room := { frames := 2, cells := 0, slots := 0, locals := 42 }
set_option maxHeartbeats 4000000 in
set_option maxRecDepth 100000 in
theorem kP_reckonForbears (l : Launch) (D : va_G) (Y : Nat → ClassId) (h : Nat → Nat) (n : Nat) (hn : n ≤ 24) (S : vP) (a1 : Int32) (sz : Nat) : Met l yP_reckonForbears wsP_reckonForbears rmP_reckonForbears (va_Pc [.ref (h 0), .int a1] (zPreM D vwCl (tysK Y) (wP Y h n S) sz)) (va_Qv (fun u => u = (fP_reckonForbears n S a1)) (zAt D vwCl (tysK Y) (va_A (wP Y h n S) sz) (wP Y h n)) (va_A (wP Y h n S) sz)) 0 0 (va_A (wP Y h n S) sz) := by
  refine Met.ofW (cc := cP_reckonForbears) (maxL := 2) (ret := none) (by decide) rfl ?_
  intro p e s m args below meth c s₁ B hml hv
  obtain ⟨rfl, hsz, hP, hK, hD0⟩ := hv
  have hx := B.exec
  have hb := B.bytes
  have hr := B.returns
  have hts : ∀ w ∈ uT, w.before _ s = true := fun w hw => atoms_spec (ws := wsP_reckonForbears) B.pre w (List.mem_cons_of_mem _ hw)
  have hown : s.vm.findClass RP = some m.cls := findClass_of_methodNamed B.named
  have hlocks := B.notSynchronized
  subst hsz
  have hD := hD0.self (sz := s.heap.size)
  generalize hAe : va_A (wP Y h n S) s.heap.size = A at hD ⊢
  have hA : ∀ q : Nat, s.heap.size ≤ q → A q := fun q h => by rw [← hAe]; exact Or.inr h
  have hS : va_S A s.heap s.heap [] := va_S.rf
  have hl := lv_entry ([.ref (h 0), .int a1]) (n := 2) (Nat.le_of_ble_eq_true rfl)
  rw [lg_entry_eq]
  generalize (lg_sl ([.ref (h 0), .int a1]) ++ List.replicate (2 - (lg_sl ([.ref (h 0), .int a1])).length) Slot.unset).toArray = ls at hl ⊢
  have hl : lv_has ls 2 [(0, .ref (h 0)), (1, .int a1)] := hl
  show W p l e rmP_reckonForbears s m _ below meth c s.heap [] 0 0 (zMv D vwCl (tysK Y) A (wP Y h n) below _ s 0 0 (fP_reckonForbears n S a1)) _
  unfold fP_reckonForbears
  show W p l e rmP_reckonForbears s m _ below meth c s.heap [] 0 0 (zMv D vwCl (tysK Y) A (wP Y h n) below _ s 0 0 _) (F0 m 0 ls [])
  refine lv_aload_n hx hb dP_reckonForbears_0 rfl (lv_at hl 0 rfl) ?_
  refine lv_iload_n hx hb dP_reckonForbears_1 rfl (lv_at hl 1 rfl) ?_
  refine qVi (rest := []) ⟨hx, hb, hml, hown, hts⟩ (kP_has l D Y h n hn S a1) (cwV 1 hts (gV uw5 uw6 uw7 uw8 ucP_has) rfl rfl rfl hvP_has ⟨Nat.le_of_ble_eq_true rfl, Nat.le_of_ble_eq_true rfl⟩) hK hP (va_recv hK hP (ci := 1) (q0 := 0) rfl rfl) rfl hl.1 rfl (Nat.le_of_ble_eq_true rfl) dP_reckonForbears_2 ⟨Nat.le_of_ble_eq_true rfl, Nat.le_of_ble_eq_true rfl⟩ ?_
  refine zif (C := (fP_has n a1) = 0) (fun c5 => ?_) (fun c5 => ?_)
  · skip
    refine lv_if_eq (tgt := 35) hx hb dP_reckonForbears_5 (by decide) (fun _ => ?_) (fun z => absurd c5 z)
    exact zMv_ret (u := S) hx hb hr hlocks hK hP hD hS dP_reckonForbears_35
  · skip
    refine lv_if_eq (tgt := 35) hx hb dP_reckonForbears_5 (by decide) (fun z => absurd z c5) (fun _ => ?_)
    refine lv_aload_n hx hb dP_reckonForbears_8 rfl (lv_at hl 0 rfl) ?_
    refine va_get (D := D) (ci := 1) (v := .ref (h 5)) (C := RP) (T := TP) (N := 10) hx hb hts hinP hown hK hP 0 rfl rfl 5 (by decide) (hts _ uw13) (fun _ h9 => h9) rfl dP_reckonForbears_9 ?_
    refine lv_iload_n hx hb dP_reckonForbears_12 rfl (lv_at hl 1 rfl) ?_
    refine lv_aload_n hx hb dP_reckonForbears_13 rfl (lv_at hl 0 rfl) ?_
    refine lv_aload_n hx hb dP_reckonForbears_14 rfl (lv_at hl 0 rfl) ?_
    refine va_get (D := D) (ci := 1) (v := .ref (h 1)) (C := RP) (T := TP) (N := 10) hx hb hts hinP hown hK hP 0 rfl rfl 1 (by decide) (hts _ uw9) (fun _ h9 => h9) rfl dP_reckonForbears_15 ?_
    refine lv_iload_n hx hb dP_reckonForbears_18 rfl (lv_at hl 1 rfl) ?_
    refine va_iald hx hb hK hP 1 0 rfl rfl (has_in hn c5) dP_reckonForbears_19 ?_
    refine qVi (rest := [.int a1, .ref (h 5)]) ⟨hx, hb, hml, hown, hts⟩ (kP_lineOf l D Y h n hn S ((g_mo S) (a1 : Int32).toNatClampNeg)) (cwV 1 hts (gV uw50 uw51 uw52 uw8 ucP_lineOf) rfl rfl rfl hvP_lineOf ⟨Nat.le_of_ble_eq_true rfl, Nat.le_of_ble_eq_true rfl⟩) hK hP (va_recv hK hP (ci := 1) (q0 := 0) rfl rfl) rfl hl.1 rfl (Nat.le_of_ble_eq_true rfl) dP_reckonForbears_20 ⟨Nat.le_of_ble_eq_true rfl, Nat.le_of_ble_eq_true rfl⟩ ?_
    refine lv_aload_n hx hb dP_reckonForbears_23 rfl (lv_at hl 0 rfl) ?_
    refine lv_aload_n hx hb dP_reckonForbears_24 rfl (lv_at hl 0 rfl) ?_
    refine va_get (D := D) (ci := 1) (v := .ref (h 2)) (C := RP) (T := TP) (N := 10) hx hb hts hinP hown hK hP 0 rfl rfl 2 (by decide) (hts _ uw10) (fun _ h9 => h9) rfl dP_reckonForbears_25 ?_
    refine lv_iload_n hx hb dP_reckonForbears_28 rfl (lv_at hl 1 rfl) ?_
    refine va_iald hx hb hK hP 2 0 rfl rfl (has_in hn c5) dP_reckonForbears_29 ?_
    refine qVi (rest := [.int (fP_lineOf n S ((g_mo S) (a1 : Int32).toNatClampNeg)), .int a1, .ref (h 5)]) ⟨hx, hb, hml, hown, hts⟩ (kP_lineOf l D Y h n hn S ((g_fa S) (a1 : Int32).toNatClampNeg)) (cwV 1 hts (gV uw50 uw51 uw52 uw8 ucP_lineOf) rfl rfl rfl hvP_lineOf ⟨Nat.le_of_ble_eq_true rfl, Nat.le_of_ble_eq_true rfl⟩) hK hP (va_recv hK hP (ci := 1) (q0 := 0) rfl rfl) rfl hl.1 rfl (Nat.le_of_ble_eq_true rfl) dP_reckonForbears_30 ⟨Nat.le_of_ble_eq_true rfl, Nat.le_of_ble_eq_true rfl⟩ ?_
    refine lv_ior hx hb dP_reckonForbears_33 ?_
    refine va_iast hx hb hK hP hD hS 5 0 rfl rfl (has_in hn c5) dP_reckonForbears_34 (fun H locs hP hD hS => ?_)
    have hP : va_P D vwCl (wP Y h n (p_fb S (upd (g_fb S) (a1 : Int32).toNatClampNeg ((fP_lineOf n S ((g_mo S) (a1 : Int32).toNatClampNeg)) ||| (fP_lineOf n S ((g_fa S) (a1 : Int32).toNatClampNeg)))))) H := hP
    have hD : va_D A (wP Y h n (p_fb S (upd (g_fb S) (a1 : Int32).toNatClampNeg ((fP_lineOf n S ((g_mo S) (a1 : Int32).toNatClampNeg)) ||| (fP_lineOf n S ((g_fa S) (a1 : Int32).toNatClampNeg)))))) := hD
    exact zMv_ret (u := (p_fb S (upd (g_fb S) (a1 : Int32).toNatClampNeg ((fP_lineOf n S ((g_mo S) (a1 : Int32).toNatClampNeg)) ||| (fP_lineOf n S ((g_fa S) (a1 : Int32).toNatClampNeg)))))) hx hb hr hlocks hK hP hD hS dP_reckonForbears_35
abbrev rmP_reckonKin : Room := { frames := 2, cells := 0, slots := 0, locals := 45 }
set_option maxHeartbeats 4000000 in
set_option maxRecDepth 100000 in
theorem tP_reckonKin_22 {p : Program} {l : Launch} {e : Env} {s : State} {m : MethodId} {args : Array Value} {below : List Frame} {meth : Method} {c : Code} {D : va_G} {Y : Nat → ClassId} {h : Nat → Nat} {n : Nat} (hn : n ≤ 24) {A : Nat → Prop} (hA : ∀ q : Nat, s.heap.size ≤ q → A q) (CF : CallFix p m c cP_reckonKin 7 s args uT RP) (hr : meth.sig.returnType = none) (hlocks : meth.locks = false) (hK : va_K D vwCl (tysK Y) s) : ∀ (k i : Nat) (x1 : Nat) (x2 : Int32) (x3 : Int32) (x4 : Int32) (S : vP), i + k = x1 → x1 ≤ 24 → ∀ (H : Heap) (locs : List Loc), va_P D vwCl (wP Y h n S) H → va_D A (wP Y h n S) → va_S A s.heap H locs → ∀ ls : Array Slot, lv_has ls 7 [(0, .ref (h 0)), (1, .int (nI x1)), (2, .int x2), (3, .int x3), (4, .int x4), (5, .int (nI i))] → W p l e rmP_reckonKin s m args below meth c H locs 0 0 (zMv D vwCl (tysK Y) A (wP Y h n) below args s 0 0 (fP_reckonKin_22 n k i x1 x2 x3 x4 S)) (F0 m 22 ls []) := by
  obtain ⟨hx, hb, hml, hown, hts⟩ := CF
  intro k
  induction k with
  | zero =>
    intro i x1 x2 x3 x4 S hi hx1 H locs hP hD hS ls hl
    rw [fP_reckonKin_22]
    refine lv_iload hx hb dP_reckonKin_22 (lv_at hl 5 rfl) ?_
    refine lv_iload_n hx hb dP_reckonKin_24 rfl (lv_at hl 1 rfl) ?_
    refine lv_icmp_ge (tgt := 69) hx hb dP_reckonKin_25 (by decide) (fun _ => ?_) (fun z => absurd (lp_ge (n := x1) hi) z)
    refine lv_aload_n hx hb dP_reckonKin_69 rfl (lv_at hl 0 rfl) ?_
    refine lv_iload_n hx hb dP_reckonKin_70 rfl (lv_at hl 2 rfl) ?_
    refine lv_iload_n hx hb dP_reckonKin_71 rfl (lv_at hl 2 rfl) ?_
    refine lv_ldc2 (v := 1073741824) hx hb hown (hts _ uw26) dP_reckonKin_72 ?_
    refine lv_aload_n hx hb dP_reckonKin_75 rfl (lv_at hl 0 rfl) ?_
    refine lv_iload_n hx hb dP_reckonKin_76 rfl (lv_at hl 3 rfl) ?_
    refine lv_iload hx hb dP_reckonKin_77 (lv_at hl 4 rfl) ?_
    refine qVl (rest := [.long 1073741824, .int x2, .int x2, .ref (h 0)]) ⟨hx, hb, hml, hown, hts⟩ (kP_kinOf l D Y h n hn S x3 x4) (cwV 2 hts (gV uw23 uw24 uw25 uw8 ucP_kinOf) rfl rfl rfl hvP_kinOf ⟨Nat.le_of_ble_eq_true rfl, Nat.le_of_ble_eq_true rfl⟩) hK hP (va_recv hK hP (ci := 1) (q0 := 0) rfl rfl) rfl hl.1 rfl (Nat.le_of_ble_eq_true rfl) dP_reckonKin_79 ⟨Nat.le_of_ble_eq_true rfl, Nat.le_of_ble_eq_true rfl⟩ ?_
    refine lv_ladd hx hb dP_reckonKin_82 ?_
    refine lv_ldc2 (v := 2) hx hb hown (hts _ uw49) dP_reckonKin_83 ?_
    refine lv_ldiv hx hb dP_reckonKin_86 (by decide) ?_
    refine qNVv (w := wP Y h n) (rest := []) ⟨hx, hb, hml, hown, hts⟩ (kP_setKin l D Y h n hn S x2 x2 ((1073741824 + (fP_kinOf n S x3 x4)) / 2) _) (cwV 3 hts (gV uw53 uw54 uw55 uw8 ucP_setKin) rfl rfl rfl hvP_setKin ⟨Nat.le_of_ble_eq_true rfl, Nat.le_of_ble_eq_true rfl⟩) hK hP hD hS hA (va_recv hK hP (ci := 1) (q0 := 0) rfl rfl) rfl hl.1 rfl (Nat.le_of_ble_eq_true rfl) dP_reckonKin_87 ⟨Nat.le_of_ble_eq_true rfl, Nat.le_of_ble_eq_true rfl⟩ (fun H locs hP hD hS => ?_)
    exact zMv_ret (u := (fP_setKin n S x2 x2 ((1073741824 + (fP_kinOf n S x3 x4)) / 2))) hx hb hr hlocks hK hP hD hS dP_reckonKin_90
  | succ k ih =>
    intro i x1 x2 x3 x4 S hi hx1 H locs hP hD hS ls hl
    rw [fP_reckonKin_22]
    refine lv_iload hx hb dP_reckonKin_22 (lv_at hl 5 rfl) ?_
    refine lv_iload_n hx hb dP_reckonKin_24 rfl (lv_at hl 1 rfl) ?_
    refine lv_icmp_ge (tgt := 69) hx hb dP_reckonKin_25 (by decide) (fun z => absurd z (lp_lt (n := x1) hi (by omega))) (fun _ => ?_)
    refine lv_aload_n hx hb dP_reckonKin_28 rfl (lv_at hl 0 rfl) ?_
    refine lv_iload hx hb dP_reckonKin_29 (lv_at hl 5 rfl) ?_
    refine qVi (rest := []) ⟨hx, hb, hml, hown, hts⟩ (kP_inOrder l D Y h n hn S (nI i)) (cwV 1 hts (gV uw46 uw47 uw48 uw8 ucP_inOrder) rfl rfl rfl hvP_inOrder ⟨Nat.le_of_ble_eq_true rfl, Nat.le_of_ble_eq_true rfl⟩) hK hP (va_recv hK hP (ci := 1) (q0 := 0) rfl rfl) rfl hl.1 rfl (Nat.le_of_ble_eq_true rfl) dP_reckonKin_31 ⟨Nat.le_of_ble_eq_true rfl, Nat.le_of_ble_eq_true rfl⟩ ?_
    refine lv_istore (lv' := [(6, .int (fP_inOrder n S (nI i))), (0, .ref (h 0)), (1, .int (nI x1)), (2, .int x2), (3, .int x3), (4, .int x4), (5, .int (nI i))]) hx hb dP_reckonKin_34 hl (by decide) rfl (fun ls hl => ?_)
    refine lv_aload_n hx hb dP_reckonKin_36 rfl (lv_at hl 1 rfl) ?_
    refine lv_iload_n hx hb dP_reckonKin_37 rfl (lv_at hl 3 rfl) ?_
    refine lv_iload hx hb dP_reckonKin_38 (lv_at hl 0 rfl) ?_
    refine lv_aload_n hx hb dP_reckonKin_40 rfl (lv_at hl 1 rfl) ?_
    refine lv_iload_n hx hb dP_reckonKin_41 rfl (lv_at hl 4 rfl) ?_
    refine lv_iload hx hb dP_reckonKin_42 (lv_at hl 0 rfl) ?_
    refine qVl (rest := [.int (fP_inOrder n S (nI i)), .int x2, .ref (h 0)]) ⟨hx, hb, hml, hown, hts⟩ (kP_kinOf l D Y h n hn S x3 (fP_inOrder n S (nI i))) (cwV 2 hts (gV uw23 uw24 uw25 uw8 ucP_kinOf) rfl rfl rfl hvP_kinOf ⟨Nat.le_of_ble_eq_true rfl, Nat.le_of_ble_eq_true rfl⟩) hK hP (va_recv hK hP (ci := 1) (q0 := 0) rfl rfl) rfl hl.1 rfl (Nat.le_of_ble_eq_true rfl) dP_reckonKin_44 ⟨Nat.le_of_ble_eq_true rfl, Nat.le_of_ble_eq_true rfl⟩ ?_
    refine lv_aload_n hx hb dP_reckonKin_47 rfl (lv_at hl 1 rfl) ?_
    refine lv_iload hx hb dP_reckonKin_48 (lv_at hl 5 rfl) ?_
    refine lv_iload hx hb dP_reckonKin_50 (lv_at hl 0 rfl) ?_
    refine qVl (rest := [.long (fP_kinOf n S x3 (fP_inOrder n S (nI i))), .int (fP_inOrder n S (nI i)), .int x2, .ref (h 0)]) ⟨hx, hb, hml, hown, hts⟩ (kP_kinOf l D Y h n hn S x4 (fP_inOrder n S (nI i))) (cwV 2 hts (gV uw23 uw24 uw25 uw8 ucP_kinOf) rfl rfl rfl hvP_kinOf ⟨Nat.le_of_ble_eq_true rfl, Nat.le_of_ble_eq_true rfl⟩) hK hP (va_recv hK hP (ci := 1) (q0 := 0) rfl rfl) rfl hl.1 rfl (Nat.le_of_ble_eq_true rfl) dP_reckonKin_52 ⟨Nat.le_of_ble_eq_true rfl, Nat.le_of_ble_eq_true rfl⟩ ?_
    refine lv_ladd hx hb dP_reckonKin_55 ?_
    refine lv_ldc2 (v := 2) hx hb hown (hts _ uw49) dP_reckonKin_56 ?_
    refine lv_ldiv hx hb dP_reckonKin_59 (by decide) ?_
    refine qNVv (w := wP Y h n) (rest := []) ⟨hx, hb, hml, hown, hts⟩ (kP_setKin l D Y h n hn S x2 (fP_inOrder n S (nI i)) (((fP_kinOf n S x3 (fP_inOrder n S (nI i))) + (fP_kinOf n S x4 (fP_inOrder n S (nI i)))) / 2) _) (cwV 3 hts (gV uw53 uw54 uw55 uw8 ucP_setKin) rfl rfl rfl hvP_setKin ⟨Nat.le_of_ble_eq_true rfl, Nat.le_of_ble_eq_true rfl⟩) hK hP hD hS hA (va_recv hK hP (ci := 1) (q0 := 0) rfl rfl) rfl hl.1 rfl (Nat.le_of_ble_eq_true rfl) dP_reckonKin_60 ⟨Nat.le_of_ble_eq_true rfl, Nat.le_of_ble_eq_true rfl⟩ (fun H locs hP hD hS => ?_)
    refine lv_iinc (v := (nI (i + 1))) (lv' := [(5, .int (nI (i + 1))), (6, .int (fP_inOrder n S (nI i))), (0, .ref (h 0)), (1, .int (nI x1)), (2, .int x2), (3, .int x3), (4, .int x4)]) hx hb dP_reckonKin_63 hl (k := 6) rfl (nI_1 _) (by decide) rfl (fun ls hl => ?_)
    refine lv_goto (tgt := 22) hx hb dP_reckonKin_66 (by decide) ?_
    exact ih (i + 1) x1 x2 x3 x4 (fP_setKin n S x2 (fP_inOrder n S (nI i)) (((fP_kinOf n S x3 (fP_inOrder n S (nI i))) + (fP_kinOf n S x4 (fP_inOrder n S (nI i)))) / 2)) (by omega) (hx1) _ _ hP hD hS ls (lv_sub hl [2, 3, 4, 5, 6, 0] rfl)
set_option maxHeartbeats 4000000 in
set_option maxRecDepth 100000 in
theorem kP_reckonKin (l : Launch) (D : va_G) (Y : Nat → ClassId) (h : Nat → Nat) (n : Nat) (hn : n ≤ 24) (S : vP) (a1 : Nat) (ha1 : a1 ≤ 24) (sz : Nat) : Met l yP_reckonKin wsP_reckonKin rmP_reckonKin (va_Pc [.ref (h 0), .int (nI a1)] (zPreM D vwCl (tysK Y) (wP Y h n S) sz)) (va_Qv (fun u => u = (fP_reckonKin n S a1)) (zAt D vwCl (tysK Y) (va_A (wP Y h n S) sz) (wP Y h n)) (va_A (wP Y h n S) sz)) 0 0 (va_A (wP Y h n S) sz) := by
  refine Met.ofW (cc := cP_reckonKin) (maxL := 7) (ret := none) (by decide) rfl ?_
  intro p e s m args below meth c s₁ B hml hv
  obtain ⟨rfl, hsz, hP, hK, hD0⟩ := hv
  have hx := B.exec
  have hb := B.bytes
  have hr := B.returns
  have hts : ∀ w ∈ uT, w.before _ s = true := fun w hw => atoms_spec (ws := wsP_reckonKin) B.pre w (List.mem_cons_of_mem _ hw)
  have hown : s.vm.findClass RP = some m.cls := findClass_of_methodNamed B.named
  have hlocks := B.notSynchronized
  subst hsz
  have hD := hD0.self (sz := s.heap.size)
  generalize hAe : va_A (wP Y h n S) s.heap.size = A at hD ⊢
  have hA : ∀ q : Nat, s.heap.size ≤ q → A q := fun q h => by rw [← hAe]; exact Or.inr h
  have hS : va_S A s.heap s.heap [] := va_S.rf
  have hl := lv_entry ([.ref (h 0), .int (nI a1)]) (n := 7) (Nat.le_of_ble_eq_true rfl)
  rw [lg_entry_eq]
  generalize (lg_sl ([.ref (h 0), .int (nI a1)]) ++ List.replicate (7 - (lg_sl ([.ref (h 0), .int (nI a1)])).length) Slot.unset).toArray = ls at hl ⊢
  have hl : lv_has ls 7 [(0, .ref (h 0)), (1, .int (nI a1))] := hl
  show W p l e rmP_reckonKin s m _ below meth c s.heap [] 0 0 (zMv D vwCl (tysK Y) A (wP Y h n) below _ s 0 0 (fP_reckonKin n S a1)) _
  unfold fP_reckonKin
  show W p l e rmP_reckonKin s m _ below meth c s.heap [] 0 0 (zMv D vwCl (tysK Y) A (wP Y h n) below _ s 0 0 _) (F0 m 0 ls [])
  refine lv_aload_n hx hb dP_reckonKin_0 rfl (lv_at hl 0 rfl) ?_
  refine lv_iload_n hx hb dP_reckonKin_1 rfl (lv_at hl 1 rfl) ?_
  refine qVi (rest := []) ⟨hx, hb, hml, hown, hts⟩ (kP_inOrder l D Y h n hn S (nI a1)) (cwV 1 hts (gV uw46 uw47 uw48 uw8 ucP_inOrder) rfl rfl rfl hvP_inOrder ⟨Nat.le_of_ble_eq_true rfl, Nat.le_of_ble_eq_true rfl⟩) hK hP (va_recv hK hP (ci := 1) (q0 := 0) rfl rfl) rfl hl.1 rfl (Nat.le_of_ble_eq_true rfl) dP_reckonKin_2 ⟨Nat.le_of_ble_eq_true rfl, Nat.le_of_ble_eq_true rfl⟩ ?_
  refine lv_istore_n (lv' := [(2, .int (fP_inOrder n S (nI a1))), (0, .ref (h 0)), (1, .int (nI a1))]) hx hb dP_reckonKin_5 rfl hl (by decide) rfl (fun ls hl => ?_)
  refine lv_aload_n hx hb dP_reckonKin_6 rfl (lv_at hl 1 rfl) ?_
  refine lv_iload_n hx hb dP_reckonKin_7 rfl (lv_at hl 0 rfl) ?_
  refine qVi (rest := []) ⟨hx, hb, hml, hown, hts⟩ (kP_motherOf l D Y h n hn S (fP_inOrder n S (nI a1))) (cwV 1 hts (gV uw17 uw18 uw19 uw8 ucP_motherOf) rfl rfl rfl hvP_motherOf ⟨Nat.le_of_ble_eq_true rfl, Nat.le_of_ble_eq_true rfl⟩) hK hP (va_recv hK hP (ci := 1) (q0 := 0) rfl rfl) rfl hl.1 rfl (Nat.le_of_ble_eq_true rfl) dP_reckonKin_8 ⟨Nat.le_of_ble_eq_true rfl, Nat.le_of_ble_eq_true rfl⟩ ?_
  refine lv_istore_n (lv' := [(3, .int (fP_motherOf n S (fP_inOrder n S (nI a1)))), (2, .int (fP_inOrder n S (nI a1))), (0, .ref (h 0)), (1, .int (nI a1))]) hx hb dP_reckonKin_11 rfl hl (by decide) rfl (fun ls hl => ?_)
  refine lv_aload_n hx hb dP_reckonKin_12 rfl (lv_at hl 2 rfl) ?_
  refine lv_iload_n hx hb dP_reckonKin_13 rfl (lv_at hl 1 rfl) ?_
  refine qVi (rest := []) ⟨hx, hb, hml, hown, hts⟩ (kP_fatherOf l D Y h n hn S (fP_inOrder n S (nI a1))) (cwV 1 hts (gV uw20 uw21 uw22 uw8 ucP_fatherOf) rfl rfl rfl hvP_fatherOf ⟨Nat.le_of_ble_eq_true rfl, Nat.le_of_ble_eq_true rfl⟩) hK hP (va_recv hK hP (ci := 1) (q0 := 0) rfl rfl) rfl hl.1 rfl (Nat.le_of_ble_eq_true rfl) dP_reckonKin_14 ⟨Nat.le_of_ble_eq_true rfl, Nat.le_of_ble_eq_true rfl⟩ ?_
  refine lv_istore (lv' := [(4, .int (fP_fatherOf n S (fP_inOrder n S (nI a1)))), (3, .int (fP_motherOf n S (fP_inOrder n S (nI a1)))), (2, .int (fP_inOrder n S (nI a1))), (0, .ref (h 0)), (1, .int (nI a1))]) hx hb dP_reckonKin_17 hl (by decide) rfl (fun ls hl => ?_)
  refine lv_iconst (v := 0) hx hb dP_reckonKin_19 (by decide) ?_
  refine lv_istore (lv' := [(5, .int 0), (4, .int (fP_fatherOf n S (fP_inOrder n S (nI a1)))), (3, .int (fP_motherOf n S (fP_inOrder n S (nI a1)))), (2, .int (fP_inOrder n S (nI a1))), (0, .ref (h 0)), (1, .int (nI a1))]) hx hb dP_reckonKin_20 hl (by decide) rfl (fun ls hl => ?_)
  exact tP_reckonKin_22 hn hA ⟨hx, hb, hml, hown, hts⟩ hr hlocks hK a1 0 a1 (fP_inOrder n S (nI a1)) (fP_motherOf n S (fP_inOrder n S (nI a1))) (fP_fatherOf n S (fP_inOrder n S (nI a1))) S (by omega) (ha1) _ _ hP hD hS ls (lv_sub hl [4, 5, 3, 2, 1, 0] rfl)
abbrev rmP_reckonOrder : Room := { frames := 0, cells := 0, slots := 0, locals := 0 }
set_option maxHeartbeats 4000000 in
set_option maxRecDepth 100000 in
theorem tP_reckonOrder_14 {p : Program} {l : Launch} {e : Env} {s : State} {m : MethodId} {args : Array Value} {below : List Frame} {meth : Method} {c : Code} {D : va_G} {Y : Nat → ClassId} {h : Nat → Nat} {n : Nat} (hn : n ≤ 24) {A : Nat → Prop} (hA : ∀ q : Nat, s.heap.size ≤ q → A q) (CF : CallFix p m c cP_reckonOrder 4 s args uT RP) (hr : meth.sig.returnType = none) (hlocks : meth.locks = false) (hK : va_K D vwCl (tysK Y) s) {Q : State → Prop} : ∀ (k i : Nat) (x1 : Nat) (x2 : Nat) (S : vP), i + k = n → x1 ≤ n → ∀ (H : Heap) (locs : List Loc), va_P D vwCl (wP Y h n S) H → va_D A (wP Y h n S) → va_S A s.heap H locs → ∀ ls : Array Slot, lv_has ls 4 [(0, .ref (h 0)), (1, .int (nI x1)), (2, .int (nI x2)), (3, .int (nI i))] → (∀ (H : Heap) (locs : List Loc), va_P D vwCl (wP Y h n ((fP_reckonOrder_14 n k i x1 x2 S).2)) H → va_D A (wP Y h n ((fP_reckonOrder_14 n k i x1 x2 S).2)) → va_S A s.heap H locs → ∀ ls : Array Slot, lv_has ls 4 [(0, .ref (h 0)), (1, .int (nI ((fP_reckonOrder_14 n k i x1 x2 S).1))), (2, .int (nI x2))] → W p l e rmP_reckonOrder s m args below meth c H locs 0 0 Q (F0 m 56 ls [])) → W p l e rmP_reckonOrder s m args below meth c H locs 0 0 Q (F0 m 14 ls []) := by
  obtain ⟨hx, hb, hml, hown, hts⟩ := CF
  intro k
  induction k with
  | zero =>
    intro i x1 x2 S hi hx1 H locs hP hD hS ls hl kk
    refine lv_iload_n hx hb dP_reckonOrder_14 rfl (lv_at hl 3 rfl) ?_
    refine lv_aload_n hx hb dP_reckonOrder_15 rfl (lv_at hl 0 rfl) ?_
    refine va_get (D := D) (ci := 1) (v := .int (nI n)) (C := RP) (T := TP) (N := 10) hx hb hts hinP hown hK hP 0 rfl rfl 0 (by decide) (hts _ uw4) (fun _ h9 => h9) rfl dP_reckonOrder_16 ?_
    refine lv_icmp_ge (tgt := 56) hx hb dP_reckonOrder_19 (by decide) (fun _ => ?_) (fun z => absurd (lp_ge (n := n) hi) z)
    exact kk _ _ hP hD hS ls (lv_sub hl [0, 1, 2] rfl)
  | succ k ih =>
    intro i x1 x2 S hi hx1 H locs hP hD hS ls hl kk
    rw [fP_reckonOrder_14] at kk
    refine lv_iload_n hx hb dP_reckonOrder_14 rfl (lv_at hl 3 rfl) ?_
    refine lv_aload_n hx hb dP_reckonOrder_15 rfl (lv_at hl 0 rfl) ?_
    refine va_get (D := D) (ci := 1) (v := .int (nI n)) (C := RP) (T := TP) (N := 10) hx hb hts hinP hown hK hP 0 rfl rfl 0 (by decide) (hts _ uw4) (fun _ h9 => h9) rfl dP_reckonOrder_16 ?_
    refine lv_icmp_ge (tgt := 56) hx hb dP_reckonOrder_19 (by decide) (fun z => absurd z (lp_lt (n := n) hi (by omega))) (fun _ => ?_)
    refine lv_aload_n hx hb dP_reckonOrder_22 rfl (lv_at hl 0 rfl) ?_
    refine va_get (D := D) (ci := 1) (v := .ref (h 3)) (C := RP) (T := TP) (N := 10) hx hb hts hinP hown hK hP 0 rfl rfl 3 (by decide) (hts _ uw11) (fun _ h9 => h9) rfl dP_reckonOrder_23 ?_
    refine lv_iload_n hx hb dP_reckonOrder_26 rfl (lv_at hl 3 rfl) ?_
    refine va_iald hx hb hK hP 3 0 rfl rfl (vp_in_nI (n := i) (by omega) (by omega)) dP_reckonOrder_27 ?_
    refine lv_iload_n hx hb dP_reckonOrder_28 rfl (lv_at hl 2 rfl) ?_
    by_cases c29 : ((g_st S) ((nI i) : Int32).toNatClampNeg) = (nI x2)
    · skip
      simp only [if_pos c29] at kk
      refine lv_icmp_ne (tgt := 50) hx hb dP_reckonOrder_29 (by decide) (fun z => absurd c29 z) (fun _ => ?_)
      refine lv_iload_n hx hb dP_reckonOrder_32 rfl (lv_at hl 1 rfl) ?_
      refine lv_aload_n hx hb dP_reckonOrder_33 rfl (lv_at hl 0 rfl) ?_
      refine va_get (D := D) (ci := 1) (v := .int (nI n)) (C := RP) (T := TP) (N := 10) hx hb hts hinP hown hK hP 0 rfl rfl 0 (by decide) (hts _ uw4) (fun _ h9 => h9) rfl dP_reckonOrder_34 ?_
      by_cases c37 : (nI n) ≤ (nI x1)
      · skip
        simp only [if_pos c37] at kk
        refine lv_icmp_ge (tgt := 50) hx hb dP_reckonOrder_37 (by decide) (fun _ => ?_) (fun z => absurd c37 z)
        refine lv_iinc (v := (nI (i + 1))) (lv' := [(3, .int (nI (i + 1))), (0, .ref (h 0)), (1, .int (nI x1)), (2, .int (nI x2))]) hx hb dP_reckonOrder_50 hl (k := 3) rfl (nI_1 _) (by decide) rfl (fun ls hl => ?_)
        refine lv_goto (tgt := 14) hx hb dP_reckonOrder_53 (by decide) ?_
        exact ih (i + 1) x1 x2 S (by omega) (hx1) _ _ hP hD hS ls (lv_sub hl [1, 2, 3, 0] rfl) kk
      · skip
        simp only [if_neg c37] at kk
        refine lv_icmp_ge (tgt := 50) hx hb dP_reckonOrder_37 (by decide) (fun z => absurd z c37) (fun _ => ?_)
        refine lv_aload_n hx hb dP_reckonOrder_40 rfl (lv_at hl 0 rfl) ?_
        refine va_get (D := D) (ci := 1) (v := .ref (h 4)) (C := RP) (T := TP) (N := 10) hx hb hts hinP hown hK hP 0 rfl rfl 4 (by decide) (hts _ uw12) (fun _ h9 => h9) rfl dP_reckonOrder_41 ?_
        refine lv_iload_n hx hb dP_reckonOrder_44 rfl (lv_at hl 1 rfl) ?_
        refine lv_iload_n hx hb dP_reckonOrder_45 rfl (lv_at hl 3 rfl) ?_
        refine va_iast hx hb hK hP hD hS 4 0 rfl rfl (vp_in_nI (Nat.lt_of_lt_of_le (ord_lt hx1 hn c37) hn) (by decide)) dP_reckonOrder_46 (fun H locs hP hD hS => ?_)
        have hP : va_P D vwCl (wP Y h n (p_sq S (upd (g_sq S) ((nI x1) : Int32).toNatClampNeg (nI i)))) H := hP
        have hD : va_D A (wP Y h n (p_sq S (upd (g_sq S) ((nI x1) : Int32).toNatClampNeg (nI i)))) := hD
        refine lv_iinc (v := (nI (x1 + 1))) (lv' := [(1, .int (nI (x1 + 1))), (0, .ref (h 0)), (2, .int (nI x2)), (3, .int (nI i))]) hx hb dP_reckonOrder_47 hl (k := 1) rfl (nI_1 _) (by decide) rfl (fun ls hl => ?_)
        refine lv_iinc (v := (nI (i + 1))) (lv' := [(3, .int (nI (i + 1))), (1, .int (nI (x1 + 1))), (0, .ref (h 0)), (2, .int (nI x2))]) hx hb dP_reckonOrder_50 hl (k := 3) rfl (nI_1 _) (by decide) rfl (fun ls hl => ?_)
        refine lv_goto (tgt := 14) hx hb dP_reckonOrder_53 (by decide) ?_
        exact ih (i + 1) (x1 + 1) x2 (p_sq S (upd (g_sq S) ((nI x1) : Int32).toNatClampNeg (nI i))) (by omega) (ord_lt hx1 hn c37) _ _ hP hD hS ls (lv_sub hl [2, 1, 3, 0] rfl) kk
    · skip
      simp only [if_neg c29] at kk
      refine lv_icmp_ne (tgt := 50) hx hb dP_reckonOrder_29 (by decide) (fun _ => ?_) (fun z => absurd z c29)
      refine lv_iinc (v := (nI (i + 1))) (lv' := [(3, .int (nI (i + 1))), (0, .ref (h 0)), (1, .int (nI x1)), (2, .int (nI x2))]) hx hb dP_reckonOrder_50 hl (k := 3) rfl (nI_1 _) (by decide) rfl (fun ls hl => ?_)
      refine lv_goto (tgt := 14) hx hb dP_reckonOrder_53 (by decide) ?_
      exact ih (i + 1) x1 x2 S (by omega) (hx1) _ _ hP hD hS ls (lv_sub hl [1, 2, 3, 0] rfl) kk
set_option maxHeartbeats 4000000 in
set_option maxRecDepth 100000 in
theorem tP_reckonOrder_4 {p : Program} {l : Launch} {e : Env} {s : State} {m : MethodId} {args : Array Value} {below : List Frame} {meth : Method} {c : Code} {D : va_G} {Y : Nat → ClassId} {h : Nat → Nat} {n : Nat} (hn : n ≤ 24) {A : Nat → Prop} (hA : ∀ q : Nat, s.heap.size ≤ q → A q) (CF : CallFix p m c cP_reckonOrder 4 s args uT RP) (hr : meth.sig.returnType = none) (hlocks : meth.locks = false) (hK : va_K D vwCl (tysK Y) s) : ∀ (k i : Nat) (x1 : Nat) (S : vP), i + k = n → x1 ≤ n → ∀ (H : Heap) (locs : List Loc), va_P D vwCl (wP Y h n S) H → va_D A (wP Y h n S) → va_S A s.heap H locs → ∀ ls : Array Slot, lv_has ls 4 [(0, .ref (h 0)), (1, .int (nI x1)), (2, .int (nI i))] → W p l e rmP_reckonOrder s m args below meth c H locs 0 0 (zMv D vwCl (tysK Y) A (wP Y h n) below args s 0 0 (fP_reckonOrder_4 n k i x1 S)) (F0 m 4 ls []) := by
  obtain ⟨hx, hb, hml, hown, hts⟩ := CF
  intro k
  induction k with
  | zero =>
    intro i x1 S hi hx1 H locs hP hD hS ls hl
    rw [fP_reckonOrder_4]
    refine lv_iload_n hx hb dP_reckonOrder_4 rfl (lv_at hl 2 rfl) ?_
    refine lv_aload_n hx hb dP_reckonOrder_5 rfl (lv_at hl 0 rfl) ?_
    refine va_get (D := D) (ci := 1) (v := .int (nI n)) (C := RP) (T := TP) (N := 10) hx hb hts hinP hown hK hP 0 rfl rfl 0 (by decide) (hts _ uw4) (fun _ h9 => h9) rfl dP_reckonOrder_6 ?_
    refine lv_icmp_ge (tgt := 62) hx hb dP_reckonOrder_9 (by decide) (fun _ => ?_) (fun z => absurd (lp_ge (n := n) hi) z)
    exact zMv_ret (u := S) hx hb hr hlocks hK hP hD hS dP_reckonOrder_62
  | succ k ih =>
    intro i x1 S hi hx1 H locs hP hD hS ls hl
    rw [fP_reckonOrder_4]
    refine lv_iload_n hx hb dP_reckonOrder_4 rfl (lv_at hl 2 rfl) ?_
    refine lv_aload_n hx hb dP_reckonOrder_5 rfl (lv_at hl 0 rfl) ?_
    refine va_get (D := D) (ci := 1) (v := .int (nI n)) (C := RP) (T := TP) (N := 10) hx hb hts hinP hown hK hP 0 rfl rfl 0 (by decide) (hts _ uw4) (fun _ h9 => h9) rfl dP_reckonOrder_6 ?_
    refine lv_icmp_ge (tgt := 62) hx hb dP_reckonOrder_9 (by decide) (fun z => absurd z (lp_lt (n := n) hi (by omega))) (fun _ => ?_)
    refine lv_iconst (v := 0) hx hb dP_reckonOrder_12 (by decide) ?_
    refine lv_istore_n (lv' := [(3, .int 0), (0, .ref (h 0)), (1, .int (nI x1)), (2, .int (nI i))]) hx hb dP_reckonOrder_13 rfl hl (by decide) rfl (fun ls hl => ?_)
    refine tP_reckonOrder_14 hn hA ⟨hx, hb, hml, hown, hts⟩ hr hlocks hK n 0 x1 i S (by omega) (hx1) _ _ hP hD hS ls (lv_sub hl [1, 2, 3, 0] rfl) (fun H locs hP hD hS ls hl => ?_)
    refine lv_iinc (v := (nI (i + 1))) (lv' := [(2, .int (nI (i + 1))), (0, .ref (h 0)), (1, .int (nI ((fP_reckonOrder_14 n n 0 x1 i S).1)))]) hx hb dP_reckonOrder_56 hl (k := 2) rfl (nI_1 _) (by decide) rfl (fun ls hl => ?_)
    refine lv_goto (tgt := 4) hx hb dP_reckonOrder_59 (by decide) ?_
    exact ih (i + 1) ((fP_reckonOrder_14 n n 0 x1 i S).1) ((fP_reckonOrder_14 n n 0 x1 i S).2) (by omega) (fP_reckonOrder_14_le hn hx1) _ _ hP hD hS ls (lv_sub hl [1, 2, 0] rfl)
set_option maxHeartbeats 4000000 in
set_option maxRecDepth 100000 in
theorem kP_reckonOrder (l : Launch) (D : va_G) (Y : Nat → ClassId) (h : Nat → Nat) (n : Nat) (hn : n ≤ 24) (S : vP) (sz : Nat) : Met l yP_reckonOrder wsP_reckonOrder rmP_reckonOrder (va_Pc [.ref (h 0)] (zPreM D vwCl (tysK Y) (wP Y h n S) sz)) (va_Qv (fun u => u = (fP_reckonOrder n S)) (zAt D vwCl (tysK Y) (va_A (wP Y h n S) sz) (wP Y h n)) (va_A (wP Y h n S) sz)) 0 0 (va_A (wP Y h n S) sz) := by
  refine Met.ofW (cc := cP_reckonOrder) (maxL := 4) (ret := none) (by decide) rfl ?_
  intro p e s m args below meth c s₁ B hml hv
  obtain ⟨rfl, hsz, hP, hK, hD0⟩ := hv
  have hx := B.exec
  have hb := B.bytes
  have hr := B.returns
  have hts : ∀ w ∈ uT, w.before _ s = true := fun w hw => atoms_spec (ws := wsP_reckonOrder) B.pre w (List.mem_cons_of_mem _ hw)
  have hown : s.vm.findClass RP = some m.cls := findClass_of_methodNamed B.named
  have hlocks := B.notSynchronized
  subst hsz
  have hD := hD0.self (sz := s.heap.size)
  generalize hAe : va_A (wP Y h n S) s.heap.size = A at hD ⊢
  have hA : ∀ q : Nat, s.heap.size ≤ q → A q := fun q h => by rw [← hAe]; exact Or.inr h
  have hS : va_S A s.heap s.heap [] := va_S.rf
  have hl := lv_entry ([.ref (h 0)]) (n := 4) (Nat.le_of_ble_eq_true rfl)
  rw [lg_entry_eq]
  generalize (lg_sl ([.ref (h 0)]) ++ List.replicate (4 - (lg_sl ([.ref (h 0)])).length) Slot.unset).toArray = ls at hl ⊢
  have hl : lv_has ls 4 [(0, .ref (h 0))] := hl
  show W p l e rmP_reckonOrder s m _ below meth c s.heap [] 0 0 (zMv D vwCl (tysK Y) A (wP Y h n) below _ s 0 0 (fP_reckonOrder n S)) _
  unfold fP_reckonOrder
  show W p l e rmP_reckonOrder s m _ below meth c s.heap [] 0 0 (zMv D vwCl (tysK Y) A (wP Y h n) below _ s 0 0 _) (F0 m 0 ls [])
  refine lv_iconst (v := 0) hx hb dP_reckonOrder_0 (by decide) ?_
  refine lv_istore_n (lv' := [(1, .int 0), (0, .ref (h 0))]) hx hb dP_reckonOrder_1 rfl hl (by decide) rfl (fun ls hl => ?_)
  refine lv_iconst (v := 0) hx hb dP_reckonOrder_2 (by decide) ?_
  refine lv_istore_n (lv' := [(2, .int 0), (1, .int 0), (0, .ref (h 0))]) hx hb dP_reckonOrder_3 rfl hl (by decide) rfl (fun ls hl => ?_)
  exact tP_reckonOrder_4 hn hA ⟨hx, hb, hml, hown, hts⟩ hr hlocks hK n 0 0 S (by omega) (Nat.zero_le _) _ _ hP hD hS ls (lv_sub hl [2, 1, 0] rfl)
abbrev rmP_reckonSteps : Room := { frames := 2, cells := 0, slots := 0, locals := 42 }
set_option maxHeartbeats 4000000 in
set_option maxRecDepth 100000 in
theorem tP_reckonSteps_28 {p : Program} {l : Launch} {e : Env} {s : State} {m : MethodId} {args : Array Value} {below : List Frame} {meth : Method} {c : Code} {D : va_G} {Y : Nat → ClassId} {h : Nat → Nat} {n : Nat} (hn : n ≤ 24) {A : Nat → Prop} (hA : ∀ q : Nat, s.heap.size ≤ q → A q) (CF : CallFix p m c cP_reckonSteps 5 s args uT RP) (hr : meth.sig.returnType = none) (hlocks : meth.locks = false) (hK : va_K D vwCl (tysK Y) s) {Q : State → Prop} : ∀ (k i : Nat) (x1 : Int32) (x2 : Nat) (S : vP), i + k = n → ∀ (H : Heap) (locs : List Loc), va_P D vwCl (wP Y h n S) H → va_D A (wP Y h n S) → va_S A s.heap H locs → ∀ ls : Array Slot, lv_has ls 5 [(0, .ref (h 0)), (1, .int x1), (2, .int (nI x2)), (3, .int (nI i))] → (∀ (H : Heap) (locs : List Loc), va_P D vwCl (wP Y h n ((fP_reckonSteps_28 n k i x1 x2 S).2)) H → va_D A (wP Y h n ((fP_reckonSteps_28 n k i x1 x2 S).2)) → va_S A s.heap H locs → ∀ ls : Array Slot, lv_has ls 5 [(0, .ref (h 0)), (1, .int ((fP_reckonSteps_28 n k i x1 x2 S).1)), (2, .int (nI x2))] → W p l e rmP_reckonSteps s m args below meth c H locs 0 0 Q (F0 m 98 ls [])) → W p l e rmP_reckonSteps s m args below meth c H locs 0 0 Q (F0 m 28 ls []) := by
  obtain ⟨hx, hb, hml, hown, hts⟩ := CF
  intro k
  induction k with
  | zero =>
    intro i x1 x2 S hi  H locs hP hD hS ls hl kk
    refine lv_iload_n hx hb dP_reckonSteps_28 rfl (lv_at hl 3 rfl) ?_
    refine lv_aload_n hx hb dP_reckonSteps_29 rfl (lv_at hl 0 rfl) ?_
    refine va_get (D := D) (ci := 1) (v := .int (nI n)) (C := RP) (T := TP) (N := 10) hx hb hts hinP hown hK hP 0 rfl rfl 0 (by decide) (hts _ uw4) (fun _ h9 => h9) rfl dP_reckonSteps_30 ?_
    refine lv_icmp_ge (tgt := 98) hx hb dP_reckonSteps_33 (by decide) (fun _ => ?_) (fun z => absurd (lp_ge (n := n) hi) z)
    exact kk _ _ hP hD hS ls (lv_sub hl [0, 1, 2] rfl)
  | succ k ih =>
    intro i x1 x2 S hi  H locs hP hD hS ls hl kk
    rw [fP_reckonSteps_28] at kk
    refine lv_iload_n hx hb dP_reckonSteps_28 rfl (lv_at hl 3 rfl) ?_
    refine lv_aload_n hx hb dP_reckonSteps_29 rfl (lv_at hl 0 rfl) ?_
    refine va_get (D := D) (ci := 1) (v := .int (nI n)) (C := RP) (T := TP) (N := 10) hx hb hts hinP hown hK hP 0 rfl rfl 0 (by decide) (hts _ uw4) (fun _ h9 => h9) rfl dP_reckonSteps_30 ?_
    refine lv_icmp_ge (tgt := 98) hx hb dP_reckonSteps_33 (by decide) (fun z => absurd z (lp_lt (n := n) hi (by omega))) (fun _ => ?_)
    refine lv_aload_n hx hb dP_reckonSteps_36 rfl (lv_at hl 0 rfl) ?_
    refine lv_aload_n hx hb dP_reckonSteps_37 rfl (lv_at hl 0 rfl) ?_
    refine va_get (D := D) (ci := 1) (v := .ref (h 1)) (C := RP) (T := TP) (N := 10) hx hb hts hinP hown hK hP 0 rfl rfl 1 (by decide) (hts _ uw9) (fun _ h9 => h9) rfl dP_reckonSteps_38 ?_
    refine lv_iload_n hx hb dP_reckonSteps_41 rfl (lv_at hl 3 rfl) ?_
    refine va_iald hx hb hK hP 1 0 rfl rfl (vp_in_nI (n := i) (by omega) (by omega)) dP_reckonSteps_42 ?_
    refine qVi (rest := []) ⟨hx, hb, hml, hown, hts⟩ (kP_stepsOf l D Y h n hn S ((g_mo S) ((nI i) : Int32).toNatClampNeg)) (cwV 1 hts (gV uw59 uw60 uw61 uw8 ucP_stepsOf) rfl rfl rfl hvP_stepsOf ⟨Nat.le_of_ble_eq_true rfl, Nat.le_of_ble_eq_true rfl⟩) hK hP (va_recv hK hP (ci := 1) (q0 := 0) rfl rfl) rfl hl.1 rfl (Nat.le_of_ble_eq_true rfl) dP_reckonSteps_43 ⟨Nat.le_of_ble_eq_true rfl, Nat.le_of_ble_eq_true rfl⟩ ?_
    refine lv_aload_n hx hb dP_reckonSteps_46 rfl (lv_at hl 0 rfl) ?_
    refine lv_aload_n hx hb dP_reckonSteps_47 rfl (lv_at hl 0 rfl) ?_
    refine va_get (D := D) (ci := 1) (v := .ref (h 2)) (C := RP) (T := TP) (N := 10) hx hb hts hinP hown hK hP 0 rfl rfl 2 (by decide) (hts _ uw10) (fun _ h9 => h9) rfl dP_reckonSteps_48 ?_
    refine lv_iload_n hx hb dP_reckonSteps_51 rfl (lv_at hl 3 rfl) ?_
    refine va_iald hx hb hK hP 2 0 rfl rfl (vp_in_nI (n := i) (by omega) (by omega)) dP_reckonSteps_52 ?_
    refine qVi (rest := [.int (fP_stepsOf n S ((g_mo S) ((nI i) : Int32).toNatClampNeg))]) ⟨hx, hb, hml, hown, hts⟩ (kP_stepsOf l D Y h n hn S ((g_fa S) ((nI i) : Int32).toNatClampNeg)) (cwV 1 hts (gV uw59 uw60 uw61 uw8 ucP_stepsOf) rfl rfl rfl hvP_stepsOf ⟨Nat.le_of_ble_eq_true rfl, Nat.le_of_ble_eq_true rfl⟩) hK hP (va_recv hK hP (ci := 1) (q0 := 0) rfl rfl) rfl hl.1 rfl (Nat.le_of_ble_eq_true rfl) dP_reckonSteps_53 ⟨Nat.le_of_ble_eq_true rfl, Nat.le_of_ble_eq_true rfl⟩ ?_
    refine q_max hx hb (hml.trans hl.1.symm) hown (hts _ uw62) (hts _ uw63) (hts _ uw64) (hts _ ucJ_max) (Nat.le_of_ble_eq_true rfl) (Nat.le_of_ble_eq_true rfl) (Nat.le_of_ble_eq_true rfl) (Nat.le_of_ble_eq_true rfl) dP_reckonSteps_56 ?_
    refine lv_iconst (v := 1) hx hb dP_reckonSteps_59 (by decide) ?_
    refine lv_iadd hx hb dP_reckonSteps_60 ?_
    refine lv_istore (lv' := [(4, .int ((fJ_max (fP_stepsOf n S ((g_mo S) ((nI i) : Int32).toNatClampNeg)) (fP_stepsOf n S ((g_fa S) ((nI i) : Int32).toNatClampNeg))) + 1)), (0, .ref (h 0)), (1, .int x1), (2, .int (nI x2)), (3, .int (nI i))]) hx hb dP_reckonSteps_61 hl (by decide) rfl (fun ls hl => ?_)
    refine lv_iload_n hx hb dP_reckonSteps_63 rfl (lv_at hl 2 rfl) ?_
    by_cases c64 : x1 = 0
    · skip
      simp only [if_pos c64] at kk
      refine lv_if_ne (tgt := 78) hx hb dP_reckonSteps_64 (by decide) (fun z => absurd c64 z) (fun _ => ?_)
      refine lv_iload hx hb dP_reckonSteps_67 (lv_at hl 0 rfl) ?_
      refine lv_aload_n hx hb dP_reckonSteps_69 rfl (lv_at hl 1 rfl) ?_
      refine va_get (D := D) (ci := 1) (v := .ref (h 3)) (C := RP) (T := TP) (N := 10) hx hb hts hinP hown hK hP 0 rfl rfl 3 (by decide) (hts _ uw11) (fun _ h9 => h9) rfl dP_reckonSteps_70 ?_
      refine lv_iload_n hx hb dP_reckonSteps_73 rfl (lv_at hl 4 rfl) ?_
      refine va_iald hx hb hK hP 3 0 rfl rfl (vp_in_nI (n := i) (by omega) (by omega)) dP_reckonSteps_74 ?_
      by_cases c75 : ((fJ_max (fP_stepsOf n S ((g_mo S) ((nI i) : Int32).toNatClampNeg)) (fP_stepsOf n S ((g_fa S) ((nI i) : Int32).toNatClampNeg))) + 1) = ((g_st S) ((nI i) : Int32).toNatClampNeg)
      · skip
        simp only [if_pos c75] at kk
        refine lv_icmp_eq (tgt := 82) hx hb dP_reckonSteps_75 (by decide) (fun _ => ?_) (fun z => absurd c75 z)
        refine lv_iconst (v := 0) hx hb dP_reckonSteps_82 (by decide) ?_
        refine lv_istore_n (lv' := [(1, .int 0), (4, .int ((fJ_max (fP_stepsOf n S ((g_mo S) ((nI i) : Int32).toNatClampNeg)) (fP_stepsOf n S ((g_fa S) ((nI i) : Int32).toNatClampNeg))) + 1)), (0, .ref (h 0)), (2, .int (nI x2)), (3, .int (nI i))]) hx hb dP_reckonSteps_83 rfl hl (by decide) rfl (fun ls hl => ?_)
        refine lv_aload_n hx hb dP_reckonSteps_84 rfl (lv_at hl 2 rfl) ?_
        refine va_get (D := D) (ci := 1) (v := .ref (h 3)) (C := RP) (T := TP) (N := 10) hx hb hts hinP hown hK hP 0 rfl rfl 3 (by decide) (hts _ uw11) (fun _ h9 => h9) rfl dP_reckonSteps_85 ?_
        refine lv_iload_n hx hb dP_reckonSteps_88 rfl (lv_at hl 4 rfl) ?_
        refine lv_iload hx hb dP_reckonSteps_89 (lv_at hl 1 rfl) ?_
        refine va_iast hx hb hK hP hD hS 3 0 rfl rfl (vp_in_nI (n := i) (by omega) (by omega)) dP_reckonSteps_91 (fun H locs hP hD hS => ?_)
        have hP : va_P D vwCl (wP Y h n (p_st S (upd (g_st S) ((nI i) : Int32).toNatClampNeg ((fJ_max (fP_stepsOf n S ((g_mo S) ((nI i) : Int32).toNatClampNeg)) (fP_stepsOf n S ((g_fa S) ((nI i) : Int32).toNatClampNeg))) + 1)))) H := hP
        have hD : va_D A (wP Y h n (p_st S (upd (g_st S) ((nI i) : Int32).toNatClampNeg ((fJ_max (fP_stepsOf n S ((g_mo S) ((nI i) : Int32).toNatClampNeg)) (fP_stepsOf n S ((g_fa S) ((nI i) : Int32).toNatClampNeg))) + 1)))) := hD
        refine lv_iinc (v := (nI (i + 1))) (lv' := [(3, .int (nI (i + 1))), (1, .int 0), (4, .int ((fJ_max (fP_stepsOf n S ((g_mo S) ((nI i) : Int32).toNatClampNeg)) (fP_stepsOf n S ((g_fa S) ((nI i) : Int32).toNatClampNeg))) + 1)), (0, .ref (h 0)), (2, .int (nI x2))]) hx hb dP_reckonSteps_92 hl (k := 4) rfl (nI_1 _) (by decide) rfl (fun ls hl => ?_)
        refine lv_goto (tgt := 28) hx hb dP_reckonSteps_95 (by decide) ?_
        exact ih (i + 1) 0 x2 (p_st S (upd (g_st S) ((nI i) : Int32).toNatClampNeg ((fJ_max (fP_stepsOf n S ((g_mo S) ((nI i) : Int32).toNatClampNeg)) (fP_stepsOf n S ((g_fa S) ((nI i) : Int32).toNatClampNeg))) + 1))) (by omega) _ _ hP hD hS ls (lv_sub hl [3, 1, 4, 0] rfl) kk
      · skip
        simp only [if_neg c75] at kk
        refine lv_icmp_eq (tgt := 82) hx hb dP_reckonSteps_75 (by decide) (fun z => absurd z c75) (fun _ => ?_)
        refine lv_iconst (v := 1) hx hb dP_reckonSteps_78 (by decide) ?_
        refine lv_goto (tgt := 83) hx hb dP_reckonSteps_79 (by decide) ?_
        refine lv_istore_n (lv' := [(1, .int 1), (4, .int ((fJ_max (fP_stepsOf n S ((g_mo S) ((nI i) : Int32).toNatClampNeg)) (fP_stepsOf n S ((g_fa S) ((nI i) : Int32).toNatClampNeg))) + 1)), (0, .ref (h 0)), (2, .int (nI x2)), (3, .int (nI i))]) hx hb dP_reckonSteps_83 rfl hl (by decide) rfl (fun ls hl => ?_)
        refine lv_aload_n hx hb dP_reckonSteps_84 rfl (lv_at hl 2 rfl) ?_
        refine va_get (D := D) (ci := 1) (v := .ref (h 3)) (C := RP) (T := TP) (N := 10) hx hb hts hinP hown hK hP 0 rfl rfl 3 (by decide) (hts _ uw11) (fun _ h9 => h9) rfl dP_reckonSteps_85 ?_
        refine lv_iload_n hx hb dP_reckonSteps_88 rfl (lv_at hl 4 rfl) ?_
        refine lv_iload hx hb dP_reckonSteps_89 (lv_at hl 1 rfl) ?_
        refine va_iast hx hb hK hP hD hS 3 0 rfl rfl (vp_in_nI (n := i) (by omega) (by omega)) dP_reckonSteps_91 (fun H locs hP hD hS => ?_)
        have hP : va_P D vwCl (wP Y h n (p_st S (upd (g_st S) ((nI i) : Int32).toNatClampNeg ((fJ_max (fP_stepsOf n S ((g_mo S) ((nI i) : Int32).toNatClampNeg)) (fP_stepsOf n S ((g_fa S) ((nI i) : Int32).toNatClampNeg))) + 1)))) H := hP
        have hD : va_D A (wP Y h n (p_st S (upd (g_st S) ((nI i) : Int32).toNatClampNeg ((fJ_max (fP_stepsOf n S ((g_mo S) ((nI i) : Int32).toNatClampNeg)) (fP_stepsOf n S ((g_fa S) ((nI i) : Int32).toNatClampNeg))) + 1)))) := hD
        refine lv_iinc (v := (nI (i + 1))) (lv' := [(3, .int (nI (i + 1))), (1, .int 1), (4, .int ((fJ_max (fP_stepsOf n S ((g_mo S) ((nI i) : Int32).toNatClampNeg)) (fP_stepsOf n S ((g_fa S) ((nI i) : Int32).toNatClampNeg))) + 1)), (0, .ref (h 0)), (2, .int (nI x2))]) hx hb dP_reckonSteps_92 hl (k := 4) rfl (nI_1 _) (by decide) rfl (fun ls hl => ?_)
        refine lv_goto (tgt := 28) hx hb dP_reckonSteps_95 (by decide) ?_
        exact ih (i + 1) 1 x2 (p_st S (upd (g_st S) ((nI i) : Int32).toNatClampNeg ((fJ_max (fP_stepsOf n S ((g_mo S) ((nI i) : Int32).toNatClampNeg)) (fP_stepsOf n S ((g_fa S) ((nI i) : Int32).toNatClampNeg))) + 1))) (by omega) _ _ hP hD hS ls (lv_sub hl [3, 1, 4, 0] rfl) kk
    · skip
      simp only [if_neg c64] at kk
      refine lv_if_ne (tgt := 78) hx hb dP_reckonSteps_64 (by decide) (fun _ => ?_) (fun z => absurd z c64)
      refine lv_iconst (v := 1) hx hb dP_reckonSteps_78 (by decide) ?_
      refine lv_goto (tgt := 83) hx hb dP_reckonSteps_79 (by decide) ?_
      refine lv_istore_n (lv' := [(1, .int 1), (4, .int ((fJ_max (fP_stepsOf n S ((g_mo S) ((nI i) : Int32).toNatClampNeg)) (fP_stepsOf n S ((g_fa S) ((nI i) : Int32).toNatClampNeg))) + 1)), (0, .ref (h 0)), (2, .int (nI x2)), (3, .int (nI i))]) hx hb dP_reckonSteps_83 rfl hl (by decide) rfl (fun ls hl => ?_)
      refine lv_aload_n hx hb dP_reckonSteps_84 rfl (lv_at hl 2 rfl) ?_
      refine va_get (D := D) (ci := 1) (v := .ref (h 3)) (C := RP) (T := TP) (N := 10) hx hb hts hinP hown hK hP 0 rfl rfl 3 (by decide) (hts _ uw11) (fun _ h9 => h9) rfl dP_reckonSteps_85 ?_
      refine lv_iload_n hx hb dP_reckonSteps_88 rfl (lv_at hl 4 rfl) ?_
      refine lv_iload hx hb dP_reckonSteps_89 (lv_at hl 1 rfl) ?_
      refine va_iast hx hb hK hP hD hS 3 0 rfl rfl (vp_in_nI (n := i) (by omega) (by omega)) dP_reckonSteps_91 (fun H locs hP hD hS => ?_)
      have hP : va_P D vwCl (wP Y h n (p_st S (upd (g_st S) ((nI i) : Int32).toNatClampNeg ((fJ_max (fP_stepsOf n S ((g_mo S) ((nI i) : Int32).toNatClampNeg)) (fP_stepsOf n S ((g_fa S) ((nI i) : Int32).toNatClampNeg))) + 1)))) H := hP
      have hD : va_D A (wP Y h n (p_st S (upd (g_st S) ((nI i) : Int32).toNatClampNeg ((fJ_max (fP_stepsOf n S ((g_mo S) ((nI i) : Int32).toNatClampNeg)) (fP_stepsOf n S ((g_fa S) ((nI i) : Int32).toNatClampNeg))) + 1)))) := hD
      refine lv_iinc (v := (nI (i + 1))) (lv' := [(3, .int (nI (i + 1))), (1, .int 1), (4, .int ((fJ_max (fP_stepsOf n S ((g_mo S) ((nI i) : Int32).toNatClampNeg)) (fP_stepsOf n S ((g_fa S) ((nI i) : Int32).toNatClampNeg))) + 1)), (0, .ref (h 0)), (2, .int (nI x2))]) hx hb dP_reckonSteps_92 hl (k := 4) rfl (nI_1 _) (by decide) rfl (fun ls hl => ?_)
      refine lv_goto (tgt := 28) hx hb dP_reckonSteps_95 (by decide) ?_
      exact ih (i + 1) 1 x2 (p_st S (upd (g_st S) ((nI i) : Int32).toNatClampNeg ((fJ_max (fP_stepsOf n S ((g_mo S) ((nI i) : Int32).toNatClampNeg)) (fP_stepsOf n S ((g_fa S) ((nI i) : Int32).toNatClampNeg))) + 1))) (by omega) _ _ hP hD hS ls (lv_sub hl [3, 1, 4, 0] rfl) kk
set_option maxHeartbeats 4000000 in
set_option maxRecDepth 100000 in
theorem tP_reckonSteps_12 {p : Program} {l : Launch} {e : Env} {s : State} {m : MethodId} {args : Array Value} {below : List Frame} {meth : Method} {c : Code} {D : va_G} {Y : Nat → ClassId} {h : Nat → Nat} {n : Nat} (hn : n ≤ 24) {A : Nat → Prop} (hA : ∀ q : Nat, s.heap.size ≤ q → A q) (CF : CallFix p m c cP_reckonSteps 5 s args uT RP) (hr : meth.sig.returnType = none) (hlocks : meth.locks = false) (hK : va_K D vwCl (tysK Y) s) : ∀ (k i : Nat) (x1 : Int32) (S : vP), i + k = n → ∀ (H : Heap) (locs : List Loc), va_P D vwCl (wP Y h n S) H → va_D A (wP Y h n S) → va_S A s.heap H locs → ∀ ls : Array Slot, lv_has ls 5 [(0, .ref (h 0)), (1, .int x1), (2, .int (nI i))] → W p l e rmP_reckonSteps s m args below meth c H locs 0 0 (zMv D vwCl (tysK Y) A (wP Y h n) below args s 0 0 (fP_reckonSteps_12 n k i x1 S)) (F0 m 12 ls []) := by
  obtain ⟨hx, hb, hml, hown, hts⟩ := CF
  intro k
  induction k with
  | zero =>
    intro i x1 S hi  H locs hP hD hS ls hl
    rw [fP_reckonSteps_12]
    refine lv_iload_n hx hb dP_reckonSteps_12 rfl (lv_at hl 2 rfl) ?_
    refine lv_aload_n hx hb dP_reckonSteps_13 rfl (lv_at hl 0 rfl) ?_
    refine va_get (D := D) (ci := 1) (v := .int (nI n)) (C := RP) (T := TP) (N := 10) hx hb hts hinP hown hK hP 0 rfl rfl 0 (by decide) (hts _ uw4) (fun _ h9 => h9) rfl dP_reckonSteps_14 ?_
    refine lv_icmp_ge (tgt := 104) hx hb dP_reckonSteps_17 (by decide) (fun _ => ?_) (fun z => absurd (lp_ge (n := n) hi) z)
    exact zMv_ret (u := S) hx hb hr hlocks hK hP hD hS dP_reckonSteps_104
  | succ k ih =>
    intro i x1 S hi  H locs hP hD hS ls hl
    rw [fP_reckonSteps_12]
    refine lv_iload_n hx hb dP_reckonSteps_12 rfl (lv_at hl 2 rfl) ?_
    refine lv_aload_n hx hb dP_reckonSteps_13 rfl (lv_at hl 0 rfl) ?_
    refine va_get (D := D) (ci := 1) (v := .int (nI n)) (C := RP) (T := TP) (N := 10) hx hb hts hinP hown hK hP 0 rfl rfl 0 (by decide) (hts _ uw4) (fun _ h9 => h9) rfl dP_reckonSteps_14 ?_
    refine lv_icmp_ge (tgt := 104) hx hb dP_reckonSteps_17 (by decide) (fun z => absurd z (lp_lt (n := n) hi (by omega))) (fun _ => ?_)
    refine lv_iload_n hx hb dP_reckonSteps_20 rfl (lv_at hl 1 rfl) ?_
    refine zif (C := x1 = 0) (fun c21 => ?_) (fun c21 => ?_)
    · skip
      refine lv_if_eq (tgt := 104) hx hb dP_reckonSteps_21 (by decide) (fun _ => ?_) (fun z => absurd c21 z)
      exact zMv_ret (u := S) hx hb hr hlocks hK hP hD hS dP_reckonSteps_104
    · skip
      refine lv_if_eq (tgt := 104) hx hb dP_reckonSteps_21 (by decide) (fun z => absurd z c21) (fun _ => ?_)
      refine lv_iconst (v := 0) hx hb dP_reckonSteps_24 (by decide) ?_
      refine lv_istore_n (lv' := [(1, .int 0), (0, .ref (h 0)), (2, .int (nI i))]) hx hb dP_reckonSteps_25 rfl hl (by decide) rfl (fun ls hl => ?_)
      refine lv_iconst (v := 0) hx hb dP_reckonSteps_26 (by decide) ?_
      refine lv_istore_n (lv' := [(3, .int 0), (1, .int 0), (0, .ref (h 0)), (2, .int (nI i))]) hx hb dP_reckonSteps_27 rfl hl (by decide) rfl (fun ls hl => ?_)
      refine tP_reckonSteps_28 hn hA ⟨hx, hb, hml, hown, hts⟩ hr hlocks hK n 0 0 i S (by omega) _ _ hP hD hS ls (lv_sub hl [2, 1, 3, 0] rfl) (fun H locs hP hD hS ls hl => ?_)
      refine lv_iinc (v := (nI (i + 1))) (lv' := [(2, .int (nI (i + 1))), (0, .ref (h 0)), (1, .int ((fP_reckonSteps_28 n n 0 0 i S).1))]) hx hb dP_reckonSteps_98 hl (k := 2) rfl (nI_1 _) (by decide) rfl (fun ls hl => ?_)
      refine lv_goto (tgt := 12) hx hb dP_reckonSteps_101 (by decide) ?_
      exact ih (i + 1) ((fP_reckonSteps_28 n n 0 0 i S).1) ((fP_reckonSteps_28 n n 0 0 i S).2) (by omega) _ _ hP hD hS ls (lv_sub hl [1, 2, 0] rfl)
set_option maxHeartbeats 4000000 in
set_option maxRecDepth 100000 in
theorem kP_reckonSteps (l : Launch) (D : va_G) (Y : Nat → ClassId) (h : Nat → Nat) (n : Nat) (hn : n ≤ 24) (S : vP) (sz : Nat) : Met l yP_reckonSteps wsP_reckonSteps rmP_reckonSteps (va_Pc [.ref (h 0)] (zPreM D vwCl (tysK Y) (wP Y h n S) sz)) (va_Qv (fun u => u = (fP_reckonSteps n S)) (zAt D vwCl (tysK Y) (va_A (wP Y h n S) sz) (wP Y h n)) (va_A (wP Y h n S) sz)) 0 0 (va_A (wP Y h n S) sz) := by
  refine Met.ofW (cc := cP_reckonSteps) (maxL := 5) (ret := none) (by decide) rfl ?_
  intro p e s m args below meth c s₁ B hml hv
  obtain ⟨rfl, hsz, hP, hK, hD0⟩ := hv
  have hx := B.exec
  have hb := B.bytes
  have hr := B.returns
  have hts : ∀ w ∈ uT, w.before _ s = true := fun w hw => atoms_spec (ws := wsP_reckonSteps) B.pre w (List.mem_cons_of_mem _ hw)
  have hown : s.vm.findClass RP = some m.cls := findClass_of_methodNamed B.named
  have hlocks := B.notSynchronized
  subst hsz
  have hD := hD0.self (sz := s.heap.size)
  generalize hAe : va_A (wP Y h n S) s.heap.size = A at hD ⊢
  have hA : ∀ q : Nat, s.heap.size ≤ q → A q := fun q h => by rw [← hAe]; exact Or.inr h
  have hS : va_S A s.heap s.heap [] := va_S.rf
  have hl := lv_entry ([.ref (h 0)]) (n := 5) (Nat.le_of_ble_eq_true rfl)
  rw [lg_entry_eq]
  generalize (lg_sl ([.ref (h 0)]) ++ List.replicate (5 - (lg_sl ([.ref (h 0)])).length) Slot.unset).toArray = ls at hl ⊢
  have hl : lv_has ls 5 [(0, .ref (h 0))] := hl
  show W p l e rmP_reckonSteps s m _ below meth c s.heap [] 0 0 (zMv D vwCl (tysK Y) A (wP Y h n) below _ s 0 0 (fP_reckonSteps n S)) _
  unfold fP_reckonSteps
  show W p l e rmP_reckonSteps s m _ below meth c s.heap [] 0 0 (zMv D vwCl (tysK Y) A (wP Y h n) below _ s 0 0 _) (F0 m 0 ls [])
  refine lv_aload_n hx hb dP_reckonSteps_0 rfl (lv_at hl 0 rfl) ?_
  refine va_get (D := D) (ci := 1) (v := .ref (h 3)) (C := RP) (T := TP) (N := 10) hx hb hts hinP hown hK hP 0 rfl rfl 3 (by decide) (hts _ uw11) (fun _ h9 => h9) rfl dP_reckonSteps_1 ?_
  refine lv_iconst (v := 0) hx hb dP_reckonSteps_4 (by decide) ?_
  refine qMSv (ws := wP Y h n S) (wc := wA Y (fun _ => (h 3)) 24 (g_st S)) (wr := (wP Y h n S).eraseIdx 3) (w := wA Y (fun _ => (h 3)) 24) (ws' := wP Y h n (p_st S (fA_fill 24 (g_st S) 0))) (rest := []) ⟨hx, hb, hml, hown, hts⟩ (kA_fill l D Y (fun _ => (h 3)) 24 (by decide) (g_st S) 0 _) (va_cwS 2 hts (gS uw56 uw57 uw58 ucA_fill) rfl rfl rfl hsA_fill ⟨Nat.le_of_ble_eq_true rfl, Nat.le_of_ble_eq_true rfl⟩) hK hP hD hS hA [3] [0, 1, 2, 4, 5, 6, 7, 8] [0, 1, 2, 8, 3, 4, 5, 6, 7] rfl rfl (by decide) (by decide) (by decide) rfl (by decide) rfl hl.1 rfl (Nat.le_of_ble_eq_true rfl) dP_reckonSteps_5 ⟨Nat.le_of_ble_eq_true rfl, Nat.le_of_ble_eq_true rfl⟩ (fun H locs hP hD hS => ?_)
  refine lv_iconst (v := 1) hx hb dP_reckonSteps_8 (by decide) ?_
  refine lv_istore_n (lv' := [(1, .int 1), (0, .ref (h 0))]) hx hb dP_reckonSteps_9 rfl hl (by decide) rfl (fun ls hl => ?_)
  refine lv_iconst (v := 0) hx hb dP_reckonSteps_10 (by decide) ?_
  refine lv_istore_n (lv' := [(2, .int 0), (1, .int 1), (0, .ref (h 0))]) hx hb dP_reckonSteps_11 rfl hl (by decide) rfl (fun ls hl => ?_)
  exact tP_reckonSteps_12 hn hA ⟨hx, hb, hml, hown, hts⟩ hr hlocks hK n 0 1 (p_st S (fA_fill 24 (g_st S) 0)) (by omega) _ _ hP hD hS ls (lv_sub hl [2, 1, 0] rfl)
abbrev rmP_reckon : Room := { frames := 3, cells := 0, slots := 0, locals := 71 }
set_option maxHeartbeats 4000000 in
set_option maxRecDepth 100000 in
theorem tP_reckon_10 {p : Program} {l : Launch} {e : Env} {s : State} {m : MethodId} {args : Array Value} {below : List Frame} {meth : Method} {c : Code} {D : va_G} {Y : Nat → ClassId} {h : Nat → Nat} {n : Nat} (hn : n ≤ 24) {A : Nat → Prop} (hA : ∀ q : Nat, s.heap.size ≤ q → A q) (CF : CallFix p m c cP_reckon 2 s args uT RP) (hr : meth.sig.returnType = none) (hlocks : meth.locks = false) (hK : va_K D vwCl (tysK Y) s) : ∀ (k i : Nat) (S : vP), i + k = n → ∀ (H : Heap) (locs : List Loc), va_P D vwCl (wP Y h n S) H → va_D A (wP Y h n S) → va_S A s.heap H locs → ∀ ls : Array Slot, lv_has ls 2 [(0, .ref (h 0)), (1, .int (nI i))] → W p l e rmP_reckon s m args below meth c H locs 0 0 (zMv D vwCl (tysK Y) A (wP Y h n) below args s 0 0 (fP_reckon_10 n k i S)) (F0 m 10 ls []) := by
  obtain ⟨hx, hb, hml, hown, hts⟩ := CF
  intro k
  induction k with
  | zero =>
    intro i  S hi  H locs hP hD hS ls hl
    rw [fP_reckon_10]
    refine lv_iload_n hx hb dP_reckon_10 rfl (lv_at hl 1 rfl) ?_
    refine lv_aload_n hx hb dP_reckon_11 rfl (lv_at hl 0 rfl) ?_
    refine va_get (D := D) (ci := 1) (v := .int (nI n)) (C := RP) (T := TP) (N := 10) hx hb hts hinP hown hK hP 0 rfl rfl 0 (by decide) (hts _ uw4) (fun _ h9 => h9) rfl dP_reckon_12 ?_
    refine lv_icmp_ge (tgt := 38) hx hb dP_reckon_15 (by decide) (fun _ => ?_) (fun z => absurd (lp_ge (n := n) hi) z)
    exact zMv_ret (u := S) hx hb hr hlocks hK hP hD hS dP_reckon_38
  | succ k ih =>
    intro i  S hi  H locs hP hD hS ls hl
    rw [fP_reckon_10]
    refine lv_iload_n hx hb dP_reckon_10 rfl (lv_at hl 1 rfl) ?_
    refine lv_aload_n hx hb dP_reckon_11 rfl (lv_at hl 0 rfl) ?_
    refine va_get (D := D) (ci := 1) (v := .int (nI n)) (C := RP) (T := TP) (N := 10) hx hb hts hinP hown hK hP 0 rfl rfl 0 (by decide) (hts _ uw4) (fun _ h9 => h9) rfl dP_reckon_12 ?_
    refine lv_icmp_ge (tgt := 38) hx hb dP_reckon_15 (by decide) (fun z => absurd z (lp_lt (n := n) hi (by omega))) (fun _ => ?_)
    refine lv_aload_n hx hb dP_reckon_18 rfl (lv_at hl 0 rfl) ?_
    refine lv_aload_n hx hb dP_reckon_19 rfl (lv_at hl 0 rfl) ?_
    refine lv_iload_n hx hb dP_reckon_20 rfl (lv_at hl 1 rfl) ?_
    refine qVi (rest := [.ref (h 0)]) ⟨hx, hb, hml, hown, hts⟩ (kP_inOrder l D Y h n hn S (nI i)) (cwV 1 hts (gV uw46 uw47 uw48 uw8 ucP_inOrder) rfl rfl rfl hvP_inOrder ⟨Nat.le_of_ble_eq_true rfl, Nat.le_of_ble_eq_true rfl⟩) hK hP (va_recv hK hP (ci := 1) (q0 := 0) rfl rfl) rfl hl.1 rfl (Nat.le_of_ble_eq_true rfl) dP_reckon_21 ⟨Nat.le_of_ble_eq_true rfl, Nat.le_of_ble_eq_true rfl⟩ ?_
    refine qNVv (w := wP Y h n) (rest := []) ⟨hx, hb, hml, hown, hts⟩ (kP_reckonForbears l D Y h n hn S (fP_inOrder n S (nI i)) _) (cwV 1 hts (gV uw71 uw72 uw73 uw8 ucP_reckonForbears) rfl rfl rfl hvP_reckonForbears ⟨Nat.le_of_ble_eq_true rfl, Nat.le_of_ble_eq_true rfl⟩) hK hP hD hS hA (va_recv hK hP (ci := 1) (q0 := 0) rfl rfl) rfl hl.1 rfl (Nat.le_of_ble_eq_true rfl) dP_reckon_24 ⟨Nat.le_of_ble_eq_true rfl, Nat.le_of_ble_eq_true rfl⟩ (fun H locs hP hD hS => ?_)
    refine lv_aload_n hx hb dP_reckon_27 rfl (lv_at hl 0 rfl) ?_
    refine lv_iload_n hx hb dP_reckon_28 rfl (lv_at hl 1 rfl) ?_
    refine qNVv (w := wP Y h n) (rest := []) ⟨hx, hb, hml, hown, hts⟩ (kP_reckonKin l D Y h n hn (fP_reckonForbears n S (fP_inOrder n S (nI i))) i (by omega) _) (cwV 1 hts (gV uw74 uw75 uw76 uw8 ucP_reckonKin) rfl rfl rfl hvP_reckonKin ⟨Nat.le_of_ble_eq_true rfl, Nat.le_of_ble_eq_true rfl⟩) hK hP hD hS hA (va_recv hK hP (ci := 1) (q0 := 0) rfl rfl) rfl hl.1 rfl (Nat.le_of_ble_eq_true rfl) dP_reckon_29 ⟨Nat.le_of_ble_eq_true rfl, Nat.le_of_ble_eq_true rfl⟩ (fun H locs hP hD hS => ?_)
    refine lv_iinc (v := (nI (i + 1))) (lv' := [(1, .int (nI (i + 1))), (0, .ref (h 0))]) hx hb dP_reckon_32 hl (k := 1) rfl (nI_1 _) (by decide) rfl (fun ls hl => ?_)
    refine lv_goto (tgt := 10) hx hb dP_reckon_35 (by decide) ?_
    exact ih (i + 1) (fP_reckonKin n (fP_reckonForbears n S (fP_inOrder n S (nI i))) i) (by omega) _ _ hP hD hS ls (lv_sub hl [1, 0] rfl)
set_option maxHeartbeats 4000000 in
set_option maxRecDepth 100000 in
theorem kP_reckon (l : Launch) (D : va_G) (Y : Nat → ClassId) (h : Nat → Nat) (n : Nat) (hn : n ≤ 24) (S : vP) (sz : Nat) : Met l yP_reckon wsP_reckon rmP_reckon (va_Pc [.ref (h 0)] (zPreM D vwCl (tysK Y) (wP Y h n S) sz)) (va_Qv (fun u => u = (fP_reckon n S)) (zAt D vwCl (tysK Y) (va_A (wP Y h n S) sz) (wP Y h n)) (va_A (wP Y h n S) sz)) 0 0 (va_A (wP Y h n S) sz) := by
  refine Met.ofW (cc := cP_reckon) (maxL := 2) (ret := none) (by decide) rfl ?_
  intro p e s m args below meth c s₁ B hml hv
  obtain ⟨rfl, hsz, hP, hK, hD0⟩ := hv
  have hx := B.exec
  have hb := B.bytes
  have hr := B.returns
  have hts : ∀ w ∈ uT, w.before _ s = true := fun w hw => atoms_spec (ws := wsP_reckon) B.pre w (List.mem_cons_of_mem _ hw)
  have hown : s.vm.findClass RP = some m.cls := findClass_of_methodNamed B.named
  have hlocks := B.notSynchronized
  subst hsz
  have hD := hD0.self (sz := s.heap.size)
  generalize hAe : va_A (wP Y h n S) s.heap.size = A at hD ⊢
  have hA : ∀ q : Nat, s.heap.size ≤ q → A q := fun q h => by rw [← hAe]; exact Or.inr h
  have hS : va_S A s.heap s.heap [] := va_S.rf
  have hl := lv_entry ([.ref (h 0)]) (n := 2) (Nat.le_of_ble_eq_true rfl)
  rw [lg_entry_eq]
  generalize (lg_sl ([.ref (h 0)]) ++ List.replicate (2 - (lg_sl ([.ref (h 0)])).length) Slot.unset).toArray = ls at hl ⊢
  have hl : lv_has ls 2 [(0, .ref (h 0))] := hl
  show W p l e rmP_reckon s m _ below meth c s.heap [] 0 0 (zMv D vwCl (tysK Y) A (wP Y h n) below _ s 0 0 (fP_reckon n S)) _
  unfold fP_reckon
  show W p l e rmP_reckon s m _ below meth c s.heap [] 0 0 (zMv D vwCl (tysK Y) A (wP Y h n) below _ s 0 0 _) (F0 m 0 ls [])
  refine lv_aload_n hx hb dP_reckon_0 rfl (lv_at hl 0 rfl) ?_
  refine qNVv (w := wP Y h n) (rest := []) ⟨hx, hb, hml, hown, hts⟩ (kP_reckonSteps l D Y h n hn S _) (cwV 0 hts (gV uw65 uw66 uw67 uw8 ucP_reckonSteps) rfl rfl rfl hvP_reckonSteps ⟨Nat.le_of_ble_eq_true rfl, Nat.le_of_ble_eq_true rfl⟩) hK hP hD hS hA (va_recv hK hP (ci := 1) (q0 := 0) rfl rfl) rfl hl.1 rfl (Nat.le_of_ble_eq_true rfl) dP_reckon_1 ⟨Nat.le_of_ble_eq_true rfl, Nat.le_of_ble_eq_true rfl⟩ (fun H locs hP hD hS => ?_)
  refine lv_aload_n hx hb dP_reckon_4 rfl (lv_at hl 0 rfl) ?_
  refine qNVv (w := wP Y h n) (rest := []) ⟨hx, hb, hml, hown, hts⟩ (kP_reckonOrder l D Y h n hn (fP_reckonSteps n S) _) (cwV 0 hts (gV uw68 uw69 uw70 uw8 ucP_reckonOrder) rfl rfl rfl hvP_reckonOrder ⟨Nat.le_of_ble_eq_true rfl, Nat.le_of_ble_eq_true rfl⟩) hK hP hD hS hA (va_recv hK hP (ci := 1) (q0 := 0) rfl rfl) rfl hl.1 rfl (Nat.le_of_ble_eq_true rfl) dP_reckon_5 ⟨Nat.le_of_ble_eq_true rfl, Nat.le_of_ble_eq_true rfl⟩ (fun H locs hP hD hS => ?_)
  refine lv_iconst (v := 0) hx hb dP_reckon_8 (by decide) ?_
  refine lv_istore_n (lv' := [(1, .int 0), (0, .ref (h 0))]) hx hb dP_reckon_9 rfl hl (by decide) rfl (fun ls hl => ?_)
  exact tP_reckon_10 hn hA ⟨hx, hb, hml, hown, hts⟩ hr hlocks hK n 0 (fP_reckonOrder n (fP_reckonSteps n S)) (by omega) _ _ hP hD hS ls (lv_sub hl [1, 0] rfl)
abbrev rmP_setParents : Room := { frames := 4, cells := 0, slots := 0, locals := 92 }
set_option maxHeartbeats 4000000 in
set_option maxRecDepth 100000 in
theorem kP_setParents (l : Launch) (D : va_G) (Y : Nat → ClassId) (h : Nat → Nat) (n : Nat) (hn : n ≤ 24) (S : vP) (a1 : Int32) (a2 : Int32) (a3 : Int32) (sz : Nat) : Met l yP_setParents wsP_setParents rmP_setParents (va_Pc [.ref (h 0), .int a1, .int a2, .int a3] (zPreM D vwCl (tysK Y) (wP Y h n S) sz)) (va_Qv (fun u => u = (fP_setParents n S a1 a2 a3)) (zAt D vwCl (tysK Y) (va_A (wP Y h n S) sz) (wP Y h n)) (va_A (wP Y h n S) sz)) 0 0 (va_A (wP Y h n S) sz) := by
  refine Met.ofW (cc := cP_setParents) (maxL := 4) (ret := none) (by decide) rfl ?_
  intro p e s m args below meth c s₁ B hml hv
  obtain ⟨rfl, hsz, hP, hK, hD0⟩ := hv
  have hx := B.exec
  have hb := B.bytes
  have hr := B.returns
  have hts : ∀ w ∈ uT, w.before _ s = true := fun w hw => atoms_spec (ws := wsP_setParents) B.pre w (List.mem_cons_of_mem _ hw)
  have hown : s.vm.findClass RP = some m.cls := findClass_of_methodNamed B.named
  have hlocks := B.notSynchronized
  subst hsz
  have hD := hD0.self (sz := s.heap.size)
  generalize hAe : va_A (wP Y h n S) s.heap.size = A at hD ⊢
  have hA : ∀ q : Nat, s.heap.size ≤ q → A q := fun q h => by rw [← hAe]; exact Or.inr h
  have hS : va_S A s.heap s.heap [] := va_S.rf
  have hl := lv_entry ([.ref (h 0), .int a1, .int a2, .int a3]) (n := 4) (Nat.le_of_ble_eq_true rfl)
  rw [lg_entry_eq]
  generalize (lg_sl ([.ref (h 0), .int a1, .int a2, .int a3]) ++ List.replicate (4 - (lg_sl ([.ref (h 0), .int a1, .int a2, .int a3])).length) Slot.unset).toArray = ls at hl ⊢
  have hl : lv_has ls 4 [(0, .ref (h 0)), (1, .int a1), (2, .int a2), (3, .int a3)] := hl
  show W p l e rmP_setParents s m _ below meth c s.heap [] 0 0 (zMv D vwCl (tysK Y) A (wP Y h n) below _ s 0 0 (fP_setParents n S a1 a2 a3)) _
  unfold fP_setParents
  show W p l e rmP_setParents s m _ below meth c s.heap [] 0 0 (zMv D vwCl (tysK Y) A (wP Y h n) below _ s 0 0 _) (F0 m 0 ls [])
  refine lv_aload_n hx hb dP_setParents_0 rfl (lv_at hl 0 rfl) ?_
  refine lv_iload_n hx hb dP_setParents_1 rfl (lv_at hl 1 rfl) ?_
  refine qVi (rest := []) ⟨hx, hb, hml, hown, hts⟩ (kP_has l D Y h n hn S a1) (cwV 1 hts (gV uw5 uw6 uw7 uw8 ucP_has) rfl rfl rfl hvP_has ⟨Nat.le_of_ble_eq_true rfl, Nat.le_of_ble_eq_true rfl⟩) hK hP (va_recv hK hP (ci := 1) (q0 := 0) rfl rfl) rfl hl.1 rfl (Nat.le_of_ble_eq_true rfl) dP_setParents_2 ⟨Nat.le_of_ble_eq_true rfl, Nat.le_of_ble_eq_true rfl⟩ ?_
  refine zif (C := (fP_has n a1) = 0) (fun c5 => ?_) (fun c5 => ?_)
  · skip
    refine lv_if_ne (tgt := 9) hx hb dP_setParents_5 (by decide) (fun z => absurd c5 z) (fun _ => ?_)
    exact zMv_ret (u := S) hx hb hr hlocks hK hP hD hS dP_setParents_8
  · skip
    refine lv_if_ne (tgt := 9) hx hb dP_setParents_5 (by decide) (fun _ => ?_) (fun z => absurd z c5)
    refine lv_aload_n hx hb dP_setParents_9 rfl (lv_at hl 0 rfl) ?_
    refine va_get (D := D) (ci := 1) (v := .ref (h 1)) (C := RP) (T := TP) (N := 10) hx hb hts hinP hown hK hP 0 rfl rfl 1 (by decide) (hts _ uw9) (fun _ h9 => h9) rfl dP_setParents_10 ?_
    refine lv_iload_n hx hb dP_setParents_13 rfl (lv_at hl 1 rfl) ?_
    refine lv_iload_n hx hb dP_setParents_14 rfl (lv_at hl 2 rfl) ?_
    refine va_iast hx hb hK hP hD hS 1 0 rfl rfl (has_in hn c5) dP_setParents_15 (fun H locs hP hD hS => ?_)
    have hP : va_P D vwCl (wP Y h n (p_mo S (upd (g_mo S) (a1 : Int32).toNatClampNeg a2))) H := hP
    have hD : va_D A (wP Y h n (p_mo S (upd (g_mo S) (a1 : Int32).toNatClampNeg a2))) := hD
    refine lv_aload_n hx hb dP_setParents_16 rfl (lv_at hl 0 rfl) ?_
    refine va_get (D := D) (ci := 1) (v := .ref (h 2)) (C := RP) (T := TP) (N := 10) hx hb hts hinP hown hK hP 0 rfl rfl 2 (by decide) (hts _ uw10) (fun _ h9 => h9) rfl dP_setParents_17 ?_
    refine lv_iload_n hx hb dP_setParents_20 rfl (lv_at hl 1 rfl) ?_
    refine lv_iload_n hx hb dP_setParents_21 rfl (lv_at hl 3 rfl) ?_
    refine va_iast hx hb hK hP hD hS 2 0 rfl rfl (has_in hn c5) dP_setParents_22 (fun H locs hP hD hS => ?_)
    have hP : va_P D vwCl (wP Y h n (p_fa (p_mo S (upd (g_mo S) (a1 : Int32).toNatClampNeg a2)) (upd (g_fa (p_mo S (upd (g_mo S) (a1 : Int32).toNatClampNeg a2))) (a1 : Int32).toNatClampNeg a3))) H := hP
    have hD : va_D A (wP Y h n (p_fa (p_mo S (upd (g_mo S) (a1 : Int32).toNatClampNeg a2)) (upd (g_fa (p_mo S (upd (g_mo S) (a1 : Int32).toNatClampNeg a2))) (a1 : Int32).toNatClampNeg a3))) := hD
    refine lv_aload_n hx hb dP_setParents_23 rfl (lv_at hl 0 rfl) ?_
    refine qNVv (w := wP Y h n) (rest := []) ⟨hx, hb, hml, hown, hts⟩ (kP_reckon l D Y h n hn (p_fa (p_mo S (upd (g_mo S) (a1 : Int32).toNatClampNeg a2)) (upd (g_fa (p_mo S (upd (g_mo S) (a1 : Int32).toNatClampNeg a2))) (a1 : Int32).toNatClampNeg a3)) _) (cwV 0 hts (gV uw77 uw78 uw79 uw8 ucP_reckon) rfl rfl rfl hvP_reckon ⟨Nat.le_of_ble_eq_true rfl, Nat.le_of_ble_eq_true rfl⟩) hK hP hD hS hA (va_recv hK hP (ci := 1) (q0 := 0) rfl rfl) rfl hl.1 rfl (Nat.le_of_ble_eq_true rfl) dP_setParents_24 ⟨Nat.le_of_ble_eq_true rfl, Nat.le_of_ble_eq_true rfl⟩ (fun H locs hP hD hS => ?_)
    exact zMv_ret (u := (fP_reckon n (p_fa (p_mo S (upd (g_mo S) (a1 : Int32).toNatClampNeg a2)) (upd (g_fa (p_mo S (upd (g_mo S) (a1 : Int32).toNatClampNeg a2))) (a1 : Int32).toNatClampNeg a3)))) hx hb hr hlocks hK hP hD hS dP_setParents_27
abbrev rmM_has : Room := { frames := 0, cells := 0, slots := 0, locals := 0 }
set_option maxHeartbeats 4000000 in
set_option maxRecDepth 100000 in
theorem kM_has (l : Launch) (D : va_G) (Y : Nat → ClassId) (h : Nat → Nat) (n : Nat) (hn : n ≤ 24) (S : vM) (a1 : Int32) (a2 : Int32) : Met l yM_has wsM_has rmM_has (va_Pc [.ref (h 0), .int a1, .int a2] (zPre D vwCl (tysK Y) (wM Y h n S))) (vp_Si (fun r => r = (fM_has n a1 a2))) 0 0 (fun _ => False) := by
  refine Met.ofW (cc := cM_has) (maxL := 3) (ret := (some .boolean)) (by decide) rfl ?_
  intro p e s m args below meth c s₁ B hml hv
  obtain ⟨rfl, hP, hK⟩ := hv
  have hx := B.exec
  have hb := B.bytes
  have hr := B.returns
  have hts : ∀ w ∈ uT, w.before _ s = true := fun w hw => atoms_spec (ws := wsM_has) B.pre w (List.mem_cons_of_mem _ hw)
  have hown : s.vm.findClass RM = some m.cls := findClass_of_methodNamed B.named
  have hlocks := B.notSynchronized
  have hl := lv_entry ([.ref (h 0), .int a1, .int a2]) (n := 3) (Nat.le_of_ble_eq_true rfl)
  rw [lg_entry_eq]
  generalize (lg_sl ([.ref (h 0), .int a1, .int a2]) ++ List.replicate (3 - (lg_sl ([.ref (h 0), .int a1, .int a2])).length) Slot.unset).toArray = ls at hl ⊢
  have hl : lv_has ls 3 [(0, .ref (h 0)), (1, .int a1), (2, .int a2)] := hl
  show W p l e rmM_has s m _ below meth c s.heap [] 0 0 (zI below _ s (fM_has n a1 a2)) _
  unfold fM_has
  show W p l e rmM_has s m _ below meth c s.heap [] 0 0 (zI below _ s _) (F0 m 0 ls [])
  refine lv_iload_n hx hb dM_has_0 rfl (lv_at hl 1 rfl) ?_
  refine zif (C := a1 < 0) (fun c1 => ?_) (fun c1 => ?_)
  · skip
    refine lv_if_lt (tgt := 25) hx hb dM_has_1 (by decide) (fun _ => ?_) (fun z => absurd c1 z)
    refine lv_iconst (v := 0) hx hb dM_has_25 (by decide) ?_
    exact zB_ret hx hb hr hlocks (Or.inl rfl) dM_has_26
  · skip
    refine lv_if_lt (tgt := 25) hx hb dM_has_1 (by decide) (fun z => absurd z c1) (fun _ => ?_)
    refine lv_iload_n hx hb dM_has_4 rfl (lv_at hl 1 rfl) ?_
    refine lv_aload_n hx hb dM_has_5 rfl (lv_at hl 0 rfl) ?_
    refine va_get (D := D) (ci := 2) (v := .int (nI n)) (C := RM) (T := TM) (N := 2) hx hb hts hinM hown hK hP 0 rfl rfl 0 (by decide) (hts _ uw80) (fun _ h9 => h9) rfl dM_has_6 ?_
    refine zif (C := (nI n) ≤ a1) (fun c9 => ?_) (fun c9 => ?_)
    · skip
      refine lv_icmp_ge (tgt := 25) hx hb dM_has_9 (by decide) (fun _ => ?_) (fun z => absurd c9 z)
      refine lv_iconst (v := 0) hx hb dM_has_25 (by decide) ?_
      exact zB_ret hx hb hr hlocks (Or.inl rfl) dM_has_26
    · skip
      refine lv_icmp_ge (tgt := 25) hx hb dM_has_9 (by decide) (fun z => absurd z c9) (fun _ => ?_)
      refine lv_iload_n hx hb dM_has_12 rfl (lv_at hl 2 rfl) ?_
      refine zif (C := a2 < 0) (fun c13 => ?_) (fun c13 => ?_)
      · skip
        refine lv_if_lt (tgt := 25) hx hb dM_has_13 (by decide) (fun _ => ?_) (fun z => absurd c13 z)
        refine lv_iconst (v := 0) hx hb dM_has_25 (by decide) ?_
        exact zB_ret hx hb hr hlocks (Or.inl rfl) dM_has_26
      · skip
        refine lv_if_lt (tgt := 25) hx hb dM_has_13 (by decide) (fun z => absurd z c13) (fun _ => ?_)
        refine lv_iload_n hx hb dM_has_16 rfl (lv_at hl 2 rfl) ?_
        refine lv_iconst (v := 4) hx hb dM_has_17 (by decide) ?_
        refine zif (C := 4 ≤ a2) (fun c18 => ?_) (fun c18 => ?_)
        · skip
          refine lv_icmp_ge (tgt := 25) hx hb dM_has_18 (by decide) (fun _ => ?_) (fun z => absurd c18 z)
          refine lv_iconst (v := 0) hx hb dM_has_25 (by decide) ?_
          exact zB_ret hx hb hr hlocks (Or.inl rfl) dM_has_26
        · skip
          refine lv_icmp_ge (tgt := 25) hx hb dM_has_18 (by decide) (fun z => absurd z c18) (fun _ => ?_)
          refine lv_iconst (v := 1) hx hb dM_has_21 (by decide) ?_
          refine lv_goto (tgt := 26) hx hb dM_has_22 (by decide) ?_
          exact zB_ret hx hb hr hlocks (Or.inr rfl) dM_has_26
abbrev rmM_formOf : Room := { frames := 1, cells := 0, slots := 0, locals := 22 }
set_option maxHeartbeats 4000000 in
set_option maxRecDepth 100000 in
theorem kM_formOf (l : Launch) (D : va_G) (Y : Nat → ClassId) (h : Nat → Nat) (n : Nat) (hn : n ≤ 24) (S : vM) (a1 : Int32) (a2 : Int32) : Met l yM_formOf wsM_formOf rmM_formOf (va_Pc [.ref (h 0), .int a1, .int a2] (zPre D vwCl (tysK Y) (wM Y h n S))) (vp_Si (fun r => r = (fM_formOf n S a1 a2))) 0 0 (fun _ => False) := by
  refine Met.ofW (cc := cM_formOf) (maxL := 3) (ret := (some .int)) (by decide) rfl ?_
  intro p e s m args below meth c s₁ B hml hv
  obtain ⟨rfl, hP, hK⟩ := hv
  have hx := B.exec
  have hb := B.bytes
  have hr := B.returns
  have hts : ∀ w ∈ uT, w.before _ s = true := fun w hw => atoms_spec (ws := wsM_formOf) B.pre w (List.mem_cons_of_mem _ hw)
  have hown : s.vm.findClass RM = some m.cls := findClass_of_methodNamed B.named
  have hlocks := B.notSynchronized
  have hl := lv_entry ([.ref (h 0), .int a1, .int a2]) (n := 3) (Nat.le_of_ble_eq_true rfl)
  rw [lg_entry_eq]
  generalize (lg_sl ([.ref (h 0), .int a1, .int a2]) ++ List.replicate (3 - (lg_sl ([.ref (h 0), .int a1, .int a2])).length) Slot.unset).toArray = ls at hl ⊢
  have hl : lv_has ls 3 [(0, .ref (h 0)), (1, .int a1), (2, .int a2)] := hl
  show W p l e rmM_formOf s m _ below meth c s.heap [] 0 0 (zI below _ s (fM_formOf n S a1 a2)) _
  unfold fM_formOf
  show W p l e rmM_formOf s m _ below meth c s.heap [] 0 0 (zI below _ s _) (F0 m 0 ls [])
  refine lv_aload_n hx hb dM_formOf_0 rfl (lv_at hl 0 rfl) ?_
  refine lv_iload_n hx hb dM_formOf_1 rfl (lv_at hl 1 rfl) ?_
  refine lv_iload_n hx hb dM_formOf_2 rfl (lv_at hl 2 rfl) ?_
  refine qVi (rest := []) ⟨hx, hb, hml, hown, hts⟩ (kM_has l D Y h n hn S a1 a2) (cwV 2 hts (gV uw81 uw82 uw83 uw84 ucM_has) rfl rfl rfl hvM_has ⟨Nat.le_of_ble_eq_true rfl, Nat.le_of_ble_eq_true rfl⟩) hK hP (va_recv hK hP (ci := 2) (q0 := 0) rfl rfl) rfl hl.1 rfl (Nat.le_of_ble_eq_true rfl) dM_formOf_3 ⟨Nat.le_of_ble_eq_true rfl, Nat.le_of_ble_eq_true rfl⟩ ?_
  refine zif (C := (fM_has n a1 a2) = 0) (fun c6 => ?_) (fun c6 => ?_)
  · skip
    refine lv_if_eq (tgt := 22) hx hb dM_formOf_6 (by decide) (fun _ => ?_) (fun z => absurd c6 z)
    refine lv_iconst (v := (-1)) hx hb dM_formOf_22 (by decide) ?_
    exact zI_ret hx hb hr hlocks dM_formOf_23
  · skip
    refine lv_if_eq (tgt := 22) hx hb dM_formOf_6 (by decide) (fun z => absurd z c6) (fun _ => ?_)
    refine lv_aload_n hx hb dM_formOf_9 rfl (lv_at hl 0 rfl) ?_
    refine va_get (D := D) (ci := 2) (v := .ref (h 1)) (C := RM) (T := TM) (N := 2) hx hb hts hinM hown hK hP 0 rfl rfl 1 (by decide) (hts _ uw85) (fun _ h9 => h9) rfl dM_formOf_10 ?_
    refine lv_iload_n hx hb dM_formOf_13 rfl (lv_at hl 1 rfl) ?_
    refine lv_iconst (v := 4) hx hb dM_formOf_14 (by decide) ?_
    refine lv_imul hx hb dM_formOf_15 ?_
    refine lv_iload_n hx hb dM_formOf_16 rfl (lv_at hl 2 rfl) ?_
    refine lv_iadd hx hb dM_formOf_17 ?_
    refine va_iald hx hb hK hP 1 0 rfl rfl (fm_in hn c6) dM_formOf_18 ?_
    refine lv_goto (tgt := 23) hx hb dM_formOf_19 (by decide) ?_
    exact zI_ret hx hb hr hlocks dM_formOf_23
abbrev rmM_isKnownOfBoth : Room := { frames := 2, cells := 0, slots := 0, locals := 44 }
set_option maxHeartbeats 4000000 in
set_option maxRecDepth 100000 in
theorem kM_isKnownOfBoth (l : Launch) (D : va_G) (Y : Nat → ClassId) (h : Nat → Nat) (n : Nat) (hn : n ≤ 24) (S : vM) (a1 : Int32) (a2 : Int32) (a3 : Int32) : Met l yM_isKnownOfBoth wsM_isKnownOfBoth rmM_isKnownOfBoth (va_Pc [.ref (h 0), .int a1, .int a2, .int a3] (zPre D vwCl (tysK Y) (wM Y h n S))) (vp_Si (fun r => r = (fM_isKnownOfBoth n S a1 a2 a3))) 0 0 (fun _ => False) := by
  refine Met.ofW (cc := cM_isKnownOfBoth) (maxL := 4) (ret := (some .boolean)) (by decide) rfl ?_
  intro p e s m args below meth c s₁ B hml hv
  obtain ⟨rfl, hP, hK⟩ := hv
  have hx := B.exec
  have hb := B.bytes
  have hr := B.returns
  have hts : ∀ w ∈ uT, w.before _ s = true := fun w hw => atoms_spec (ws := wsM_isKnownOfBoth) B.pre w (List.mem_cons_of_mem _ hw)
  have hown : s.vm.findClass RM = some m.cls := findClass_of_methodNamed B.named
  have hlocks := B.notSynchronized
  have hl := lv_entry ([.ref (h 0), .int a1, .int a2, .int a3]) (n := 4) (Nat.le_of_ble_eq_true rfl)
  rw [lg_entry_eq]
  generalize (lg_sl ([.ref (h 0), .int a1, .int a2, .int a3]) ++ List.replicate (4 - (lg_sl ([.ref (h 0), .int a1, .int a2, .int a3])).length) Slot.unset).toArray = ls at hl ⊢
  have hl : lv_has ls 4 [(0, .ref (h 0)), (1, .int a1), (2, .int a2), (3, .int a3)] := hl
  show W p l e rmM_isKnownOfBoth s m _ below meth c s.heap [] 0 0 (zI below _ s (fM_isKnownOfBoth n S a1 a2 a3)) _
  unfold fM_isKnownOfBoth
  show W p l e rmM_isKnownOfBoth s m _ below meth c s.heap [] 0 0 (zI below _ s _) (F0 m 0 ls [])
  refine lv_aload_n hx hb dM_isKnownOfBoth_0 rfl (lv_at hl 0 rfl) ?_
  refine lv_iload_n hx hb dM_isKnownOfBoth_1 rfl (lv_at hl 1 rfl) ?_
  refine lv_iload_n hx hb dM_isKnownOfBoth_2 rfl (lv_at hl 3 rfl) ?_
  refine qVi (rest := []) ⟨hx, hb, hml, hown, hts⟩ (kM_formOf l D Y h n hn S a1 a3) (cwV 2 hts (gV uw86 uw87 uw88 uw84 ucM_formOf) rfl rfl rfl hvM_formOf ⟨Nat.le_of_ble_eq_true rfl, Nat.le_of_ble_eq_true rfl⟩) hK hP (va_recv hK hP (ci := 2) (q0 := 0) rfl rfl) rfl hl.1 rfl (Nat.le_of_ble_eq_true rfl) dM_isKnownOfBoth_3 ⟨Nat.le_of_ble_eq_true rfl, Nat.le_of_ble_eq_true rfl⟩ ?_
  refine lv_iconst (v := (-1)) hx hb dM_isKnownOfBoth_6 (by decide) ?_
  refine zif (C := (fM_formOf n S a1 a3) = (-1)) (fun c7 => ?_) (fun c7 => ?_)
  · skip
    refine lv_icmp_eq (tgt := 24) hx hb dM_isKnownOfBoth_7 (by decide) (fun _ => ?_) (fun z => absurd c7 z)
    refine lv_iconst (v := 0) hx hb dM_isKnownOfBoth_24 (by decide) ?_
    exact zB_ret hx hb hr hlocks (Or.inl rfl) dM_isKnownOfBoth_25
  · skip
    refine lv_icmp_eq (tgt := 24) hx hb dM_isKnownOfBoth_7 (by decide) (fun z => absurd z c7) (fun _ => ?_)
    refine lv_aload_n hx hb dM_isKnownOfBoth_10 rfl (lv_at hl 0 rfl) ?_
    refine lv_iload_n hx hb dM_isKnownOfBoth_11 rfl (lv_at hl 2 rfl) ?_
    refine lv_iload_n hx hb dM_isKnownOfBoth_12 rfl (lv_at hl 3 rfl) ?_
    refine qVi (rest := []) ⟨hx, hb, hml, hown, hts⟩ (kM_formOf l D Y h n hn S a2 a3) (cwV 2 hts (gV uw86 uw87 uw88 uw84 ucM_formOf) rfl rfl rfl hvM_formOf ⟨Nat.le_of_ble_eq_true rfl, Nat.le_of_ble_eq_true rfl⟩) hK hP (va_recv hK hP (ci := 2) (q0 := 0) rfl rfl) rfl hl.1 rfl (Nat.le_of_ble_eq_true rfl) dM_isKnownOfBoth_13 ⟨Nat.le_of_ble_eq_true rfl, Nat.le_of_ble_eq_true rfl⟩ ?_
    refine lv_iconst (v := (-1)) hx hb dM_isKnownOfBoth_16 (by decide) ?_
    refine zif (C := (fM_formOf n S a2 a3) = (-1)) (fun c17 => ?_) (fun c17 => ?_)
    · skip
      refine lv_icmp_eq (tgt := 24) hx hb dM_isKnownOfBoth_17 (by decide) (fun _ => ?_) (fun z => absurd c17 z)
      refine lv_iconst (v := 0) hx hb dM_isKnownOfBoth_24 (by decide) ?_
      exact zB_ret hx hb hr hlocks (Or.inl rfl) dM_isKnownOfBoth_25
    · skip
      refine lv_icmp_eq (tgt := 24) hx hb dM_isKnownOfBoth_17 (by decide) (fun z => absurd z c17) (fun _ => ?_)
      refine lv_iconst (v := 1) hx hb dM_isKnownOfBoth_20 (by decide) ?_
      refine lv_goto (tgt := 25) hx hb dM_isKnownOfBoth_21 (by decide) ?_
      exact zB_ret hx hb hr hlocks (Or.inr rfl) dM_isKnownOfBoth_25
abbrev rmM_difference : Room := { frames := 2, cells := 0, slots := 0, locals := 44 }
set_option maxHeartbeats 4000000 in
set_option maxRecDepth 100000 in
theorem kM_difference (l : Launch) (D : va_G) (Y : Nat → ClassId) (h : Nat → Nat) (n : Nat) (hn : n ≤ 24) (S : vM) (a1 : Int32) (a2 : Int32) (a3 : Int32) : Met l yM_difference wsM_difference rmM_difference (va_Pc [.ref (h 0), .int a1, .int a2, .int a3] (zPre D vwCl (tysK Y) (wM Y h n S))) (vp_Si (fun r => r = (fM_difference n S a1 a2 a3))) 0 0 (fun _ => False) := by
  refine Met.ofW (cc := cM_difference) (maxL := 4) (ret := (some .int)) (by decide) rfl ?_
  intro p e s m args below meth c s₁ B hml hv
  obtain ⟨rfl, hP, hK⟩ := hv
  have hx := B.exec
  have hb := B.bytes
  have hr := B.returns
  have hts : ∀ w ∈ uT, w.before _ s = true := fun w hw => atoms_spec (ws := wsM_difference) B.pre w (List.mem_cons_of_mem _ hw)
  have hown : s.vm.findClass RM = some m.cls := findClass_of_methodNamed B.named
  have hlocks := B.notSynchronized
  have hl := lv_entry ([.ref (h 0), .int a1, .int a2, .int a3]) (n := 4) (Nat.le_of_ble_eq_true rfl)
  rw [lg_entry_eq]
  generalize (lg_sl ([.ref (h 0), .int a1, .int a2, .int a3]) ++ List.replicate (4 - (lg_sl ([.ref (h 0), .int a1, .int a2, .int a3])).length) Slot.unset).toArray = ls at hl ⊢
  have hl : lv_has ls 4 [(0, .ref (h 0)), (1, .int a1), (2, .int a2), (3, .int a3)] := hl
  show W p l e rmM_difference s m _ below meth c s.heap [] 0 0 (zI below _ s (fM_difference n S a1 a2 a3)) _
  unfold fM_difference
  show W p l e rmM_difference s m _ below meth c s.heap [] 0 0 (zI below _ s _) (F0 m 0 ls [])
  refine lv_aload_n hx hb dM_difference_0 rfl (lv_at hl 0 rfl) ?_
  refine lv_iload_n hx hb dM_difference_1 rfl (lv_at hl 1 rfl) ?_
  refine lv_iload_n hx hb dM_difference_2 rfl (lv_at hl 3 rfl) ?_
  refine qVi (rest := []) ⟨hx, hb, hml, hown, hts⟩ (kM_formOf l D Y h n hn S a1 a3) (cwV 2 hts (gV uw86 uw87 uw88 uw84 ucM_formOf) rfl rfl rfl hvM_formOf ⟨Nat.le_of_ble_eq_true rfl, Nat.le_of_ble_eq_true rfl⟩) hK hP (va_recv hK hP (ci := 2) (q0 := 0) rfl rfl) rfl hl.1 rfl (Nat.le_of_ble_eq_true rfl) dM_difference_3 ⟨Nat.le_of_ble_eq_true rfl, Nat.le_of_ble_eq_true rfl⟩ ?_
  refine lv_aload_n hx hb dM_difference_6 rfl (lv_at hl 0 rfl) ?_
  refine lv_iload_n hx hb dM_difference_7 rfl (lv_at hl 2 rfl) ?_
  refine lv_iload_n hx hb dM_difference_8 rfl (lv_at hl 3 rfl) ?_
  refine qVi (rest := [.int (fM_formOf n S a1 a3)]) ⟨hx, hb, hml, hown, hts⟩ (kM_formOf l D Y h n hn S a2 a3) (cwV 2 hts (gV uw86 uw87 uw88 uw84 ucM_formOf) rfl rfl rfl hvM_formOf ⟨Nat.le_of_ble_eq_true rfl, Nat.le_of_ble_eq_true rfl⟩) hK hP (va_recv hK hP (ci := 2) (q0 := 0) rfl rfl) rfl hl.1 rfl (Nat.le_of_ble_eq_true rfl) dM_difference_9 ⟨Nat.le_of_ble_eq_true rfl, Nat.le_of_ble_eq_true rfl⟩ ?_
  refine lv_isub hx hb dM_difference_12 ?_
  refine q_abs hx hb (hml.trans hl.1.symm) hown (hts _ uw89) (hts _ uw90) (hts _ uw64) (hts _ ucJ_abs) (Nat.le_of_ble_eq_true rfl) (Nat.le_of_ble_eq_true rfl) (Nat.le_of_ble_eq_true rfl) (Nat.le_of_ble_eq_true rfl) dM_difference_13 ?_
  exact zI_ret hx hb hr hlocks dM_difference_16
abbrev rmM_knownForms : Room := { frames := 2, cells := 0, slots := 0, locals := 44 }
set_option maxHeartbeats 4000000 in
set_option maxRecDepth 100000 in
theorem tM_knownForms_4 {p : Program} {l : Launch} {e : Env} {s : State} {m : MethodId} {args : Array Value} {below : List Frame} {meth : Method} {c : Code} {D : va_G} {Y : Nat → ClassId} {h : Nat → Nat} {n : Nat} (hn : n ≤ 24) {S : vM} (CF : CallFix p m c cM_knownForms 4 s args uT RM) (hr : meth.sig.returnType = (some .int)) (hlocks : meth.locks = false) (hK : va_K D vwCl (tysK Y) s) (hP : va_P D vwCl (wM Y h n S) s.heap) : ∀ (k i : Nat) (x1 : Int32) (x2 : Int32), i + k = n → ∀ ls : Array Slot, lv_has ls 4 [(0, .ref (h 0)), (1, .int x1), (2, .int x2), (3, .int (nI i))] → W p l e rmM_knownForms s m args below meth c s.heap [] 0 0 (zI below args s (fM_knownForms_4 n S k i x1 x2)) (F0 m 4 ls []) := by
  obtain ⟨hx, hb, hml, hown, hts⟩ := CF
  intro k
  induction k with
  | zero =>
    intro i x1 x2 hi  ls hl
    rw [fM_knownForms_4]
    refine lv_iload_n hx hb dM_knownForms_4 rfl (lv_at hl 3 rfl) ?_
    refine lv_aload_n hx hb dM_knownForms_5 rfl (lv_at hl 0 rfl) ?_
    refine va_get (D := D) (ci := 2) (v := .int (nI n)) (C := RM) (T := TM) (N := 2) hx hb hts hinM hown hK hP 0 rfl rfl 0 (by decide) (hts _ uw80) (fun _ h9 => h9) rfl dM_knownForms_6 ?_
    refine lv_icmp_ge (tgt := 31) hx hb dM_knownForms_9 (by decide) (fun _ => ?_) (fun z => absurd (lp_ge (n := n) hi) z)
    refine lv_iload_n hx hb dM_knownForms_31 rfl (lv_at hl 2 rfl) ?_
    exact zI_ret hx hb hr hlocks dM_knownForms_32
  | succ k ih =>
    intro i x1 x2 hi  ls hl
    rw [fM_knownForms_4]
    refine lv_iload_n hx hb dM_knownForms_4 rfl (lv_at hl 3 rfl) ?_
    refine lv_aload_n hx hb dM_knownForms_5 rfl (lv_at hl 0 rfl) ?_
    refine va_get (D := D) (ci := 2) (v := .int (nI n)) (C := RM) (T := TM) (N := 2) hx hb hts hinM hown hK hP 0 rfl rfl 0 (by decide) (hts _ uw80) (fun _ h9 => h9) rfl dM_knownForms_6 ?_
    refine lv_icmp_ge (tgt := 31) hx hb dM_knownForms_9 (by decide) (fun z => absurd z (lp_lt (n := n) hi (by omega))) (fun _ => ?_)
    refine lv_aload_n hx hb dM_knownForms_12 rfl (lv_at hl 0 rfl) ?_
    refine lv_iload_n hx hb dM_knownForms_13 rfl (lv_at hl 3 rfl) ?_
    refine lv_iload_n hx hb dM_knownForms_14 rfl (lv_at hl 1 rfl) ?_
    refine qVi (rest := []) ⟨hx, hb, hml, hown, hts⟩ (kM_formOf l D Y h n hn S (nI i) x1) (cwV 2 hts (gV uw86 uw87 uw88 uw84 ucM_formOf) rfl rfl rfl hvM_formOf ⟨Nat.le_of_ble_eq_true rfl, Nat.le_of_ble_eq_true rfl⟩) hK hP (va_recv hK hP (ci := 2) (q0 := 0) rfl rfl) rfl hl.1 rfl (Nat.le_of_ble_eq_true rfl) dM_knownForms_15 ⟨Nat.le_of_ble_eq_true rfl, Nat.le_of_ble_eq_true rfl⟩ ?_
    refine lv_iconst (v := (-1)) hx hb dM_knownForms_18 (by decide) ?_
    refine zif (C := (fM_formOf n S (nI i) x1) = (-1)) (fun c19 => ?_) (fun c19 => ?_)
    · skip
      refine lv_icmp_eq (tgt := 25) hx hb dM_knownForms_19 (by decide) (fun _ => ?_) (fun z => absurd c19 z)
      refine lv_iinc (v := (nI (i + 1))) (lv' := [(3, .int (nI (i + 1))), (0, .ref (h 0)), (1, .int x1), (2, .int x2)]) hx hb dM_knownForms_25 hl (k := 3) rfl (nI_1 _) (by decide) rfl (fun ls hl => ?_)
      refine lv_goto (tgt := 4) hx hb dM_knownForms_28 (by decide) ?_
      exact ih (i + 1) x1 x2 (by omega) ls (lv_sub hl [1, 2, 3, 0] rfl)
    · skip
      refine lv_icmp_eq (tgt := 25) hx hb dM_knownForms_19 (by decide) (fun z => absurd z c19) (fun _ => ?_)
      refine lv_iinc (v := (x2 + 1)) (lv' := [(2, .int (x2 + 1)), (0, .ref (h 0)), (1, .int x1), (3, .int (nI i))]) hx hb dM_knownForms_22 hl (k := 2) rfl (rfl) (by decide) rfl (fun ls hl => ?_)
      refine lv_iinc (v := (nI (i + 1))) (lv' := [(3, .int (nI (i + 1))), (2, .int (x2 + 1)), (0, .ref (h 0)), (1, .int x1)]) hx hb dM_knownForms_25 hl (k := 3) rfl (nI_1 _) (by decide) rfl (fun ls hl => ?_)
      refine lv_goto (tgt := 4) hx hb dM_knownForms_28 (by decide) ?_
      exact ih (i + 1) x1 (x2 + 1) (by omega) ls (lv_sub hl [2, 3, 1, 0] rfl)
set_option maxHeartbeats 4000000 in
set_option maxRecDepth 100000 in
theorem kM_knownForms (l : Launch) (D : va_G) (Y : Nat → ClassId) (h : Nat → Nat) (n : Nat) (hn : n ≤ 24) (S : vM) (a1 : Int32) : Met l yM_knownForms wsM_knownForms rmM_knownForms (va_Pc [.ref (h 0), .int a1] (zPre D vwCl (tysK Y) (wM Y h n S))) (vp_Si (fun r => r = (fM_knownForms n S a1))) 0 0 (fun _ => False) := by
  refine Met.ofW (cc := cM_knownForms) (maxL := 4) (ret := (some .int)) (by decide) rfl ?_
  intro p e s m args below meth c s₁ B hml hv
  obtain ⟨rfl, hP, hK⟩ := hv
  have hx := B.exec
  have hb := B.bytes
  have hr := B.returns
  have hts : ∀ w ∈ uT, w.before _ s = true := fun w hw => atoms_spec (ws := wsM_knownForms) B.pre w (List.mem_cons_of_mem _ hw)
  have hown : s.vm.findClass RM = some m.cls := findClass_of_methodNamed B.named
  have hlocks := B.notSynchronized
  have hl := lv_entry ([.ref (h 0), .int a1]) (n := 4) (Nat.le_of_ble_eq_true rfl)
  rw [lg_entry_eq]
  generalize (lg_sl ([.ref (h 0), .int a1]) ++ List.replicate (4 - (lg_sl ([.ref (h 0), .int a1])).length) Slot.unset).toArray = ls at hl ⊢
  have hl : lv_has ls 4 [(0, .ref (h 0)), (1, .int a1)] := hl
  show W p l e rmM_knownForms s m _ below meth c s.heap [] 0 0 (zI below _ s (fM_knownForms n S a1)) _
  unfold fM_knownForms
  show W p l e rmM_knownForms s m _ below meth c s.heap [] 0 0 (zI below _ s _) (F0 m 0 ls [])
  refine lv_iconst (v := 0) hx hb dM_knownForms_0 (by decide) ?_
  refine lv_istore_n (lv' := [(2, .int 0), (0, .ref (h 0)), (1, .int a1)]) hx hb dM_knownForms_1 rfl hl (by decide) rfl (fun ls hl => ?_)
  refine lv_iconst (v := 0) hx hb dM_knownForms_2 (by decide) ?_
  refine lv_istore_n (lv' := [(3, .int 0), (2, .int 0), (0, .ref (h 0)), (1, .int a1)]) hx hb dM_knownForms_3 rfl hl (by decide) rfl (fun ls hl => ?_)
  exact tM_knownForms_4 hn ⟨hx, hb, hml, hown, hts⟩ hr hlocks hK hP n 0 a1 0 (by omega) ls (lv_sub hl [2, 3, 1, 0] rfl)
end
section
abbrev rmM_lettersB : Room := { frames := 2, cells := 0, slots := 0, locals := 44 }
set_option maxHeartbeats 4000000 in
set_option maxRecDepth 100000 in
theorem tM_lettersB_4 {p : Program} {l : Launch} {e : Env} {s : State} {m : MethodId} {args : Array Value} {below : List Frame} {meth : Method} {c : Code} {D : va_G} {Y : Nat → ClassId} {h : Nat → Nat} {n : Nat} (hn : n ≤ 24) {S : vM} (CF : CallFix p m c cM_lettersB 4 s args uT RM) (hr : meth.sig.returnType = (some .int)) (hlocks : meth.locks = false) (hK : va_K D vwCl (tysK Y) s) (hP : va_P D vwCl (wM Y h n S) s.heap) : ∀ (k i : Nat) (x1 : Int32) (x2 : Int32), i + k = n → ∀ ls : Array Slot, lv_has ls 4 [(0, .ref (h 0)), (1, .int x1), (2, .int x2), (3, .int (nI i))] → W p l e rmM_lettersB s m args below meth c s.heap [] 0 0 (zI below args s (fM_lettersB_4 n S k i x1 x2)) (F0 m 4 ls []) := by
  obtain ⟨hx, hb, hml, hown, hts⟩ := CF
  intro k
  induction k with
  | zero =>
    intro i x1 x2 hi  ls hl
    rw [fM_lettersB_4]
    refine lv_iload_n hx hb dM_lettersB_4 rfl (lv_at hl 3 rfl) ?_
    refine lv_aload_n hx hb dM_lettersB_5 rfl (lv_at hl 0 rfl) ?_
    refine va_get (D := D) (ci := 2) (v := .int (nI n)) (C := RM) (T := TM) (N := 2) hx hb hts hinM hown hK hP 0 rfl rfl 0 (by decide) (hts _ uw80) (fun _ h9 => h9) rfl dM_lettersB_6 ?_
    refine lv_icmp_ge (tgt := 31) hx hb dM_lettersB_9 (by decide) (fun _ => ?_) (fun z => absurd (lp_ge (n := n) hi) z)
    refine lv_iload_n hx hb dM_lettersB_31 rfl (lv_at hl 2 rfl) ?_
    exact zI_ret hx hb hr hlocks dM_lettersB_32
  | succ k ih =>
    intro i x1 x2 hi  ls hl
    rw [fM_lettersB_4]
    refine lv_iload_n hx hb dM_lettersB_4 rfl (lv_at hl 3 rfl) ?_
    refine lv_aload_n hx hb dM_lettersB_5 rfl (lv_at hl 0 rfl) ?_
    refine va_get (D := D) (ci := 2) (v := .int (nI n)) (C := RM) (T := TM) (N := 2) hx hb hts hinM hown hK hP 0 rfl rfl 0 (by decide) (hts _ uw80) (fun _ h9 => h9) rfl dM_lettersB_6 ?_
    refine lv_icmp_ge (tgt := 31) hx hb dM_lettersB_9 (by decide) (fun z => absurd z (lp_lt (n := n) hi (by omega))) (fun _ => ?_)
    refine lv_iload_n hx hb dM_lettersB_12 rfl (lv_at hl 2 rfl) ?_
    refine lv_iconst (v := 0) hx hb dM_lettersB_13 (by decide) ?_
    refine lv_aload_n hx hb dM_lettersB_14 rfl (lv_at hl 0 rfl) ?_
    refine lv_iload_n hx hb dM_lettersB_15 rfl (lv_at hl 3 rfl) ?_
    refine lv_iload_n hx hb dM_lettersB_16 rfl (lv_at hl 1 rfl) ?_
    refine qVi (rest := [.int 0, .int x2]) ⟨hx, hb, hml, hown, hts⟩ (kM_formOf l D Y h n hn S (nI i) x1) (cwV 2 hts (gV uw86 uw87 uw88 uw84 ucM_formOf) rfl rfl rfl hvM_formOf ⟨Nat.le_of_ble_eq_true rfl, Nat.le_of_ble_eq_true rfl⟩) hK hP (va_recv hK hP (ci := 2) (q0 := 0) rfl rfl) rfl hl.1 rfl (Nat.le_of_ble_eq_true rfl) dM_lettersB_17 ⟨Nat.le_of_ble_eq_true rfl, Nat.le_of_ble_eq_true rfl⟩ ?_
    refine q_max hx hb (hml.trans hl.1.symm) hown (hts _ uw91) (hts _ uw63) (hts _ uw64) (hts _ ucJ_max) (Nat.le_of_ble_eq_true rfl) (Nat.le_of_ble_eq_true rfl) (Nat.le_of_ble_eq_true rfl) (Nat.le_of_ble_eq_true rfl) dM_lettersB_20 ?_
    refine lv_iadd hx hb dM_lettersB_23 ?_
    refine lv_istore_n (lv' := [(2, .int (x2 + (fJ_max 0 (fM_formOf n S (nI i) x1)))), (0, .ref (h 0)), (1, .int x1), (3, .int (nI i))]) hx hb dM_lettersB_24 rfl hl (by decide) rfl (fun ls hl => ?_)
    refine lv_iinc (v := (nI (i + 1))) (lv' := [(3, .int (nI (i + 1))), (2, .int (x2 + (fJ_max 0 (fM_formOf n S (nI i) x1)))), (0, .ref (h 0)), (1, .int x1)]) hx hb dM_lettersB_25 hl (k := 3) rfl (nI_1 _) (by decide) rfl (fun ls hl => ?_)
    refine lv_goto (tgt := 4) hx hb dM_lettersB_28 (by decide) ?_
    exact ih (i + 1) x1 (x2 + (fJ_max 0 (fM_formOf n S (nI i) x1))) (by omega) ls (lv_sub hl [2, 3, 1, 0] rfl)
set_option maxHeartbeats 4000000 in
set_option maxRecDepth 100000 in
theorem kM_lettersB (l : Launch) (D : va_G) (Y : Nat → ClassId) (h : Nat → Nat) (n : Nat) (hn : n ≤ 24) (S : vM) (a1 : Int32) : Met l yM_lettersB wsM_lettersB rmM_lettersB (va_Pc [.ref (h 0), .int a1] (zPre D vwCl (tysK Y) (wM Y h n S))) (vp_Si (fun r => r = (fM_lettersB n S a1))) 0 0 (fun _ => False) := by
  refine Met.ofW (cc := cM_lettersB) (maxL := 4) (ret := (some .int)) (by decide) rfl ?_
  intro p e s m args below meth c s₁ B hml hv
  obtain ⟨rfl, hP, hK⟩ := hv
  have hx := B.exec
  have hb := B.bytes
  have hr := B.returns
  have hts : ∀ w ∈ uT, w.before _ s = true := fun w hw => atoms_spec (ws := wsM_lettersB) B.pre w (List.mem_cons_of_mem _ hw)
  have hown : s.vm.findClass RM = some m.cls := findClass_of_methodNamed B.named
  have hlocks := B.notSynchronized
  have hl := lv_entry ([.ref (h 0), .int a1]) (n := 4) (Nat.le_of_ble_eq_true rfl)
  rw [lg_entry_eq]
  generalize (lg_sl ([.ref (h 0), .int a1]) ++ List.replicate (4 - (lg_sl ([.ref (h 0), .int a1])).length) Slot.unset).toArray = ls at hl ⊢
  have hl : lv_has ls 4 [(0, .ref (h 0)), (1, .int a1)] := hl
  show W p l e rmM_lettersB s m _ below meth c s.heap [] 0 0 (zI below _ s (fM_lettersB n S a1)) _
  unfold fM_lettersB
  show W p l e rmM_lettersB s m _ below meth c s.heap [] 0 0 (zI below _ s _) (F0 m 0 ls [])
  refine lv_iconst (v := 0) hx hb dM_lettersB_0 (by decide) ?_
  refine lv_istore_n (lv' := [(2, .int 0), (0, .ref (h 0)), (1, .int a1)]) hx hb dM_lettersB_1 rfl hl (by decide) rfl (fun ls hl => ?_)
  refine lv_iconst (v := 0) hx hb dM_lettersB_2 (by decide) ?_
  refine lv_istore_n (lv' := [(3, .int 0), (2, .int 0), (0, .ref (h 0)), (1, .int a1)]) hx hb dM_lettersB_3 rfl hl (by decide) rfl (fun ls hl => ?_)
  exact tM_lettersB_4 hn ⟨hx, hb, hml, hown, hts⟩ hr hlocks hK hP n 0 a1 0 (by omega) ls (lv_sub hl [2, 3, 1, 0] rfl)
abbrev rmM_amongChildren : Room := { frames := 0, cells := 0, slots := 0, locals := 0 }
set_option maxHeartbeats 4000000 in
set_option maxRecDepth 100000 in
theorem kM_amongChildren (l : Launch) (D : va_G) (Y : Nat → ClassId) (a1 : Int32) (a2 : Int32) (a3 : Int64) (a4 : Int64) : Met l yM_amongChildren wsM_amongChildren rmM_amongChildren (va_Pc [.int a1, .int a2, .long a3, .long a4] (zPre D vwCl (tysK Y) ([]))) (vp_Sl (fun r => r = (fM_amongChildren a1 a2 a3 a4))) 0 0 (fun _ => False) := by
  refine Met.ofW (cc := cM_amongChildren) (maxL := 6) (ret := (some .long)) (by decide) rfl ?_
  intro p e s m args below meth c s₁ B hml hv
  obtain ⟨rfl, hP, hK⟩ := hv
  have hx := B.exec
  have hb := B.bytes
  have hr := B.returns
  have hts : ∀ w ∈ uT, w.before _ s = true := fun w hw => atoms_spec (ws := wsM_amongChildren) B.pre w (List.mem_cons_of_mem _ hw)
  have hown : s.vm.findClass RM = some m.cls := findClass_of_methodNamed B.named
  have hlocks := B.notSynchronized
  have hl := lv_entry ([.int a1, .int a2, .long a3, .long a4]) (n := 6) (Nat.le_of_ble_eq_true rfl)
  rw [lg_entry_eq]
  generalize (lg_sl ([.int a1, .int a2, .long a3, .long a4]) ++ List.replicate (6 - (lg_sl ([.int a1, .int a2, .long a3, .long a4])).length) Slot.unset).toArray = ls at hl ⊢
  have hl : lv_has ls 6 [(0, .int a1), (1, .int a2), (2, .long a3), (4, .long a4)] := hl
  show W p l e rmM_amongChildren s m _ below meth c s.heap [] 0 0 (zL below _ s (fM_amongChildren a1 a2 a3 a4)) _
  unfold fM_amongChildren
  show W p l e rmM_amongChildren s m _ below meth c s.heap [] 0 0 (zL below _ s _) (F0 m 0 ls [])
  refine lv_iload_n hx hb dM_amongChildren_0 rfl (lv_at hl 0 rfl) ?_
  refine zif (C := a1 = 0) (fun c1 => ?_) (fun c1 => ?_)
  · skip
    refine lv_if_ne (tgt := 11) hx hb dM_amongChildren_1 (by decide) (fun z => absurd c1 z) (fun _ => ?_)
    refine lv_iconst (v := 2) hx hb dM_amongChildren_4 (by decide) ?_
    refine lv_iload_n hx hb dM_amongChildren_5 rfl (lv_at hl 1 rfl) ?_
    refine lv_isub hx hb dM_amongChildren_6 ?_
    refine lv_i2l (v := ((2 - a2) : Int32).toInt64) hx hb dM_amongChildren_7 rfl ?_
    refine lv_lload_n hx hb dM_amongChildren_8 rfl (lv_at hl 2 rfl) ?_
    refine lv_lmul hx hb dM_amongChildren_9 ?_
    exact zL_ret hx hb hr hlocks dM_amongChildren_10
  · skip
    refine lv_if_ne (tgt := 11) hx hb dM_amongChildren_1 (by decide) (fun _ => ?_) (fun z => absurd z c1)
    refine lv_iload_n hx hb dM_amongChildren_11 rfl (lv_at hl 0 rfl) ?_
    refine lv_iconst (v := 1) hx hb dM_amongChildren_12 (by decide) ?_
    refine zif (C := a1 = 1) (fun c13 => ?_) (fun c13 => ?_)
    · skip
      refine lv_icmp_ne (tgt := 31) hx hb dM_amongChildren_13 (by decide) (fun z => absurd c13 z) (fun _ => ?_)
      refine lv_iload_n hx hb dM_amongChildren_16 rfl (lv_at hl 1 rfl) ?_
      refine lv_i2l (v := (a2 : Int32).toInt64) hx hb dM_amongChildren_17 rfl ?_
      refine lv_lload_n hx hb dM_amongChildren_18 rfl (lv_at hl 2 rfl) ?_
      refine lv_lmul hx hb dM_amongChildren_19 ?_
      refine lv_iconst (v := 2) hx hb dM_amongChildren_20 (by decide) ?_
      refine lv_iload_n hx hb dM_amongChildren_21 rfl (lv_at hl 1 rfl) ?_
      refine lv_isub hx hb dM_amongChildren_22 ?_
      refine lv_i2l (v := ((2 - a2) : Int32).toInt64) hx hb dM_amongChildren_23 rfl ?_
      refine lv_lload hx hb dM_amongChildren_24 (lv_at hl 3 rfl) ?_
      refine lv_lmul hx hb dM_amongChildren_26 ?_
      refine lv_ladd hx hb dM_amongChildren_27 ?_
      refine lv_goto (tgt := 36) hx hb dM_amongChildren_28 (by decide) ?_
      exact zL_ret hx hb hr hlocks dM_amongChildren_36
    · skip
      refine lv_icmp_ne (tgt := 31) hx hb dM_amongChildren_13 (by decide) (fun _ => ?_) (fun z => absurd z c13)
      refine lv_iload_n hx hb dM_amongChildren_31 rfl (lv_at hl 1 rfl) ?_
      refine lv_i2l (v := (a2 : Int32).toInt64) hx hb dM_amongChildren_32 rfl ?_
      refine lv_lload hx hb dM_amongChildren_33 (lv_at hl 3 rfl) ?_
      refine lv_lmul hx hb dM_amongChildren_35 ?_
      exact zL_ret hx hb hr hlocks dM_amongChildren_36
abbrev rmM_amongStrangers : Room := { frames := 0, cells := 0, slots := 0, locals := 0 }
set_option maxHeartbeats 4000000 in
set_option maxRecDepth 100000 in
theorem kM_amongStrangers (l : Launch) (D : va_G) (Y : Nat → ClassId) (a1 : Int32) (a2 : Int64) (a3 : Int64) : Met l yM_amongStrangers wsM_amongStrangers rmM_amongStrangers (va_Pc [.int a1, .long a2, .long a3] (zPre D vwCl (tysK Y) ([]))) (vp_Sl (fun r => r = (fM_amongStrangers a1 a2 a3))) 0 0 (fun _ => False) := by
  refine Met.ofW (cc := cM_amongStrangers) (maxL := 5) (ret := (some .long)) (by decide) rfl ?_
  intro p e s m args below meth c s₁ B hml hv
  obtain ⟨rfl, hP, hK⟩ := hv
  have hx := B.exec
  have hb := B.bytes
  have hr := B.returns
  have hts : ∀ w ∈ uT, w.before _ s = true := fun w hw => atoms_spec (ws := wsM_amongStrangers) B.pre w (List.mem_cons_of_mem _ hw)
  have hown : s.vm.findClass RM = some m.cls := findClass_of_methodNamed B.named
  have hlocks := B.notSynchronized
  have hl := lv_entry ([.int a1, .long a2, .long a3]) (n := 5) (Nat.le_of_ble_eq_true rfl)
  rw [lg_entry_eq]
  generalize (lg_sl ([.int a1, .long a2, .long a3]) ++ List.replicate (5 - (lg_sl ([.int a1, .long a2, .long a3])).length) Slot.unset).toArray = ls at hl ⊢
  have hl : lv_has ls 5 [(0, .int a1), (1, .long a2), (3, .long a3)] := hl
  show W p l e rmM_amongStrangers s m _ below meth c s.heap [] 0 0 (zL below _ s (fM_amongStrangers a1 a2 a3)) _
  unfold fM_amongStrangers
  show W p l e rmM_amongStrangers s m _ below meth c s.heap [] 0 0 (zL below _ s _) (F0 m 0 ls [])
  refine lv_iload_n hx hb dM_amongStrangers_0 rfl (lv_at hl 0 rfl) ?_
  refine zif (C := a1 = 0) (fun c1 => ?_) (fun c1 => ?_)
  · skip
    refine lv_if_ne (tgt := 8) hx hb dM_amongStrangers_1 (by decide) (fun z => absurd c1 z) (fun _ => ?_)
    refine lv_lload_n hx hb dM_amongStrangers_4 rfl (lv_at hl 1 rfl) ?_
    refine lv_lload_n hx hb dM_amongStrangers_5 rfl (lv_at hl 1 rfl) ?_
    refine lv_lmul hx hb dM_amongStrangers_6 ?_
    exact zL_ret hx hb hr hlocks dM_amongStrangers_7
  · skip
    refine lv_if_ne (tgt := 8) hx hb dM_amongStrangers_1 (by decide) (fun _ => ?_) (fun z => absurd z c1)
    refine lv_iload_n hx hb dM_amongStrangers_8 rfl (lv_at hl 0 rfl) ?_
    refine lv_iconst (v := 1) hx hb dM_amongStrangers_9 (by decide) ?_
    refine zif (C := a1 = 1) (fun c10 => ?_) (fun c10 => ?_)
    · skip
      refine lv_icmp_ne (tgt := 23) hx hb dM_amongStrangers_10 (by decide) (fun z => absurd c10 z) (fun _ => ?_)
      refine lv_ldc2 (v := 2) hx hb hown (hts _ uw92) dM_amongStrangers_13 ?_
      refine lv_lload_n hx hb dM_amongStrangers_16 rfl (lv_at hl 1 rfl) ?_
      refine lv_lmul hx hb dM_amongStrangers_17 ?_
      refine lv_lload_n hx hb dM_amongStrangers_18 rfl (lv_at hl 2 rfl) ?_
      refine lv_lmul hx hb dM_amongStrangers_19 ?_
      refine lv_goto (tgt := 26) hx hb dM_amongStrangers_20 (by decide) ?_
      exact zL_ret hx hb hr hlocks dM_amongStrangers_26
    · skip
      refine lv_icmp_ne (tgt := 23) hx hb dM_amongStrangers_10 (by decide) (fun _ => ?_) (fun z => absurd z c10)
      refine lv_lload_n hx hb dM_amongStrangers_23 rfl (lv_at hl 2 rfl) ?_
      refine lv_lload_n hx hb dM_amongStrangers_24 rfl (lv_at hl 2 rfl) ?_
      refine lv_lmul hx hb dM_amongStrangers_25 ?_
      exact zL_ret hx hb hr hlocks dM_amongStrangers_26
abbrev rmM_isLeftOut : Room := { frames := 3, cells := 0, slots := 0, locals := 67 }
set_option maxHeartbeats 4000000 in
set_option maxRecDepth 100000 in
theorem tM_isLeftOut_2 {p : Program} {l : Launch} {e : Env} {s : State} {m : MethodId} {args : Array Value} {below : List Frame} {meth : Method} {c : Code} {D : va_G} {Y : Nat → ClassId} {h : Nat → Nat} {n : Nat} (hn : n ≤ 24) {S : vM} (CF : CallFix p m c cM_isLeftOut 4 s args uT RM) (hr : meth.sig.returnType = (some .boolean)) (hlocks : meth.locks = false) (hK : va_K D vwCl (tysK Y) s) (hP : va_P D vwCl (wM Y h n S) s.heap) : ∀ (k i : Nat) (x1 : Int32) (x2 : Int32), i + k = 4 → ∀ ls : Array Slot, lv_has ls 4 [(0, .ref (h 0)), (1, .int x1), (2, .int x2), (3, .int (nI i))] → W p l e rmM_isLeftOut s m args below meth c s.heap [] 0 0 (zI below args s (fM_isLeftOut_2 n S k i x1 x2)) (F0 m 2 ls []) := by
  obtain ⟨hx, hb, hml, hown, hts⟩ := CF
  intro k
  induction k with
  | zero =>
    intro i x1 x2 hi  ls hl
    rw [fM_isLeftOut_2]
    refine lv_iload_n hx hb dM_isLeftOut_2 rfl (lv_at hl 3 rfl) ?_
    refine lv_iconst (v := 4) hx hb dM_isLeftOut_3 (by decide) ?_
    refine lv_icmp_ge (tgt := 36) hx hb dM_isLeftOut_4 (by decide) (fun _ => ?_) (fun z => absurd (lp_ge (n := 4) hi) z)
    refine lv_iconst (v := 0) hx hb dM_isLeftOut_36 (by decide) ?_
    exact zB_ret hx hb hr hlocks (Or.inl rfl) dM_isLeftOut_37
  | succ k ih =>
    intro i x1 x2 hi  ls hl
    rw [fM_isLeftOut_2]
    refine lv_iload_n hx hb dM_isLeftOut_2 rfl (lv_at hl 3 rfl) ?_
    refine lv_iconst (v := 4) hx hb dM_isLeftOut_3 (by decide) ?_
    refine lv_icmp_ge (tgt := 36) hx hb dM_isLeftOut_4 (by decide) (fun z => absurd z (lp_lt (n := 4) hi (by omega))) (fun _ => ?_)
    refine lv_aload_n hx hb dM_isLeftOut_7 rfl (lv_at hl 0 rfl) ?_
    refine lv_iload_n hx hb dM_isLeftOut_8 rfl (lv_at hl 1 rfl) ?_
    refine lv_iload_n hx hb dM_isLeftOut_9 rfl (lv_at hl 2 rfl) ?_
    refine lv_iload_n hx hb dM_isLeftOut_10 rfl (lv_at hl 3 rfl) ?_
    refine qVi (rest := []) ⟨hx, hb, hml, hown, hts⟩ (kM_isKnownOfBoth l D Y h n hn S x1 x2 (nI i)) (cwV 3 hts (gV uw93 uw94 uw95 uw84 ucM_isKnownOfBoth) rfl rfl rfl hvM_isKnownOfBoth ⟨Nat.le_of_ble_eq_true rfl, Nat.le_of_ble_eq_true rfl⟩) hK hP (va_recv hK hP (ci := 2) (q0 := 0) rfl rfl) rfl hl.1 rfl (Nat.le_of_ble_eq_true rfl) dM_isLeftOut_11 ⟨Nat.le_of_ble_eq_true rfl, Nat.le_of_ble_eq_true rfl⟩ ?_
    refine zif (C := (fM_isKnownOfBoth n S x1 x2 (nI i)) = 0) (fun c14 => ?_) (fun c14 => ?_)
    · skip
      refine lv_if_eq (tgt := 30) hx hb dM_isLeftOut_14 (by decide) (fun _ => ?_) (fun z => absurd c14 z)
      refine lv_iinc (v := (nI (i + 1))) (lv' := [(3, .int (nI (i + 1))), (0, .ref (h 0)), (1, .int x1), (2, .int x2)]) hx hb dM_isLeftOut_30 hl (k := 3) rfl (nI_1 _) (by decide) rfl (fun ls hl => ?_)
      refine lv_goto (tgt := 2) hx hb dM_isLeftOut_33 (by decide) ?_
      exact ih (i + 1) x1 x2 (by omega) ls (lv_sub hl [1, 2, 3, 0] rfl)
    · skip
      refine lv_if_eq (tgt := 30) hx hb dM_isLeftOut_14 (by decide) (fun z => absurd z c14) (fun _ => ?_)
      refine lv_aload_n hx hb dM_isLeftOut_17 rfl (lv_at hl 0 rfl) ?_
      refine lv_iload_n hx hb dM_isLeftOut_18 rfl (lv_at hl 1 rfl) ?_
      refine lv_iload_n hx hb dM_isLeftOut_19 rfl (lv_at hl 2 rfl) ?_
      refine lv_iload_n hx hb dM_isLeftOut_20 rfl (lv_at hl 3 rfl) ?_
      refine qVi (rest := []) ⟨hx, hb, hml, hown, hts⟩ (kM_difference l D Y h n hn S x1 x2 (nI i)) (cwV 3 hts (gV uw96 uw97 uw98 uw84 ucM_difference) rfl rfl rfl hvM_difference ⟨Nat.le_of_ble_eq_true rfl, Nat.le_of_ble_eq_true rfl⟩) hK hP (va_recv hK hP (ci := 2) (q0 := 0) rfl rfl) rfl hl.1 rfl (Nat.le_of_ble_eq_true rfl) dM_isLeftOut_21 ⟨Nat.le_of_ble_eq_true rfl, Nat.le_of_ble_eq_true rfl⟩ ?_
      refine lv_iconst (v := 2) hx hb dM_isLeftOut_24 (by decide) ?_
      refine zif (C := (fM_difference n S x1 x2 (nI i)) = 2) (fun c25 => ?_) (fun c25 => ?_)
      · skip
        refine lv_icmp_ne (tgt := 30) hx hb dM_isLeftOut_25 (by decide) (fun z => absurd c25 z) (fun _ => ?_)
        refine lv_iconst (v := 1) hx hb dM_isLeftOut_28 (by decide) ?_
        exact zB_ret hx hb hr hlocks (Or.inr rfl) dM_isLeftOut_29
      · skip
        refine lv_icmp_ne (tgt := 30) hx hb dM_isLeftOut_25 (by decide) (fun _ => ?_) (fun z => absurd z c25)
        refine lv_iinc (v := (nI (i + 1))) (lv' := [(3, .int (nI (i + 1))), (0, .ref (h 0)), (1, .int x1), (2, .int x2)]) hx hb dM_isLeftOut_30 hl (k := 3) rfl (nI_1 _) (by decide) rfl (fun ls hl => ?_)
        refine lv_goto (tgt := 2) hx hb dM_isLeftOut_33 (by decide) ?_
        exact ih (i + 1) x1 x2 (by omega) ls (lv_sub hl [1, 2, 3, 0] rfl)
set_option maxHeartbeats 4000000 in
set_option maxRecDepth 100000 in
theorem kM_isLeftOut (l : Launch) (D : va_G) (Y : Nat → ClassId) (h : Nat → Nat) (n : Nat) (hn : n ≤ 24) (S : vM) (a1 : Int32) (a2 : Int32) : Met l yM_isLeftOut wsM_isLeftOut rmM_isLeftOut (va_Pc [.ref (h 0), .int a1, .int a2] (zPre D vwCl (tysK Y) (wM Y h n S))) (vp_Si (fun r => r = (fM_isLeftOut n S a1 a2))) 0 0 (fun _ => False) := by
  refine Met.ofW (cc := cM_isLeftOut) (maxL := 4) (ret := (some .boolean)) (by decide) rfl ?_
  intro p e s m args below meth c s₁ B hml hv
  obtain ⟨rfl, hP, hK⟩ := hv
  have hx := B.exec
  have hb := B.bytes
  have hr := B.returns
  have hts : ∀ w ∈ uT, w.before _ s = true := fun w hw => atoms_spec (ws := wsM_isLeftOut) B.pre w (List.mem_cons_of_mem _ hw)
  have hown : s.vm.findClass RM = some m.cls := findClass_of_methodNamed B.named
  have hlocks := B.notSynchronized
  have hl := lv_entry ([.ref (h 0), .int a1, .int a2]) (n := 4) (Nat.le_of_ble_eq_true rfl)
  rw [lg_entry_eq]
  generalize (lg_sl ([.ref (h 0), .int a1, .int a2]) ++ List.replicate (4 - (lg_sl ([.ref (h 0), .int a1, .int a2])).length) Slot.unset).toArray = ls at hl ⊢
  have hl : lv_has ls 4 [(0, .ref (h 0)), (1, .int a1), (2, .int a2)] := hl
  show W p l e rmM_isLeftOut s m _ below meth c s.heap [] 0 0 (zI below _ s (fM_isLeftOut n S a1 a2)) _
  unfold fM_isLeftOut
  show W p l e rmM_isLeftOut s m _ below meth c s.heap [] 0 0 (zI below _ s _) (F0 m 0 ls [])
  refine lv_iconst (v := 0) hx hb dM_isLeftOut_0 (by decide) ?_
  refine lv_istore_n (lv' := [(3, .int 0), (0, .ref (h 0)), (1, .int a1), (2, .int a2)]) hx hb dM_isLeftOut_1 rfl hl (by decide) rfl (fun ls hl => ?_)
  exact tM_isLeftOut_2 hn ⟨hx, hb, hml, hown, hts⟩ hr hlocks hK hP 4 0 a1 a2 (by omega) ls (lv_sub hl [1, 2, 3, 0] rfl)
abbrev rmM_oddsOf : Room := { frames := 3, cells := 0, slots := 0, locals := 67 }
set_option maxHeartbeats 4000000 in
set_option maxRecDepth 100000 in
theorem tM_oddsOf_9 {p : Program} {l : Launch} {e : Env} {s : State} {m : MethodId} {args : Array Value} {below : List Frame} {meth : Method} {c : Code} {D : va_G} {Y : Nat → ClassId} {h : Nat → Nat} {n : Nat} (hn : n ≤ 24) {S : vM} (CF : CallFix p m c cM_oddsOf 14 s args uT RM) (hr : meth.sig.returnType = (some .long)) (hlocks : meth.locks = false) (hK : va_K D vwCl (tysK Y) s) (hP : va_P D vwCl (wM Y h n S) s.heap) : ∀ (k i : Nat) (x1 : Int32) (x2 : Int32) (x3 : Int32) (x4 : Int64) (x6 : Int64), i + k = 4 → ∀ ls : Array Slot, lv_has ls 14 [(0, .ref (h 0)), (1, .int x1), (2, .int x2), (3, .int x3), (4, .long x4), (6, .long x6), (8, .int (nI i))] → W p l e rmM_oddsOf s m args below meth c s.heap [] 0 0 (zL below args s (fM_oddsOf_9 n S k i x1 x2 x3 x4 x6)) (F0 m 9 ls []) := by
  obtain ⟨hx, hb, hml, hown, hts⟩ := CF
  intro k
  induction k with
  | zero =>
    intro i x1 x2 x3 x4 x6 hi  ls hl
    rw [fM_oddsOf_9]
    refine lv_iload hx hb dM_oddsOf_9 (lv_at hl 6 rfl) ?_
    refine lv_iconst (v := 4) hx hb dM_oddsOf_11 (by decide) ?_
    refine lv_icmp_ge (tgt := 111) hx hb dM_oddsOf_12 (by decide) (fun _ => ?_) (fun z => absurd (lp_ge (n := 4) hi) z)
    refine lv_lload hx hb dM_oddsOf_111 (lv_at hl 4 rfl) ?_
    refine lv_lload hx hb dM_oddsOf_113 (lv_at hl 5 rfl) ?_
    refine lv_iload_n hx hb dM_oddsOf_115 rfl (lv_at hl 3 rfl) ?_
    refine qSl (rest := []) ⟨hx, hb, hml, hown, hts⟩ (kF_lowest l D Y x4 x6 x3) (va_cwS 3 hts (gS uw99 uw100 uw2 ucF_lowest) rfl rfl rfl hsF_lowest ⟨Nat.le_of_ble_eq_true rfl, Nat.le_of_ble_eq_true rfl⟩) hK (zsub [] hP rfl) rfl hl.1 rfl (Nat.le_of_ble_eq_true rfl) dM_oddsOf_116 ⟨Nat.le_of_ble_eq_true rfl, Nat.le_of_ble_eq_true rfl⟩ ?_
    exact zL_ret hx hb hr hlocks dM_oddsOf_119
  | succ k ih =>
    intro i x1 x2 x3 x4 x6 hi  ls hl
    rw [fM_oddsOf_9]
    refine lv_iload hx hb dM_oddsOf_9 (lv_at hl 6 rfl) ?_
    refine lv_iconst (v := 4) hx hb dM_oddsOf_11 (by decide) ?_
    refine lv_icmp_ge (tgt := 111) hx hb dM_oddsOf_12 (by decide) (fun z => absurd z (lp_lt (n := 4) hi (by omega))) (fun _ => ?_)
    refine lv_aload_n hx hb dM_oddsOf_15 rfl (lv_at hl 0 rfl) ?_
    refine lv_iload_n hx hb dM_oddsOf_16 rfl (lv_at hl 1 rfl) ?_
    refine lv_iload_n hx hb dM_oddsOf_17 rfl (lv_at hl 2 rfl) ?_
    refine lv_iload hx hb dM_oddsOf_18 (lv_at hl 6 rfl) ?_
    refine qVi (rest := []) ⟨hx, hb, hml, hown, hts⟩ (kM_isKnownOfBoth l D Y h n hn S x1 x2 (nI i)) (cwV 3 hts (gV uw93 uw94 uw95 uw84 ucM_isKnownOfBoth) rfl rfl rfl hvM_isKnownOfBoth ⟨Nat.le_of_ble_eq_true rfl, Nat.le_of_ble_eq_true rfl⟩) hK hP (va_recv hK hP (ci := 2) (q0 := 0) rfl rfl) rfl hl.1 rfl (Nat.le_of_ble_eq_true rfl) dM_oddsOf_20 ⟨Nat.le_of_ble_eq_true rfl, Nat.le_of_ble_eq_true rfl⟩ ?_
    refine zif (C := (fM_isKnownOfBoth n S x1 x2 (nI i)) = 0) (fun c23 => ?_) (fun c23 => ?_)
    · skip
      refine lv_if_eq (tgt := 105) hx hb dM_oddsOf_23 (by decide) (fun _ => ?_) (fun z => absurd c23 z)
      refine lv_iinc (v := (nI (i + 1))) (lv' := [(8, .int (nI (i + 1))), (0, .ref (h 0)), (1, .int x1), (2, .int x2), (3, .int x3), (4, .long x4), (6, .long x6)]) hx hb dM_oddsOf_105 hl (k := 6) rfl (nI_1 _) (by decide) rfl (fun ls hl => ?_)
      refine lv_goto (tgt := 9) hx hb dM_oddsOf_108 (by decide) ?_
      exact ih (i + 1) x1 x2 x3 x4 x6 (by omega) ls (lv_sub hl [1, 2, 3, 4, 5, 6, 0] rfl)
    · skip
      refine lv_if_eq (tgt := 105) hx hb dM_oddsOf_23 (by decide) (fun z => absurd z c23) (fun _ => ?_)
      refine lv_ldc2 (v := 2) hx hb hown (hts _ uw92) dM_oddsOf_26 ?_
      refine lv_aload_n hx hb dM_oddsOf_29 rfl (lv_at hl 0 rfl) ?_
      refine lv_iload hx hb dM_oddsOf_30 (lv_at hl 6 rfl) ?_
      refine qVi (rest := [.long 2]) ⟨hx, hb, hml, hown, hts⟩ (kM_knownForms l D Y h n hn S (nI i)) (cwV 1 hts (gV uw101 uw102 uw103 uw84 ucM_knownForms) rfl rfl rfl hvM_knownForms ⟨Nat.le_of_ble_eq_true rfl, Nat.le_of_ble_eq_true rfl⟩) hK hP (va_recv hK hP (ci := 2) (q0 := 0) rfl rfl) rfl hl.1 rfl (Nat.le_of_ble_eq_true rfl) dM_oddsOf_32 ⟨Nat.le_of_ble_eq_true rfl, Nat.le_of_ble_eq_true rfl⟩ ?_
      refine lv_i2l (v := ((fM_knownForms n S (nI i)) : Int32).toInt64) hx hb dM_oddsOf_35 rfl ?_
      refine lv_lmul hx hb dM_oddsOf_36 ?_
      refine lv_lstore (lv' := [(9, .long (2 * ((fM_knownForms n S (nI i)) : Int32).toInt64)), (0, .ref (h 0)), (1, .int x1), (2, .int x2), (3, .int x3), (4, .long x4), (6, .long x6), (8, .int (nI i))]) hx hb dM_oddsOf_37 hl (by decide) rfl (fun ls hl => ?_)
      refine lv_aload_n hx hb dM_oddsOf_39 rfl (lv_at hl 1 rfl) ?_
      refine lv_iload hx hb dM_oddsOf_40 (lv_at hl 7 rfl) ?_
      refine qVi (rest := []) ⟨hx, hb, hml, hown, hts⟩ (kM_lettersB l D Y h n hn S (nI i)) (cwV 1 hts (gV uw104 uw105 uw106 uw84 ucM_lettersB) rfl rfl rfl hvM_lettersB ⟨Nat.le_of_ble_eq_true rfl, Nat.le_of_ble_eq_true rfl⟩) hK hP (va_recv hK hP (ci := 2) (q0 := 0) rfl rfl) rfl hl.1 rfl (Nat.le_of_ble_eq_true rfl) dM_oddsOf_42 ⟨Nat.le_of_ble_eq_true rfl, Nat.le_of_ble_eq_true rfl⟩ ?_
      refine lv_i2l (v := ((fM_lettersB n S (nI i)) : Int32).toInt64) hx hb dM_oddsOf_45 rfl ?_
      refine lv_lstore (lv' := [(11, .long (((fM_lettersB n S (nI i)) : Int32).toInt64)), (9, .long (2 * ((fM_knownForms n S (nI i)) : Int32).toInt64)), (0, .ref (h 0)), (1, .int x1), (2, .int x2), (3, .int x3), (4, .long x4), (6, .long x6), (8, .int (nI i))]) hx hb dM_oddsOf_46 hl (by decide) rfl (fun ls hl => ?_)
      refine lv_aload_n hx hb dM_oddsOf_48 rfl (lv_at hl 2 rfl) ?_
      refine lv_iload_n hx hb dM_oddsOf_49 rfl (lv_at hl 3 rfl) ?_
      refine lv_iload hx hb dM_oddsOf_50 (lv_at hl 8 rfl) ?_
      refine qVi (rest := []) ⟨hx, hb, hml, hown, hts⟩ (kM_formOf l D Y h n hn S x1 (nI i)) (cwV 2 hts (gV uw86 uw87 uw88 uw84 ucM_formOf) rfl rfl rfl hvM_formOf ⟨Nat.le_of_ble_eq_true rfl, Nat.le_of_ble_eq_true rfl⟩) hK hP (va_recv hK hP (ci := 2) (q0 := 0) rfl rfl) rfl hl.1 rfl (Nat.le_of_ble_eq_true rfl) dM_oddsOf_52 ⟨Nat.le_of_ble_eq_true rfl, Nat.le_of_ble_eq_true rfl⟩ ?_
      refine lv_istore (lv' := [(13, .int (fM_formOf n S x1 (nI i))), (11, .long (((fM_lettersB n S (nI i)) : Int32).toInt64)), (9, .long (2 * ((fM_knownForms n S (nI i)) : Int32).toInt64)), (0, .ref (h 0)), (1, .int x1), (2, .int x2), (3, .int x3), (4, .long x4), (6, .long x6), (8, .int (nI i))]) hx hb dM_oddsOf_55 hl (by decide) rfl (fun ls hl => ?_)
      refine lv_lload hx hb dM_oddsOf_57 (lv_at hl 7 rfl) ?_
      refine lv_iload hx hb dM_oddsOf_59 (lv_at hl 0 rfl) ?_
      refine lv_aload_n hx hb dM_oddsOf_61 rfl (lv_at hl 3 rfl) ?_
      refine lv_iload_n hx hb dM_oddsOf_62 rfl (lv_at hl 5 rfl) ?_
      refine lv_iload hx hb dM_oddsOf_63 (lv_at hl 9 rfl) ?_
      refine qVi (rest := [.int (fM_formOf n S x1 (nI i)), .long x4]) ⟨hx, hb, hml, hown, hts⟩ (kM_formOf l D Y h n hn S x2 (nI i)) (cwV 2 hts (gV uw86 uw87 uw88 uw84 ucM_formOf) rfl rfl rfl hvM_formOf ⟨Nat.le_of_ble_eq_true rfl, Nat.le_of_ble_eq_true rfl⟩) hK hP (va_recv hK hP (ci := 2) (q0 := 0) rfl rfl) rfl hl.1 rfl (Nat.le_of_ble_eq_true rfl) dM_oddsOf_65 ⟨Nat.le_of_ble_eq_true rfl, Nat.le_of_ble_eq_true rfl⟩ ?_
      refine lv_lload hx hb dM_oddsOf_68 (lv_at hl 2 rfl) ?_
      refine lv_lload hx hb dM_oddsOf_70 (lv_at hl 1 rfl) ?_
      refine lv_lsub hx hb dM_oddsOf_72 ?_
      refine lv_lload hx hb dM_oddsOf_73 (lv_at hl 1 rfl) ?_
      refine qSl (rest := [.long x4]) ⟨hx, hb, hml, hown, hts⟩ (kM_amongChildren l D Y (fM_formOf n S x1 (nI i)) (fM_formOf n S x2 (nI i)) ((2 * ((fM_knownForms n S (nI i)) : Int32).toInt64) - ((fM_lettersB n S (nI i)) : Int32).toInt64) (((fM_lettersB n S (nI i)) : Int32).toInt64)) (va_cwS 4 hts (gS uw107 uw108 uw84 ucM_amongChildren) rfl rfl rfl hsM_amongChildren ⟨Nat.le_of_ble_eq_true rfl, Nat.le_of_ble_eq_true rfl⟩) hK (zsub [] hP rfl) rfl hl.1 rfl (Nat.le_of_ble_eq_true rfl) dM_oddsOf_75 ⟨Nat.le_of_ble_eq_true rfl, Nat.le_of_ble_eq_true rfl⟩ ?_
      refine lv_lload hx hb dM_oddsOf_78 (lv_at hl 2 rfl) ?_
      refine lv_lmul hx hb dM_oddsOf_80 ?_
      refine lv_lmul hx hb dM_oddsOf_81 ?_
      refine lv_lstore (lv' := [(4, .long (x4 * ((fM_amongChildren (fM_formOf n S x1 (nI i)) (fM_formOf n S x2 (nI i)) ((2 * ((fM_knownForms n S (nI i)) : Int32).toInt64) - ((fM_lettersB n S (nI i)) : Int32).toInt64) (((fM_lettersB n S (nI i)) : Int32).toInt64)) * (2 * ((fM_knownForms n S (nI i)) : Int32).toInt64)))), (13, .int (fM_formOf n S x1 (nI i))), (11, .long (((fM_lettersB n S (nI i)) : Int32).toInt64)), (9, .long (2 * ((fM_knownForms n S (nI i)) : Int32).toInt64)), (0, .ref (h 0)), (1, .int x1), (2, .int x2), (3, .int x3), (6, .long x6), (8, .int (nI i))]) hx hb dM_oddsOf_82 hl (by decide) rfl (fun ls hl => ?_)
      refine lv_lload hx hb dM_oddsOf_84 (lv_at hl 8 rfl) ?_
      refine lv_iload hx hb dM_oddsOf_86 (lv_at hl 1 rfl) ?_
      refine lv_lload hx hb dM_oddsOf_88 (lv_at hl 3 rfl) ?_
      refine lv_lload hx hb dM_oddsOf_90 (lv_at hl 2 rfl) ?_
      refine lv_lsub hx hb dM_oddsOf_92 ?_
      refine lv_lload hx hb dM_oddsOf_93 (lv_at hl 2 rfl) ?_
      refine qSl (rest := [.long x6]) ⟨hx, hb, hml, hown, hts⟩ (kM_amongStrangers l D Y (fM_formOf n S x1 (nI i)) ((2 * ((fM_knownForms n S (nI i)) : Int32).toInt64) - ((fM_lettersB n S (nI i)) : Int32).toInt64) (((fM_lettersB n S (nI i)) : Int32).toInt64)) (va_cwS 3 hts (gS uw109 uw110 uw84 ucM_amongStrangers) rfl rfl rfl hsM_amongStrangers ⟨Nat.le_of_ble_eq_true rfl, Nat.le_of_ble_eq_true rfl⟩) hK (zsub [] hP rfl) rfl hl.1 rfl (Nat.le_of_ble_eq_true rfl) dM_oddsOf_95 ⟨Nat.le_of_ble_eq_true rfl, Nat.le_of_ble_eq_true rfl⟩ ?_
      refine lv_ldc2 (v := 2) hx hb hown (hts _ uw92) dM_oddsOf_98 ?_
      refine lv_lmul hx hb dM_oddsOf_101 ?_
      refine lv_lmul hx hb dM_oddsOf_102 ?_
      refine lv_lstore (lv' := [(6, .long (x6 * ((fM_amongStrangers (fM_formOf n S x1 (nI i)) ((2 * ((fM_knownForms n S (nI i)) : Int32).toInt64) - ((fM_lettersB n S (nI i)) : Int32).toInt64) (((fM_lettersB n S (nI i)) : Int32).toInt64)) * 2))), (4, .long (x4 * ((fM_amongChildren (fM_formOf n S x1 (nI i)) (fM_formOf n S x2 (nI i)) ((2 * ((fM_knownForms n S (nI i)) : Int32).toInt64) - ((fM_lettersB n S (nI i)) : Int32).toInt64) (((fM_lettersB n S (nI i)) : Int32).toInt64)) * (2 * ((fM_knownForms n S (nI i)) : Int32).toInt64)))), (13, .int (fM_formOf n S x1 (nI i))), (11, .long (((fM_lettersB n S (nI i)) : Int32).toInt64)), (9, .long (2 * ((fM_knownForms n S (nI i)) : Int32).toInt64)), (0, .ref (h 0)), (1, .int x1), (2, .int x2), (3, .int x3), (8, .int (nI i))]) hx hb dM_oddsOf_103 hl (by decide) rfl (fun ls hl => ?_)
      refine lv_iinc (v := (nI (i + 1))) (lv' := [(8, .int (nI (i + 1))), (6, .long (x6 * ((fM_amongStrangers (fM_formOf n S x1 (nI i)) ((2 * ((fM_knownForms n S (nI i)) : Int32).toInt64) - ((fM_lettersB n S (nI i)) : Int32).toInt64) (((fM_lettersB n S (nI i)) : Int32).toInt64)) * 2))), (4, .long (x4 * ((fM_amongChildren (fM_formOf n S x1 (nI i)) (fM_formOf n S x2 (nI i)) ((2 * ((fM_knownForms n S (nI i)) : Int32).toInt64) - ((fM_lettersB n S (nI i)) : Int32).toInt64) (((fM_lettersB n S (nI i)) : Int32).toInt64)) * (2 * ((fM_knownForms n S (nI i)) : Int32).toInt64)))), (13, .int (fM_formOf n S x1 (nI i))), (11, .long (((fM_lettersB n S (nI i)) : Int32).toInt64)), (9, .long (2 * ((fM_knownForms n S (nI i)) : Int32).toInt64)), (0, .ref (h 0)), (1, .int x1), (2, .int x2), (3, .int x3)]) hx hb dM_oddsOf_105 hl (k := 9) rfl (nI_1 _) (by decide) rfl (fun ls hl => ?_)
      refine lv_goto (tgt := 9) hx hb dM_oddsOf_108 (by decide) ?_
      exact ih (i + 1) x1 x2 x3 (x4 * ((fM_amongChildren (fM_formOf n S x1 (nI i)) (fM_formOf n S x2 (nI i)) ((2 * ((fM_knownForms n S (nI i)) : Int32).toInt64) - ((fM_lettersB n S (nI i)) : Int32).toInt64) (((fM_lettersB n S (nI i)) : Int32).toInt64)) * (2 * ((fM_knownForms n S (nI i)) : Int32).toInt64))) (x6 * ((fM_amongStrangers (fM_formOf n S x1 (nI i)) ((2 * ((fM_knownForms n S (nI i)) : Int32).toInt64) - ((fM_lettersB n S (nI i)) : Int32).toInt64) (((fM_lettersB n S (nI i)) : Int32).toInt64)) * 2)) (by omega) ls (lv_sub hl [6, 7, 8, 9, 2, 1, 0] rfl)
set_option maxHeartbeats 4000000 in
set_option maxRecDepth 100000 in
theorem kM_oddsOf (l : Launch) (D : va_G) (Y : Nat → ClassId) (h : Nat → Nat) (n : Nat) (hn : n ≤ 24) (S : vM) (a1 : Int32) (a2 : Int32) (a3 : Int32) : Met l yM_oddsOf wsM_oddsOf rmM_oddsOf (va_Pc [.ref (h 0), .int a1, .int a2, .int a3] (zPre D vwCl (tysK Y) (wM Y h n S))) (vp_Sl (fun r => r = (fM_oddsOf n S a1 a2 a3))) 0 0 (fun _ => False) := by
  refine Met.ofW (cc := cM_oddsOf) (maxL := 14) (ret := (some .long)) (by decide) rfl ?_
  intro p e s m args below meth c s₁ B hml hv
  obtain ⟨rfl, hP, hK⟩ := hv
  have hx := B.exec
  have hb := B.bytes
  have hr := B.returns
  have hts : ∀ w ∈ uT, w.before _ s = true := fun w hw => atoms_spec (ws := wsM_oddsOf) B.pre w (List.mem_cons_of_mem _ hw)
  have hown : s.vm.findClass RM = some m.cls := findClass_of_methodNamed B.named
  have hlocks := B.notSynchronized
  have hl := lv_entry ([.ref (h 0), .int a1, .int a2, .int a3]) (n := 14) (Nat.le_of_ble_eq_true rfl)
  rw [lg_entry_eq]
  generalize (lg_sl ([.ref (h 0), .int a1, .int a2, .int a3]) ++ List.replicate (14 - (lg_sl ([.ref (h 0), .int a1, .int a2, .int a3])).length) Slot.unset).toArray = ls at hl ⊢
  have hl : lv_has ls 14 [(0, .ref (h 0)), (1, .int a1), (2, .int a2), (3, .int a3)] := hl
  show W p l e rmM_oddsOf s m _ below meth c s.heap [] 0 0 (zL below _ s (fM_oddsOf n S a1 a2 a3)) _
  unfold fM_oddsOf
  show W p l e rmM_oddsOf s m _ below meth c s.heap [] 0 0 (zL below _ s _) (F0 m 0 ls [])
  refine lv_lconst (v := 1) hx hb dM_oddsOf_0 (by decide) ?_
  refine lv_lstore (lv' := [(4, .long 1), (0, .ref (h 0)), (1, .int a1), (2, .int a2), (3, .int a3)]) hx hb dM_oddsOf_1 hl (by decide) rfl (fun ls hl => ?_)
  refine lv_lconst (v := 1) hx hb dM_oddsOf_3 (by decide) ?_
  refine lv_lstore (lv' := [(6, .long 1), (4, .long 1), (0, .ref (h 0)), (1, .int a1), (2, .int a2), (3, .int a3)]) hx hb dM_oddsOf_4 hl (by decide) rfl (fun ls hl => ?_)
  refine lv_iconst (v := 0) hx hb dM_oddsOf_6 (by decide) ?_
  refine lv_istore (lv' := [(8, .int 0), (6, .long 1), (4, .long 1), (0, .ref (h 0)), (1, .int a1), (2, .int a2), (3, .int a3)]) hx hb dM_oddsOf_7 hl (by decide) rfl (fun ls hl => ?_)
  exact tM_oddsOf_9 hn ⟨hx, hb, hml, hown, hts⟩ hr hlocks hK hP 4 0 a1 a2 a3 1 1 (by omega) ls (lv_sub hl [3, 4, 5, 6, 2, 1, 0] rfl)
abbrev rmM_likenessOf : Room := { frames := 3, cells := 0, slots := 0, locals := 67 }
set_option maxHeartbeats 4000000 in
set_option maxRecDepth 100000 in
theorem tM_likenessOf_9 {p : Program} {l : Launch} {e : Env} {s : State} {m : MethodId} {args : Array Value} {below : List Frame} {meth : Method} {c : Code} {D : va_G} {Y : Nat → ClassId} {h : Nat → Nat} {n : Nat} (hn : n ≤ 24) {S : vM} (CF : CallFix p m c cM_likenessOf 9 s args uT RM) (hr : meth.sig.returnType = (some .long)) (hlocks : meth.locks = false) (hK : va_K D vwCl (tysK Y) s) (hP : va_P D vwCl (wM Y h n S) s.heap) : ∀ (k i : Nat) (x1 : Int32) (x2 : Int32) (x3 : Int32) (x4 : Int64) (x6 : Int64), i + k = 4 → ∀ ls : Array Slot, lv_has ls 9 [(0, .ref (h 0)), (1, .int x1), (2, .int x2), (3, .int x3), (4, .long x4), (6, .long x6), (8, .int (nI i))] → W p l e rmM_likenessOf s m args below meth c s.heap [] 0 0 (zL below args s (fM_likenessOf_9 n S k i x1 x2 x3 x4 x6)) (F0 m 9 ls []) := by
  obtain ⟨hx, hb, hml, hown, hts⟩ := CF
  intro k
  induction k with
  | zero =>
    intro i x1 x2 x3 x4 x6 hi  ls hl
    rw [fM_likenessOf_9]
    refine lv_iload hx hb dM_likenessOf_9 (lv_at hl 6 rfl) ?_
    refine lv_iconst (v := 4) hx hb dM_likenessOf_11 (by decide) ?_
    refine lv_icmp_ge (tgt := 54) hx hb dM_likenessOf_12 (by decide) (fun _ => ?_) (fun z => absurd (lp_ge (n := 4) hi) z)
    refine lv_lload hx hb dM_likenessOf_54 (lv_at hl 5 rfl) ?_
    refine lv_lconst (v := 0) hx hb dM_likenessOf_56 (by decide) ?_
    refine W.lcmp hx hb dM_likenessOf_57 ?_
    refine zif (C := (lg_cmp x6 0) = 0) (fun c58 => ?_) (fun c58 => ?_)
    · skip
      refine lv_if_ne (tgt := 67) hx hb dM_likenessOf_58 (by decide) (fun z => absurd c58 z) (fun _ => ?_)
      refine lv_ldc2 (v := (-1)) hx hb hown (hts _ uw111) dM_likenessOf_61 ?_
      refine lv_goto (tgt := 79) hx hb dM_likenessOf_64 (by decide) ?_
      exact zL_ret hx hb hr hlocks dM_likenessOf_79
    · skip
      refine lv_if_ne (tgt := 67) hx hb dM_likenessOf_58 (by decide) (fun _ => ?_) (fun z => absurd z c58)
      refine lv_lload hx hb dM_likenessOf_67 (lv_at hl 4 rfl) ?_
      refine lv_ldc2 (v := 2) hx hb hown (hts _ uw92) dM_likenessOf_69 ?_
      refine lv_lload hx hb dM_likenessOf_72 (lv_at hl 5 rfl) ?_
      refine lv_lmul hx hb dM_likenessOf_74 ?_
      refine lv_iload_n hx hb dM_likenessOf_75 rfl (lv_at hl 3 rfl) ?_
      refine qSl (rest := []) ⟨hx, hb, hml, hown, hts⟩ (kF_lowest l D Y x4 (2 * x6) x3) (va_cwS 3 hts (gS uw99 uw100 uw2 ucF_lowest) rfl rfl rfl hsF_lowest ⟨Nat.le_of_ble_eq_true rfl, Nat.le_of_ble_eq_true rfl⟩) hK (zsub [] hP rfl) rfl hl.1 rfl (Nat.le_of_ble_eq_true rfl) dM_likenessOf_76 ⟨Nat.le_of_ble_eq_true rfl, Nat.le_of_ble_eq_true rfl⟩ ?_
      exact zL_ret hx hb hr hlocks dM_likenessOf_79
  | succ k ih =>
    intro i x1 x2 x3 x4 x6 hi  ls hl
    rw [fM_likenessOf_9]
    refine lv_iload hx hb dM_likenessOf_9 (lv_at hl 6 rfl) ?_
    refine lv_iconst (v := 4) hx hb dM_likenessOf_11 (by decide) ?_
    refine lv_icmp_ge (tgt := 54) hx hb dM_likenessOf_12 (by decide) (fun z => absurd z (lp_lt (n := 4) hi (by omega))) (fun _ => ?_)
    refine lv_aload_n hx hb dM_likenessOf_15 rfl (lv_at hl 0 rfl) ?_
    refine lv_iload_n hx hb dM_likenessOf_16 rfl (lv_at hl 1 rfl) ?_
    refine lv_iload_n hx hb dM_likenessOf_17 rfl (lv_at hl 2 rfl) ?_
    refine lv_iload hx hb dM_likenessOf_18 (lv_at hl 6 rfl) ?_
    refine qVi (rest := []) ⟨hx, hb, hml, hown, hts⟩ (kM_isKnownOfBoth l D Y h n hn S x1 x2 (nI i)) (cwV 3 hts (gV uw93 uw94 uw95 uw84 ucM_isKnownOfBoth) rfl rfl rfl hvM_isKnownOfBoth ⟨Nat.le_of_ble_eq_true rfl, Nat.le_of_ble_eq_true rfl⟩) hK hP (va_recv hK hP (ci := 2) (q0 := 0) rfl rfl) rfl hl.1 rfl (Nat.le_of_ble_eq_true rfl) dM_likenessOf_20 ⟨Nat.le_of_ble_eq_true rfl, Nat.le_of_ble_eq_true rfl⟩ ?_
    refine zif (C := (fM_isKnownOfBoth n S x1 x2 (nI i)) = 0) (fun c23 => ?_) (fun c23 => ?_)
    · skip
      refine lv_if_eq (tgt := 48) hx hb dM_likenessOf_23 (by decide) (fun _ => ?_) (fun z => absurd c23 z)
      refine lv_iinc (v := (nI (i + 1))) (lv' := [(8, .int (nI (i + 1))), (0, .ref (h 0)), (1, .int x1), (2, .int x2), (3, .int x3), (4, .long x4), (6, .long x6)]) hx hb dM_likenessOf_48 hl (k := 6) rfl (nI_1 _) (by decide) rfl (fun ls hl => ?_)
      refine lv_goto (tgt := 9) hx hb dM_likenessOf_51 (by decide) ?_
      exact ih (i + 1) x1 x2 x3 x4 x6 (by omega) ls (lv_sub hl [1, 2, 3, 4, 5, 6, 0] rfl)
    · skip
      refine lv_if_eq (tgt := 48) hx hb dM_likenessOf_23 (by decide) (fun z => absurd z c23) (fun _ => ?_)
      refine lv_lload hx hb dM_likenessOf_26 (lv_at hl 4 rfl) ?_
      refine lv_iconst (v := 2) hx hb dM_likenessOf_28 (by decide) ?_
      refine lv_aload_n hx hb dM_likenessOf_29 rfl (lv_at hl 0 rfl) ?_
      refine lv_iload_n hx hb dM_likenessOf_30 rfl (lv_at hl 1 rfl) ?_
      refine lv_iload_n hx hb dM_likenessOf_31 rfl (lv_at hl 2 rfl) ?_
      refine lv_iload hx hb dM_likenessOf_32 (lv_at hl 6 rfl) ?_
      refine qVi (rest := [.int 2, .long x4]) ⟨hx, hb, hml, hown, hts⟩ (kM_difference l D Y h n hn S x1 x2 (nI i)) (cwV 3 hts (gV uw96 uw97 uw98 uw84 ucM_difference) rfl rfl rfl hvM_difference ⟨Nat.le_of_ble_eq_true rfl, Nat.le_of_ble_eq_true rfl⟩) hK hP (va_recv hK hP (ci := 2) (q0 := 0) rfl rfl) rfl hl.1 rfl (Nat.le_of_ble_eq_true rfl) dM_likenessOf_34 ⟨Nat.le_of_ble_eq_true rfl, Nat.le_of_ble_eq_true rfl⟩ ?_
      refine lv_isub hx hb dM_likenessOf_37 ?_
      refine lv_i2l (v := ((2 - (fM_difference n S x1 x2 (nI i))) : Int32).toInt64) hx hb dM_likenessOf_38 rfl ?_
      refine lv_ladd hx hb dM_likenessOf_39 ?_
      refine lv_lstore (lv' := [(4, .long (x4 + ((2 - (fM_difference n S x1 x2 (nI i))) : Int32).toInt64)), (0, .ref (h 0)), (1, .int x1), (2, .int x2), (3, .int x3), (6, .long x6), (8, .int (nI i))]) hx hb dM_likenessOf_40 hl (by decide) rfl (fun ls hl => ?_)
      refine lv_lload hx hb dM_likenessOf_42 (lv_at hl 5 rfl) ?_
      refine lv_lconst (v := 1) hx hb dM_likenessOf_44 (by decide) ?_
      refine lv_ladd hx hb dM_likenessOf_45 ?_
      refine lv_lstore (lv' := [(6, .long (x6 + 1)), (4, .long (x4 + ((2 - (fM_difference n S x1 x2 (nI i))) : Int32).toInt64)), (0, .ref (h 0)), (1, .int x1), (2, .int x2), (3, .int x3), (8, .int (nI i))]) hx hb dM_likenessOf_46 hl (by decide) rfl (fun ls hl => ?_)
      refine lv_iinc (v := (nI (i + 1))) (lv' := [(8, .int (nI (i + 1))), (6, .long (x6 + 1)), (4, .long (x4 + ((2 - (fM_difference n S x1 x2 (nI i))) : Int32).toInt64)), (0, .ref (h 0)), (1, .int x1), (2, .int x2), (3, .int x3)]) hx hb dM_likenessOf_48 hl (k := 6) rfl (nI_1 _) (by decide) rfl (fun ls hl => ?_)
      refine lv_goto (tgt := 9) hx hb dM_likenessOf_51 (by decide) ?_
      exact ih (i + 1) x1 x2 x3 (x4 + ((2 - (fM_difference n S x1 x2 (nI i))) : Int32).toInt64) (x6 + 1) (by omega) ls (lv_sub hl [3, 4, 5, 6, 2, 1, 0] rfl)
set_option maxHeartbeats 4000000 in
set_option maxRecDepth 100000 in
theorem kM_likenessOf (l : Launch) (D : va_G) (Y : Nat → ClassId) (h : Nat → Nat) (n : Nat) (hn : n ≤ 24) (S : vM) (a1 : Int32) (a2 : Int32) (a3 : Int32) : Met l yM_likenessOf wsM_likenessOf rmM_likenessOf (va_Pc [.ref (h 0), .int a1, .int a2, .int a3] (zPre D vwCl (tysK Y) (wM Y h n S))) (vp_Sl (fun r => r = (fM_likenessOf n S a1 a2 a3))) 0 0 (fun _ => False) := by
  refine Met.ofW (cc := cM_likenessOf) (maxL := 9) (ret := (some .long)) (by decide) rfl ?_
  intro p e s m args below meth c s₁ B hml hv
  obtain ⟨rfl, hP, hK⟩ := hv
  have hx := B.exec
  have hb := B.bytes
  have hr := B.returns
  have hts : ∀ w ∈ uT, w.before _ s = true := fun w hw => atoms_spec (ws := wsM_likenessOf) B.pre w (List.mem_cons_of_mem _ hw)
  have hown : s.vm.findClass RM = some m.cls := findClass_of_methodNamed B.named
  have hlocks := B.notSynchronized
  have hl := lv_entry ([.ref (h 0), .int a1, .int a2, .int a3]) (n := 9) (Nat.le_of_ble_eq_true rfl)
  rw [lg_entry_eq]
  generalize (lg_sl ([.ref (h 0), .int a1, .int a2, .int a3]) ++ List.replicate (9 - (lg_sl ([.ref (h 0), .int a1, .int a2, .int a3])).length) Slot.unset).toArray = ls at hl ⊢
  have hl : lv_has ls 9 [(0, .ref (h 0)), (1, .int a1), (2, .int a2), (3, .int a3)] := hl
  show W p l e rmM_likenessOf s m _ below meth c s.heap [] 0 0 (zL below _ s (fM_likenessOf n S a1 a2 a3)) _
  unfold fM_likenessOf
  show W p l e rmM_likenessOf s m _ below meth c s.heap [] 0 0 (zL below _ s _) (F0 m 0 ls [])
  refine lv_lconst (v := 0) hx hb dM_likenessOf_0 (by decide) ?_
  refine lv_lstore (lv' := [(4, .long 0), (0, .ref (h 0)), (1, .int a1), (2, .int a2), (3, .int a3)]) hx hb dM_likenessOf_1 hl (by decide) rfl (fun ls hl => ?_)
  refine lv_lconst (v := 0) hx hb dM_likenessOf_3 (by decide) ?_
  refine lv_lstore (lv' := [(6, .long 0), (4, .long 0), (0, .ref (h 0)), (1, .int a1), (2, .int a2), (3, .int a3)]) hx hb dM_likenessOf_4 hl (by decide) rfl (fun ls hl => ?_)
  refine lv_iconst (v := 0) hx hb dM_likenessOf_6 (by decide) ?_
  refine lv_istore (lv' := [(8, .int 0), (6, .long 0), (4, .long 0), (0, .ref (h 0)), (1, .int a1), (2, .int a2), (3, .int a3)]) hx hb dM_likenessOf_7 hl (by decide) rfl (fun ls hl => ?_)
  exact tM_likenessOf_9 hn ⟨hx, hb, hml, hown, hts⟩ hr hlocks hK hP 4 0 a1 a2 a3 0 0 (by omega) ls (lv_sub hl [3, 4, 5, 6, 2, 1, 0] rfl)
abbrev rmM_setForm : Room := { frames := 1, cells := 0, slots := 0, locals := 22 }
set_option maxHeartbeats 4000000 in
set_option maxRecDepth 100000 in
theorem kM_setForm (l : Launch) (D : va_G) (Y : Nat → ClassId) (h : Nat → Nat) (n : Nat) (hn : n ≤ 24) (S : vM) (a1 : Int32) (a2 : Int32) (a3 : Int32) (sz : Nat) : Met l yM_setForm wsM_setForm rmM_setForm (va_Pc [.ref (h 0), .int a1, .int a2, .int a3] (zPreM D vwCl (tysK Y) (wM Y h n S) sz)) (va_Qi (fun r u => (r, u) = (fM_setForm n S a1 a2 a3)) (zAt D vwCl (tysK Y) (va_A (wM Y h n S) sz) (wM Y h n)) (va_A (wM Y h n S) sz)) 0 0 (va_A (wM Y h n S) sz) := by
  refine Met.ofW (cc := cM_setForm) (maxL := 4) (ret := (some .boolean)) (by decide) rfl ?_
  intro p e s m args below meth c s₁ B hml hv
  obtain ⟨rfl, hsz, hP, hK, hD0⟩ := hv
  have hx := B.exec
  have hb := B.bytes
  have hr := B.returns
  have hts : ∀ w ∈ uT, w.before _ s = true := fun w hw => atoms_spec (ws := wsM_setForm) B.pre w (List.mem_cons_of_mem _ hw)
  have hown : s.vm.findClass RM = some m.cls := findClass_of_methodNamed B.named
  have hlocks := B.notSynchronized
  subst hsz
  have hD := hD0.self (sz := s.heap.size)
  generalize hAe : va_A (wM Y h n S) s.heap.size = A at hD ⊢
  have hA : ∀ q : Nat, s.heap.size ≤ q → A q := fun q h => by rw [← hAe]; exact Or.inr h
  have hS : va_S A s.heap s.heap [] := va_S.rf
  have hl := lv_entry ([.ref (h 0), .int a1, .int a2, .int a3]) (n := 4) (Nat.le_of_ble_eq_true rfl)
  rw [lg_entry_eq]
  generalize (lg_sl ([.ref (h 0), .int a1, .int a2, .int a3]) ++ List.replicate (4 - (lg_sl ([.ref (h 0), .int a1, .int a2, .int a3])).length) Slot.unset).toArray = ls at hl ⊢
  have hl : lv_has ls 4 [(0, .ref (h 0)), (1, .int a1), (2, .int a2), (3, .int a3)] := hl
  show W p l e rmM_setForm s m _ below meth c s.heap [] 0 0 (zMi D vwCl (tysK Y) A (wM Y h n) below _ s 0 0 (fM_setForm n S a1 a2 a3)) _
  unfold fM_setForm
  show W p l e rmM_setForm s m _ below meth c s.heap [] 0 0 (zMi D vwCl (tysK Y) A (wM Y h n) below _ s 0 0 _) (F0 m 0 ls [])
  refine lv_aload_n hx hb dM_setForm_0 rfl (lv_at hl 0 rfl) ?_
  refine lv_iload_n hx hb dM_setForm_1 rfl (lv_at hl 1 rfl) ?_
  refine lv_iload_n hx hb dM_setForm_2 rfl (lv_at hl 2 rfl) ?_
  refine qVi (rest := []) ⟨hx, hb, hml, hown, hts⟩ (kM_has l D Y h n hn S a1 a2) (cwV 2 hts (gV uw81 uw82 uw83 uw84 ucM_has) rfl rfl rfl hvM_has ⟨Nat.le_of_ble_eq_true rfl, Nat.le_of_ble_eq_true rfl⟩) hK hP (va_recv hK hP (ci := 2) (q0 := 0) rfl rfl) rfl hl.1 rfl (Nat.le_of_ble_eq_true rfl) dM_setForm_3 ⟨Nat.le_of_ble_eq_true rfl, Nat.le_of_ble_eq_true rfl⟩ ?_
  refine zif (C := (fM_has n a1 a2) = 0) (fun c6 => ?_) (fun c6 => ?_)
  · skip
    refine lv_if_eq (tgt := 19) hx hb dM_setForm_6 (by decide) (fun _ => ?_) (fun z => absurd c6 z)
    refine lv_iconst (v := 0) hx hb dM_setForm_19 (by decide) ?_
    exact zMb_ret (u := S) hx hb hr hlocks hK hP hD hS (Or.inl rfl) dM_setForm_20
  · skip
    refine lv_if_eq (tgt := 19) hx hb dM_setForm_6 (by decide) (fun z => absurd z c6) (fun _ => ?_)
    refine lv_iload_n hx hb dM_setForm_9 rfl (lv_at hl 3 rfl) ?_
    refine lv_iconst (v := (-1)) hx hb dM_setForm_10 (by decide) ?_
    refine zif (C := a3 < (-1)) (fun c11 => ?_) (fun c11 => ?_)
    · skip
      refine lv_icmp_lt (tgt := 19) hx hb dM_setForm_11 (by decide) (fun _ => ?_) (fun z => absurd c11 z)
      refine lv_iconst (v := 0) hx hb dM_setForm_19 (by decide) ?_
      exact zMb_ret (u := S) hx hb hr hlocks hK hP hD hS (Or.inl rfl) dM_setForm_20
    · skip
      refine lv_icmp_lt (tgt := 19) hx hb dM_setForm_11 (by decide) (fun z => absurd z c11) (fun _ => ?_)
      refine lv_iload_n hx hb dM_setForm_14 rfl (lv_at hl 3 rfl) ?_
      refine lv_iconst (v := 2) hx hb dM_setForm_15 (by decide) ?_
      refine zif (C := a3 ≤ 2) (fun c16 => ?_) (fun c16 => ?_)
      · skip
        refine lv_icmp_le (tgt := 21) hx hb dM_setForm_16 (by decide) (fun _ => ?_) (fun z => absurd c16 z)
        refine lv_aload_n hx hb dM_setForm_21 rfl (lv_at hl 0 rfl) ?_
        refine va_get (D := D) (ci := 2) (v := .ref (h 1)) (C := RM) (T := TM) (N := 2) hx hb hts hinM hown hK hP 0 rfl rfl 1 (by decide) (hts _ uw85) (fun _ h9 => h9) rfl dM_setForm_22 ?_
        refine lv_iload_n hx hb dM_setForm_25 rfl (lv_at hl 1 rfl) ?_
        refine lv_iconst (v := 4) hx hb dM_setForm_26 (by decide) ?_
        refine lv_imul hx hb dM_setForm_27 ?_
        refine lv_iload_n hx hb dM_setForm_28 rfl (lv_at hl 2 rfl) ?_
        refine lv_iadd hx hb dM_setForm_29 ?_
        refine lv_iload_n hx hb dM_setForm_30 rfl (lv_at hl 3 rfl) ?_
        refine va_iast hx hb hK hP hD hS 1 0 rfl rfl (fm_in hn c6) dM_setForm_31 (fun H locs hP hD hS => ?_)
        have hP : va_P D vwCl (wM Y h n (upd S (((a1 * 4) + a2) : Int32).toNatClampNeg a3)) H := hP
        have hD : va_D A (wM Y h n (upd S (((a1 * 4) + a2) : Int32).toNatClampNeg a3)) := hD
        refine lv_iconst (v := 1) hx hb dM_setForm_32 (by decide) ?_
        exact zMb_ret (u := (upd S (((a1 * 4) + a2) : Int32).toNatClampNeg a3)) hx hb hr hlocks hK hP hD hS (Or.inr rfl) dM_setForm_33
      · skip
        refine lv_icmp_le (tgt := 21) hx hb dM_setForm_16 (by decide) (fun z => absurd z c16) (fun _ => ?_)
        refine lv_iconst (v := 0) hx hb dM_setForm_19 (by decide) ?_
        exact zMb_ret (u := S) hx hb hr hlocks hK hP hD hS (Or.inl rfl) dM_setForm_20
abbrev rmK_isAnimal : Room := { frames := 0, cells := 0, slots := 0, locals := 0 }
set_option maxHeartbeats 4000000 in
set_option maxRecDepth 100000 in
theorem kK_isAnimal (l : Launch) (D : va_G) (Y : Nat → ClassId) (h : Nat → Nat) (n : Nat) (hn : n ≤ 24) (S : vK) (a1 : Int32) : Met l yK_isAnimal wsK_isAnimal rmK_isAnimal (va_Pc [.ref (h 0), .int a1] (zPre D vwCl (tysK Y) (wK Y h n S))) (vp_Si (fun r => r = (fK_isAnimal n a1))) 0 0 (fun _ => False) := by
  refine Met.ofW (cc := cK_isAnimal) (maxL := 2) (ret := (some .boolean)) (by decide) rfl ?_
  intro p e s m args below meth c s₁ B hml hv
  obtain ⟨rfl, hP, hK⟩ := hv
  have hx := B.exec
  have hb := B.bytes
  have hr := B.returns
  have hts : ∀ w ∈ uT, w.before _ s = true := fun w hw => atoms_spec (ws := wsK_isAnimal) B.pre w (List.mem_cons_of_mem _ hw)
  have hown : s.vm.findClass RK = some m.cls := findClass_of_methodNamed B.named
  have hlocks := B.notSynchronized
  have hl := lv_entry ([.ref (h 0), .int a1]) (n := 2) (Nat.le_of_ble_eq_true rfl)
  rw [lg_entry_eq]
  generalize (lg_sl ([.ref (h 0), .int a1]) ++ List.replicate (2 - (lg_sl ([.ref (h 0), .int a1])).length) Slot.unset).toArray = ls at hl ⊢
  have hl : lv_has ls 2 [(0, .ref (h 0)), (1, .int a1)] := hl
  show W p l e rmK_isAnimal s m _ below meth c s.heap [] 0 0 (zI below _ s (fK_isAnimal n a1)) _
  unfold fK_isAnimal
  show W p l e rmK_isAnimal s m _ below meth c s.heap [] 0 0 (zI below _ s _) (F0 m 0 ls [])
  refine lv_iload_n hx hb dK_isAnimal_0 rfl (lv_at hl 1 rfl) ?_
  refine zif (C := a1 < 0) (fun c1 => ?_) (fun c1 => ?_)
  · skip
    refine lv_if_lt (tgt := 16) hx hb dK_isAnimal_1 (by decide) (fun _ => ?_) (fun z => absurd c1 z)
    refine lv_iconst (v := 0) hx hb dK_isAnimal_16 (by decide) ?_
    exact zB_ret hx hb hr hlocks (Or.inl rfl) dK_isAnimal_17
  · skip
    refine lv_if_lt (tgt := 16) hx hb dK_isAnimal_1 (by decide) (fun z => absurd z c1) (fun _ => ?_)
    refine lv_iload_n hx hb dK_isAnimal_4 rfl (lv_at hl 1 rfl) ?_
    refine lv_aload_n hx hb dK_isAnimal_5 rfl (lv_at hl 0 rfl) ?_
    refine va_get (D := D) (ci := 0) (v := .int (nI n)) (C := RK) (T := TK) (N := 6) hx hb hts hinK hown hK hP 0 rfl rfl 2 (by decide) (hts _ uw112) (fun _ h9 => h9) rfl dK_isAnimal_6 ?_
    refine zif (C := (nI n) ≤ a1) (fun c9 => ?_) (fun c9 => ?_)
    · skip
      refine lv_icmp_ge (tgt := 16) hx hb dK_isAnimal_9 (by decide) (fun _ => ?_) (fun z => absurd c9 z)
      refine lv_iconst (v := 0) hx hb dK_isAnimal_16 (by decide) ?_
      exact zB_ret hx hb hr hlocks (Or.inl rfl) dK_isAnimal_17
    · skip
      refine lv_icmp_ge (tgt := 16) hx hb dK_isAnimal_9 (by decide) (fun z => absurd z c9) (fun _ => ?_)
      refine lv_iconst (v := 1) hx hb dK_isAnimal_12 (by decide) ?_
      refine lv_goto (tgt := 17) hx hb dK_isAnimal_13 (by decide) ?_
      exact zB_ret hx hb hr hlocks (Or.inr rfl) dK_isAnimal_17
abbrev rmK_isAnimalOrNone : Room := { frames := 1, cells := 0, slots := 0, locals := 21 }
set_option maxHeartbeats 4000000 in
set_option maxRecDepth 100000 in
theorem kK_isAnimalOrNone (l : Launch) (D : va_G) (Y : Nat → ClassId) (h : Nat → Nat) (n : Nat) (hn : n ≤ 24) (S : vK) (a1 : Int32) : Met l yK_isAnimalOrNone wsK_isAnimalOrNone rmK_isAnimalOrNone (va_Pc [.ref (h 0), .int a1] (zPre D vwCl (tysK Y) (wK Y h n S))) (vp_Si (fun r => r = (fK_isAnimalOrNone n a1))) 0 0 (fun _ => False) := by
  refine Met.ofW (cc := cK_isAnimalOrNone) (maxL := 2) (ret := (some .boolean)) (by decide) rfl ?_
  intro p e s m args below meth c s₁ B hml hv
  obtain ⟨rfl, hP, hK⟩ := hv
  have hx := B.exec
  have hb := B.bytes
  have hr := B.returns
  have hts : ∀ w ∈ uT, w.before _ s = true := fun w hw => atoms_spec (ws := wsK_isAnimalOrNone) B.pre w (List.mem_cons_of_mem _ hw)
  have hown : s.vm.findClass RK = some m.cls := findClass_of_methodNamed B.named
  have hlocks := B.notSynchronized
  have hl := lv_entry ([.ref (h 0), .int a1]) (n := 2) (Nat.le_of_ble_eq_true rfl)
  rw [lg_entry_eq]
  generalize (lg_sl ([.ref (h 0), .int a1]) ++ List.replicate (2 - (lg_sl ([.ref (h 0), .int a1])).length) Slot.unset).toArray = ls at hl ⊢
  have hl : lv_has ls 2 [(0, .ref (h 0)), (1, .int a1)] := hl
  show W p l e rmK_isAnimalOrNone s m _ below meth c s.heap [] 0 0 (zI below _ s (fK_isAnimalOrNone n a1)) _
  unfold fK_isAnimalOrNone
  show W p l e rmK_isAnimalOrNone s m _ below meth c s.heap [] 0 0 (zI below _ s _) (F0 m 0 ls [])
  refine lv_iload_n hx hb dK_isAnimalOrNone_0 rfl (lv_at hl 1 rfl) ?_
  refine lv_iconst (v := (-1)) hx hb dK_isAnimalOrNone_1 (by decide) ?_
  refine zif (C := a1 = (-1)) (fun c2 => ?_) (fun c2 => ?_)
  · skip
    refine lv_icmp_eq (tgt := 13) hx hb dK_isAnimalOrNone_2 (by decide) (fun _ => ?_) (fun z => absurd c2 z)
    refine lv_iconst (v := 1) hx hb dK_isAnimalOrNone_13 (by decide) ?_
    refine lv_goto (tgt := 18) hx hb dK_isAnimalOrNone_14 (by decide) ?_
    exact zB_ret hx hb hr hlocks (Or.inr rfl) dK_isAnimalOrNone_18
  · skip
    refine lv_icmp_eq (tgt := 13) hx hb dK_isAnimalOrNone_2 (by decide) (fun z => absurd z c2) (fun _ => ?_)
    refine lv_aload_n hx hb dK_isAnimalOrNone_5 rfl (lv_at hl 0 rfl) ?_
    refine lv_iload_n hx hb dK_isAnimalOrNone_6 rfl (lv_at hl 1 rfl) ?_
    refine qVi (rest := []) ⟨hx, hb, hml, hown, hts⟩ (kK_isAnimal l D Y h n hn S a1) (cwV 1 hts (gV uw113 uw114 uw115 uw116 ucK_isAnimal) rfl rfl rfl hvK_isAnimal ⟨Nat.le_of_ble_eq_true rfl, Nat.le_of_ble_eq_true rfl⟩) hK hP (va_recv hK hP (ci := 0) (q0 := 0) rfl rfl) rfl hl.1 rfl (Nat.le_of_ble_eq_true rfl) dK_isAnimalOrNone_7 ⟨Nat.le_of_ble_eq_true rfl, Nat.le_of_ble_eq_true rfl⟩ ?_
    refine zif (C := (fK_isAnimal n a1) = 0) (fun c10 => ?_) (fun c10 => ?_)
    · skip
      refine lv_if_eq (tgt := 17) hx hb dK_isAnimalOrNone_10 (by decide) (fun _ => ?_) (fun z => absurd c10 z)
      refine lv_iconst (v := 0) hx hb dK_isAnimalOrNone_17 (by decide) ?_
      exact zB_ret hx hb hr hlocks (Or.inl rfl) dK_isAnimalOrNone_18
    · skip
      refine lv_if_eq (tgt := 17) hx hb dK_isAnimalOrNone_10 (by decide) (fun z => absurd z c10) (fun _ => ?_)
      refine lv_iconst (v := 1) hx hb dK_isAnimalOrNone_13 (by decide) ?_
      refine lv_goto (tgt := 18) hx hb dK_isAnimalOrNone_14 (by decide) ?_
      exact zB_ret hx hb hr hlocks (Or.inr rfl) dK_isAnimalOrNone_18
abbrev rmK_mayBeParent : Room := { frames := 1, cells := 0, slots := 0, locals := 21 }
set_option maxHeartbeats 4000000 in
set_option maxRecDepth 100000 in
theorem kK_mayBeParent (l : Launch) (D : va_G) (Y : Nat → ClassId) (h : Nat → Nat) (n : Nat) (hn : n ≤ 24) (S : vK) (a1 : Int32) (a2 : Int32) (a3 : Int32) : Met l yK_mayBeParent wsK_mayBeParent rmK_mayBeParent (va_Pc [.ref (h 0), .int a1, .int a2, .int a3] (zPre D vwCl (tysK Y) (wK Y h n S))) (vp_Si (fun r => r = (fK_mayBeParent n S a1 a2 a3))) 0 0 (fun _ => False) := by
  refine Met.ofW (cc := cK_mayBeParent) (maxL := 4) (ret := (some .boolean)) (by decide) rfl ?_
  intro p e s m args below meth c s₁ B hml hv
  obtain ⟨rfl, hP, hK⟩ := hv
  have hx := B.exec
  have hb := B.bytes
  have hr := B.returns
  have hts : ∀ w ∈ uT, w.before _ s = true := fun w hw => atoms_spec (ws := wsK_mayBeParent) B.pre w (List.mem_cons_of_mem _ hw)
  have hown : s.vm.findClass RK = some m.cls := findClass_of_methodNamed B.named
  have hlocks := B.notSynchronized
  have hl := lv_entry ([.ref (h 0), .int a1, .int a2, .int a3]) (n := 4) (Nat.le_of_ble_eq_true rfl)
  rw [lg_entry_eq]
  generalize (lg_sl ([.ref (h 0), .int a1, .int a2, .int a3]) ++ List.replicate (4 - (lg_sl ([.ref (h 0), .int a1, .int a2, .int a3])).length) Slot.unset).toArray = ls at hl ⊢
  have hl : lv_has ls 4 [(0, .ref (h 0)), (1, .int a1), (2, .int a2), (3, .int a3)] := hl
  show W p l e rmK_mayBeParent s m _ below meth c s.heap [] 0 0 (zI below _ s (fK_mayBeParent n S a1 a2 a3)) _
  unfold fK_mayBeParent
  show W p l e rmK_mayBeParent s m _ below meth c s.heap [] 0 0 (zI below _ s _) (F0 m 0 ls [])
  refine lv_aload_n hx hb dK_mayBeParent_0 rfl (lv_at hl 0 rfl) ?_
  refine lv_iload_n hx hb dK_mayBeParent_1 rfl (lv_at hl 1 rfl) ?_
  refine qVi (rest := []) ⟨hx, hb, hml, hown, hts⟩ (kK_isAnimal l D Y h n hn S a1) (cwV 1 hts (gV uw113 uw114 uw115 uw116 ucK_isAnimal) rfl rfl rfl hvK_isAnimal ⟨Nat.le_of_ble_eq_true rfl, Nat.le_of_ble_eq_true rfl⟩) hK hP (va_recv hK hP (ci := 0) (q0 := 0) rfl rfl) rfl hl.1 rfl (Nat.le_of_ble_eq_true rfl) dK_mayBeParent_2 ⟨Nat.le_of_ble_eq_true rfl, Nat.le_of_ble_eq_true rfl⟩ ?_
  refine zif (C := (fK_isAnimal n a1) = 0) (fun c5 => ?_) (fun c5 => ?_)
  · skip
    refine lv_if_eq (tgt := 16) hx hb dK_mayBeParent_5 (by decide) (fun _ => ?_) (fun z => absurd c5 z)
    refine lv_iconst (v := 1) hx hb dK_mayBeParent_16 (by decide) ?_
    exact zB_ret hx hb hr hlocks (Or.inr rfl) dK_mayBeParent_17
  · skip
    refine lv_if_eq (tgt := 16) hx hb dK_mayBeParent_5 (by decide) (fun z => absurd z c5) (fun _ => ?_)
    refine lv_aload_n hx hb dK_mayBeParent_8 rfl (lv_at hl 0 rfl) ?_
    refine lv_iload_n hx hb dK_mayBeParent_9 rfl (lv_at hl 2 rfl) ?_
    refine qVi (rest := []) ⟨hx, hb, hml, hown, hts⟩ (kK_isAnimal l D Y h n hn S a2) (cwV 1 hts (gV uw113 uw114 uw115 uw116 ucK_isAnimal) rfl rfl rfl hvK_isAnimal ⟨Nat.le_of_ble_eq_true rfl, Nat.le_of_ble_eq_true rfl⟩) hK hP (va_recv hK hP (ci := 0) (q0 := 0) rfl rfl) rfl hl.1 rfl (Nat.le_of_ble_eq_true rfl) dK_mayBeParent_10 ⟨Nat.le_of_ble_eq_true rfl, Nat.le_of_ble_eq_true rfl⟩ ?_
    refine zif (C := (fK_isAnimal n a2) = 0) (fun c13 => ?_) (fun c13 => ?_)
    · skip
      refine lv_if_ne (tgt := 18) hx hb dK_mayBeParent_13 (by decide) (fun z => absurd c13 z) (fun _ => ?_)
      refine lv_iconst (v := 1) hx hb dK_mayBeParent_16 (by decide) ?_
      exact zB_ret hx hb hr hlocks (Or.inr rfl) dK_mayBeParent_17
    · skip
      refine lv_if_ne (tgt := 18) hx hb dK_mayBeParent_13 (by decide) (fun _ => ?_) (fun z => absurd z c13)
      refine lv_aload_n hx hb dK_mayBeParent_18 rfl (lv_at hl 0 rfl) ?_
      refine va_get (D := D) (ci := 0) (v := .ref (h 1)) (C := RK) (T := TK) (N := 6) hx hb hts hinK hown hK hP 0 rfl rfl 3 (by decide) (hts _ uw117) (fun _ h9 => h9) rfl dK_mayBeParent_19 ?_
      refine lv_iload_n hx hb dK_mayBeParent_22 rfl (lv_at hl 2 rfl) ?_
      refine va_iald hx hb hK hP 1 0 rfl rfl (ani_in hn c13) dK_mayBeParent_23 ?_
      refine lv_iload_n hx hb dK_mayBeParent_24 rfl (lv_at hl 3 rfl) ?_
      refine zif (C := ((g_sx S) (a2 : Int32).toNatClampNeg) = a3) (fun c25 => ?_) (fun c25 => ?_)
      · skip
        refine lv_icmp_ne (tgt := 30) hx hb dK_mayBeParent_25 (by decide) (fun z => absurd c25 z) (fun _ => ?_)
        refine lv_iconst (v := 0) hx hb dK_mayBeParent_28 (by decide) ?_
        exact zB_ret hx hb hr hlocks (Or.inl rfl) dK_mayBeParent_29
      · skip
        refine lv_icmp_ne (tgt := 30) hx hb dK_mayBeParent_25 (by decide) (fun _ => ?_) (fun z => absurd z c25)
        refine lv_aload_n hx hb dK_mayBeParent_30 rfl (lv_at hl 0 rfl) ?_
        refine va_get (D := D) (ci := 0) (v := .ref (h 2)) (C := RK) (T := TK) (N := 6) hx hb hts hinK hown hK hP 0 rfl rfl 4 (by decide) (hts _ uw118) (fun _ h9 => h9) rfl dK_mayBeParent_31 ?_
        refine lv_iload_n hx hb dK_mayBeParent_34 rfl (lv_at hl 2 rfl) ?_
        refine va_iald hx hb hK hP 2 0 rfl rfl (ani_in hn c13) dK_mayBeParent_35 ?_
        refine lv_iconst (v := (-1)) hx hb dK_mayBeParent_36 (by decide) ?_
        refine zif (C := ((g_dy S) (a2 : Int32).toNatClampNeg) = (-1)) (fun c37 => ?_) (fun c37 => ?_)
        · skip
          refine lv_icmp_eq (tgt := 65) hx hb dK_mayBeParent_37 (by decide) (fun _ => ?_) (fun z => absurd c37 z)
          refine lv_iconst (v := 1) hx hb dK_mayBeParent_65 (by decide) ?_
          refine lv_goto (tgt := 70) hx hb dK_mayBeParent_66 (by decide) ?_
          exact zB_ret hx hb hr hlocks (Or.inr rfl) dK_mayBeParent_70
        · skip
          refine lv_icmp_eq (tgt := 65) hx hb dK_mayBeParent_37 (by decide) (fun z => absurd z c37) (fun _ => ?_)
          refine lv_aload_n hx hb dK_mayBeParent_40 rfl (lv_at hl 0 rfl) ?_
          refine va_get (D := D) (ci := 0) (v := .ref (h 2)) (C := RK) (T := TK) (N := 6) hx hb hts hinK hown hK hP 0 rfl rfl 4 (by decide) (hts _ uw118) (fun _ h9 => h9) rfl dK_mayBeParent_41 ?_
          refine lv_iload_n hx hb dK_mayBeParent_44 rfl (lv_at hl 1 rfl) ?_
          refine va_iald hx hb hK hP 2 0 rfl rfl (ani_in hn c5) dK_mayBeParent_45 ?_
          refine lv_iconst (v := (-1)) hx hb dK_mayBeParent_46 (by decide) ?_
          refine zif (C := ((g_dy S) (a1 : Int32).toNatClampNeg) = (-1)) (fun c47 => ?_) (fun c47 => ?_)
          · skip
            refine lv_icmp_eq (tgt := 65) hx hb dK_mayBeParent_47 (by decide) (fun _ => ?_) (fun z => absurd c47 z)
            refine lv_iconst (v := 1) hx hb dK_mayBeParent_65 (by decide) ?_
            refine lv_goto (tgt := 70) hx hb dK_mayBeParent_66 (by decide) ?_
            exact zB_ret hx hb hr hlocks (Or.inr rfl) dK_mayBeParent_70
          · skip
            refine lv_icmp_eq (tgt := 65) hx hb dK_mayBeParent_47 (by decide) (fun z => absurd z c47) (fun _ => ?_)
            refine lv_aload_n hx hb dK_mayBeParent_50 rfl (lv_at hl 0 rfl) ?_
            refine va_get (D := D) (ci := 0) (v := .ref (h 2)) (C := RK) (T := TK) (N := 6) hx hb hts hinK hown hK hP 0 rfl rfl 4 (by decide) (hts _ uw118) (fun _ h9 => h9) rfl dK_mayBeParent_51 ?_
            refine lv_iload_n hx hb dK_mayBeParent_54 rfl (lv_at hl 2 rfl) ?_
            refine va_iald hx hb hK hP 2 0 rfl rfl (ani_in hn c13) dK_mayBeParent_55 ?_
            refine lv_aload_n hx hb dK_mayBeParent_56 rfl (lv_at hl 0 rfl) ?_
            refine va_get (D := D) (ci := 0) (v := .ref (h 2)) (C := RK) (T := TK) (N := 6) hx hb hts hinK hown hK hP 0 rfl rfl 4 (by decide) (hts _ uw118) (fun _ h9 => h9) rfl dK_mayBeParent_57 ?_
            refine lv_iload_n hx hb dK_mayBeParent_60 rfl (lv_at hl 1 rfl) ?_
            refine va_iald hx hb hK hP 2 0 rfl rfl (ani_in hn c5) dK_mayBeParent_61 ?_
            refine zif (C := ((g_dy S) (a1 : Int32).toNatClampNeg) ≤ ((g_dy S) (a2 : Int32).toNatClampNeg)) (fun c62 => ?_) (fun c62 => ?_)
            · skip
              refine lv_icmp_ge (tgt := 69) hx hb dK_mayBeParent_62 (by decide) (fun _ => ?_) (fun z => absurd c62 z)
              refine lv_iconst (v := 0) hx hb dK_mayBeParent_69 (by decide) ?_
              exact zB_ret hx hb hr hlocks (Or.inl rfl) dK_mayBeParent_70
            · skip
              refine lv_icmp_ge (tgt := 69) hx hb dK_mayBeParent_62 (by decide) (fun z => absurd z c62) (fun _ => ?_)
              refine lv_iconst (v := 1) hx hb dK_mayBeParent_65 (by decide) ?_
              refine lv_goto (tgt := 70) hx hb dK_mayBeParent_66 (by decide) ?_
              exact zB_ret hx hb hr hlocks (Or.inr rfl) dK_mayBeParent_70
abbrev rmK_mayBeParents : Room := { frames := 2, cells := 0, slots := 0, locals := 44 }
set_option maxHeartbeats 4000000 in
set_option maxRecDepth 100000 in
theorem kK_mayBeParents (l : Launch) (D : va_G) (Y : Nat → ClassId) (h : Nat → Nat) (n : Nat) (hn : n ≤ 24) (S : vK) (a1 : Int32) (a2 : Int32) (a3 : Int32) : Met l yK_mayBeParents wsK_mayBeParents rmK_mayBeParents (va_Pc [.ref (h 0), .int a1, .int a2, .int a3] (zPre D vwCl (tysK Y) (wK Y h n S))) (vp_Si (fun r => r = (fK_mayBeParents n S a1 a2 a3))) 0 0 (fun _ => False) := by
  refine Met.ofW (cc := cK_mayBeParents) (maxL := 4) (ret := (some .boolean)) (by decide) rfl ?_
  intro p e s m args below meth c s₁ B hml hv
  obtain ⟨rfl, hP, hK⟩ := hv
  have hx := B.exec
  have hb := B.bytes
  have hr := B.returns
  have hts : ∀ w ∈ uT, w.before _ s = true := fun w hw => atoms_spec (ws := wsK_mayBeParents) B.pre w (List.mem_cons_of_mem _ hw)
  have hown : s.vm.findClass RK = some m.cls := findClass_of_methodNamed B.named
  have hlocks := B.notSynchronized
  have hl := lv_entry ([.ref (h 0), .int a1, .int a2, .int a3]) (n := 4) (Nat.le_of_ble_eq_true rfl)
  rw [lg_entry_eq]
  generalize (lg_sl ([.ref (h 0), .int a1, .int a2, .int a3]) ++ List.replicate (4 - (lg_sl ([.ref (h 0), .int a1, .int a2, .int a3])).length) Slot.unset).toArray = ls at hl ⊢
  have hl : lv_has ls 4 [(0, .ref (h 0)), (1, .int a1), (2, .int a2), (3, .int a3)] := hl
  show W p l e rmK_mayBeParents s m _ below meth c s.heap [] 0 0 (zI below _ s (fK_mayBeParents n S a1 a2 a3)) _
  unfold fK_mayBeParents
  show W p l e rmK_mayBeParents s m _ below meth c s.heap [] 0 0 (zI below _ s _) (F0 m 0 ls [])
  refine lv_aload_n hx hb dK_mayBeParents_0 rfl (lv_at hl 0 rfl) ?_
  refine lv_iload_n hx hb dK_mayBeParents_1 rfl (lv_at hl 1 rfl) ?_
  refine lv_iload_n hx hb dK_mayBeParents_2 rfl (lv_at hl 2 rfl) ?_
  refine lv_iconst (v := 2) hx hb dK_mayBeParents_3 (by decide) ?_
  refine qVi (rest := []) ⟨hx, hb, hml, hown, hts⟩ (kK_mayBeParent l D Y h n hn S a1 a2 2) (cwV 3 hts (gV uw119 uw120 uw121 uw116 ucK_mayBeParent) rfl rfl rfl hvK_mayBeParent ⟨Nat.le_of_ble_eq_true rfl, Nat.le_of_ble_eq_true rfl⟩) hK hP (va_recv hK hP (ci := 0) (q0 := 0) rfl rfl) rfl hl.1 rfl (Nat.le_of_ble_eq_true rfl) dK_mayBeParents_4 ⟨Nat.le_of_ble_eq_true rfl, Nat.le_of_ble_eq_true rfl⟩ ?_
  refine zif (C := (fK_mayBeParent n S a1 a2 2) = 0) (fun c7 => ?_) (fun c7 => ?_)
  · skip
    refine lv_if_eq (tgt := 24) hx hb dK_mayBeParents_7 (by decide) (fun _ => ?_) (fun z => absurd c7 z)
    refine lv_iconst (v := 0) hx hb dK_mayBeParents_24 (by decide) ?_
    exact zB_ret hx hb hr hlocks (Or.inl rfl) dK_mayBeParents_25
  · skip
    refine lv_if_eq (tgt := 24) hx hb dK_mayBeParents_7 (by decide) (fun z => absurd z c7) (fun _ => ?_)
    refine lv_aload_n hx hb dK_mayBeParents_10 rfl (lv_at hl 0 rfl) ?_
    refine lv_iload_n hx hb dK_mayBeParents_11 rfl (lv_at hl 1 rfl) ?_
    refine lv_iload_n hx hb dK_mayBeParents_12 rfl (lv_at hl 3 rfl) ?_
    refine lv_iconst (v := 1) hx hb dK_mayBeParents_13 (by decide) ?_
    refine qVi (rest := []) ⟨hx, hb, hml, hown, hts⟩ (kK_mayBeParent l D Y h n hn S a1 a3 1) (cwV 3 hts (gV uw119 uw120 uw121 uw116 ucK_mayBeParent) rfl rfl rfl hvK_mayBeParent ⟨Nat.le_of_ble_eq_true rfl, Nat.le_of_ble_eq_true rfl⟩) hK hP (va_recv hK hP (ci := 0) (q0 := 0) rfl rfl) rfl hl.1 rfl (Nat.le_of_ble_eq_true rfl) dK_mayBeParents_14 ⟨Nat.le_of_ble_eq_true rfl, Nat.le_of_ble_eq_true rfl⟩ ?_
    refine zif (C := (fK_mayBeParent n S a1 a3 1) = 0) (fun c17 => ?_) (fun c17 => ?_)
    · skip
      refine lv_if_eq (tgt := 24) hx hb dK_mayBeParents_17 (by decide) (fun _ => ?_) (fun z => absurd c17 z)
      refine lv_iconst (v := 0) hx hb dK_mayBeParents_24 (by decide) ?_
      exact zB_ret hx hb hr hlocks (Or.inl rfl) dK_mayBeParents_25
    · skip
      refine lv_if_eq (tgt := 24) hx hb dK_mayBeParents_17 (by decide) (fun z => absurd z c17) (fun _ => ?_)
      refine lv_iconst (v := 1) hx hb dK_mayBeParents_20 (by decide) ?_
      refine lv_goto (tgt := 25) hx hb dK_mayBeParents_21 (by decide) ?_
      exact zB_ret hx hb hr hlocks (Or.inr rfl) dK_mayBeParents_25
abbrev rmK_areSexesAndDaysRight : Room := { frames := 3, cells := 0, slots := 0, locals := 67 }
set_option maxHeartbeats 4000000 in
set_option maxRecDepth 100000 in
theorem tK_areSexesAndDaysRight_2 {p : Program} {l : Launch} {e : Env} {s : State} {m : MethodId} {args : Array Value} {below : List Frame} {meth : Method} {c : Code} {D : va_G} {Y : Nat → ClassId} {h : Nat → Nat} {n : Nat} (hn : n ≤ 24) {S : vK} (CF : CallFix p m c cK_areSexesAndDaysRight 2 s args uT RK) (hr : meth.sig.returnType = (some .boolean)) (hlocks : meth.locks = false) (hK : va_K D vwCl (tysK Y) s) (hP : va_P D vwCl (wK Y h n S) s.heap) : ∀ (k i : Nat), i + k = n → ∀ ls : Array Slot, lv_has ls 2 [(0, .ref (h 0)), (1, .int (nI i))] → W p l e rmK_areSexesAndDaysRight s m args below meth c s.heap [] 0 0 (zI below args s (fK_areSexesAndDaysRight_2 n S k i)) (F0 m 2 ls []) := by
  obtain ⟨hx, hb, hml, hown, hts⟩ := CF
  intro k
  induction k with
  | zero =>
    intro i  hi  ls hl
    rw [fK_areSexesAndDaysRight_2]
    refine lv_iload_n hx hb dK_areSexesAndDaysRight_2 rfl (lv_at hl 1 rfl) ?_
    refine lv_aload_n hx hb dK_areSexesAndDaysRight_3 rfl (lv_at hl 0 rfl) ?_
    refine va_get (D := D) (ci := 0) (v := .int (nI n)) (C := RK) (T := TK) (N := 6) hx hb hts hinK hown hK hP 0 rfl rfl 2 (by decide) (hts _ uw112) (fun _ h9 => h9) rfl dK_areSexesAndDaysRight_4 ?_
    refine lv_icmp_ge (tgt := 42) hx hb dK_areSexesAndDaysRight_7 (by decide) (fun _ => ?_) (fun z => absurd (lp_ge (n := n) hi) z)
    refine lv_iconst (v := 1) hx hb dK_areSexesAndDaysRight_42 (by decide) ?_
    exact zB_ret hx hb hr hlocks (Or.inr rfl) dK_areSexesAndDaysRight_43
  | succ k ih =>
    intro i  hi  ls hl
    rw [fK_areSexesAndDaysRight_2]
    refine lv_iload_n hx hb dK_areSexesAndDaysRight_2 rfl (lv_at hl 1 rfl) ?_
    refine lv_aload_n hx hb dK_areSexesAndDaysRight_3 rfl (lv_at hl 0 rfl) ?_
    refine va_get (D := D) (ci := 0) (v := .int (nI n)) (C := RK) (T := TK) (N := 6) hx hb hts hinK hown hK hP 0 rfl rfl 2 (by decide) (hts _ uw112) (fun _ h9 => h9) rfl dK_areSexesAndDaysRight_4 ?_
    refine lv_icmp_ge (tgt := 42) hx hb dK_areSexesAndDaysRight_7 (by decide) (fun z => absurd z (lp_lt (n := n) hi (by omega))) (fun _ => ?_)
    refine lv_aload_n hx hb dK_areSexesAndDaysRight_10 rfl (lv_at hl 0 rfl) ?_
    refine lv_iload_n hx hb dK_areSexesAndDaysRight_11 rfl (lv_at hl 1 rfl) ?_
    refine lv_aload_n hx hb dK_areSexesAndDaysRight_12 rfl (lv_at hl 0 rfl) ?_
    refine va_get (D := D) (ci := 0) (v := .ref (h 4)) (C := RK) (T := TK) (N := 6) hx hb hts hinK hown hK hP 0 rfl rfl 0 (by decide) (hts _ uw122) (fun _ h9 => h9) rfl dK_areSexesAndDaysRight_13 ?_
    refine lv_iload_n hx hb dK_areSexesAndDaysRight_16 rfl (lv_at hl 1 rfl) ?_
    refine qVi (rest := [.int (nI i), .ref (h 0)]) ⟨hx, hb, hml, hown, hts⟩ (kP_motherOf l D Y (fun i => h (i + 4)) n hn (g_P S) (nI i)) (cwV 1 hts (gV uw123 uw18 uw19 uw8 ucP_motherOf) rfl rfl rfl hvP_motherOf ⟨Nat.le_of_ble_eq_true rfl, Nat.le_of_ble_eq_true rfl⟩) hK (kP_sub hP) (va_recv hK (kP_sub hP) (ci := 1) (q0 := 0) rfl rfl) rfl hl.1 rfl (Nat.le_of_ble_eq_true rfl) dK_areSexesAndDaysRight_17 ⟨Nat.le_of_ble_eq_true rfl, Nat.le_of_ble_eq_true rfl⟩ ?_
    refine lv_aload_n hx hb dK_areSexesAndDaysRight_20 rfl (lv_at hl 0 rfl) ?_
    refine va_get (D := D) (ci := 0) (v := .ref (h 4)) (C := RK) (T := TK) (N := 6) hx hb hts hinK hown hK hP 0 rfl rfl 0 (by decide) (hts _ uw122) (fun _ h9 => h9) rfl dK_areSexesAndDaysRight_21 ?_
    refine lv_iload_n hx hb dK_areSexesAndDaysRight_24 rfl (lv_at hl 1 rfl) ?_
    refine qVi (rest := [.int (fP_motherOf n (g_P S) (nI i)), .int (nI i), .ref (h 0)]) ⟨hx, hb, hml, hown, hts⟩ (kP_fatherOf l D Y (fun i => h (i + 4)) n hn (g_P S) (nI i)) (cwV 1 hts (gV uw124 uw21 uw22 uw8 ucP_fatherOf) rfl rfl rfl hvP_fatherOf ⟨Nat.le_of_ble_eq_true rfl, Nat.le_of_ble_eq_true rfl⟩) hK (kP_sub hP) (va_recv hK (kP_sub hP) (ci := 1) (q0 := 0) rfl rfl) rfl hl.1 rfl (Nat.le_of_ble_eq_true rfl) dK_areSexesAndDaysRight_25 ⟨Nat.le_of_ble_eq_true rfl, Nat.le_of_ble_eq_true rfl⟩ ?_
    refine qVi (rest := []) ⟨hx, hb, hml, hown, hts⟩ (kK_mayBeParents l D Y h n hn S (nI i) (fP_motherOf n (g_P S) (nI i)) (fP_fatherOf n (g_P S) (nI i))) (cwV 3 hts (gV uw125 uw126 uw127 uw116 ucK_mayBeParents) rfl rfl rfl hvK_mayBeParents ⟨Nat.le_of_ble_eq_true rfl, Nat.le_of_ble_eq_true rfl⟩) hK hP (va_recv hK hP (ci := 0) (q0 := 0) rfl rfl) rfl hl.1 rfl (Nat.le_of_ble_eq_true rfl) dK_areSexesAndDaysRight_28 ⟨Nat.le_of_ble_eq_true rfl, Nat.le_of_ble_eq_true rfl⟩ ?_
    refine zif (C := (fK_mayBeParents n S (nI i) (fP_motherOf n (g_P S) (nI i)) (fP_fatherOf n (g_P S) (nI i))) = 0) (fun c31 => ?_) (fun c31 => ?_)
    · skip
      refine lv_if_ne (tgt := 36) hx hb dK_areSexesAndDaysRight_31 (by decide) (fun z => absurd c31 z) (fun _ => ?_)
      refine lv_iconst (v := 0) hx hb dK_areSexesAndDaysRight_34 (by decide) ?_
      exact zB_ret hx hb hr hlocks (Or.inl rfl) dK_areSexesAndDaysRight_35
    · skip
      refine lv_if_ne (tgt := 36) hx hb dK_areSexesAndDaysRight_31 (by decide) (fun _ => ?_) (fun z => absurd z c31)
      refine lv_iinc (v := (nI (i + 1))) (lv' := [(1, .int (nI (i + 1))), (0, .ref (h 0))]) hx hb dK_areSexesAndDaysRight_36 hl (k := 1) rfl (nI_1 _) (by decide) rfl (fun ls hl => ?_)
      refine lv_goto (tgt := 2) hx hb dK_areSexesAndDaysRight_39 (by decide) ?_
      exact ih (i + 1) (by omega) ls (lv_sub hl [1, 0] rfl)
set_option maxHeartbeats 4000000 in
set_option maxRecDepth 100000 in
theorem kK_areSexesAndDaysRight (l : Launch) (D : va_G) (Y : Nat → ClassId) (h : Nat → Nat) (n : Nat) (hn : n ≤ 24) (S : vK) : Met l yK_areSexesAndDaysRight wsK_areSexesAndDaysRight rmK_areSexesAndDaysRight (va_Pc [.ref (h 0)] (zPre D vwCl (tysK Y) (wK Y h n S))) (vp_Si (fun r => r = (fK_areSexesAndDaysRight n S))) 0 0 (fun _ => False) := by
  refine Met.ofW (cc := cK_areSexesAndDaysRight) (maxL := 2) (ret := (some .boolean)) (by decide) rfl ?_
  intro p e s m args below meth c s₁ B hml hv
  obtain ⟨rfl, hP, hK⟩ := hv
  have hx := B.exec
  have hb := B.bytes
  have hr := B.returns
  have hts : ∀ w ∈ uT, w.before _ s = true := fun w hw => atoms_spec (ws := wsK_areSexesAndDaysRight) B.pre w (List.mem_cons_of_mem _ hw)
  have hown : s.vm.findClass RK = some m.cls := findClass_of_methodNamed B.named
  have hlocks := B.notSynchronized
  have hl := lv_entry ([.ref (h 0)]) (n := 2) (Nat.le_of_ble_eq_true rfl)
  rw [lg_entry_eq]
  generalize (lg_sl ([.ref (h 0)]) ++ List.replicate (2 - (lg_sl ([.ref (h 0)])).length) Slot.unset).toArray = ls at hl ⊢
  have hl : lv_has ls 2 [(0, .ref (h 0))] := hl
  show W p l e rmK_areSexesAndDaysRight s m _ below meth c s.heap [] 0 0 (zI below _ s (fK_areSexesAndDaysRight n S)) _
  unfold fK_areSexesAndDaysRight
  show W p l e rmK_areSexesAndDaysRight s m _ below meth c s.heap [] 0 0 (zI below _ s _) (F0 m 0 ls [])
  refine lv_iconst (v := 0) hx hb dK_areSexesAndDaysRight_0 (by decide) ?_
  refine lv_istore_n (lv' := [(1, .int 0), (0, .ref (h 0))]) hx hb dK_areSexesAndDaysRight_1 rfl hl (by decide) rfl (fun ls hl => ?_)
  exact tK_areSexesAndDaysRight_2 hn ⟨hx, hb, hml, hown, hts⟩ hr hlocks hK hP n 0 (by omega) ls (lv_sub hl [1, 0] rfl)
abbrev rmK_isLost : Room := { frames := 2, cells := 0, slots := 0, locals := 43 }
set_option maxHeartbeats 4000000 in
set_option maxRecDepth 100000 in
theorem tK_isLost_32 {p : Program} {l : Launch} {e : Env} {s : State} {m : MethodId} {args : Array Value} {below : List Frame} {meth : Method} {c : Code} {D : va_G} {Y : Nat → ClassId} {h : Nat → Nat} {n : Nat} (hn : n ≤ 24) {S : vK} (CF : CallFix p m c cK_isLost 3 s args uT RK) (hr : meth.sig.returnType = (some .boolean)) (hlocks : meth.locks = false) (hK : va_K D vwCl (tysK Y) s) (hP : va_P D vwCl (wK Y h n S) s.heap) : ∀ (k i : Nat) (x1 : Int32), i + k = n → ∀ ls : Array Slot, lv_has ls 3 [(0, .ref (h 0)), (1, .int x1), (2, .int (nI i))] → W p l e rmK_isLost s m args below meth c s.heap [] 0 0 (zI below args s (fK_isLost_32 n S k i x1)) (F0 m 32 ls []) := by
  obtain ⟨hx, hb, hml, hown, hts⟩ := CF
  intro k
  induction k with
  | zero =>
    intro i x1 hi  ls hl
    rw [fK_isLost_32]
    refine lv_iload_n hx hb dK_isLost_32 rfl (lv_at hl 2 rfl) ?_
    refine lv_aload_n hx hb dK_isLost_33 rfl (lv_at hl 0 rfl) ?_
    refine va_get (D := D) (ci := 0) (v := .int (nI n)) (C := RK) (T := TK) (N := 6) hx hb hts hinK hown hK hP 0 rfl rfl 2 (by decide) (hts _ uw112) (fun _ h9 => h9) rfl dK_isLost_34 ?_
    refine lv_icmp_ge (tgt := 69) hx hb dK_isLost_37 (by decide) (fun _ => ?_) (fun z => absurd (lp_ge (n := n) hi) z)
    refine lv_iconst (v := 1) hx hb dK_isLost_69 (by decide) ?_
    exact zB_ret hx hb hr hlocks (Or.inr rfl) dK_isLost_70
  | succ k ih =>
    intro i x1 hi  ls hl
    rw [fK_isLost_32]
    refine lv_iload_n hx hb dK_isLost_32 rfl (lv_at hl 2 rfl) ?_
    refine lv_aload_n hx hb dK_isLost_33 rfl (lv_at hl 0 rfl) ?_
    refine va_get (D := D) (ci := 0) (v := .int (nI n)) (C := RK) (T := TK) (N := 6) hx hb hts hinK hown hK hP 0 rfl rfl 2 (by decide) (hts _ uw112) (fun _ h9 => h9) rfl dK_isLost_34 ?_
    refine lv_icmp_ge (tgt := 69) hx hb dK_isLost_37 (by decide) (fun z => absurd z (lp_lt (n := n) hi (by omega))) (fun _ => ?_)
    refine lv_aload_n hx hb dK_isLost_40 rfl (lv_at hl 0 rfl) ?_
    refine va_get (D := D) (ci := 0) (v := .ref (h 3)) (C := RK) (T := TK) (N := 6) hx hb hts hinK hown hK hP 0 rfl rfl 5 (by decide) (hts _ uw131) (fun _ h9 => h9) rfl dK_isLost_41 ?_
    refine lv_iload_n hx hb dK_isLost_44 rfl (lv_at hl 2 rfl) ?_
    refine va_zald hx hb hK hP 3 2 rfl rfl (vp_in_nI (n := i) (by omega) (by omega)) dK_isLost_45 ?_
    refine zif (C := ((g_dd S) ((nI i) : Int32).toNatClampNeg) = 0) (fun c46 => ?_) (fun c46 => ?_)
    · skip
      refine lv_if_ne (tgt := 63) hx hb dK_isLost_46 (by decide) (fun z => absurd c46 z) (fun _ => ?_)
      refine lv_aload_n hx hb dK_isLost_49 rfl (lv_at hl 0 rfl) ?_
      refine va_get (D := D) (ci := 0) (v := .ref (h 4)) (C := RK) (T := TK) (N := 6) hx hb hts hinK hown hK hP 0 rfl rfl 0 (by decide) (hts _ uw122) (fun _ h9 => h9) rfl dK_isLost_50 ?_
      refine lv_iload_n hx hb dK_isLost_53 rfl (lv_at hl 2 rfl) ?_
      refine lv_iload_n hx hb dK_isLost_54 rfl (lv_at hl 1 rfl) ?_
      refine qVi (rest := []) ⟨hx, hb, hml, hown, hts⟩ (kP_hasForbear l D Y (fun i => h (i + 4)) n hn (g_P S) (nI i) x1) (cwV 2 hts (gV uw132 uw36 uw37 uw8 ucP_hasForbear) rfl rfl rfl hvP_hasForbear ⟨Nat.le_of_ble_eq_true rfl, Nat.le_of_ble_eq_true rfl⟩) hK (kP_sub hP) (va_recv hK (kP_sub hP) (ci := 1) (q0 := 0) rfl rfl) rfl hl.1 rfl (Nat.le_of_ble_eq_true rfl) dK_isLost_55 ⟨Nat.le_of_ble_eq_true rfl, Nat.le_of_ble_eq_true rfl⟩ ?_
      refine zif (C := (fP_hasForbear n (g_P S) (nI i) x1) = 0) (fun c58 => ?_) (fun c58 => ?_)
      · skip
        refine lv_if_eq (tgt := 63) hx hb dK_isLost_58 (by decide) (fun _ => ?_) (fun z => absurd c58 z)
        refine lv_iinc (v := (nI (i + 1))) (lv' := [(2, .int (nI (i + 1))), (0, .ref (h 0)), (1, .int x1)]) hx hb dK_isLost_63 hl (k := 2) rfl (nI_1 _) (by decide) rfl (fun ls hl => ?_)
        refine lv_goto (tgt := 32) hx hb dK_isLost_66 (by decide) ?_
        exact ih (i + 1) x1 (by omega) ls (lv_sub hl [1, 2, 0] rfl)
      · skip
        refine lv_if_eq (tgt := 63) hx hb dK_isLost_58 (by decide) (fun z => absurd z c58) (fun _ => ?_)
        refine lv_iconst (v := 0) hx hb dK_isLost_61 (by decide) ?_
        exact zB_ret hx hb hr hlocks (Or.inl rfl) dK_isLost_62
    · skip
      refine lv_if_ne (tgt := 63) hx hb dK_isLost_46 (by decide) (fun _ => ?_) (fun z => absurd z c46)
      refine lv_iinc (v := (nI (i + 1))) (lv' := [(2, .int (nI (i + 1))), (0, .ref (h 0)), (1, .int x1)]) hx hb dK_isLost_63 hl (k := 2) rfl (nI_1 _) (by decide) rfl (fun ls hl => ?_)
      refine lv_goto (tgt := 32) hx hb dK_isLost_66 (by decide) ?_
      exact ih (i + 1) x1 (by omega) ls (lv_sub hl [1, 2, 0] rfl)
set_option maxHeartbeats 4000000 in
set_option maxRecDepth 100000 in
theorem kK_isLost (l : Launch) (D : va_G) (Y : Nat → ClassId) (h : Nat → Nat) (n : Nat) (hn : n ≤ 24) (S : vK) (a1 : Int32) : Met l yK_isLost wsK_isLost rmK_isLost (va_Pc [.ref (h 0), .int a1] (zPre D vwCl (tysK Y) (wK Y h n S))) (vp_Si (fun r => r = (fK_isLost n S a1))) 0 0 (fun _ => False) := by
  refine Met.ofW (cc := cK_isLost) (maxL := 3) (ret := (some .boolean)) (by decide) rfl ?_
  intro p e s m args below meth c s₁ B hml hv
  obtain ⟨rfl, hP, hK⟩ := hv
  have hx := B.exec
  have hb := B.bytes
  have hr := B.returns
  have hts : ∀ w ∈ uT, w.before _ s = true := fun w hw => atoms_spec (ws := wsK_isLost) B.pre w (List.mem_cons_of_mem _ hw)
  have hown : s.vm.findClass RK = some m.cls := findClass_of_methodNamed B.named
  have hlocks := B.notSynchronized
  have hl := lv_entry ([.ref (h 0), .int a1]) (n := 3) (Nat.le_of_ble_eq_true rfl)
  rw [lg_entry_eq]
  generalize (lg_sl ([.ref (h 0), .int a1]) ++ List.replicate (3 - (lg_sl ([.ref (h 0), .int a1])).length) Slot.unset).toArray = ls at hl ⊢
  have hl : lv_has ls 3 [(0, .ref (h 0)), (1, .int a1)] := hl
  show W p l e rmK_isLost s m _ below meth c s.heap [] 0 0 (zI below _ s (fK_isLost n S a1)) _
  unfold fK_isLost
  show W p l e rmK_isLost s m _ below meth c s.heap [] 0 0 (zI below _ s _) (F0 m 0 ls [])
  refine lv_aload_n hx hb dK_isLost_0 rfl (lv_at hl 0 rfl) ?_
  refine lv_iload_n hx hb dK_isLost_1 rfl (lv_at hl 1 rfl) ?_
  refine qVi (rest := []) ⟨hx, hb, hml, hown, hts⟩ (kK_isAnimal l D Y h n hn S a1) (cwV 1 hts (gV uw113 uw114 uw115 uw116 ucK_isAnimal) rfl rfl rfl hvK_isAnimal ⟨Nat.le_of_ble_eq_true rfl, Nat.le_of_ble_eq_true rfl⟩) hK hP (va_recv hK hP (ci := 0) (q0 := 0) rfl rfl) rfl hl.1 rfl (Nat.le_of_ble_eq_true rfl) dK_isLost_2 ⟨Nat.le_of_ble_eq_true rfl, Nat.le_of_ble_eq_true rfl⟩ ?_
  refine zif (C := (fK_isAnimal n a1) = 0) (fun c5 => ?_) (fun c5 => ?_)
  · skip
    refine lv_if_eq (tgt := 28) hx hb dK_isLost_5 (by decide) (fun _ => ?_) (fun z => absurd c5 z)
    refine lv_iconst (v := 0) hx hb dK_isLost_28 (by decide) ?_
    exact zB_ret hx hb hr hlocks (Or.inl rfl) dK_isLost_29
  · skip
    refine lv_if_eq (tgt := 28) hx hb dK_isLost_5 (by decide) (fun z => absurd z c5) (fun _ => ?_)
    refine lv_aload_n hx hb dK_isLost_8 rfl (lv_at hl 0 rfl) ?_
    refine va_get (D := D) (ci := 0) (v := .ref (h 4)) (C := RK) (T := TK) (N := 6) hx hb hts hinK hown hK hP 0 rfl rfl 0 (by decide) (hts _ uw122) (fun _ h9 => h9) rfl dK_isLost_9 ?_
    refine lv_iload_n hx hb dK_isLost_12 rfl (lv_at hl 1 rfl) ?_
    refine qVi (rest := []) ⟨hx, hb, hml, hown, hts⟩ (kP_isFounder l D Y (fun i => h (i + 4)) n hn (g_P S) a1) (cwV 1 hts (gV uw128 uw129 uw130 uw8 ucP_isFounder) rfl rfl rfl hvP_isFounder ⟨Nat.le_of_ble_eq_true rfl, Nat.le_of_ble_eq_true rfl⟩) hK (kP_sub hP) (va_recv hK (kP_sub hP) (ci := 1) (q0 := 0) rfl rfl) rfl hl.1 rfl (Nat.le_of_ble_eq_true rfl) dK_isLost_13 ⟨Nat.le_of_ble_eq_true rfl, Nat.le_of_ble_eq_true rfl⟩ ?_
    refine zif (C := (fP_isFounder n (g_P S) a1) = 0) (fun c16 => ?_) (fun c16 => ?_)
    · skip
      refine lv_if_eq (tgt := 28) hx hb dK_isLost_16 (by decide) (fun _ => ?_) (fun z => absurd c16 z)
      refine lv_iconst (v := 0) hx hb dK_isLost_28 (by decide) ?_
      exact zB_ret hx hb hr hlocks (Or.inl rfl) dK_isLost_29
    · skip
      refine lv_if_eq (tgt := 28) hx hb dK_isLost_16 (by decide) (fun z => absurd z c16) (fun _ => ?_)
      refine lv_aload_n hx hb dK_isLost_19 rfl (lv_at hl 0 rfl) ?_
      refine va_get (D := D) (ci := 0) (v := .ref (h 3)) (C := RK) (T := TK) (N := 6) hx hb hts hinK hown hK hP 0 rfl rfl 5 (by decide) (hts _ uw131) (fun _ h9 => h9) rfl dK_isLost_20 ?_
      refine lv_iload_n hx hb dK_isLost_23 rfl (lv_at hl 1 rfl) ?_
      refine va_zald hx hb hK hP 3 2 rfl rfl (ani_in hn c5) dK_isLost_24 ?_
      refine zif (C := ((g_dd S) (a1 : Int32).toNatClampNeg) = 0) (fun c25 => ?_) (fun c25 => ?_)
      · skip
        refine lv_if_ne (tgt := 30) hx hb dK_isLost_25 (by decide) (fun z => absurd c25 z) (fun _ => ?_)
        refine lv_iconst (v := 0) hx hb dK_isLost_28 (by decide) ?_
        exact zB_ret hx hb hr hlocks (Or.inl rfl) dK_isLost_29
      · skip
        refine lv_if_ne (tgt := 30) hx hb dK_isLost_25 (by decide) (fun _ => ?_) (fun z => absurd z c25)
        refine lv_iconst (v := 0) hx hb dK_isLost_30 (by decide) ?_
        refine lv_istore_n (lv' := [(2, .int 0), (0, .ref (h 0)), (1, .int a1)]) hx hb dK_isLost_31 rfl hl (by decide) rfl (fun ls hl => ?_)
        exact tK_isLost_32 hn ⟨hx, hb, hml, hown, hts⟩ hr hlocks hK hP n 0 a1 (by omega) ls (lv_sub hl [1, 2, 0] rfl)
abbrev rmK_kinWithLiving : Room := { frames := 2, cells := 0, slots := 0, locals := 43 }
set_option maxHeartbeats 4000000 in
set_option maxRecDepth 100000 in
theorem tK_kinWithLiving_5 {p : Program} {l : Launch} {e : Env} {s : State} {m : MethodId} {args : Array Value} {below : List Frame} {meth : Method} {c : Code} {D : va_G} {Y : Nat → ClassId} {h : Nat → Nat} {n : Nat} (hn : n ≤ 24) {S : vK} (CF : CallFix p m c cK_kinWithLiving 5 s args uT RK) (hr : meth.sig.returnType = (some .long)) (hlocks : meth.locks = false) (hK : va_K D vwCl (tysK Y) s) (hP : va_P D vwCl (wK Y h n S) s.heap) : ∀ (k i : Nat) (x1 : Int32) (x2 : Int64), i + k = n → ∀ ls : Array Slot, lv_has ls 5 [(0, .ref (h 0)), (1, .int x1), (2, .long x2), (4, .int (nI i))] → W p l e rmK_kinWithLiving s m args below meth c s.heap [] 0 0 (zL below args s (fK_kinWithLiving_5 n S k i x1 x2)) (F0 m 5 ls []) := by
  obtain ⟨hx, hb, hml, hown, hts⟩ := CF
  intro k
  induction k with
  | zero =>
    intro i x1 x2 hi  ls hl
    rw [fK_kinWithLiving_5]
    refine lv_iload hx hb dK_kinWithLiving_5 (lv_at hl 3 rfl) ?_
    refine lv_aload_n hx hb dK_kinWithLiving_7 rfl (lv_at hl 0 rfl) ?_
    refine va_get (D := D) (ci := 0) (v := .int (nI n)) (C := RK) (T := TK) (N := 6) hx hb hts hinK hown hK hP 0 rfl rfl 2 (by decide) (hts _ uw112) (fun _ h9 => h9) rfl dK_kinWithLiving_8 ?_
    refine lv_icmp_ge (tgt := 43) hx hb dK_kinWithLiving_11 (by decide) (fun _ => ?_) (fun z => absurd (lp_ge (n := n) hi) z)
    refine lv_lload_n hx hb dK_kinWithLiving_43 rfl (lv_at hl 2 rfl) ?_
    exact zL_ret hx hb hr hlocks dK_kinWithLiving_44
  | succ k ih =>
    intro i x1 x2 hi  ls hl
    rw [fK_kinWithLiving_5]
    refine lv_iload hx hb dK_kinWithLiving_5 (lv_at hl 3 rfl) ?_
    refine lv_aload_n hx hb dK_kinWithLiving_7 rfl (lv_at hl 0 rfl) ?_
    refine va_get (D := D) (ci := 0) (v := .int (nI n)) (C := RK) (T := TK) (N := 6) hx hb hts hinK hown hK hP 0 rfl rfl 2 (by decide) (hts _ uw112) (fun _ h9 => h9) rfl dK_kinWithLiving_8 ?_
    refine lv_icmp_ge (tgt := 43) hx hb dK_kinWithLiving_11 (by decide) (fun z => absurd z (lp_lt (n := n) hi (by omega))) (fun _ => ?_)
    refine lv_aload_n hx hb dK_kinWithLiving_14 rfl (lv_at hl 0 rfl) ?_
    refine va_get (D := D) (ci := 0) (v := .ref (h 3)) (C := RK) (T := TK) (N := 6) hx hb hts hinK hown hK hP 0 rfl rfl 5 (by decide) (hts _ uw131) (fun _ h9 => h9) rfl dK_kinWithLiving_15 ?_
    refine lv_iload hx hb dK_kinWithLiving_18 (lv_at hl 3 rfl) ?_
    refine va_zald hx hb hK hP 3 2 rfl rfl (vp_in_nI (n := i) (by omega) (by omega)) dK_kinWithLiving_20 ?_
    refine zif (C := ((g_dd S) ((nI i) : Int32).toNatClampNeg) = 0) (fun c21 => ?_) (fun c21 => ?_)
    · skip
      refine lv_if_ne (tgt := 37) hx hb dK_kinWithLiving_21 (by decide) (fun z => absurd c21 z) (fun _ => ?_)
      refine lv_lload_n hx hb dK_kinWithLiving_24 rfl (lv_at hl 2 rfl) ?_
      refine lv_aload_n hx hb dK_kinWithLiving_25 rfl (lv_at hl 0 rfl) ?_
      refine va_get (D := D) (ci := 0) (v := .ref (h 4)) (C := RK) (T := TK) (N := 6) hx hb hts hinK hown hK hP 0 rfl rfl 0 (by decide) (hts _ uw122) (fun _ h9 => h9) rfl dK_kinWithLiving_26 ?_
      refine lv_iload_n hx hb dK_kinWithLiving_29 rfl (lv_at hl 1 rfl) ?_
      refine lv_iload hx hb dK_kinWithLiving_30 (lv_at hl 3 rfl) ?_
      refine qVl (rest := [.long x2]) ⟨hx, hb, hml, hown, hts⟩ (kP_kinOf l D Y (fun i => h (i + 4)) n hn (g_P S) x1 (nI i)) (cwV 2 hts (gV uw133 uw24 uw25 uw8 ucP_kinOf) rfl rfl rfl hvP_kinOf ⟨Nat.le_of_ble_eq_true rfl, Nat.le_of_ble_eq_true rfl⟩) hK (kP_sub hP) (va_recv hK (kP_sub hP) (ci := 1) (q0 := 0) rfl rfl) rfl hl.1 rfl (Nat.le_of_ble_eq_true rfl) dK_kinWithLiving_32 ⟨Nat.le_of_ble_eq_true rfl, Nat.le_of_ble_eq_true rfl⟩ ?_
      refine lv_ladd hx hb dK_kinWithLiving_35 ?_
      refine lv_lstore_n (lv' := [(2, .long (x2 + (fP_kinOf n (g_P S) x1 (nI i)))), (0, .ref (h 0)), (1, .int x1), (4, .int (nI i))]) hx hb dK_kinWithLiving_36 rfl hl (by decide) rfl (fun ls hl => ?_)
      refine lv_iinc (v := (nI (i + 1))) (lv' := [(4, .int (nI (i + 1))), (2, .long (x2 + (fP_kinOf n (g_P S) x1 (nI i)))), (0, .ref (h 0)), (1, .int x1)]) hx hb dK_kinWithLiving_37 hl (k := 3) rfl (nI_1 _) (by decide) rfl (fun ls hl => ?_)
      refine lv_goto (tgt := 5) hx hb dK_kinWithLiving_40 (by decide) ?_
      exact ih (i + 1) x1 (x2 + (fP_kinOf n (g_P S) x1 (nI i))) (by omega) ls (lv_sub hl [2, 3, 1, 0] rfl)
    · skip
      refine lv_if_ne (tgt := 37) hx hb dK_kinWithLiving_21 (by decide) (fun _ => ?_) (fun z => absurd z c21)
      refine lv_iinc (v := (nI (i + 1))) (lv' := [(4, .int (nI (i + 1))), (0, .ref (h 0)), (1, .int x1), (2, .long x2)]) hx hb dK_kinWithLiving_37 hl (k := 3) rfl (nI_1 _) (by decide) rfl (fun ls hl => ?_)
      refine lv_goto (tgt := 5) hx hb dK_kinWithLiving_40 (by decide) ?_
      exact ih (i + 1) x1 x2 (by omega) ls (lv_sub hl [1, 2, 3, 0] rfl)
set_option maxHeartbeats 4000000 in
set_option maxRecDepth 100000 in
theorem kK_kinWithLiving (l : Launch) (D : va_G) (Y : Nat → ClassId) (h : Nat → Nat) (n : Nat) (hn : n ≤ 24) (S : vK) (a1 : Int32) : Met l yK_kinWithLiving wsK_kinWithLiving rmK_kinWithLiving (va_Pc [.ref (h 0), .int a1] (zPre D vwCl (tysK Y) (wK Y h n S))) (vp_Sl (fun r => r = (fK_kinWithLiving n S a1))) 0 0 (fun _ => False) := by
  refine Met.ofW (cc := cK_kinWithLiving) (maxL := 5) (ret := (some .long)) (by decide) rfl ?_
  intro p e s m args below meth c s₁ B hml hv
  obtain ⟨rfl, hP, hK⟩ := hv
  have hx := B.exec
  have hb := B.bytes
  have hr := B.returns
  have hts : ∀ w ∈ uT, w.before _ s = true := fun w hw => atoms_spec (ws := wsK_kinWithLiving) B.pre w (List.mem_cons_of_mem _ hw)
  have hown : s.vm.findClass RK = some m.cls := findClass_of_methodNamed B.named
  have hlocks := B.notSynchronized
  have hl := lv_entry ([.ref (h 0), .int a1]) (n := 5) (Nat.le_of_ble_eq_true rfl)
  rw [lg_entry_eq]
  generalize (lg_sl ([.ref (h 0), .int a1]) ++ List.replicate (5 - (lg_sl ([.ref (h 0), .int a1])).length) Slot.unset).toArray = ls at hl ⊢
  have hl : lv_has ls 5 [(0, .ref (h 0)), (1, .int a1)] := hl
  show W p l e rmK_kinWithLiving s m _ below meth c s.heap [] 0 0 (zL below _ s (fK_kinWithLiving n S a1)) _
  unfold fK_kinWithLiving
  show W p l e rmK_kinWithLiving s m _ below meth c s.heap [] 0 0 (zL below _ s _) (F0 m 0 ls [])
  refine lv_lconst (v := 0) hx hb dK_kinWithLiving_0 (by decide) ?_
  refine lv_lstore_n (lv' := [(2, .long 0), (0, .ref (h 0)), (1, .int a1)]) hx hb dK_kinWithLiving_1 rfl hl (by decide) rfl (fun ls hl => ?_)
  refine lv_iconst (v := 0) hx hb dK_kinWithLiving_2 (by decide) ?_
  refine lv_istore (lv' := [(4, .int 0), (2, .long 0), (0, .ref (h 0)), (1, .int a1)]) hx hb dK_kinWithLiving_3 hl (by decide) rfl (fun ls hl => ?_)
  exact tK_kinWithLiving_5 hn ⟨hx, hb, hml, hown, hts⟩ hr hlocks hK hP n 0 a1 0 (by omega) ls (lv_sub hl [2, 3, 1, 0] rfl)
end
section
abbrev rmK_parents : Room := { frames := 5, cells := 0, slots := 0, locals := 115 }
set_option maxHeartbeats 4000000 in
set_option maxRecDepth 100000 in
theorem kK_parents (l : Launch) (D : va_G) (Y : Nat → ClassId) (h : Nat → Nat) (n : Nat) (hn : n ≤ 24) (S : vK) (a1 : Int32) (a2 : Int32) (a3 : Int32) (sz : Nat) : Met l yK_parents wsK_parents rmK_parents (va_Pc [.ref (h 0), .int a1, .int a2, .int a3] (zPreM D vwCl (tysK Y) (wK Y h n S) sz)) (va_Qi (fun r u => (r, u) = (fK_parents n S a1 a2 a3)) (zAt D vwCl (tysK Y) (va_A (wK Y h n S) sz) (wK Y h n)) (va_A (wK Y h n S) sz)) 0 0 (va_A (wK Y h n S) sz) := by
  refine Met.ofW (cc := cK_parents) (maxL := 4) (ret := (some .boolean)) (by decide) rfl ?_
  intro p e s m args below meth c s₁ B hml hv
  obtain ⟨rfl, hsz, hP, hK, hD0⟩ := hv
  have hx := B.exec
  have hb := B.bytes
  have hr := B.returns
  have hts : ∀ w ∈ uT, w.before _ s = true := fun w hw => atoms_spec (ws := wsK_parents) B.pre w (List.mem_cons_of_mem _ hw)
  have hown : s.vm.findClass RK = some m.cls := findClass_of_methodNamed B.named
  have hlocks := B.notSynchronized
  subst hsz
  have hD := hD0.self (sz := s.heap.size)
  generalize hAe : va_A (wK Y h n S) s.heap.size = A at hD ⊢
  have hA : ∀ q : Nat, s.heap.size ≤ q → A q := fun q h => by rw [← hAe]; exact Or.inr h
  have hS : va_S A s.heap s.heap [] := va_S.rf
  have hl := lv_entry ([.ref (h 0), .int a1, .int a2, .int a3]) (n := 4) (Nat.le_of_ble_eq_true rfl)
  rw [lg_entry_eq]
  generalize (lg_sl ([.ref (h 0), .int a1, .int a2, .int a3]) ++ List.replicate (4 - (lg_sl ([.ref (h 0), .int a1, .int a2, .int a3])).length) Slot.unset).toArray = ls at hl ⊢
  have hl : lv_has ls 4 [(0, .ref (h 0)), (1, .int a1), (2, .int a2), (3, .int a3)] := hl
  show W p l e rmK_parents s m _ below meth c s.heap [] 0 0 (zMi D vwCl (tysK Y) A (wK Y h n) below _ s 0 0 (fK_parents n S a1 a2 a3)) _
  unfold fK_parents
  show W p l e rmK_parents s m _ below meth c s.heap [] 0 0 (zMi D vwCl (tysK Y) A (wK Y h n) below _ s 0 0 _) (F0 m 0 ls [])
  refine lv_aload_n hx hb dK_parents_0 rfl (lv_at hl 0 rfl) ?_
  refine va_get (D := D) (ci := 0) (v := .ref (h 4)) (C := RK) (T := TK) (N := 6) hx hb hts hinK hown hK hP 0 rfl rfl 0 (by decide) (hts _ uw122) (fun _ h9 => h9) rfl dK_parents_1 ?_
  refine qMVv (ws := wK Y h n S) (wc := wP Y (fun i => h (i + 4)) n (g_P S)) (wr := wKo Y h n S ++ wM Y (fun i => h (i + 13)) n (g_M S)) (ws' := wK Y h n (s_P S (fP_forgetRing n (g_P S)))) (rest := []) ⟨hx, hb, hml, hown, hts⟩ (kP_forgetRing l D Y (fun i => h (i + 4)) n hn (g_P S) _) (cwV 0 hts (gV uw134 uw135 uw136 uw8 ucP_forgetRing) rfl rfl rfl hvP_forgetRing ⟨Nat.le_of_ble_eq_true rfl, Nat.le_of_ble_eq_true rfl⟩) hK hP hD hS hA [4, 5, 6, 7, 8, 9, 10, 11, 12] [0, 1, 2, 3, 13, 14] [0, 1, 2, 3, 6, 7, 8, 9, 10, 11, 12, 13, 14, 4, 5] rfl rfl (by decide) (by decide) (by decide) rfl (by decide) (va_recv hK (kP_sub hP) (ci := 1) (q0 := 0) rfl rfl) rfl hl.1 rfl (Nat.le_of_ble_eq_true rfl) dK_parents_4 ⟨Nat.le_of_ble_eq_true rfl, Nat.le_of_ble_eq_true rfl⟩ (fun H locs hP hD hS => ?_)
  refine lv_aload_n hx hb dK_parents_7 rfl (lv_at hl 0 rfl) ?_
  refine lv_iload_n hx hb dK_parents_8 rfl (lv_at hl 1 rfl) ?_
  refine qVi (rest := []) ⟨hx, hb, hml, hown, hts⟩ (kK_isAnimal l D Y h n hn (s_P S (fP_forgetRing n (g_P S))) a1) (cwV 1 hts (gV uw113 uw114 uw115 uw116 ucK_isAnimal) rfl rfl rfl hvK_isAnimal ⟨Nat.le_of_ble_eq_true rfl, Nat.le_of_ble_eq_true rfl⟩) hK hP (va_recv hK hP (ci := 0) (q0 := 0) rfl rfl) rfl hl.1 rfl (Nat.le_of_ble_eq_true rfl) dK_parents_9 ⟨Nat.le_of_ble_eq_true rfl, Nat.le_of_ble_eq_true rfl⟩ ?_
  refine zif (C := (fK_isAnimal n a1) = 0) (fun c12 => ?_) (fun c12 => ?_)
  · skip
    refine lv_if_eq (tgt := 31) hx hb dK_parents_12 (by decide) (fun _ => ?_) (fun z => absurd c12 z)
    refine lv_iconst (v := 0) hx hb dK_parents_31 (by decide) ?_
    exact zMb_ret (u := (s_P S (fP_forgetRing n (g_P S)))) hx hb hr hlocks hK hP hD hS (Or.inl rfl) dK_parents_32
  · skip
    refine lv_if_eq (tgt := 31) hx hb dK_parents_12 (by decide) (fun z => absurd z c12) (fun _ => ?_)
    refine lv_aload_n hx hb dK_parents_15 rfl (lv_at hl 0 rfl) ?_
    refine lv_iload_n hx hb dK_parents_16 rfl (lv_at hl 2 rfl) ?_
    refine qVi (rest := []) ⟨hx, hb, hml, hown, hts⟩ (kK_isAnimalOrNone l D Y h n hn (s_P S (fP_forgetRing n (g_P S))) a2) (cwV 1 hts (gV uw137 uw138 uw139 uw116 ucK_isAnimalOrNone) rfl rfl rfl hvK_isAnimalOrNone ⟨Nat.le_of_ble_eq_true rfl, Nat.le_of_ble_eq_true rfl⟩) hK hP (va_recv hK hP (ci := 0) (q0 := 0) rfl rfl) rfl hl.1 rfl (Nat.le_of_ble_eq_true rfl) dK_parents_17 ⟨Nat.le_of_ble_eq_true rfl, Nat.le_of_ble_eq_true rfl⟩ ?_
    refine zif (C := (fK_isAnimalOrNone n a2) = 0) (fun c20 => ?_) (fun c20 => ?_)
    · skip
      refine lv_if_eq (tgt := 31) hx hb dK_parents_20 (by decide) (fun _ => ?_) (fun z => absurd c20 z)
      refine lv_iconst (v := 0) hx hb dK_parents_31 (by decide) ?_
      exact zMb_ret (u := (s_P S (fP_forgetRing n (g_P S)))) hx hb hr hlocks hK hP hD hS (Or.inl rfl) dK_parents_32
    · skip
      refine lv_if_eq (tgt := 31) hx hb dK_parents_20 (by decide) (fun z => absurd z c20) (fun _ => ?_)
      refine lv_aload_n hx hb dK_parents_23 rfl (lv_at hl 0 rfl) ?_
      refine lv_iload_n hx hb dK_parents_24 rfl (lv_at hl 3 rfl) ?_
      refine qVi (rest := []) ⟨hx, hb, hml, hown, hts⟩ (kK_isAnimalOrNone l D Y h n hn (s_P S (fP_forgetRing n (g_P S))) a3) (cwV 1 hts (gV uw137 uw138 uw139 uw116 ucK_isAnimalOrNone) rfl rfl rfl hvK_isAnimalOrNone ⟨Nat.le_of_ble_eq_true rfl, Nat.le_of_ble_eq_true rfl⟩) hK hP (va_recv hK hP (ci := 0) (q0 := 0) rfl rfl) rfl hl.1 rfl (Nat.le_of_ble_eq_true rfl) dK_parents_25 ⟨Nat.le_of_ble_eq_true rfl, Nat.le_of_ble_eq_true rfl⟩ ?_
      refine zif (C := (fK_isAnimalOrNone n a3) = 0) (fun c28 => ?_) (fun c28 => ?_)
      · skip
        refine lv_if_ne (tgt := 33) hx hb dK_parents_28 (by decide) (fun z => absurd c28 z) (fun _ => ?_)
        refine lv_iconst (v := 0) hx hb dK_parents_31 (by decide) ?_
        exact zMb_ret (u := (s_P S (fP_forgetRing n (g_P S)))) hx hb hr hlocks hK hP hD hS (Or.inl rfl) dK_parents_32
      · skip
        refine lv_if_ne (tgt := 33) hx hb dK_parents_28 (by decide) (fun _ => ?_) (fun z => absurd z c28)
        refine lv_iload_n hx hb dK_parents_33 rfl (lv_at hl 2 rfl) ?_
        refine lv_iload_n hx hb dK_parents_34 rfl (lv_at hl 3 rfl) ?_
        refine zif (C := a2 = a3) (fun c35 => ?_) (fun c35 => ?_)
        · skip
          refine lv_icmp_ne (tgt := 45) hx hb dK_parents_35 (by decide) (fun z => absurd c35 z) (fun _ => ?_)
          refine lv_iload_n hx hb dK_parents_38 rfl (lv_at hl 2 rfl) ?_
          refine lv_iconst (v := (-1)) hx hb dK_parents_39 (by decide) ?_
          refine zif (C := a2 = (-1)) (fun c40 => ?_) (fun c40 => ?_)
          · skip
            refine lv_icmp_eq (tgt := 45) hx hb dK_parents_40 (by decide) (fun _ => ?_) (fun z => absurd c40 z)
            refine lv_aload_n hx hb dK_parents_45 rfl (lv_at hl 0 rfl) ?_
            refine va_get (D := D) (ci := 0) (v := .ref (h 4)) (C := RK) (T := TK) (N := 6) hx hb hts hinK hown hK hP 0 rfl rfl 0 (by decide) (hts _ uw122) (fun _ h9 => h9) rfl dK_parents_46 ?_
            refine lv_iload_n hx hb dK_parents_49 rfl (lv_at hl 1 rfl) ?_
            refine lv_iload_n hx hb dK_parents_50 rfl (lv_at hl 2 rfl) ?_
            refine lv_iload_n hx hb dK_parents_51 rfl (lv_at hl 3 rfl) ?_
            refine qVi (rest := []) ⟨hx, hb, hml, hown, hts⟩ (kP_wouldClose l D Y (fun i => h (i + 4)) n hn (g_P (s_P S (fP_forgetRing n (g_P S)))) a1 a2 a3) (cwV 3 hts (gV uw140 uw141 uw142 uw8 ucP_wouldClose) rfl rfl rfl hvP_wouldClose ⟨Nat.le_of_ble_eq_true rfl, Nat.le_of_ble_eq_true rfl⟩) hK (kP_sub hP) (va_recv hK (kP_sub hP) (ci := 1) (q0 := 0) rfl rfl) rfl hl.1 rfl (Nat.le_of_ble_eq_true rfl) dK_parents_52 ⟨Nat.le_of_ble_eq_true rfl, Nat.le_of_ble_eq_true rfl⟩ ?_
            refine zif (C := (fP_wouldClose n (g_P (s_P S (fP_forgetRing n (g_P S)))) a1 a2 a3) = 0) (fun c55 => ?_) (fun c55 => ?_)
            · skip
              refine lv_if_eq (tgt := 70) hx hb dK_parents_55 (by decide) (fun _ => ?_) (fun z => absurd c55 z)
              refine lv_aload_n hx hb dK_parents_70 rfl (lv_at hl 0 rfl) ?_
              refine lv_iload_n hx hb dK_parents_71 rfl (lv_at hl 1 rfl) ?_
              refine lv_iload_n hx hb dK_parents_72 rfl (lv_at hl 2 rfl) ?_
              refine lv_iload_n hx hb dK_parents_73 rfl (lv_at hl 3 rfl) ?_
              refine qVi (rest := []) ⟨hx, hb, hml, hown, hts⟩ (kK_mayBeParents l D Y h n hn (s_P S (fP_forgetRing n (g_P S))) a1 a2 a3) (cwV 3 hts (gV uw125 uw126 uw127 uw116 ucK_mayBeParents) rfl rfl rfl hvK_mayBeParents ⟨Nat.le_of_ble_eq_true rfl, Nat.le_of_ble_eq_true rfl⟩) hK hP (va_recv hK hP (ci := 0) (q0 := 0) rfl rfl) rfl hl.1 rfl (Nat.le_of_ble_eq_true rfl) dK_parents_74 ⟨Nat.le_of_ble_eq_true rfl, Nat.le_of_ble_eq_true rfl⟩ ?_
              refine zif (C := (fK_mayBeParents n (s_P S (fP_forgetRing n (g_P S))) a1 a2 a3) = 0) (fun c77 => ?_) (fun c77 => ?_)
              · skip
                refine lv_if_ne (tgt := 82) hx hb dK_parents_77 (by decide) (fun z => absurd c77 z) (fun _ => ?_)
                refine lv_iconst (v := 0) hx hb dK_parents_80 (by decide) ?_
                exact zMb_ret (u := (s_P S (fP_forgetRing n (g_P S)))) hx hb hr hlocks hK hP hD hS (Or.inl rfl) dK_parents_81
              · skip
                refine lv_if_ne (tgt := 82) hx hb dK_parents_77 (by decide) (fun _ => ?_) (fun z => absurd z c77)
                refine lv_aload_n hx hb dK_parents_82 rfl (lv_at hl 0 rfl) ?_
                refine va_get (D := D) (ci := 0) (v := .ref (h 4)) (C := RK) (T := TK) (N := 6) hx hb hts hinK hown hK hP 0 rfl rfl 0 (by decide) (hts _ uw122) (fun _ h9 => h9) rfl dK_parents_83 ?_
                refine lv_iload_n hx hb dK_parents_86 rfl (lv_at hl 1 rfl) ?_
                refine lv_iload_n hx hb dK_parents_87 rfl (lv_at hl 2 rfl) ?_
                refine lv_iload_n hx hb dK_parents_88 rfl (lv_at hl 3 rfl) ?_
                refine qMVv (ws := wK Y h n (s_P S (fP_forgetRing n (g_P S)))) (wc := wP Y (fun i => h (i + 4)) n (g_P (s_P S (fP_forgetRing n (g_P S))))) (wr := wKo Y h n (s_P S (fP_forgetRing n (g_P S))) ++ wM Y (fun i => h (i + 13)) n (g_M (s_P S (fP_forgetRing n (g_P S))))) (ws' := wK Y h n (s_P (s_P S (fP_forgetRing n (g_P S))) (fP_setParents n (g_P (s_P S (fP_forgetRing n (g_P S)))) a1 a2 a3))) (rest := []) ⟨hx, hb, hml, hown, hts⟩ (kP_setParents l D Y (fun i => h (i + 4)) n hn (g_P (s_P S (fP_forgetRing n (g_P S)))) a1 a2 a3 _) (cwV 3 hts (gV uw143 uw144 uw145 uw8 ucP_setParents) rfl rfl rfl hvP_setParents ⟨Nat.le_of_ble_eq_true rfl, Nat.le_of_ble_eq_true rfl⟩) hK hP hD hS hA [4, 5, 6, 7, 8, 9, 10, 11, 12] [0, 1, 2, 3, 13, 14] [0, 1, 2, 3, 6, 7, 8, 9, 10, 11, 12, 13, 14, 4, 5] rfl rfl (by decide) (by decide) (by decide) rfl (by decide) (va_recv hK (kP_sub hP) (ci := 1) (q0 := 0) rfl rfl) rfl hl.1 rfl (Nat.le_of_ble_eq_true rfl) dK_parents_89 ⟨Nat.le_of_ble_eq_true rfl, Nat.le_of_ble_eq_true rfl⟩ (fun H locs hP hD hS => ?_)
                refine lv_iconst (v := 1) hx hb dK_parents_92 (by decide) ?_
                exact zMb_ret (u := (s_P (s_P S (fP_forgetRing n (g_P S))) (fP_setParents n (g_P (s_P S (fP_forgetRing n (g_P S)))) a1 a2 a3))) hx hb hr hlocks hK hP hD hS (Or.inr rfl) dK_parents_93
            · skip
              refine lv_if_eq (tgt := 70) hx hb dK_parents_55 (by decide) (fun z => absurd z c55) (fun _ => ?_)
              refine lv_aload_n hx hb dK_parents_58 rfl (lv_at hl 0 rfl) ?_
              refine va_get (D := D) (ci := 0) (v := .ref (h 4)) (C := RK) (T := TK) (N := 6) hx hb hts hinK hown hK hP 0 rfl rfl 0 (by decide) (hts _ uw122) (fun _ h9 => h9) rfl dK_parents_59 ?_
              refine lv_iload_n hx hb dK_parents_62 rfl (lv_at hl 1 rfl) ?_
              refine lv_iload_n hx hb dK_parents_63 rfl (lv_at hl 2 rfl) ?_
              refine lv_iload_n hx hb dK_parents_64 rfl (lv_at hl 3 rfl) ?_
              refine qMVv (ws := wK Y h n (s_P S (fP_forgetRing n (g_P S)))) (wc := wP Y (fun i => h (i + 4)) n (g_P (s_P S (fP_forgetRing n (g_P S))))) (wr := wKo Y h n (s_P S (fP_forgetRing n (g_P S))) ++ wM Y (fun i => h (i + 13)) n (g_M (s_P S (fP_forgetRing n (g_P S))))) (ws' := wK Y h n (s_P (s_P S (fP_forgetRing n (g_P S))) (fP_keepRing n (g_P (s_P S (fP_forgetRing n (g_P S)))) a1 a2 a3))) (rest := []) ⟨hx, hb, hml, hown, hts⟩ (kP_keepRing l D Y (fun i => h (i + 4)) n hn (g_P (s_P S (fP_forgetRing n (g_P S)))) a1 a2 a3 _) (cwV 3 hts (gV uw146 uw147 uw148 uw8 ucP_keepRing) rfl rfl rfl hvP_keepRing ⟨Nat.le_of_ble_eq_true rfl, Nat.le_of_ble_eq_true rfl⟩) hK hP hD hS hA [4, 5, 6, 7, 8, 9, 10, 11, 12] [0, 1, 2, 3, 13, 14] [0, 1, 2, 3, 6, 7, 8, 9, 10, 11, 12, 13, 14, 4, 5] rfl rfl (by decide) (by decide) (by decide) rfl (by decide) (va_recv hK (kP_sub hP) (ci := 1) (q0 := 0) rfl rfl) rfl hl.1 rfl (Nat.le_of_ble_eq_true rfl) dK_parents_65 ⟨Nat.le_of_ble_eq_true rfl, Nat.le_of_ble_eq_true rfl⟩ (fun H locs hP hD hS => ?_)
              refine lv_iconst (v := 0) hx hb dK_parents_68 (by decide) ?_
              exact zMb_ret (u := (s_P (s_P S (fP_forgetRing n (g_P S))) (fP_keepRing n (g_P (s_P S (fP_forgetRing n (g_P S)))) a1 a2 a3))) hx hb hr hlocks hK hP hD hS (Or.inl rfl) dK_parents_69
          · skip
            refine lv_icmp_eq (tgt := 45) hx hb dK_parents_40 (by decide) (fun z => absurd z c40) (fun _ => ?_)
            refine lv_iconst (v := 0) hx hb dK_parents_43 (by decide) ?_
            exact zMb_ret (u := (s_P S (fP_forgetRing n (g_P S)))) hx hb hr hlocks hK hP hD hS (Or.inl rfl) dK_parents_44
        · skip
          refine lv_icmp_ne (tgt := 45) hx hb dK_parents_35 (by decide) (fun _ => ?_) (fun z => absurd z c35)
          refine lv_aload_n hx hb dK_parents_45 rfl (lv_at hl 0 rfl) ?_
          refine va_get (D := D) (ci := 0) (v := .ref (h 4)) (C := RK) (T := TK) (N := 6) hx hb hts hinK hown hK hP 0 rfl rfl 0 (by decide) (hts _ uw122) (fun _ h9 => h9) rfl dK_parents_46 ?_
          refine lv_iload_n hx hb dK_parents_49 rfl (lv_at hl 1 rfl) ?_
          refine lv_iload_n hx hb dK_parents_50 rfl (lv_at hl 2 rfl) ?_
          refine lv_iload_n hx hb dK_parents_51 rfl (lv_at hl 3 rfl) ?_
          refine qVi (rest := []) ⟨hx, hb, hml, hown, hts⟩ (kP_wouldClose l D Y (fun i => h (i + 4)) n hn (g_P (s_P S (fP_forgetRing n (g_P S)))) a1 a2 a3) (cwV 3 hts (gV uw140 uw141 uw142 uw8 ucP_wouldClose) rfl rfl rfl hvP_wouldClose ⟨Nat.le_of_ble_eq_true rfl, Nat.le_of_ble_eq_true rfl⟩) hK (kP_sub hP) (va_recv hK (kP_sub hP) (ci := 1) (q0 := 0) rfl rfl) rfl hl.1 rfl (Nat.le_of_ble_eq_true rfl) dK_parents_52 ⟨Nat.le_of_ble_eq_true rfl, Nat.le_of_ble_eq_true rfl⟩ ?_
          refine zif (C := (fP_wouldClose n (g_P (s_P S (fP_forgetRing n (g_P S)))) a1 a2 a3) = 0) (fun c55 => ?_) (fun c55 => ?_)
          · skip
            refine lv_if_eq (tgt := 70) hx hb dK_parents_55 (by decide) (fun _ => ?_) (fun z => absurd c55 z)
            refine lv_aload_n hx hb dK_parents_70 rfl (lv_at hl 0 rfl) ?_
            refine lv_iload_n hx hb dK_parents_71 rfl (lv_at hl 1 rfl) ?_
            refine lv_iload_n hx hb dK_parents_72 rfl (lv_at hl 2 rfl) ?_
            refine lv_iload_n hx hb dK_parents_73 rfl (lv_at hl 3 rfl) ?_
            refine qVi (rest := []) ⟨hx, hb, hml, hown, hts⟩ (kK_mayBeParents l D Y h n hn (s_P S (fP_forgetRing n (g_P S))) a1 a2 a3) (cwV 3 hts (gV uw125 uw126 uw127 uw116 ucK_mayBeParents) rfl rfl rfl hvK_mayBeParents ⟨Nat.le_of_ble_eq_true rfl, Nat.le_of_ble_eq_true rfl⟩) hK hP (va_recv hK hP (ci := 0) (q0 := 0) rfl rfl) rfl hl.1 rfl (Nat.le_of_ble_eq_true rfl) dK_parents_74 ⟨Nat.le_of_ble_eq_true rfl, Nat.le_of_ble_eq_true rfl⟩ ?_
            refine zif (C := (fK_mayBeParents n (s_P S (fP_forgetRing n (g_P S))) a1 a2 a3) = 0) (fun c77 => ?_) (fun c77 => ?_)
            · skip
              refine lv_if_ne (tgt := 82) hx hb dK_parents_77 (by decide) (fun z => absurd c77 z) (fun _ => ?_)
              refine lv_iconst (v := 0) hx hb dK_parents_80 (by decide) ?_
              exact zMb_ret (u := (s_P S (fP_forgetRing n (g_P S)))) hx hb hr hlocks hK hP hD hS (Or.inl rfl) dK_parents_81
            · skip
              refine lv_if_ne (tgt := 82) hx hb dK_parents_77 (by decide) (fun _ => ?_) (fun z => absurd z c77)
              refine lv_aload_n hx hb dK_parents_82 rfl (lv_at hl 0 rfl) ?_
              refine va_get (D := D) (ci := 0) (v := .ref (h 4)) (C := RK) (T := TK) (N := 6) hx hb hts hinK hown hK hP 0 rfl rfl 0 (by decide) (hts _ uw122) (fun _ h9 => h9) rfl dK_parents_83 ?_
              refine lv_iload_n hx hb dK_parents_86 rfl (lv_at hl 1 rfl) ?_
              refine lv_iload_n hx hb dK_parents_87 rfl (lv_at hl 2 rfl) ?_
              refine lv_iload_n hx hb dK_parents_88 rfl (lv_at hl 3 rfl) ?_
              refine qMVv (ws := wK Y h n (s_P S (fP_forgetRing n (g_P S)))) (wc := wP Y (fun i => h (i + 4)) n (g_P (s_P S (fP_forgetRing n (g_P S))))) (wr := wKo Y h n (s_P S (fP_forgetRing n (g_P S))) ++ wM Y (fun i => h (i + 13)) n (g_M (s_P S (fP_forgetRing n (g_P S))))) (ws' := wK Y h n (s_P (s_P S (fP_forgetRing n (g_P S))) (fP_setParents n (g_P (s_P S (fP_forgetRing n (g_P S)))) a1 a2 a3))) (rest := []) ⟨hx, hb, hml, hown, hts⟩ (kP_setParents l D Y (fun i => h (i + 4)) n hn (g_P (s_P S (fP_forgetRing n (g_P S)))) a1 a2 a3 _) (cwV 3 hts (gV uw143 uw144 uw145 uw8 ucP_setParents) rfl rfl rfl hvP_setParents ⟨Nat.le_of_ble_eq_true rfl, Nat.le_of_ble_eq_true rfl⟩) hK hP hD hS hA [4, 5, 6, 7, 8, 9, 10, 11, 12] [0, 1, 2, 3, 13, 14] [0, 1, 2, 3, 6, 7, 8, 9, 10, 11, 12, 13, 14, 4, 5] rfl rfl (by decide) (by decide) (by decide) rfl (by decide) (va_recv hK (kP_sub hP) (ci := 1) (q0 := 0) rfl rfl) rfl hl.1 rfl (Nat.le_of_ble_eq_true rfl) dK_parents_89 ⟨Nat.le_of_ble_eq_true rfl, Nat.le_of_ble_eq_true rfl⟩ (fun H locs hP hD hS => ?_)
              refine lv_iconst (v := 1) hx hb dK_parents_92 (by decide) ?_
              exact zMb_ret (u := (s_P (s_P S (fP_forgetRing n (g_P S))) (fP_setParents n (g_P (s_P S (fP_forgetRing n (g_P S)))) a1 a2 a3))) hx hb hr hlocks hK hP hD hS (Or.inr rfl) dK_parents_93
          · skip
            refine lv_if_eq (tgt := 70) hx hb dK_parents_55 (by decide) (fun z => absurd z c55) (fun _ => ?_)
            refine lv_aload_n hx hb dK_parents_58 rfl (lv_at hl 0 rfl) ?_
            refine va_get (D := D) (ci := 0) (v := .ref (h 4)) (C := RK) (T := TK) (N := 6) hx hb hts hinK hown hK hP 0 rfl rfl 0 (by decide) (hts _ uw122) (fun _ h9 => h9) rfl dK_parents_59 ?_
            refine lv_iload_n hx hb dK_parents_62 rfl (lv_at hl 1 rfl) ?_
            refine lv_iload_n hx hb dK_parents_63 rfl (lv_at hl 2 rfl) ?_
            refine lv_iload_n hx hb dK_parents_64 rfl (lv_at hl 3 rfl) ?_
            refine qMVv (ws := wK Y h n (s_P S (fP_forgetRing n (g_P S)))) (wc := wP Y (fun i => h (i + 4)) n (g_P (s_P S (fP_forgetRing n (g_P S))))) (wr := wKo Y h n (s_P S (fP_forgetRing n (g_P S))) ++ wM Y (fun i => h (i + 13)) n (g_M (s_P S (fP_forgetRing n (g_P S))))) (ws' := wK Y h n (s_P (s_P S (fP_forgetRing n (g_P S))) (fP_keepRing n (g_P (s_P S (fP_forgetRing n (g_P S)))) a1 a2 a3))) (rest := []) ⟨hx, hb, hml, hown, hts⟩ (kP_keepRing l D Y (fun i => h (i + 4)) n hn (g_P (s_P S (fP_forgetRing n (g_P S)))) a1 a2 a3 _) (cwV 3 hts (gV uw146 uw147 uw148 uw8 ucP_keepRing) rfl rfl rfl hvP_keepRing ⟨Nat.le_of_ble_eq_true rfl, Nat.le_of_ble_eq_true rfl⟩) hK hP hD hS hA [4, 5, 6, 7, 8, 9, 10, 11, 12] [0, 1, 2, 3, 13, 14] [0, 1, 2, 3, 6, 7, 8, 9, 10, 11, 12, 13, 14, 4, 5] rfl rfl (by decide) (by decide) (by decide) rfl (by decide) (va_recv hK (kP_sub hP) (ci := 1) (q0 := 0) rfl rfl) rfl hl.1 rfl (Nat.le_of_ble_eq_true rfl) dK_parents_65 ⟨Nat.le_of_ble_eq_true rfl, Nat.le_of_ble_eq_true rfl⟩ (fun H locs hP hD hS => ?_)
            refine lv_iconst (v := 0) hx hb dK_parents_68 (by decide) ?_
            exact zMb_ret (u := (s_P (s_P S (fP_forgetRing n (g_P S))) (fP_keepRing n (g_P (s_P S (fP_forgetRing n (g_P S)))) a1 a2 a3))) hx hb hr hlocks hK hP hD hS (Or.inl rfl) dK_parents_69
abbrev rmK_ring : Room := { frames := 1, cells := 0, slots := 0, locals := 21 }
set_option maxHeartbeats 4000000 in
set_option maxRecDepth 100000 in
theorem kK_ring (l : Launch) (D : va_G) (Y : Nat → ClassId) (h : Nat → Nat) (n : Nat) (hn : n ≤ 24) (S : vK) (a1 : Int32) : Met l yK_ring wsK_ring rmK_ring (va_Pc [.ref (h 0), .int a1] (zPre D vwCl (tysK Y) (wK Y h n S))) (vp_Si (fun r => r = (fK_ring n S a1))) 0 0 (fun _ => False) := by
  refine Met.ofW (cc := cK_ring) (maxL := 2) (ret := (some .int)) (by decide) rfl ?_
  intro p e s m args below meth c s₁ B hml hv
  obtain ⟨rfl, hP, hK⟩ := hv
  have hx := B.exec
  have hb := B.bytes
  have hr := B.returns
  have hts : ∀ w ∈ uT, w.before _ s = true := fun w hw => atoms_spec (ws := wsK_ring) B.pre w (List.mem_cons_of_mem _ hw)
  have hown : s.vm.findClass RK = some m.cls := findClass_of_methodNamed B.named
  have hlocks := B.notSynchronized
  have hl := lv_entry ([.ref (h 0), .int a1]) (n := 2) (Nat.le_of_ble_eq_true rfl)
  rw [lg_entry_eq]
  generalize (lg_sl ([.ref (h 0), .int a1]) ++ List.replicate (2 - (lg_sl ([.ref (h 0), .int a1])).length) Slot.unset).toArray = ls at hl ⊢
  have hl : lv_has ls 2 [(0, .ref (h 0)), (1, .int a1)] := hl
  show W p l e rmK_ring s m _ below meth c s.heap [] 0 0 (zI below _ s (fK_ring n S a1)) _
  unfold fK_ring
  show W p l e rmK_ring s m _ below meth c s.heap [] 0 0 (zI below _ s _) (F0 m 0 ls [])
  refine lv_aload_n hx hb dK_ring_0 rfl (lv_at hl 0 rfl) ?_
  refine va_get (D := D) (ci := 0) (v := .ref (h 4)) (C := RK) (T := TK) (N := 6) hx hb hts hinK hown hK hP 0 rfl rfl 0 (by decide) (hts _ uw122) (fun _ h9 => h9) rfl dK_ring_1 ?_
  refine lv_iload_n hx hb dK_ring_4 rfl (lv_at hl 1 rfl) ?_
  refine qVi (rest := []) ⟨hx, hb, hml, hown, hts⟩ (kP_ringAt l D Y (fun i => h (i + 4)) n hn (g_P S) a1) (cwV 1 hts (gV uw149 uw150 uw151 uw8 ucP_ringAt) rfl rfl rfl hvP_ringAt ⟨Nat.le_of_ble_eq_true rfl, Nat.le_of_ble_eq_true rfl⟩) hK (kP_sub hP) (va_recv hK (kP_sub hP) (ci := 1) (q0 := 0) rfl rfl) rfl hl.1 rfl (Nat.le_of_ble_eq_true rfl) dK_ring_5 ⟨Nat.le_of_ble_eq_true rfl, Nat.le_of_ble_eq_true rfl⟩ ?_
  exact zI_ret hx hb hr hlocks dK_ring_8
abbrev rmK_told : Room := { frames := 4, cells := 0, slots := 0, locals := 88 }
set_option maxHeartbeats 4000000 in
set_option maxRecDepth 100000 in
theorem kK_told (l : Launch) (D : va_G) (Y : Nat → ClassId) (h : Nat → Nat) (n : Nat) (hn : n ≤ 24) (S : vK) (a1 : Int32) (a2 : Int32) (a3 : Int32) (sz : Nat) : Met l yK_told wsK_told rmK_told (va_Pc [.ref (h 0), .int a1, .int a2, .int a3] (zPreM D vwCl (tysK Y) (wK Y h n S) sz)) (va_Qi (fun r u => (r, u) = (fK_told n S a1 a2 a3)) (zAt D vwCl (tysK Y) (va_A (wK Y h n S) sz) (wK Y h n)) (va_A (wK Y h n S) sz)) 0 0 (va_A (wK Y h n S) sz) := by
  refine Met.ofW (cc := cK_told) (maxL := 6) (ret := (some .boolean)) (by decide) rfl ?_
  intro p e s m args below meth c s₁ B hml hv
  obtain ⟨rfl, hsz, hP, hK, hD0⟩ := hv
  have hx := B.exec
  have hb := B.bytes
  have hr := B.returns
  have hts : ∀ w ∈ uT, w.before _ s = true := fun w hw => atoms_spec (ws := wsK_told) B.pre w (List.mem_cons_of_mem _ hw)
  have hown : s.vm.findClass RK = some m.cls := findClass_of_methodNamed B.named
  have hlocks := B.notSynchronized
  subst hsz
  have hD := hD0.self (sz := s.heap.size)
  generalize hAe : va_A (wK Y h n S) s.heap.size = A at hD ⊢
  have hA : ∀ q : Nat, s.heap.size ≤ q → A q := fun q h => by rw [← hAe]; exact Or.inr h
  have hS : va_S A s.heap s.heap [] := va_S.rf
  have hl := lv_entry ([.ref (h 0), .int a1, .int a2, .int a3]) (n := 6) (Nat.le_of_ble_eq_true rfl)
  rw [lg_entry_eq]
  generalize (lg_sl ([.ref (h 0), .int a1, .int a2, .int a3]) ++ List.replicate (6 - (lg_sl ([.ref (h 0), .int a1, .int a2, .int a3])).length) Slot.unset).toArray = ls at hl ⊢
  have hl : lv_has ls 6 [(0, .ref (h 0)), (1, .int a1), (2, .int a2), (3, .int a3)] := hl
  show W p l e rmK_told s m _ below meth c s.heap [] 0 0 (zMi D vwCl (tysK Y) A (wK Y h n) below _ s 0 0 (fK_told n S a1 a2 a3)) _
  unfold fK_told
  show W p l e rmK_told s m _ below meth c s.heap [] 0 0 (zMi D vwCl (tysK Y) A (wK Y h n) below _ s 0 0 _) (F0 m 0 ls [])
  refine lv_aload_n hx hb dK_told_0 rfl (lv_at hl 0 rfl) ?_
  refine lv_iload_n hx hb dK_told_1 rfl (lv_at hl 1 rfl) ?_
  refine qVi (rest := []) ⟨hx, hb, hml, hown, hts⟩ (kK_isAnimal l D Y h n hn S a1) (cwV 1 hts (gV uw113 uw114 uw115 uw116 ucK_isAnimal) rfl rfl rfl hvK_isAnimal ⟨Nat.le_of_ble_eq_true rfl, Nat.le_of_ble_eq_true rfl⟩) hK hP (va_recv hK hP (ci := 0) (q0 := 0) rfl rfl) rfl hl.1 rfl (Nat.le_of_ble_eq_true rfl) dK_told_2 ⟨Nat.le_of_ble_eq_true rfl, Nat.le_of_ble_eq_true rfl⟩ ?_
  refine zif (C := (fK_isAnimal n a1) = 0) (fun c5 => ?_) (fun c5 => ?_)
  · skip
    refine lv_if_eq (tgt := 28) hx hb dK_told_5 (by decide) (fun _ => ?_) (fun z => absurd c5 z)
    refine lv_iconst (v := 0) hx hb dK_told_28 (by decide) ?_
    exact zMb_ret (u := S) hx hb hr hlocks hK hP hD hS (Or.inl rfl) dK_told_29
  · skip
    refine lv_if_eq (tgt := 28) hx hb dK_told_5 (by decide) (fun z => absurd z c5) (fun _ => ?_)
    refine lv_iload_n hx hb dK_told_8 rfl (lv_at hl 2 rfl) ?_
    refine zif (C := a2 < 0) (fun c9 => ?_) (fun c9 => ?_)
    · skip
      refine lv_if_lt (tgt := 28) hx hb dK_told_9 (by decide) (fun _ => ?_) (fun z => absurd c9 z)
      refine lv_iconst (v := 0) hx hb dK_told_28 (by decide) ?_
      exact zMb_ret (u := S) hx hb hr hlocks hK hP hD hS (Or.inl rfl) dK_told_29
    · skip
      refine lv_if_lt (tgt := 28) hx hb dK_told_9 (by decide) (fun z => absurd z c9) (fun _ => ?_)
      refine lv_iload_n hx hb dK_told_12 rfl (lv_at hl 2 rfl) ?_
      refine lv_iconst (v := 2) hx hb dK_told_13 (by decide) ?_
      refine zif (C := 2 < a2) (fun c14 => ?_) (fun c14 => ?_)
      · skip
        refine lv_icmp_gt (tgt := 28) hx hb dK_told_14 (by decide) (fun _ => ?_) (fun z => absurd c14 z)
        refine lv_iconst (v := 0) hx hb dK_told_28 (by decide) ?_
        exact zMb_ret (u := S) hx hb hr hlocks hK hP hD hS (Or.inl rfl) dK_told_29
      · skip
        refine lv_icmp_gt (tgt := 28) hx hb dK_told_14 (by decide) (fun z => absurd z c14) (fun _ => ?_)
        refine lv_iload_n hx hb dK_told_17 rfl (lv_at hl 3 rfl) ?_
        refine lv_iconst (v := (-1)) hx hb dK_told_18 (by decide) ?_
        refine zif (C := a3 < (-1)) (fun c19 => ?_) (fun c19 => ?_)
        · skip
          refine lv_icmp_lt (tgt := 28) hx hb dK_told_19 (by decide) (fun _ => ?_) (fun z => absurd c19 z)
          refine lv_iconst (v := 0) hx hb dK_told_28 (by decide) ?_
          exact zMb_ret (u := S) hx hb hr hlocks hK hP hD hS (Or.inl rfl) dK_told_29
        · skip
          refine lv_icmp_lt (tgt := 28) hx hb dK_told_19 (by decide) (fun z => absurd z c19) (fun _ => ?_)
          refine lv_iload_n hx hb dK_told_22 rfl (lv_at hl 3 rfl) ?_
          refine lv_ldc (v := 99999) hx hb hown (hts _ uw152) dK_told_23 ?_
          refine zif (C := a3 ≤ 99999) (fun c25 => ?_) (fun c25 => ?_)
          · skip
            refine lv_icmp_le (tgt := 30) hx hb dK_told_25 (by decide) (fun _ => ?_) (fun z => absurd c25 z)
            refine lv_aload_n hx hb dK_told_30 rfl (lv_at hl 0 rfl) ?_
            refine va_get (D := D) (ci := 0) (v := .ref (h 1)) (C := RK) (T := TK) (N := 6) hx hb hts hinK hown hK hP 0 rfl rfl 3 (by decide) (hts _ uw117) (fun _ h9 => h9) rfl dK_told_31 ?_
            refine lv_iload_n hx hb dK_told_34 rfl (lv_at hl 1 rfl) ?_
            refine va_iald hx hb hK hP 1 0 rfl rfl (ani_in hn c5) dK_told_35 ?_
            refine lv_istore (lv' := [(4, .int ((g_sx S) (a1 : Int32).toNatClampNeg)), (0, .ref (h 0)), (1, .int a1), (2, .int a2), (3, .int a3)]) hx hb dK_told_36 hl (by decide) rfl (fun ls hl => ?_)
            refine lv_aload_n hx hb dK_told_38 rfl (lv_at hl 1 rfl) ?_
            refine va_get (D := D) (ci := 0) (v := .ref (h 2)) (C := RK) (T := TK) (N := 6) hx hb hts hinK hown hK hP 0 rfl rfl 4 (by decide) (hts _ uw118) (fun _ h9 => h9) rfl dK_told_39 ?_
            refine lv_iload_n hx hb dK_told_42 rfl (lv_at hl 2 rfl) ?_
            refine va_iald hx hb hK hP 2 0 rfl rfl (ani_in hn c5) dK_told_43 ?_
            refine lv_istore (lv' := [(5, .int ((g_dy S) (a1 : Int32).toNatClampNeg)), (4, .int ((g_sx S) (a1 : Int32).toNatClampNeg)), (0, .ref (h 0)), (1, .int a1), (2, .int a2), (3, .int a3)]) hx hb dK_told_44 hl (by decide) rfl (fun ls hl => ?_)
            refine lv_aload_n hx hb dK_told_46 rfl (lv_at hl 2 rfl) ?_
            refine va_get (D := D) (ci := 0) (v := .ref (h 1)) (C := RK) (T := TK) (N := 6) hx hb hts hinK hown hK hP 0 rfl rfl 3 (by decide) (hts _ uw117) (fun _ h9 => h9) rfl dK_told_47 ?_
            refine lv_iload_n hx hb dK_told_50 rfl (lv_at hl 3 rfl) ?_
            refine lv_iload_n hx hb dK_told_51 rfl (lv_at hl 4 rfl) ?_
            refine va_iast hx hb hK hP hD hS 1 0 rfl rfl (ani_in hn c5) dK_told_52 (fun H locs hP hD hS => ?_)
            have hP : va_P D vwCl (wK Y h n (s_sx S (upd (g_sx S) (a1 : Int32).toNatClampNeg a2))) H := hP
            have hD : va_D A (wK Y h n (s_sx S (upd (g_sx S) (a1 : Int32).toNatClampNeg a2))) := hD
            refine lv_aload_n hx hb dK_told_53 rfl (lv_at hl 2 rfl) ?_
            refine va_get (D := D) (ci := 0) (v := .ref (h 2)) (C := RK) (T := TK) (N := 6) hx hb hts hinK hown hK hP 0 rfl rfl 4 (by decide) (hts _ uw118) (fun _ h9 => h9) rfl dK_told_54 ?_
            refine lv_iload_n hx hb dK_told_57 rfl (lv_at hl 3 rfl) ?_
            refine lv_iload_n hx hb dK_told_58 rfl (lv_at hl 5 rfl) ?_
            refine va_iast hx hb hK hP hD hS 2 0 rfl rfl (ani_in hn c5) dK_told_59 (fun H locs hP hD hS => ?_)
            have hP : va_P D vwCl (wK Y h n (s_dy (s_sx S (upd (g_sx S) (a1 : Int32).toNatClampNeg a2)) (upd (g_dy (s_sx S (upd (g_sx S) (a1 : Int32).toNatClampNeg a2))) (a1 : Int32).toNatClampNeg a3))) H := hP
            have hD : va_D A (wK Y h n (s_dy (s_sx S (upd (g_sx S) (a1 : Int32).toNatClampNeg a2)) (upd (g_dy (s_sx S (upd (g_sx S) (a1 : Int32).toNatClampNeg a2))) (a1 : Int32).toNatClampNeg a3))) := hD
            refine lv_aload_n hx hb dK_told_60 rfl (lv_at hl 2 rfl) ?_
            refine qVi (rest := []) ⟨hx, hb, hml, hown, hts⟩ (kK_areSexesAndDaysRight l D Y h n hn (s_dy (s_sx S (upd (g_sx S) (a1 : Int32).toNatClampNeg a2)) (upd (g_dy (s_sx S (upd (g_sx S) (a1 : Int32).toNatClampNeg a2))) (a1 : Int32).toNatClampNeg a3))) (cwV 0 hts (gV uw153 uw154 uw155 uw116 ucK_areSexesAndDaysRight) rfl rfl rfl hvK_areSexesAndDaysRight ⟨Nat.le_of_ble_eq_true rfl, Nat.le_of_ble_eq_true rfl⟩) hK hP (va_recv hK hP (ci := 0) (q0 := 0) rfl rfl) rfl hl.1 rfl (Nat.le_of_ble_eq_true rfl) dK_told_61 ⟨Nat.le_of_ble_eq_true rfl, Nat.le_of_ble_eq_true rfl⟩ ?_
            refine zif (C := (fK_areSexesAndDaysRight n (s_dy (s_sx S (upd (g_sx S) (a1 : Int32).toNatClampNeg a2)) (upd (g_dy (s_sx S (upd (g_sx S) (a1 : Int32).toNatClampNeg a2))) (a1 : Int32).toNatClampNeg a3))) = 0) (fun c64 => ?_) (fun c64 => ?_)
            · skip
              refine lv_if_eq (tgt := 69) hx hb dK_told_64 (by decide) (fun _ => ?_) (fun z => absurd c64 z)
              refine lv_aload_n hx hb dK_told_69 rfl (lv_at hl 2 rfl) ?_
              refine va_get (D := D) (ci := 0) (v := .ref (h 1)) (C := RK) (T := TK) (N := 6) hx hb hts hinK hown hK hP 0 rfl rfl 3 (by decide) (hts _ uw117) (fun _ h9 => h9) rfl dK_told_70 ?_
              refine lv_iload_n hx hb dK_told_73 rfl (lv_at hl 3 rfl) ?_
              refine lv_iload hx hb dK_told_74 (lv_at hl 1 rfl) ?_
              refine va_iast hx hb hK hP hD hS 1 0 rfl rfl (ani_in hn c5) dK_told_76 (fun H locs hP hD hS => ?_)
              have hP : va_P D vwCl (wK Y h n (s_sx (s_dy (s_sx S (upd (g_sx S) (a1 : Int32).toNatClampNeg a2)) (upd (g_dy (s_sx S (upd (g_sx S) (a1 : Int32).toNatClampNeg a2))) (a1 : Int32).toNatClampNeg a3)) (upd (g_sx (s_dy (s_sx S (upd (g_sx S) (a1 : Int32).toNatClampNeg a2)) (upd (g_dy (s_sx S (upd (g_sx S) (a1 : Int32).toNatClampNeg a2))) (a1 : Int32).toNatClampNeg a3))) (a1 : Int32).toNatClampNeg ((g_sx S) (a1 : Int32).toNatClampNeg)))) H := hP
              have hD : va_D A (wK Y h n (s_sx (s_dy (s_sx S (upd (g_sx S) (a1 : Int32).toNatClampNeg a2)) (upd (g_dy (s_sx S (upd (g_sx S) (a1 : Int32).toNatClampNeg a2))) (a1 : Int32).toNatClampNeg a3)) (upd (g_sx (s_dy (s_sx S (upd (g_sx S) (a1 : Int32).toNatClampNeg a2)) (upd (g_dy (s_sx S (upd (g_sx S) (a1 : Int32).toNatClampNeg a2))) (a1 : Int32).toNatClampNeg a3))) (a1 : Int32).toNatClampNeg ((g_sx S) (a1 : Int32).toNatClampNeg)))) := hD
              refine lv_aload_n hx hb dK_told_77 rfl (lv_at hl 2 rfl) ?_
              refine va_get (D := D) (ci := 0) (v := .ref (h 2)) (C := RK) (T := TK) (N := 6) hx hb hts hinK hown hK hP 0 rfl rfl 4 (by decide) (hts _ uw118) (fun _ h9 => h9) rfl dK_told_78 ?_
              refine lv_iload_n hx hb dK_told_81 rfl (lv_at hl 3 rfl) ?_
              refine lv_iload hx hb dK_told_82 (lv_at hl 0 rfl) ?_
              refine va_iast hx hb hK hP hD hS 2 0 rfl rfl (ani_in hn c5) dK_told_84 (fun H locs hP hD hS => ?_)
              have hP : va_P D vwCl (wK Y h n (s_dy (s_sx (s_dy (s_sx S (upd (g_sx S) (a1 : Int32).toNatClampNeg a2)) (upd (g_dy (s_sx S (upd (g_sx S) (a1 : Int32).toNatClampNeg a2))) (a1 : Int32).toNatClampNeg a3)) (upd (g_sx (s_dy (s_sx S (upd (g_sx S) (a1 : Int32).toNatClampNeg a2)) (upd (g_dy (s_sx S (upd (g_sx S) (a1 : Int32).toNatClampNeg a2))) (a1 : Int32).toNatClampNeg a3))) (a1 : Int32).toNatClampNeg ((g_sx S) (a1 : Int32).toNatClampNeg))) (upd (g_dy (s_sx (s_dy (s_sx S (upd (g_sx S) (a1 : Int32).toNatClampNeg a2)) (upd (g_dy (s_sx S (upd (g_sx S) (a1 : Int32).toNatClampNeg a2))) (a1 : Int32).toNatClampNeg a3)) (upd (g_sx (s_dy (s_sx S (upd (g_sx S) (a1 : Int32).toNatClampNeg a2)) (upd (g_dy (s_sx S (upd (g_sx S) (a1 : Int32).toNatClampNeg a2))) (a1 : Int32).toNatClampNeg a3))) (a1 : Int32).toNatClampNeg ((g_sx S) (a1 : Int32).toNatClampNeg)))) (a1 : Int32).toNatClampNeg ((g_dy S) (a1 : Int32).toNatClampNeg)))) H := hP
              have hD : va_D A (wK Y h n (s_dy (s_sx (s_dy (s_sx S (upd (g_sx S) (a1 : Int32).toNatClampNeg a2)) (upd (g_dy (s_sx S (upd (g_sx S) (a1 : Int32).toNatClampNeg a2))) (a1 : Int32).toNatClampNeg a3)) (upd (g_sx (s_dy (s_sx S (upd (g_sx S) (a1 : Int32).toNatClampNeg a2)) (upd (g_dy (s_sx S (upd (g_sx S) (a1 : Int32).toNatClampNeg a2))) (a1 : Int32).toNatClampNeg a3))) (a1 : Int32).toNatClampNeg ((g_sx S) (a1 : Int32).toNatClampNeg))) (upd (g_dy (s_sx (s_dy (s_sx S (upd (g_sx S) (a1 : Int32).toNatClampNeg a2)) (upd (g_dy (s_sx S (upd (g_sx S) (a1 : Int32).toNatClampNeg a2))) (a1 : Int32).toNatClampNeg a3)) (upd (g_sx (s_dy (s_sx S (upd (g_sx S) (a1 : Int32).toNatClampNeg a2)) (upd (g_dy (s_sx S (upd (g_sx S) (a1 : Int32).toNatClampNeg a2))) (a1 : Int32).toNatClampNeg a3))) (a1 : Int32).toNatClampNeg ((g_sx S) (a1 : Int32).toNatClampNeg)))) (a1 : Int32).toNatClampNeg ((g_dy S) (a1 : Int32).toNatClampNeg)))) := hD
              refine lv_iconst (v := 0) hx hb dK_told_85 (by decide) ?_
              exact zMb_ret (u := (s_dy (s_sx (s_dy (s_sx S (upd (g_sx S) (a1 : Int32).toNatClampNeg a2)) (upd (g_dy (s_sx S (upd (g_sx S) (a1 : Int32).toNatClampNeg a2))) (a1 : Int32).toNatClampNeg a3)) (upd (g_sx (s_dy (s_sx S (upd (g_sx S) (a1 : Int32).toNatClampNeg a2)) (upd (g_dy (s_sx S (upd (g_sx S) (a1 : Int32).toNatClampNeg a2))) (a1 : Int32).toNatClampNeg a3))) (a1 : Int32).toNatClampNeg ((g_sx S) (a1 : Int32).toNatClampNeg))) (upd (g_dy (s_sx (s_dy (s_sx S (upd (g_sx S) (a1 : Int32).toNatClampNeg a2)) (upd (g_dy (s_sx S (upd (g_sx S) (a1 : Int32).toNatClampNeg a2))) (a1 : Int32).toNatClampNeg a3)) (upd (g_sx (s_dy (s_sx S (upd (g_sx S) (a1 : Int32).toNatClampNeg a2)) (upd (g_dy (s_sx S (upd (g_sx S) (a1 : Int32).toNatClampNeg a2))) (a1 : Int32).toNatClampNeg a3))) (a1 : Int32).toNatClampNeg ((g_sx S) (a1 : Int32).toNatClampNeg)))) (a1 : Int32).toNatClampNeg ((g_dy S) (a1 : Int32).toNatClampNeg)))) hx hb hr hlocks hK hP hD hS (Or.inl rfl) dK_told_86
            · skip
              refine lv_if_eq (tgt := 69) hx hb dK_told_64 (by decide) (fun z => absurd z c64) (fun _ => ?_)
              refine lv_iconst (v := 1) hx hb dK_told_67 (by decide) ?_
              exact zMb_ret (u := (s_dy (s_sx S (upd (g_sx S) (a1 : Int32).toNatClampNeg a2)) (upd (g_dy (s_sx S (upd (g_sx S) (a1 : Int32).toNatClampNeg a2))) (a1 : Int32).toNatClampNeg a3))) hx hb hr hlocks hK hP hD hS (Or.inr rfl) dK_told_68
          · skip
            refine lv_icmp_le (tgt := 30) hx hb dK_told_25 (by decide) (fun z => absurd z c25) (fun _ => ?_)
            refine lv_iconst (v := 0) hx hb dK_told_28 (by decide) ?_
            exact zMb_ret (u := S) hx hb hr hlocks hK hP hD hS (Or.inl rfl) dK_told_29
abbrev rmK_lives : Room := { frames := 1, cells := 0, slots := 0, locals := 21 }
set_option maxHeartbeats 4000000 in
set_option maxRecDepth 100000 in
theorem kK_lives (l : Launch) (D : va_G) (Y : Nat → ClassId) (h : Nat → Nat) (n : Nat) (hn : n ≤ 24) (S : vK) (a1 : Int32) (a2 : Int32) (sz : Nat) : Met l yK_lives wsK_lives rmK_lives (va_Pc [.ref (h 0), .int a1, .int a2] (zPreM D vwCl (tysK Y) (wK Y h n S) sz)) (va_Qi (fun r u => (r, u) = (fK_lives n S a1 a2)) (zAt D vwCl (tysK Y) (va_A (wK Y h n S) sz) (wK Y h n)) (va_A (wK Y h n S) sz)) 0 0 (va_A (wK Y h n S) sz) := by
  refine Met.ofW (cc := cK_lives) (maxL := 3) (ret := (some .boolean)) (by decide) rfl ?_
  intro p e s m args below meth c s₁ B hml hv
  obtain ⟨rfl, hsz, hP, hK, hD0⟩ := hv
  have hx := B.exec
  have hb := B.bytes
  have hr := B.returns
  have hts : ∀ w ∈ uT, w.before _ s = true := fun w hw => atoms_spec (ws := wsK_lives) B.pre w (List.mem_cons_of_mem _ hw)
  have hown : s.vm.findClass RK = some m.cls := findClass_of_methodNamed B.named
  have hlocks := B.notSynchronized
  subst hsz
  have hD := hD0.self (sz := s.heap.size)
  generalize hAe : va_A (wK Y h n S) s.heap.size = A at hD ⊢
  have hA : ∀ q : Nat, s.heap.size ≤ q → A q := fun q h => by rw [← hAe]; exact Or.inr h
  have hS : va_S A s.heap s.heap [] := va_S.rf
  have hl := lv_entry ([.ref (h 0), .int a1, .int a2]) (n := 3) (Nat.le_of_ble_eq_true rfl)
  rw [lg_entry_eq]
  generalize (lg_sl ([.ref (h 0), .int a1, .int a2]) ++ List.replicate (3 - (lg_sl ([.ref (h 0), .int a1, .int a2])).length) Slot.unset).toArray = ls at hl ⊢
  have hl : lv_has ls 3 [(0, .ref (h 0)), (1, .int a1), (2, .int a2)] := hl
  show W p l e rmK_lives s m _ below meth c s.heap [] 0 0 (zMi D vwCl (tysK Y) A (wK Y h n) below _ s 0 0 (fK_lives n S a1 a2)) _
  unfold fK_lives
  show W p l e rmK_lives s m _ below meth c s.heap [] 0 0 (zMi D vwCl (tysK Y) A (wK Y h n) below _ s 0 0 _) (F0 m 0 ls [])
  refine lv_aload_n hx hb dK_lives_0 rfl (lv_at hl 0 rfl) ?_
  refine lv_iload_n hx hb dK_lives_1 rfl (lv_at hl 1 rfl) ?_
  refine qVi (rest := []) ⟨hx, hb, hml, hown, hts⟩ (kK_isAnimal l D Y h n hn S a1) (cwV 1 hts (gV uw113 uw114 uw115 uw116 ucK_isAnimal) rfl rfl rfl hvK_isAnimal ⟨Nat.le_of_ble_eq_true rfl, Nat.le_of_ble_eq_true rfl⟩) hK hP (va_recv hK hP (ci := 0) (q0 := 0) rfl rfl) rfl hl.1 rfl (Nat.le_of_ble_eq_true rfl) dK_lives_2 ⟨Nat.le_of_ble_eq_true rfl, Nat.le_of_ble_eq_true rfl⟩ ?_
  refine zif (C := (fK_isAnimal n a1) = 0) (fun c5 => ?_) (fun c5 => ?_)
  · skip
    refine lv_if_ne (tgt := 10) hx hb dK_lives_5 (by decide) (fun z => absurd c5 z) (fun _ => ?_)
    refine lv_iconst (v := 0) hx hb dK_lives_8 (by decide) ?_
    exact zMb_ret (u := S) hx hb hr hlocks hK hP hD hS (Or.inl rfl) dK_lives_9
  · skip
    refine lv_if_ne (tgt := 10) hx hb dK_lives_5 (by decide) (fun _ => ?_) (fun z => absurd z c5)
    refine lv_aload_n hx hb dK_lives_10 rfl (lv_at hl 0 rfl) ?_
    refine va_get (D := D) (ci := 0) (v := .ref (h 3)) (C := RK) (T := TK) (N := 6) hx hb hts hinK hown hK hP 0 rfl rfl 5 (by decide) (hts _ uw131) (fun _ h9 => h9) rfl dK_lives_11 ?_
    refine lv_iload_n hx hb dK_lives_14 rfl (lv_at hl 1 rfl) ?_
    refine lv_iload_n hx hb dK_lives_15 rfl (lv_at hl 2 rfl) ?_
    refine zif (C := a2 = 0) (fun c16 => ?_) (fun c16 => ?_)
    · skip
      refine lv_if_ne (tgt := 23) hx hb dK_lives_16 (by decide) (fun z => absurd c16 z) (fun _ => ?_)
      refine lv_iconst (v := 1) hx hb dK_lives_19 (by decide) ?_
      refine lv_goto (tgt := 24) hx hb dK_lives_20 (by decide) ?_
      refine va_zast hx hb hK hP hD hS 3 2 rfl rfl (ani_in hn c5) dK_lives_24 (fun H locs hP hD hS => ?_)
      have hP : va_P D vwCl (wK Y h n (s_dd S (upd (g_dd S) (a1 : Int32).toNatClampNeg (vp_nar .boolean 1)))) H := hP
      have hD : va_D A (wK Y h n (s_dd S (upd (g_dd S) (a1 : Int32).toNatClampNeg (vp_nar .boolean 1)))) := hD
      refine lv_iconst (v := 1) hx hb dK_lives_25 (by decide) ?_
      exact zMb_ret (u := (s_dd S (upd (g_dd S) (a1 : Int32).toNatClampNeg (vp_nar .boolean 1)))) hx hb hr hlocks hK hP hD hS (Or.inr rfl) dK_lives_26
    · skip
      refine lv_if_ne (tgt := 23) hx hb dK_lives_16 (by decide) (fun _ => ?_) (fun z => absurd z c16)
      refine lv_iconst (v := 0) hx hb dK_lives_23 (by decide) ?_
      refine va_zast hx hb hK hP hD hS 3 2 rfl rfl (ani_in hn c5) dK_lives_24 (fun H locs hP hD hS => ?_)
      have hP : va_P D vwCl (wK Y h n (s_dd S (upd (g_dd S) (a1 : Int32).toNatClampNeg (vp_nar .boolean 0)))) H := hP
      have hD : va_D A (wK Y h n (s_dd S (upd (g_dd S) (a1 : Int32).toNatClampNeg (vp_nar .boolean 0)))) := hD
      refine lv_iconst (v := 1) hx hb dK_lives_25 (by decide) ?_
      exact zMb_ret (u := (s_dd S (upd (g_dd S) (a1 : Int32).toNatClampNeg (vp_nar .boolean 0)))) hx hb hr hlocks hK hP hD hS (Or.inr rfl) dK_lives_26
abbrev rmK_kin : Room := { frames := 2, cells := 0, slots := 0, locals := 56 }
set_option maxHeartbeats 4000000 in
set_option maxRecDepth 100000 in
theorem kK_kin (l : Launch) (D : va_G) (Y : Nat → ClassId) (h : Nat → Nat) (n : Nat) (hn : n ≤ 24) (S : vK) (a1 : Int32) (a2 : Int32) (a3 : Int32) : Met l yK_kin wsK_kin rmK_kin (va_Pc [.ref (h 0), .int a1, .int a2, .int a3] (zPre D vwCl (tysK Y) (wK Y h n S))) (vp_Sl (fun r => r = (fK_kin n S a1 a2 a3))) 0 0 (fun _ => False) := by
  refine Met.ofW (cc := cK_kin) (maxL := 4) (ret := (some .long)) (by decide) rfl ?_
  intro p e s m args below meth c s₁ B hml hv
  obtain ⟨rfl, hP, hK⟩ := hv
  have hx := B.exec
  have hb := B.bytes
  have hr := B.returns
  have hts : ∀ w ∈ uT, w.before _ s = true := fun w hw => atoms_spec (ws := wsK_kin) B.pre w (List.mem_cons_of_mem _ hw)
  have hown : s.vm.findClass RK = some m.cls := findClass_of_methodNamed B.named
  have hlocks := B.notSynchronized
  have hl := lv_entry ([.ref (h 0), .int a1, .int a2, .int a3]) (n := 4) (Nat.le_of_ble_eq_true rfl)
  rw [lg_entry_eq]
  generalize (lg_sl ([.ref (h 0), .int a1, .int a2, .int a3]) ++ List.replicate (4 - (lg_sl ([.ref (h 0), .int a1, .int a2, .int a3])).length) Slot.unset).toArray = ls at hl ⊢
  have hl : lv_has ls 4 [(0, .ref (h 0)), (1, .int a1), (2, .int a2), (3, .int a3)] := hl
  show W p l e rmK_kin s m _ below meth c s.heap [] 0 0 (zL below _ s (fK_kin n S a1 a2 a3)) _
  unfold fK_kin
  show W p l e rmK_kin s m _ below meth c s.heap [] 0 0 (zL below _ s _) (F0 m 0 ls [])
  refine lv_aload_n hx hb dK_kin_0 rfl (lv_at hl 0 rfl) ?_
  refine lv_iload_n hx hb dK_kin_1 rfl (lv_at hl 1 rfl) ?_
  refine qVi (rest := []) ⟨hx, hb, hml, hown, hts⟩ (kK_isAnimal l D Y h n hn S a1) (cwV 1 hts (gV uw113 uw114 uw115 uw116 ucK_isAnimal) rfl rfl rfl hvK_isAnimal ⟨Nat.le_of_ble_eq_true rfl, Nat.le_of_ble_eq_true rfl⟩) hK hP (va_recv hK hP (ci := 0) (q0 := 0) rfl rfl) rfl hl.1 rfl (Nat.le_of_ble_eq_true rfl) dK_kin_2 ⟨Nat.le_of_ble_eq_true rfl, Nat.le_of_ble_eq_true rfl⟩ ?_
  refine zif (C := (fK_isAnimal n a1) = 0) (fun c5 => ?_) (fun c5 => ?_)
  · skip
    refine lv_if_eq (tgt := 23) hx hb dK_kin_5 (by decide) (fun _ => ?_) (fun z => absurd c5 z)
    refine lv_ldc2 (v := (-1)) hx hb hown (hts _ uw156) dK_kin_23 ?_
    exact zL_ret hx hb hr hlocks dK_kin_26
  · skip
    refine lv_if_eq (tgt := 23) hx hb dK_kin_5 (by decide) (fun z => absurd z c5) (fun _ => ?_)
    refine lv_aload_n hx hb dK_kin_8 rfl (lv_at hl 0 rfl) ?_
    refine lv_iload_n hx hb dK_kin_9 rfl (lv_at hl 2 rfl) ?_
    refine qVi (rest := []) ⟨hx, hb, hml, hown, hts⟩ (kK_isAnimal l D Y h n hn S a2) (cwV 1 hts (gV uw113 uw114 uw115 uw116 ucK_isAnimal) rfl rfl rfl hvK_isAnimal ⟨Nat.le_of_ble_eq_true rfl, Nat.le_of_ble_eq_true rfl⟩) hK hP (va_recv hK hP (ci := 0) (q0 := 0) rfl rfl) rfl hl.1 rfl (Nat.le_of_ble_eq_true rfl) dK_kin_10 ⟨Nat.le_of_ble_eq_true rfl, Nat.le_of_ble_eq_true rfl⟩ ?_
    refine zif (C := (fK_isAnimal n a2) = 0) (fun c13 => ?_) (fun c13 => ?_)
    · skip
      refine lv_if_eq (tgt := 23) hx hb dK_kin_13 (by decide) (fun _ => ?_) (fun z => absurd c13 z)
      refine lv_ldc2 (v := (-1)) hx hb hown (hts _ uw156) dK_kin_23 ?_
      exact zL_ret hx hb hr hlocks dK_kin_26
    · skip
      refine lv_if_eq (tgt := 23) hx hb dK_kin_13 (by decide) (fun z => absurd z c13) (fun _ => ?_)
      refine lv_iload_n hx hb dK_kin_16 rfl (lv_at hl 3 rfl) ?_
      refine qSi (rest := []) ⟨hx, hb, hml, hown, hts⟩ (kF_isPart l D Y a3) (va_cwS 1 hts (gS uw157 uw158 uw2 ucF_isPart) rfl rfl rfl hsF_isPart ⟨Nat.le_of_ble_eq_true rfl, Nat.le_of_ble_eq_true rfl⟩) hK (zsub [] hP rfl) rfl hl.1 rfl (Nat.le_of_ble_eq_true rfl) dK_kin_17 ⟨Nat.le_of_ble_eq_true rfl, Nat.le_of_ble_eq_true rfl⟩ ?_
      refine zif (C := (fF_isPart a3) = 0) (fun c20 => ?_) (fun c20 => ?_)
      · skip
        refine lv_if_ne (tgt := 27) hx hb dK_kin_20 (by decide) (fun z => absurd c20 z) (fun _ => ?_)
        refine lv_ldc2 (v := (-1)) hx hb hown (hts _ uw156) dK_kin_23 ?_
        exact zL_ret hx hb hr hlocks dK_kin_26
      · skip
        refine lv_if_ne (tgt := 27) hx hb dK_kin_20 (by decide) (fun _ => ?_) (fun z => absurd z c20)
        refine lv_aload_n hx hb dK_kin_27 rfl (lv_at hl 0 rfl) ?_
        refine va_get (D := D) (ci := 0) (v := .ref (h 4)) (C := RK) (T := TK) (N := 6) hx hb hts hinK hown hK hP 0 rfl rfl 0 (by decide) (hts _ uw122) (fun _ h9 => h9) rfl dK_kin_28 ?_
        refine lv_iload_n hx hb dK_kin_31 rfl (lv_at hl 1 rfl) ?_
        refine lv_iload_n hx hb dK_kin_32 rfl (lv_at hl 2 rfl) ?_
        refine qVl (rest := []) ⟨hx, hb, hml, hown, hts⟩ (kP_kinOf l D Y (fun i => h (i + 4)) n hn (g_P S) a1 a2) (cwV 2 hts (gV uw133 uw24 uw25 uw8 ucP_kinOf) rfl rfl rfl hvP_kinOf ⟨Nat.le_of_ble_eq_true rfl, Nat.le_of_ble_eq_true rfl⟩) hK (kP_sub hP) (va_recv hK (kP_sub hP) (ci := 1) (q0 := 0) rfl rfl) rfl hl.1 rfl (Nat.le_of_ble_eq_true rfl) dK_kin_33 ⟨Nat.le_of_ble_eq_true rfl, Nat.le_of_ble_eq_true rfl⟩ ?_
        refine lv_ldc2 (v := 1073741824) hx hb hown (hts _ uw159) dK_kin_36 ?_
        refine lv_iload_n hx hb dK_kin_39 rfl (lv_at hl 3 rfl) ?_
        refine qSl (rest := []) ⟨hx, hb, hml, hown, hts⟩ (kF_lowest l D Y (fP_kinOf n (g_P S) a1 a2) 1073741824 a3) (va_cwS 3 hts (gS uw160 uw100 uw2 ucF_lowest) rfl rfl rfl hsF_lowest ⟨Nat.le_of_ble_eq_true rfl, Nat.le_of_ble_eq_true rfl⟩) hK (zsub [] hP rfl) rfl hl.1 rfl (Nat.le_of_ble_eq_true rfl) dK_kin_40 ⟨Nat.le_of_ble_eq_true rfl, Nat.le_of_ble_eq_true rfl⟩ ?_
        exact zL_ret hx hb hr hlocks dK_kin_43
abbrev rmK_inbred : Room := { frames := 3, cells := 0, slots := 0, locals := 64 }
set_option maxHeartbeats 4000000 in
set_option maxRecDepth 100000 in
theorem kK_inbred (l : Launch) (D : va_G) (Y : Nat → ClassId) (h : Nat → Nat) (n : Nat) (hn : n ≤ 24) (S : vK) (a1 : Int32) (a2 : Int32) : Met l yK_inbred wsK_inbred rmK_inbred (va_Pc [.ref (h 0), .int a1, .int a2] (zPre D vwCl (tysK Y) (wK Y h n S))) (vp_Sl (fun r => r = (fK_inbred n S a1 a2))) 0 0 (fun _ => False) := by
  refine Met.ofW (cc := cK_inbred) (maxL := 3) (ret := (some .long)) (by decide) rfl ?_
  intro p e s m args below meth c s₁ B hml hv
  obtain ⟨rfl, hP, hK⟩ := hv
  have hx := B.exec
  have hb := B.bytes
  have hr := B.returns
  have hts : ∀ w ∈ uT, w.before _ s = true := fun w hw => atoms_spec (ws := wsK_inbred) B.pre w (List.mem_cons_of_mem _ hw)
  have hown : s.vm.findClass RK = some m.cls := findClass_of_methodNamed B.named
  have hlocks := B.notSynchronized
  have hl := lv_entry ([.ref (h 0), .int a1, .int a2]) (n := 3) (Nat.le_of_ble_eq_true rfl)
  rw [lg_entry_eq]
  generalize (lg_sl ([.ref (h 0), .int a1, .int a2]) ++ List.replicate (3 - (lg_sl ([.ref (h 0), .int a1, .int a2])).length) Slot.unset).toArray = ls at hl ⊢
  have hl : lv_has ls 3 [(0, .ref (h 0)), (1, .int a1), (2, .int a2)] := hl
  show W p l e rmK_inbred s m _ below meth c s.heap [] 0 0 (zL below _ s (fK_inbred n S a1 a2)) _
  unfold fK_inbred
  show W p l e rmK_inbred s m _ below meth c s.heap [] 0 0 (zL below _ s _) (F0 m 0 ls [])
  refine lv_aload_n hx hb dK_inbred_0 rfl (lv_at hl 0 rfl) ?_
  refine lv_iload_n hx hb dK_inbred_1 rfl (lv_at hl 1 rfl) ?_
  refine qVi (rest := []) ⟨hx, hb, hml, hown, hts⟩ (kK_isAnimal l D Y h n hn S a1) (cwV 1 hts (gV uw113 uw114 uw115 uw116 ucK_isAnimal) rfl rfl rfl hvK_isAnimal ⟨Nat.le_of_ble_eq_true rfl, Nat.le_of_ble_eq_true rfl⟩) hK hP (va_recv hK hP (ci := 0) (q0 := 0) rfl rfl) rfl hl.1 rfl (Nat.le_of_ble_eq_true rfl) dK_inbred_2 ⟨Nat.le_of_ble_eq_true rfl, Nat.le_of_ble_eq_true rfl⟩ ?_
  refine zif (C := (fK_isAnimal n a1) = 0) (fun c5 => ?_) (fun c5 => ?_)
  · skip
    refine lv_if_eq (tgt := 15) hx hb dK_inbred_5 (by decide) (fun _ => ?_) (fun z => absurd c5 z)
    refine lv_ldc2 (v := (-1)) hx hb hown (hts _ uw156) dK_inbred_15 ?_
    exact zL_ret hx hb hr hlocks dK_inbred_18
  · skip
    refine lv_if_eq (tgt := 15) hx hb dK_inbred_5 (by decide) (fun z => absurd z c5) (fun _ => ?_)
    refine lv_iload_n hx hb dK_inbred_8 rfl (lv_at hl 2 rfl) ?_
    refine qSi (rest := []) ⟨hx, hb, hml, hown, hts⟩ (kF_isPart l D Y a2) (va_cwS 1 hts (gS uw157 uw158 uw2 ucF_isPart) rfl rfl rfl hsF_isPart ⟨Nat.le_of_ble_eq_true rfl, Nat.le_of_ble_eq_true rfl⟩) hK (zsub [] hP rfl) rfl hl.1 rfl (Nat.le_of_ble_eq_true rfl) dK_inbred_9 ⟨Nat.le_of_ble_eq_true rfl, Nat.le_of_ble_eq_true rfl⟩ ?_
    refine zif (C := (fF_isPart a2) = 0) (fun c12 => ?_) (fun c12 => ?_)
    · skip
      refine lv_if_ne (tgt := 19) hx hb dK_inbred_12 (by decide) (fun z => absurd c12 z) (fun _ => ?_)
      refine lv_ldc2 (v := (-1)) hx hb hown (hts _ uw156) dK_inbred_15 ?_
      exact zL_ret hx hb hr hlocks dK_inbred_18
    · skip
      refine lv_if_ne (tgt := 19) hx hb dK_inbred_12 (by decide) (fun _ => ?_) (fun z => absurd z c12)
      refine lv_aload_n hx hb dK_inbred_19 rfl (lv_at hl 0 rfl) ?_
      refine va_get (D := D) (ci := 0) (v := .ref (h 4)) (C := RK) (T := TK) (N := 6) hx hb hts hinK hown hK hP 0 rfl rfl 0 (by decide) (hts _ uw122) (fun _ h9 => h9) rfl dK_inbred_20 ?_
      refine lv_iload_n hx hb dK_inbred_23 rfl (lv_at hl 1 rfl) ?_
      refine qVl (rest := []) ⟨hx, hb, hml, hown, hts⟩ (kP_inbreedingOf l D Y (fun i => h (i + 4)) n hn (g_P S) a1) (cwV 1 hts (gV uw161 uw28 uw29 uw8 ucP_inbreedingOf) rfl rfl rfl hvP_inbreedingOf ⟨Nat.le_of_ble_eq_true rfl, Nat.le_of_ble_eq_true rfl⟩) hK (kP_sub hP) (va_recv hK (kP_sub hP) (ci := 1) (q0 := 0) rfl rfl) rfl hl.1 rfl (Nat.le_of_ble_eq_true rfl) dK_inbred_24 ⟨Nat.le_of_ble_eq_true rfl, Nat.le_of_ble_eq_true rfl⟩ ?_
      refine lv_ldc2 (v := 1073741824) hx hb hown (hts _ uw159) dK_inbred_27 ?_
      refine lv_iload_n hx hb dK_inbred_30 rfl (lv_at hl 2 rfl) ?_
      refine qSl (rest := []) ⟨hx, hb, hml, hown, hts⟩ (kF_lowest l D Y (fP_inbreedingOf n (g_P S) a1) 1073741824 a2) (va_cwS 3 hts (gS uw160 uw100 uw2 ucF_lowest) rfl rfl rfl hsF_lowest ⟨Nat.le_of_ble_eq_true rfl, Nat.le_of_ble_eq_true rfl⟩) hK (zsub [] hP rfl) rfl hl.1 rfl (Nat.le_of_ble_eq_true rfl) dK_inbred_31 ⟨Nat.le_of_ble_eq_true rfl, Nat.le_of_ble_eq_true rfl⟩ ?_
      exact zL_ret hx hb hr hlocks dK_inbred_34
abbrev rmK_chance : Room := { frames := 5, cells := 0, slots := 0, locals := 106 }
set_option maxHeartbeats 4000000 in
set_option maxRecDepth 100000 in
theorem kK_chance (l : Launch) (D : va_G) (Y : Nat → ClassId) (h : Nat → Nat) (n : Nat) (hn : n ≤ 24) (S : vK) (a1 : Int32) (a2 : Int32) : Met l yK_chance wsK_chance rmK_chance (va_Pc [.ref (h 0), .int a1, .int a2] (zPre D vwCl (tysK Y) (wK Y h n S))) (vp_Sl (fun r => r = (fK_chance n S a1 a2))) 0 0 (fun _ => False) := by
  refine Met.ofW (cc := cK_chance) (maxL := 3) (ret := (some .long)) (by decide) rfl ?_
  intro p e s m args below meth c s₁ B hml hv
  obtain ⟨rfl, hP, hK⟩ := hv
  have hx := B.exec
  have hb := B.bytes
  have hr := B.returns
  have hts : ∀ w ∈ uT, w.before _ s = true := fun w hw => atoms_spec (ws := wsK_chance) B.pre w (List.mem_cons_of_mem _ hw)
  have hown : s.vm.findClass RK = some m.cls := findClass_of_methodNamed B.named
  have hlocks := B.notSynchronized
  have hl := lv_entry ([.ref (h 0), .int a1, .int a2]) (n := 3) (Nat.le_of_ble_eq_true rfl)
  rw [lg_entry_eq]
  generalize (lg_sl ([.ref (h 0), .int a1, .int a2]) ++ List.replicate (3 - (lg_sl ([.ref (h 0), .int a1, .int a2])).length) Slot.unset).toArray = ls at hl ⊢
  have hl : lv_has ls 3 [(0, .ref (h 0)), (1, .int a1), (2, .int a2)] := hl
  show W p l e rmK_chance s m _ below meth c s.heap [] 0 0 (zL below _ s (fK_chance n S a1 a2)) _
  unfold fK_chance
  show W p l e rmK_chance s m _ below meth c s.heap [] 0 0 (zL below _ s _) (F0 m 0 ls [])
  refine lv_aload_n hx hb dK_chance_0 rfl (lv_at hl 0 rfl) ?_
  refine lv_iload_n hx hb dK_chance_1 rfl (lv_at hl 1 rfl) ?_
  refine qVi (rest := []) ⟨hx, hb, hml, hown, hts⟩ (kK_isAnimal l D Y h n hn S a1) (cwV 1 hts (gV uw113 uw114 uw115 uw116 ucK_isAnimal) rfl rfl rfl hvK_isAnimal ⟨Nat.le_of_ble_eq_true rfl, Nat.le_of_ble_eq_true rfl⟩) hK hP (va_recv hK hP (ci := 0) (q0 := 0) rfl rfl) rfl hl.1 rfl (Nat.le_of_ble_eq_true rfl) dK_chance_2 ⟨Nat.le_of_ble_eq_true rfl, Nat.le_of_ble_eq_true rfl⟩ ?_
  refine zif (C := (fK_isAnimal n a1) = 0) (fun c5 => ?_) (fun c5 => ?_)
  · skip
    refine lv_if_eq (tgt := 15) hx hb dK_chance_5 (by decide) (fun _ => ?_) (fun z => absurd c5 z)
    refine lv_ldc2 (v := (-1)) hx hb hown (hts _ uw156) dK_chance_15 ?_
    exact zL_ret hx hb hr hlocks dK_chance_18
  · skip
    refine lv_if_eq (tgt := 15) hx hb dK_chance_5 (by decide) (fun z => absurd z c5) (fun _ => ?_)
    refine lv_iload_n hx hb dK_chance_8 rfl (lv_at hl 2 rfl) ?_
    refine qSi (rest := []) ⟨hx, hb, hml, hown, hts⟩ (kF_isPart l D Y a2) (va_cwS 1 hts (gS uw157 uw158 uw2 ucF_isPart) rfl rfl rfl hsF_isPart ⟨Nat.le_of_ble_eq_true rfl, Nat.le_of_ble_eq_true rfl⟩) hK (zsub [] hP rfl) rfl hl.1 rfl (Nat.le_of_ble_eq_true rfl) dK_chance_9 ⟨Nat.le_of_ble_eq_true rfl, Nat.le_of_ble_eq_true rfl⟩ ?_
    refine zif (C := (fF_isPart a2) = 0) (fun c12 => ?_) (fun c12 => ?_)
    · skip
      refine lv_if_ne (tgt := 19) hx hb dK_chance_12 (by decide) (fun z => absurd c12 z) (fun _ => ?_)
      refine lv_ldc2 (v := (-1)) hx hb hown (hts _ uw156) dK_chance_15 ?_
      exact zL_ret hx hb hr hlocks dK_chance_18
    · skip
      refine lv_if_ne (tgt := 19) hx hb dK_chance_12 (by decide) (fun _ => ?_) (fun z => absurd z c12)
      refine lv_aload_n hx hb dK_chance_19 rfl (lv_at hl 0 rfl) ?_
      refine va_get (D := D) (ci := 0) (v := .ref (h 4)) (C := RK) (T := TK) (N := 6) hx hb hts hinK hown hK hP 0 rfl rfl 0 (by decide) (hts _ uw122) (fun _ h9 => h9) rfl dK_chance_20 ?_
      refine lv_iload_n hx hb dK_chance_23 rfl (lv_at hl 1 rfl) ?_
      refine qVl (rest := []) ⟨hx, hb, hml, hown, hts⟩ (kP_chanceOf l D Y (fun i => h (i + 4)) n hn (g_P S) a1) (cwV 1 hts (gV uw162 uw163 uw164 uw8 ucP_chanceOf) rfl rfl rfl hvP_chanceOf ⟨Nat.le_of_ble_eq_true rfl, Nat.le_of_ble_eq_true rfl⟩) hK (kP_sub hP) (va_recv hK (kP_sub hP) (ci := 1) (q0 := 0) rfl rfl) rfl hl.1 rfl (Nat.le_of_ble_eq_true rfl) dK_chance_24 ⟨Nat.le_of_ble_eq_true rfl, Nat.le_of_ble_eq_true rfl⟩ ?_
      refine lv_ldc2 (v := 1073741824) hx hb hown (hts _ uw159) dK_chance_27 ?_
      refine lv_iload_n hx hb dK_chance_30 rfl (lv_at hl 2 rfl) ?_
      refine qSl (rest := []) ⟨hx, hb, hml, hown, hts⟩ (kF_lowest l D Y (fP_chanceOf n (g_P S) a1) 1073741824 a2) (va_cwS 3 hts (gS uw160 uw100 uw2 ucF_lowest) rfl rfl rfl hsF_lowest ⟨Nat.le_of_ble_eq_true rfl, Nat.le_of_ble_eq_true rfl⟩) hK (zsub [] hP rfl) rfl hl.1 rfl (Nat.le_of_ble_eq_true rfl) dK_chance_31 ⟨Nat.le_of_ble_eq_true rfl, Nat.le_of_ble_eq_true rfl⟩ ?_
      exact zL_ret hx hb hr hlocks dK_chance_34
abbrev rmK_share : Room := { frames := 3, cells := 0, slots := 0, locals := 66 }
set_option maxHeartbeats 4000000 in
set_option maxRecDepth 100000 in
theorem kK_share (l : Launch) (D : va_G) (Y : Nat → ClassId) (h : Nat → Nat) (n : Nat) (hn : n ≤ 24) (S : vK) (a1 : Int32) (a2 : Int32) (a3 : Int32) (sz : Nat) : Met l yK_share wsK_share rmK_share (va_Pc [.ref (h 0), .int a1, .int a2, .int a3] (zPreM D vwCl (tysK Y) (wK Y h n S) sz)) (va_Ql (fun r u => (r, u) = (fK_share n S a1 a2 a3)) (zAt D vwCl (tysK Y) (va_A (wK Y h n S) sz) (wK Y h n)) (va_A (wK Y h n S) sz)) 0 0 (va_A (wK Y h n S) sz) := by
  refine Met.ofW (cc := cK_share) (maxL := 4) (ret := (some .long)) (by decide) rfl ?_
  intro p e s m args below meth c s₁ B hml hv
  obtain ⟨rfl, hsz, hP, hK, hD0⟩ := hv
  have hx := B.exec
  have hb := B.bytes
  have hr := B.returns
  have hts : ∀ w ∈ uT, w.before _ s = true := fun w hw => atoms_spec (ws := wsK_share) B.pre w (List.mem_cons_of_mem _ hw)
  have hown : s.vm.findClass RK = some m.cls := findClass_of_methodNamed B.named
  have hlocks := B.notSynchronized
  subst hsz
  have hD := hD0.self (sz := s.heap.size)
  generalize hAe : va_A (wK Y h n S) s.heap.size = A at hD ⊢
  have hA : ∀ q : Nat, s.heap.size ≤ q → A q := fun q h => by rw [← hAe]; exact Or.inr h
  have hS : va_S A s.heap s.heap [] := va_S.rf
  have hl := lv_entry ([.ref (h 0), .int a1, .int a2, .int a3]) (n := 4) (Nat.le_of_ble_eq_true rfl)
  rw [lg_entry_eq]
  generalize (lg_sl ([.ref (h 0), .int a1, .int a2, .int a3]) ++ List.replicate (4 - (lg_sl ([.ref (h 0), .int a1, .int a2, .int a3])).length) Slot.unset).toArray = ls at hl ⊢
  have hl : lv_has ls 4 [(0, .ref (h 0)), (1, .int a1), (2, .int a2), (3, .int a3)] := hl
  show W p l e rmK_share s m _ below meth c s.heap [] 0 0 (zMl D vwCl (tysK Y) A (wK Y h n) below _ s 0 0 (fK_share n S a1 a2 a3)) _
  unfold fK_share
  show W p l e rmK_share s m _ below meth c s.heap [] 0 0 (zMl D vwCl (tysK Y) A (wK Y h n) below _ s 0 0 _) (F0 m 0 ls [])
  refine lv_aload_n hx hb dK_share_0 rfl (lv_at hl 0 rfl) ?_
  refine lv_iload_n hx hb dK_share_1 rfl (lv_at hl 1 rfl) ?_
  refine qVi (rest := []) ⟨hx, hb, hml, hown, hts⟩ (kK_isAnimal l D Y h n hn S a1) (cwV 1 hts (gV uw113 uw114 uw115 uw116 ucK_isAnimal) rfl rfl rfl hvK_isAnimal ⟨Nat.le_of_ble_eq_true rfl, Nat.le_of_ble_eq_true rfl⟩) hK hP (va_recv hK hP (ci := 0) (q0 := 0) rfl rfl) rfl hl.1 rfl (Nat.le_of_ble_eq_true rfl) dK_share_2 ⟨Nat.le_of_ble_eq_true rfl, Nat.le_of_ble_eq_true rfl⟩ ?_
  refine zif (C := (fK_isAnimal n a1) = 0) (fun c5 => ?_) (fun c5 => ?_)
  · skip
    refine lv_if_eq (tgt := 26) hx hb dK_share_5 (by decide) (fun _ => ?_) (fun z => absurd c5 z)
    refine lv_ldc2 (v := (-1)) hx hb hown (hts _ uw156) dK_share_26 ?_
    exact zMl_ret (u := S) hx hb hr hlocks hK hP hD hS dK_share_29
  · skip
    refine lv_if_eq (tgt := 26) hx hb dK_share_5 (by decide) (fun z => absurd z c5) (fun _ => ?_)
    refine lv_aload_n hx hb dK_share_8 rfl (lv_at hl 0 rfl) ?_
    refine va_get (D := D) (ci := 0) (v := .ref (h 4)) (C := RK) (T := TK) (N := 6) hx hb hts hinK hown hK hP 0 rfl rfl 0 (by decide) (hts _ uw122) (fun _ h9 => h9) rfl dK_share_9 ?_
    refine lv_iload_n hx hb dK_share_12 rfl (lv_at hl 2 rfl) ?_
    refine qVi (rest := []) ⟨hx, hb, hml, hown, hts⟩ (kP_isFounder l D Y (fun i => h (i + 4)) n hn (g_P S) a2) (cwV 1 hts (gV uw128 uw129 uw130 uw8 ucP_isFounder) rfl rfl rfl hvP_isFounder ⟨Nat.le_of_ble_eq_true rfl, Nat.le_of_ble_eq_true rfl⟩) hK (kP_sub hP) (va_recv hK (kP_sub hP) (ci := 1) (q0 := 0) rfl rfl) rfl hl.1 rfl (Nat.le_of_ble_eq_true rfl) dK_share_13 ⟨Nat.le_of_ble_eq_true rfl, Nat.le_of_ble_eq_true rfl⟩ ?_
    refine zif (C := (fP_isFounder n (g_P S) a2) = 0) (fun c16 => ?_) (fun c16 => ?_)
    · skip
      refine lv_if_eq (tgt := 26) hx hb dK_share_16 (by decide) (fun _ => ?_) (fun z => absurd c16 z)
      refine lv_ldc2 (v := (-1)) hx hb hown (hts _ uw156) dK_share_26 ?_
      exact zMl_ret (u := S) hx hb hr hlocks hK hP hD hS dK_share_29
    · skip
      refine lv_if_eq (tgt := 26) hx hb dK_share_16 (by decide) (fun z => absurd z c16) (fun _ => ?_)
      refine lv_iload_n hx hb dK_share_19 rfl (lv_at hl 3 rfl) ?_
      refine qSi (rest := []) ⟨hx, hb, hml, hown, hts⟩ (kF_isPart l D Y a3) (va_cwS 1 hts (gS uw157 uw158 uw2 ucF_isPart) rfl rfl rfl hsF_isPart ⟨Nat.le_of_ble_eq_true rfl, Nat.le_of_ble_eq_true rfl⟩) hK (zsub [] hP rfl) rfl hl.1 rfl (Nat.le_of_ble_eq_true rfl) dK_share_20 ⟨Nat.le_of_ble_eq_true rfl, Nat.le_of_ble_eq_true rfl⟩ ?_
      refine zif (C := (fF_isPart a3) = 0) (fun c23 => ?_) (fun c23 => ?_)
      · skip
        refine lv_if_ne (tgt := 30) hx hb dK_share_23 (by decide) (fun z => absurd c23 z) (fun _ => ?_)
        refine lv_ldc2 (v := (-1)) hx hb hown (hts _ uw156) dK_share_26 ?_
        exact zMl_ret (u := S) hx hb hr hlocks hK hP hD hS dK_share_29
      · skip
        refine lv_if_ne (tgt := 30) hx hb dK_share_23 (by decide) (fun _ => ?_) (fun z => absurd z c23)
        refine lv_aload_n hx hb dK_share_30 rfl (lv_at hl 0 rfl) ?_
        refine va_get (D := D) (ci := 0) (v := .ref (h 4)) (C := RK) (T := TK) (N := 6) hx hb hts hinK hown hK hP 0 rfl rfl 0 (by decide) (hts _ uw122) (fun _ h9 => h9) rfl dK_share_31 ?_
        refine lv_iload_n hx hb dK_share_34 rfl (lv_at hl 1 rfl) ?_
        refine lv_iload_n hx hb dK_share_35 rfl (lv_at hl 2 rfl) ?_
        refine qMVl (ws := wK Y h n S) (wc := wP Y (fun i => h (i + 4)) n (g_P S)) (wr := wKo Y h n S ++ wM Y (fun i => h (i + 13)) n (g_M S)) (ws' := wK Y h n (s_P S ((fP_shareOf n (g_P S) a1 a2).2))) (rest := []) ⟨hx, hb, hml, hown, hts⟩ (kP_shareOf l D Y (fun i => h (i + 4)) n hn (g_P S) a1 a2 _) (cwV 2 hts (gV uw165 uw166 uw167 uw8 ucP_shareOf) rfl rfl rfl hvP_shareOf ⟨Nat.le_of_ble_eq_true rfl, Nat.le_of_ble_eq_true rfl⟩) hK hP hD hS hA [4, 5, 6, 7, 8, 9, 10, 11, 12] [0, 1, 2, 3, 13, 14] [0, 1, 2, 3, 6, 7, 8, 9, 10, 11, 12, 13, 14, 4, 5] rfl rfl (by decide) (by decide) (by decide) rfl (by decide) (va_recv hK (kP_sub hP) (ci := 1) (q0 := 0) rfl rfl) rfl hl.1 rfl (Nat.le_of_ble_eq_true rfl) dK_share_36 ⟨Nat.le_of_ble_eq_true rfl, Nat.le_of_ble_eq_true rfl⟩ (fun H locs hP hD hS => ?_)
        refine lv_ldc2 (v := 1073741824) hx hb hown (hts _ uw159) dK_share_39 ?_
        refine lv_iload_n hx hb dK_share_42 rfl (lv_at hl 3 rfl) ?_
        refine qSl (rest := []) ⟨hx, hb, hml, hown, hts⟩ (kF_lowest l D Y ((fP_shareOf n (g_P S) a1 a2).1) 1073741824 a3) (va_cwS 3 hts (gS uw160 uw100 uw2 ucF_lowest) rfl rfl rfl hsF_lowest ⟨Nat.le_of_ble_eq_true rfl, Nat.le_of_ble_eq_true rfl⟩) hK (zsub [] hP rfl) rfl hl.1 rfl (Nat.le_of_ble_eq_true rfl) dK_share_43 ⟨Nat.le_of_ble_eq_true rfl, Nat.le_of_ble_eq_true rfl⟩ ?_
        exact zMl_ret (u := (s_P S ((fP_shareOf n (g_P S) a1 a2).2))) hx hb hr hlocks hK hP hD hS dK_share_46
abbrev rmK_isForbear : Room := { frames := 2, cells := 0, slots := 0, locals := 43 }
set_option maxHeartbeats 4000000 in
set_option maxRecDepth 100000 in
theorem kK_isForbear (l : Launch) (D : va_G) (Y : Nat → ClassId) (h : Nat → Nat) (n : Nat) (hn : n ≤ 24) (S : vK) (a1 : Int32) (a2 : Int32) : Met l yK_isForbear wsK_isForbear rmK_isForbear (va_Pc [.ref (h 0), .int a1, .int a2] (zPre D vwCl (tysK Y) (wK Y h n S))) (vp_Si (fun r => r = (fK_isForbear n S a1 a2))) 0 0 (fun _ => False) := by
  refine Met.ofW (cc := cK_isForbear) (maxL := 3) (ret := (some .boolean)) (by decide) rfl ?_
  intro p e s m args below meth c s₁ B hml hv
  obtain ⟨rfl, hP, hK⟩ := hv
  have hx := B.exec
  have hb := B.bytes
  have hr := B.returns
  have hts : ∀ w ∈ uT, w.before _ s = true := fun w hw => atoms_spec (ws := wsK_isForbear) B.pre w (List.mem_cons_of_mem _ hw)
  have hown : s.vm.findClass RK = some m.cls := findClass_of_methodNamed B.named
  have hlocks := B.notSynchronized
  have hl := lv_entry ([.ref (h 0), .int a1, .int a2]) (n := 3) (Nat.le_of_ble_eq_true rfl)
  rw [lg_entry_eq]
  generalize (lg_sl ([.ref (h 0), .int a1, .int a2]) ++ List.replicate (3 - (lg_sl ([.ref (h 0), .int a1, .int a2])).length) Slot.unset).toArray = ls at hl ⊢
  have hl : lv_has ls 3 [(0, .ref (h 0)), (1, .int a1), (2, .int a2)] := hl
  show W p l e rmK_isForbear s m _ below meth c s.heap [] 0 0 (zI below _ s (fK_isForbear n S a1 a2)) _
  unfold fK_isForbear
  show W p l e rmK_isForbear s m _ below meth c s.heap [] 0 0 (zI below _ s _) (F0 m 0 ls [])
  refine lv_aload_n hx hb dK_isForbear_0 rfl (lv_at hl 0 rfl) ?_
  refine va_get (D := D) (ci := 0) (v := .ref (h 4)) (C := RK) (T := TK) (N := 6) hx hb hts hinK hown hK hP 0 rfl rfl 0 (by decide) (hts _ uw122) (fun _ h9 => h9) rfl dK_isForbear_1 ?_
  refine lv_iload_n hx hb dK_isForbear_4 rfl (lv_at hl 2 rfl) ?_
  refine lv_iload_n hx hb dK_isForbear_5 rfl (lv_at hl 1 rfl) ?_
  refine qVi (rest := []) ⟨hx, hb, hml, hown, hts⟩ (kP_hasForbear l D Y (fun i => h (i + 4)) n hn (g_P S) a2 a1) (cwV 2 hts (gV uw132 uw36 uw37 uw8 ucP_hasForbear) rfl rfl rfl hvP_hasForbear ⟨Nat.le_of_ble_eq_true rfl, Nat.le_of_ble_eq_true rfl⟩) hK (kP_sub hP) (va_recv hK (kP_sub hP) (ci := 1) (q0 := 0) rfl rfl) rfl hl.1 rfl (Nat.le_of_ble_eq_true rfl) dK_isForbear_6 ⟨Nat.le_of_ble_eq_true rfl, Nat.le_of_ble_eq_true rfl⟩ ?_
  exact zB_ret hx hb hr hlocks (fP_hasForbear_01 ) dK_isForbear_9
abbrev rmK_order : Room := { frames := 2, cells := 0, slots := 0, locals := 42 }
set_option maxHeartbeats 4000000 in
set_option maxRecDepth 100000 in
theorem kK_order (l : Launch) (D : va_G) (Y : Nat → ClassId) (h : Nat → Nat) (n : Nat) (hn : n ≤ 24) (S : vK) (a1 : Int32) : Met l yK_order wsK_order rmK_order (va_Pc [.ref (h 0), .int a1] (zPre D vwCl (tysK Y) (wK Y h n S))) (vp_Si (fun r => r = (fK_order n S a1))) 0 0 (fun _ => False) := by
  refine Met.ofW (cc := cK_order) (maxL := 2) (ret := (some .int)) (by decide) rfl ?_
  intro p e s m args below meth c s₁ B hml hv
  obtain ⟨rfl, hP, hK⟩ := hv
  have hx := B.exec
  have hb := B.bytes
  have hr := B.returns
  have hts : ∀ w ∈ uT, w.before _ s = true := fun w hw => atoms_spec (ws := wsK_order) B.pre w (List.mem_cons_of_mem _ hw)
  have hown : s.vm.findClass RK = some m.cls := findClass_of_methodNamed B.named
  have hlocks := B.notSynchronized
  have hl := lv_entry ([.ref (h 0), .int a1]) (n := 2) (Nat.le_of_ble_eq_true rfl)
  rw [lg_entry_eq]
  generalize (lg_sl ([.ref (h 0), .int a1]) ++ List.replicate (2 - (lg_sl ([.ref (h 0), .int a1])).length) Slot.unset).toArray = ls at hl ⊢
  have hl : lv_has ls 2 [(0, .ref (h 0)), (1, .int a1)] := hl
  show W p l e rmK_order s m _ below meth c s.heap [] 0 0 (zI below _ s (fK_order n S a1)) _
  unfold fK_order
  show W p l e rmK_order s m _ below meth c s.heap [] 0 0 (zI below _ s _) (F0 m 0 ls [])
  refine lv_aload_n hx hb dK_order_0 rfl (lv_at hl 0 rfl) ?_
  refine va_get (D := D) (ci := 0) (v := .ref (h 4)) (C := RK) (T := TK) (N := 6) hx hb hts hinK hown hK hP 0 rfl rfl 0 (by decide) (hts _ uw122) (fun _ h9 => h9) rfl dK_order_1 ?_
  refine lv_iload_n hx hb dK_order_4 rfl (lv_at hl 1 rfl) ?_
  refine qVi (rest := []) ⟨hx, hb, hml, hown, hts⟩ (kP_inOrder l D Y (fun i => h (i + 4)) n hn (g_P S) a1) (cwV 1 hts (gV uw168 uw47 uw48 uw8 ucP_inOrder) rfl rfl rfl hvP_inOrder ⟨Nat.le_of_ble_eq_true rfl, Nat.le_of_ble_eq_true rfl⟩) hK (kP_sub hP) (va_recv hK (kP_sub hP) (ci := 1) (q0 := 0) rfl rfl) rfl hl.1 rfl (Nat.le_of_ble_eq_true rfl) dK_order_5 ⟨Nat.le_of_ble_eq_true rfl, Nat.le_of_ble_eq_true rfl⟩ ?_
  exact zI_ret hx hb hr hlocks dK_order_8
abbrev rmK_mark : Room := { frames := 2, cells := 0, slots := 0, locals := 45 }
set_option maxHeartbeats 4000000 in
set_option maxRecDepth 100000 in
theorem kK_mark (l : Launch) (D : va_G) (Y : Nat → ClassId) (h : Nat → Nat) (n : Nat) (hn : n ≤ 24) (S : vK) (a1 : Int32) (a2 : Int32) (a3 : Int32) (sz : Nat) : Met l yK_mark wsK_mark rmK_mark (va_Pc [.ref (h 0), .int a1, .int a2, .int a3] (zPreM D vwCl (tysK Y) (wK Y h n S) sz)) (va_Qi (fun r u => (r, u) = (fK_mark n S a1 a2 a3)) (zAt D vwCl (tysK Y) (va_A (wK Y h n S) sz) (wK Y h n)) (va_A (wK Y h n S) sz)) 0 0 (va_A (wK Y h n S) sz) := by
  refine Met.ofW (cc := cK_mark) (maxL := 4) (ret := (some .boolean)) (by decide) rfl ?_
  intro p e s m args below meth c s₁ B hml hv
  obtain ⟨rfl, hsz, hP, hK, hD0⟩ := hv
  have hx := B.exec
  have hb := B.bytes
  have hr := B.returns
  have hts : ∀ w ∈ uT, w.before _ s = true := fun w hw => atoms_spec (ws := wsK_mark) B.pre w (List.mem_cons_of_mem _ hw)
  have hown : s.vm.findClass RK = some m.cls := findClass_of_methodNamed B.named
  have hlocks := B.notSynchronized
  subst hsz
  have hD := hD0.self (sz := s.heap.size)
  generalize hAe : va_A (wK Y h n S) s.heap.size = A at hD ⊢
  have hA : ∀ q : Nat, s.heap.size ≤ q → A q := fun q h => by rw [← hAe]; exact Or.inr h
  have hS : va_S A s.heap s.heap [] := va_S.rf
  have hl := lv_entry ([.ref (h 0), .int a1, .int a2, .int a3]) (n := 4) (Nat.le_of_ble_eq_true rfl)
  rw [lg_entry_eq]
  generalize (lg_sl ([.ref (h 0), .int a1, .int a2, .int a3]) ++ List.replicate (4 - (lg_sl ([.ref (h 0), .int a1, .int a2, .int a3])).length) Slot.unset).toArray = ls at hl ⊢
  have hl : lv_has ls 4 [(0, .ref (h 0)), (1, .int a1), (2, .int a2), (3, .int a3)] := hl
  show W p l e rmK_mark s m _ below meth c s.heap [] 0 0 (zMi D vwCl (tysK Y) A (wK Y h n) below _ s 0 0 (fK_mark n S a1 a2 a3)) _
  unfold fK_mark
  show W p l e rmK_mark s m _ below meth c s.heap [] 0 0 (zMi D vwCl (tysK Y) A (wK Y h n) below _ s 0 0 _) (F0 m 0 ls [])
  refine lv_aload_n hx hb dK_mark_0 rfl (lv_at hl 0 rfl) ?_
  refine va_get (D := D) (ci := 0) (v := .ref (h 13)) (C := RK) (T := TK) (N := 6) hx hb hts hinK hown hK hP 0 rfl rfl 1 (by decide) (hts _ uw169) (fun _ h9 => h9) rfl dK_mark_1 ?_
  refine lv_iload_n hx hb dK_mark_4 rfl (lv_at hl 1 rfl) ?_
  refine lv_iload_n hx hb dK_mark_5 rfl (lv_at hl 2 rfl) ?_
  refine lv_iload_n hx hb dK_mark_6 rfl (lv_at hl 3 rfl) ?_
  refine qMVi (ws := wK Y h n S) (wc := wM Y (fun i => h (i + 13)) n (g_M S)) (wr := wKo Y h n S ++ wP Y (fun i => h (i + 4)) n (g_P S)) (ws' := wK Y h n (s_M S ((fM_setForm n (g_M S) a1 a2 a3).2))) (rest := []) ⟨hx, hb, hml, hown, hts⟩ (kM_setForm l D Y (fun i => h (i + 13)) n hn (g_M S) a1 a2 a3 _) (cwV 3 hts (gV uw170 uw171 uw172 uw84 ucM_setForm) rfl rfl rfl hvM_setForm ⟨Nat.le_of_ble_eq_true rfl, Nat.le_of_ble_eq_true rfl⟩) hK hP hD hS hA [13, 14] [0, 1, 2, 3, 4, 5, 6, 7, 8, 9, 10, 11, 12] [0, 1, 2, 3, 4, 5, 6, 7, 8, 9, 10, 11, 12, 13, 14] rfl rfl (by decide) (by decide) (by decide) rfl (by decide) (va_recv hK (kM_sub hP) (ci := 2) (q0 := 0) rfl rfl) rfl hl.1 rfl (Nat.le_of_ble_eq_true rfl) dK_mark_7 ⟨Nat.le_of_ble_eq_true rfl, Nat.le_of_ble_eq_true rfl⟩ (fun H locs hP hD hS => ?_)
  exact zMb_ret (u := (s_M S ((fM_setForm n (g_M S) a1 a2 a3).2))) hx hb hr hlocks hK hP hD hS (fM_setForm_01 ) dK_mark_10
abbrev rmK_left : Room := { frames := 4, cells := 0, slots := 0, locals := 90 }
set_option maxHeartbeats 4000000 in
set_option maxRecDepth 100000 in
theorem tK_left_37 {p : Program} {l : Launch} {e : Env} {s : State} {m : MethodId} {args : Array Value} {below : List Frame} {meth : Method} {c : Code} {D : va_G} {Y : Nat → ClassId} {h : Nat → Nat} {n : Nat} (hn : n ≤ 24) {S : vK} (CF : CallFix p m c cK_left 6 s args uT RK) (hr : meth.sig.returnType = (some .int)) (hlocks : meth.locks = false) (hK : va_K D vwCl (tysK Y) s) (hP : va_P D vwCl (wK Y h n S) s.heap) : ∀ (k i : Nat) (x1 : Int32) (x2 : Int32) (x3 : Int32) (x4 : Int32), i + k = n → ∀ ls : Array Slot, lv_has ls 6 [(0, .ref (h 0)), (1, .int x1), (2, .int x2), (3, .int x3), (4, .int x4), (5, .int (nI i))] → W p l e rmK_left s m args below meth c s.heap [] 0 0 (zI below args s (fK_left_37 n S k i x1 x2 x3 x4)) (F0 m 37 ls []) := by
  obtain ⟨hx, hb, hml, hown, hts⟩ := CF
  intro k
  induction k with
  | zero =>
    intro i x1 x2 x3 x4 hi  ls hl
    rw [fK_left_37]
    refine lv_iload hx hb dK_left_37 (lv_at hl 5 rfl) ?_
    refine lv_aload_n hx hb dK_left_39 rfl (lv_at hl 0 rfl) ?_
    refine va_get (D := D) (ci := 0) (v := .int (nI n)) (C := RK) (T := TK) (N := 6) hx hb hts hinK hown hK hP 0 rfl rfl 2 (by decide) (hts _ uw112) (fun _ h9 => h9) rfl dK_left_40 ?_
    refine lv_icmp_ge (tgt := 85) hx hb dK_left_43 (by decide) (fun _ => ?_) (fun z => absurd (lp_ge (n := n) hi) z)
    refine lv_iload hx hb dK_left_85 (lv_at hl 4 rfl) ?_
    exact zI_ret hx hb hr hlocks dK_left_87
  | succ k ih =>
    intro i x1 x2 x3 x4 hi  ls hl
    rw [fK_left_37]
    refine lv_iload hx hb dK_left_37 (lv_at hl 5 rfl) ?_
    refine lv_aload_n hx hb dK_left_39 rfl (lv_at hl 0 rfl) ?_
    refine va_get (D := D) (ci := 0) (v := .int (nI n)) (C := RK) (T := TK) (N := 6) hx hb hts hinK hown hK hP 0 rfl rfl 2 (by decide) (hts _ uw112) (fun _ h9 => h9) rfl dK_left_40 ?_
    refine lv_icmp_ge (tgt := 85) hx hb dK_left_43 (by decide) (fun z => absurd z (lp_lt (n := n) hi (by omega))) (fun _ => ?_)
    refine lv_iload hx hb dK_left_46 (lv_at hl 5 rfl) ?_
    refine lv_iload_n hx hb dK_left_48 rfl (lv_at hl 1 rfl) ?_
    refine zif (C := (nI i) = x1) (fun c49 => ?_) (fun c49 => ?_)
    · skip
      refine lv_icmp_eq (tgt := 79) hx hb dK_left_49 (by decide) (fun _ => ?_) (fun z => absurd c49 z)
      refine lv_iinc (v := (nI (i + 1))) (lv' := [(5, .int (nI (i + 1))), (0, .ref (h 0)), (1, .int x1), (2, .int x2), (3, .int x3), (4, .int x4)]) hx hb dK_left_79 hl (k := 5) rfl (nI_1 _) (by decide) rfl (fun ls hl => ?_)
      refine lv_goto (tgt := 37) hx hb dK_left_82 (by decide) ?_
      exact ih (i + 1) x1 x2 x3 x4 (by omega) ls (lv_sub hl [1, 2, 3, 4, 5, 0] rfl)
    · skip
      refine lv_icmp_eq (tgt := 79) hx hb dK_left_49 (by decide) (fun z => absurd z c49) (fun _ => ?_)
      refine lv_aload_n hx hb dK_left_52 rfl (lv_at hl 0 rfl) ?_
      refine va_get (D := D) (ci := 0) (v := .ref (h 1)) (C := RK) (T := TK) (N := 6) hx hb hts hinK hown hK hP 0 rfl rfl 3 (by decide) (hts _ uw117) (fun _ h9 => h9) rfl dK_left_53 ?_
      refine lv_iload hx hb dK_left_56 (lv_at hl 5 rfl) ?_
      refine va_iald hx hb hK hP 1 0 rfl rfl (vp_in_nI (n := i) (by omega) (by omega)) dK_left_58 ?_
      refine lv_iload_n hx hb dK_left_59 rfl (lv_at hl 3 rfl) ?_
      refine zif (C := ((g_sx S) ((nI i) : Int32).toNatClampNeg) = x3) (fun c60 => ?_) (fun c60 => ?_)
      · skip
        refine lv_icmp_eq (tgt := 79) hx hb dK_left_60 (by decide) (fun _ => ?_) (fun z => absurd c60 z)
        refine lv_iinc (v := (nI (i + 1))) (lv' := [(5, .int (nI (i + 1))), (0, .ref (h 0)), (1, .int x1), (2, .int x2), (3, .int x3), (4, .int x4)]) hx hb dK_left_79 hl (k := 5) rfl (nI_1 _) (by decide) rfl (fun ls hl => ?_)
        refine lv_goto (tgt := 37) hx hb dK_left_82 (by decide) ?_
        exact ih (i + 1) x1 x2 x3 x4 (by omega) ls (lv_sub hl [1, 2, 3, 4, 5, 0] rfl)
      · skip
        refine lv_icmp_eq (tgt := 79) hx hb dK_left_60 (by decide) (fun z => absurd z c60) (fun _ => ?_)
        refine lv_aload_n hx hb dK_left_63 rfl (lv_at hl 0 rfl) ?_
        refine va_get (D := D) (ci := 0) (v := .ref (h 13)) (C := RK) (T := TK) (N := 6) hx hb hts hinK hown hK hP 0 rfl rfl 1 (by decide) (hts _ uw169) (fun _ h9 => h9) rfl dK_left_64 ?_
        refine lv_iload_n hx hb dK_left_67 rfl (lv_at hl 1 rfl) ?_
        refine lv_iload hx hb dK_left_68 (lv_at hl 5 rfl) ?_
        refine qVi (rest := []) ⟨hx, hb, hml, hown, hts⟩ (kM_isLeftOut l D Y (fun i => h (i + 13)) n hn (g_M S) x1 (nI i)) (cwV 2 hts (gV uw173 uw174 uw175 uw84 ucM_isLeftOut) rfl rfl rfl hvM_isLeftOut ⟨Nat.le_of_ble_eq_true rfl, Nat.le_of_ble_eq_true rfl⟩) hK (kM_sub hP) (va_recv hK (kM_sub hP) (ci := 2) (q0 := 0) rfl rfl) rfl hl.1 rfl (Nat.le_of_ble_eq_true rfl) dK_left_70 ⟨Nat.le_of_ble_eq_true rfl, Nat.le_of_ble_eq_true rfl⟩ ?_
        refine zif (C := (fM_isLeftOut n (g_M S) x1 (nI i)) = 0) (fun c73 => ?_) (fun c73 => ?_)
        · skip
          refine lv_if_ne (tgt := 79) hx hb dK_left_73 (by decide) (fun z => absurd c73 z) (fun _ => ?_)
          refine lv_iinc (v := (x4 + 1)) (lv' := [(4, .int (x4 + 1)), (0, .ref (h 0)), (1, .int x1), (2, .int x2), (3, .int x3), (5, .int (nI i))]) hx hb dK_left_76 hl (k := 4) rfl (rfl) (by decide) rfl (fun ls hl => ?_)
          refine lv_iinc (v := (nI (i + 1))) (lv' := [(5, .int (nI (i + 1))), (4, .int (x4 + 1)), (0, .ref (h 0)), (1, .int x1), (2, .int x2), (3, .int x3)]) hx hb dK_left_79 hl (k := 5) rfl (nI_1 _) (by decide) rfl (fun ls hl => ?_)
          refine lv_goto (tgt := 37) hx hb dK_left_82 (by decide) ?_
          exact ih (i + 1) x1 x2 x3 (x4 + 1) (by omega) ls (lv_sub hl [2, 3, 4, 5, 1, 0] rfl)
        · skip
          refine lv_if_ne (tgt := 79) hx hb dK_left_73 (by decide) (fun _ => ?_) (fun z => absurd z c73)
          refine lv_iinc (v := (nI (i + 1))) (lv' := [(5, .int (nI (i + 1))), (0, .ref (h 0)), (1, .int x1), (2, .int x2), (3, .int x3), (4, .int x4)]) hx hb dK_left_79 hl (k := 5) rfl (nI_1 _) (by decide) rfl (fun ls hl => ?_)
          refine lv_goto (tgt := 37) hx hb dK_left_82 (by decide) ?_
          exact ih (i + 1) x1 x2 x3 x4 (by omega) ls (lv_sub hl [1, 2, 3, 4, 5, 0] rfl)
set_option maxHeartbeats 4000000 in
set_option maxRecDepth 100000 in
theorem kK_left (l : Launch) (D : va_G) (Y : Nat → ClassId) (h : Nat → Nat) (n : Nat) (hn : n ≤ 24) (S : vK) (a1 : Int32) (a2 : Int32) : Met l yK_left wsK_left rmK_left (va_Pc [.ref (h 0), .int a1, .int a2] (zPre D vwCl (tysK Y) (wK Y h n S))) (vp_Si (fun r => r = (fK_left n S a1 a2))) 0 0 (fun _ => False) := by
  refine Met.ofW (cc := cK_left) (maxL := 6) (ret := (some .int)) (by decide) rfl ?_
  intro p e s m args below meth c s₁ B hml hv
  obtain ⟨rfl, hP, hK⟩ := hv
  have hx := B.exec
  have hb := B.bytes
  have hr := B.returns
  have hts : ∀ w ∈ uT, w.before _ s = true := fun w hw => atoms_spec (ws := wsK_left) B.pre w (List.mem_cons_of_mem _ hw)
  have hown : s.vm.findClass RK = some m.cls := findClass_of_methodNamed B.named
  have hlocks := B.notSynchronized
  have hl := lv_entry ([.ref (h 0), .int a1, .int a2]) (n := 6) (Nat.le_of_ble_eq_true rfl)
  rw [lg_entry_eq]
  generalize (lg_sl ([.ref (h 0), .int a1, .int a2]) ++ List.replicate (6 - (lg_sl ([.ref (h 0), .int a1, .int a2])).length) Slot.unset).toArray = ls at hl ⊢
  have hl : lv_has ls 6 [(0, .ref (h 0)), (1, .int a1), (2, .int a2)] := hl
  show W p l e rmK_left s m _ below meth c s.heap [] 0 0 (zI below _ s (fK_left n S a1 a2)) _
  unfold fK_left
  show W p l e rmK_left s m _ below meth c s.heap [] 0 0 (zI below _ s _) (F0 m 0 ls [])
  refine lv_aload_n hx hb dK_left_0 rfl (lv_at hl 0 rfl) ?_
  refine lv_iload_n hx hb dK_left_1 rfl (lv_at hl 1 rfl) ?_
  refine qVi (rest := []) ⟨hx, hb, hml, hown, hts⟩ (kK_isAnimal l D Y h n hn S a1) (cwV 1 hts (gV uw113 uw114 uw115 uw116 ucK_isAnimal) rfl rfl rfl hvK_isAnimal ⟨Nat.le_of_ble_eq_true rfl, Nat.le_of_ble_eq_true rfl⟩) hK hP (va_recv hK hP (ci := 0) (q0 := 0) rfl rfl) rfl hl.1 rfl (Nat.le_of_ble_eq_true rfl) dK_left_2 ⟨Nat.le_of_ble_eq_true rfl, Nat.le_of_ble_eq_true rfl⟩ ?_
  refine zif (C := (fK_isAnimal n a1) = 0) (fun c5 => ?_) (fun c5 => ?_)
  · skip
    refine lv_if_eq (tgt := 18) hx hb dK_left_5 (by decide) (fun _ => ?_) (fun z => absurd c5 z)
    refine lv_iconst (v := (-1)) hx hb dK_left_18 (by decide) ?_
    exact zI_ret hx hb hr hlocks dK_left_19
  · skip
    refine lv_if_eq (tgt := 18) hx hb dK_left_5 (by decide) (fun z => absurd z c5) (fun _ => ?_)
    refine lv_iload_n hx hb dK_left_8 rfl (lv_at hl 2 rfl) ?_
    refine lv_iconst (v := 1) hx hb dK_left_9 (by decide) ?_
    refine zif (C := a2 = 1) (fun c10 => ?_) (fun c10 => ?_)
    · skip
      refine lv_icmp_eq (tgt := 20) hx hb dK_left_10 (by decide) (fun _ => ?_) (fun z => absurd c10 z)
      refine lv_iload_n hx hb dK_left_20 rfl (lv_at hl 2 rfl) ?_
      refine lv_iconst (v := 1) hx hb dK_left_21 (by decide) ?_
      refine lv_icmp_ne (tgt := 29) hx hb dK_left_22 (by decide) (fun z => absurd c10 z) (fun _ => ?_)
      refine lv_iconst (v := 2) hx hb dK_left_25 (by decide) ?_
      refine lv_goto (tgt := 30) hx hb dK_left_26 (by decide) ?_
      refine lv_istore_n (lv' := [(3, .int 2), (0, .ref (h 0)), (1, .int a1), (2, .int a2)]) hx hb dK_left_30 rfl hl (by decide) rfl (fun ls hl => ?_)
      refine lv_iconst (v := 0) hx hb dK_left_31 (by decide) ?_
      refine lv_istore (lv' := [(4, .int 0), (3, .int 2), (0, .ref (h 0)), (1, .int a1), (2, .int a2)]) hx hb dK_left_32 hl (by decide) rfl (fun ls hl => ?_)
      refine lv_iconst (v := 0) hx hb dK_left_34 (by decide) ?_
      refine lv_istore (lv' := [(5, .int 0), (4, .int 0), (3, .int 2), (0, .ref (h 0)), (1, .int a1), (2, .int a2)]) hx hb dK_left_35 hl (by decide) rfl (fun ls hl => ?_)
      exact tK_left_37 hn ⟨hx, hb, hml, hown, hts⟩ hr hlocks hK hP n 0 a1 a2 2 0 (by omega) ls (lv_sub hl [3, 4, 5, 2, 1, 0] rfl)
    · skip
      refine lv_icmp_eq (tgt := 20) hx hb dK_left_10 (by decide) (fun z => absurd z c10) (fun _ => ?_)
      refine lv_iload_n hx hb dK_left_13 rfl (lv_at hl 2 rfl) ?_
      refine lv_iconst (v := 2) hx hb dK_left_14 (by decide) ?_
      refine zif (C := a2 = 2) (fun c15 => ?_) (fun c15 => ?_)
      · skip
        refine lv_icmp_eq (tgt := 20) hx hb dK_left_15 (by decide) (fun _ => ?_) (fun z => absurd c15 z)
        refine lv_iload_n hx hb dK_left_20 rfl (lv_at hl 2 rfl) ?_
        refine lv_iconst (v := 1) hx hb dK_left_21 (by decide) ?_
        refine lv_icmp_ne (tgt := 29) hx hb dK_left_22 (by decide) (fun _ => ?_) (fun z => absurd z c10)
        refine lv_iconst (v := 1) hx hb dK_left_29 (by decide) ?_
        refine lv_istore_n (lv' := [(3, .int 1), (0, .ref (h 0)), (1, .int a1), (2, .int a2)]) hx hb dK_left_30 rfl hl (by decide) rfl (fun ls hl => ?_)
        refine lv_iconst (v := 0) hx hb dK_left_31 (by decide) ?_
        refine lv_istore (lv' := [(4, .int 0), (3, .int 1), (0, .ref (h 0)), (1, .int a1), (2, .int a2)]) hx hb dK_left_32 hl (by decide) rfl (fun ls hl => ?_)
        refine lv_iconst (v := 0) hx hb dK_left_34 (by decide) ?_
        refine lv_istore (lv' := [(5, .int 0), (4, .int 0), (3, .int 1), (0, .ref (h 0)), (1, .int a1), (2, .int a2)]) hx hb dK_left_35 hl (by decide) rfl (fun ls hl => ?_)
        exact tK_left_37 hn ⟨hx, hb, hml, hown, hts⟩ hr hlocks hK hP n 0 a1 a2 1 0 (by omega) ls (lv_sub hl [3, 4, 5, 2, 1, 0] rfl)
      · skip
        refine lv_icmp_eq (tgt := 20) hx hb dK_left_15 (by decide) (fun z => absurd z c15) (fun _ => ?_)
        refine lv_iconst (v := (-1)) hx hb dK_left_18 (by decide) ?_
        exact zI_ret hx hb hr hlocks dK_left_19
abbrev rmK_odds : Room := { frames := 4, cells := 0, slots := 0, locals := 100 }
set_option maxHeartbeats 4000000 in
set_option maxRecDepth 100000 in
theorem kK_odds (l : Launch) (D : va_G) (Y : Nat → ClassId) (h : Nat → Nat) (n : Nat) (hn : n ≤ 24) (S : vK) (a1 : Int32) (a2 : Int32) (a3 : Int32) : Met l yK_odds wsK_odds rmK_odds (va_Pc [.ref (h 0), .int a1, .int a2, .int a3] (zPre D vwCl (tysK Y) (wK Y h n S))) (vp_Sl (fun r => r = (fK_odds n S a1 a2 a3))) 0 0 (fun _ => False) := by
  refine Met.ofW (cc := cK_odds) (maxL := 4) (ret := (some .long)) (by decide) rfl ?_
  intro p e s m args below meth c s₁ B hml hv
  obtain ⟨rfl, hP, hK⟩ := hv
  have hx := B.exec
  have hb := B.bytes
  have hr := B.returns
  have hts : ∀ w ∈ uT, w.before _ s = true := fun w hw => atoms_spec (ws := wsK_odds) B.pre w (List.mem_cons_of_mem _ hw)
  have hown : s.vm.findClass RK = some m.cls := findClass_of_methodNamed B.named
  have hlocks := B.notSynchronized
  have hl := lv_entry ([.ref (h 0), .int a1, .int a2, .int a3]) (n := 4) (Nat.le_of_ble_eq_true rfl)
  rw [lg_entry_eq]
  generalize (lg_sl ([.ref (h 0), .int a1, .int a2, .int a3]) ++ List.replicate (4 - (lg_sl ([.ref (h 0), .int a1, .int a2, .int a3])).length) Slot.unset).toArray = ls at hl ⊢
  have hl : lv_has ls 4 [(0, .ref (h 0)), (1, .int a1), (2, .int a2), (3, .int a3)] := hl
  show W p l e rmK_odds s m _ below meth c s.heap [] 0 0 (zL below _ s (fK_odds n S a1 a2 a3)) _
  unfold fK_odds
  show W p l e rmK_odds s m _ below meth c s.heap [] 0 0 (zL below _ s _) (F0 m 0 ls [])
  refine lv_aload_n hx hb dK_odds_0 rfl (lv_at hl 0 rfl) ?_
  refine lv_iload_n hx hb dK_odds_1 rfl (lv_at hl 1 rfl) ?_
  refine qVi (rest := []) ⟨hx, hb, hml, hown, hts⟩ (kK_isAnimal l D Y h n hn S a1) (cwV 1 hts (gV uw113 uw114 uw115 uw116 ucK_isAnimal) rfl rfl rfl hvK_isAnimal ⟨Nat.le_of_ble_eq_true rfl, Nat.le_of_ble_eq_true rfl⟩) hK hP (va_recv hK hP (ci := 0) (q0 := 0) rfl rfl) rfl hl.1 rfl (Nat.le_of_ble_eq_true rfl) dK_odds_2 ⟨Nat.le_of_ble_eq_true rfl, Nat.le_of_ble_eq_true rfl⟩ ?_
  refine zif (C := (fK_isAnimal n a1) = 0) (fun c5 => ?_) (fun c5 => ?_)
  · skip
    refine lv_if_eq (tgt := 28) hx hb dK_odds_5 (by decide) (fun _ => ?_) (fun z => absurd c5 z)
    refine lv_ldc2 (v := (-1)) hx hb hown (hts _ uw156) dK_odds_28 ?_
    exact zL_ret hx hb hr hlocks dK_odds_31
  · skip
    refine lv_if_eq (tgt := 28) hx hb dK_odds_5 (by decide) (fun z => absurd z c5) (fun _ => ?_)
    refine lv_aload_n hx hb dK_odds_8 rfl (lv_at hl 0 rfl) ?_
    refine lv_iload_n hx hb dK_odds_9 rfl (lv_at hl 2 rfl) ?_
    refine qVi (rest := []) ⟨hx, hb, hml, hown, hts⟩ (kK_isAnimal l D Y h n hn S a2) (cwV 1 hts (gV uw113 uw114 uw115 uw116 ucK_isAnimal) rfl rfl rfl hvK_isAnimal ⟨Nat.le_of_ble_eq_true rfl, Nat.le_of_ble_eq_true rfl⟩) hK hP (va_recv hK hP (ci := 0) (q0 := 0) rfl rfl) rfl hl.1 rfl (Nat.le_of_ble_eq_true rfl) dK_odds_10 ⟨Nat.le_of_ble_eq_true rfl, Nat.le_of_ble_eq_true rfl⟩ ?_
    refine zif (C := (fK_isAnimal n a2) = 0) (fun c13 => ?_) (fun c13 => ?_)
    · skip
      refine lv_if_eq (tgt := 28) hx hb dK_odds_13 (by decide) (fun _ => ?_) (fun z => absurd c13 z)
      refine lv_ldc2 (v := (-1)) hx hb hown (hts _ uw156) dK_odds_28 ?_
      exact zL_ret hx hb hr hlocks dK_odds_31
    · skip
      refine lv_if_eq (tgt := 28) hx hb dK_odds_13 (by decide) (fun z => absurd z c13) (fun _ => ?_)
      refine lv_iload_n hx hb dK_odds_16 rfl (lv_at hl 1 rfl) ?_
      refine lv_iload_n hx hb dK_odds_17 rfl (lv_at hl 2 rfl) ?_
      refine zif (C := a1 = a2) (fun c18 => ?_) (fun c18 => ?_)
      · skip
        refine lv_icmp_eq (tgt := 28) hx hb dK_odds_18 (by decide) (fun _ => ?_) (fun z => absurd c18 z)
        refine lv_ldc2 (v := (-1)) hx hb hown (hts _ uw156) dK_odds_28 ?_
        exact zL_ret hx hb hr hlocks dK_odds_31
      · skip
        refine lv_icmp_eq (tgt := 28) hx hb dK_odds_18 (by decide) (fun z => absurd z c18) (fun _ => ?_)
        refine lv_iload_n hx hb dK_odds_21 rfl (lv_at hl 3 rfl) ?_
        refine qSi (rest := []) ⟨hx, hb, hml, hown, hts⟩ (kF_isPart l D Y a3) (va_cwS 1 hts (gS uw157 uw158 uw2 ucF_isPart) rfl rfl rfl hsF_isPart ⟨Nat.le_of_ble_eq_true rfl, Nat.le_of_ble_eq_true rfl⟩) hK (zsub [] hP rfl) rfl hl.1 rfl (Nat.le_of_ble_eq_true rfl) dK_odds_22 ⟨Nat.le_of_ble_eq_true rfl, Nat.le_of_ble_eq_true rfl⟩ ?_
        refine zif (C := (fF_isPart a3) = 0) (fun c25 => ?_) (fun c25 => ?_)
        · skip
          refine lv_if_ne (tgt := 32) hx hb dK_odds_25 (by decide) (fun z => absurd c25 z) (fun _ => ?_)
          refine lv_ldc2 (v := (-1)) hx hb hown (hts _ uw156) dK_odds_28 ?_
          exact zL_ret hx hb hr hlocks dK_odds_31
        · skip
          refine lv_if_ne (tgt := 32) hx hb dK_odds_25 (by decide) (fun _ => ?_) (fun z => absurd z c25)
          refine lv_aload_n hx hb dK_odds_32 rfl (lv_at hl 0 rfl) ?_
          refine va_get (D := D) (ci := 0) (v := .ref (h 13)) (C := RK) (T := TK) (N := 6) hx hb hts hinK hown hK hP 0 rfl rfl 1 (by decide) (hts _ uw169) (fun _ h9 => h9) rfl dK_odds_33 ?_
          refine lv_iload_n hx hb dK_odds_36 rfl (lv_at hl 1 rfl) ?_
          refine lv_iload_n hx hb dK_odds_37 rfl (lv_at hl 2 rfl) ?_
          refine lv_iload_n hx hb dK_odds_38 rfl (lv_at hl 3 rfl) ?_
          refine qVl (rest := []) ⟨hx, hb, hml, hown, hts⟩ (kM_oddsOf l D Y (fun i => h (i + 13)) n hn (g_M S) a1 a2 a3) (cwV 3 hts (gV uw176 uw177 uw178 uw84 ucM_oddsOf) rfl rfl rfl hvM_oddsOf ⟨Nat.le_of_ble_eq_true rfl, Nat.le_of_ble_eq_true rfl⟩) hK (kM_sub hP) (va_recv hK (kM_sub hP) (ci := 2) (q0 := 0) rfl rfl) rfl hl.1 rfl (Nat.le_of_ble_eq_true rfl) dK_odds_39 ⟨Nat.le_of_ble_eq_true rfl, Nat.le_of_ble_eq_true rfl⟩ ?_
          exact zL_ret hx hb hr hlocks dK_odds_42
abbrev rmK_like : Room := { frames := 4, cells := 0, slots := 0, locals := 95 }
set_option maxHeartbeats 4000000 in
set_option maxRecDepth 100000 in
theorem kK_like (l : Launch) (D : va_G) (Y : Nat → ClassId) (h : Nat → Nat) (n : Nat) (hn : n ≤ 24) (S : vK) (a1 : Int32) (a2 : Int32) (a3 : Int32) : Met l yK_like wsK_like rmK_like (va_Pc [.ref (h 0), .int a1, .int a2, .int a3] (zPre D vwCl (tysK Y) (wK Y h n S))) (vp_Sl (fun r => r = (fK_like n S a1 a2 a3))) 0 0 (fun _ => False) := by
  refine Met.ofW (cc := cK_like) (maxL := 4) (ret := (some .long)) (by decide) rfl ?_
  intro p e s m args below meth c s₁ B hml hv
  obtain ⟨rfl, hP, hK⟩ := hv
  have hx := B.exec
  have hb := B.bytes
  have hr := B.returns
  have hts : ∀ w ∈ uT, w.before _ s = true := fun w hw => atoms_spec (ws := wsK_like) B.pre w (List.mem_cons_of_mem _ hw)
  have hown : s.vm.findClass RK = some m.cls := findClass_of_methodNamed B.named
  have hlocks := B.notSynchronized
  have hl := lv_entry ([.ref (h 0), .int a1, .int a2, .int a3]) (n := 4) (Nat.le_of_ble_eq_true rfl)
  rw [lg_entry_eq]
  generalize (lg_sl ([.ref (h 0), .int a1, .int a2, .int a3]) ++ List.replicate (4 - (lg_sl ([.ref (h 0), .int a1, .int a2, .int a3])).length) Slot.unset).toArray = ls at hl ⊢
  have hl : lv_has ls 4 [(0, .ref (h 0)), (1, .int a1), (2, .int a2), (3, .int a3)] := hl
  show W p l e rmK_like s m _ below meth c s.heap [] 0 0 (zL below _ s (fK_like n S a1 a2 a3)) _
  unfold fK_like
  show W p l e rmK_like s m _ below meth c s.heap [] 0 0 (zL below _ s _) (F0 m 0 ls [])
  refine lv_aload_n hx hb dK_like_0 rfl (lv_at hl 0 rfl) ?_
  refine lv_iload_n hx hb dK_like_1 rfl (lv_at hl 1 rfl) ?_
  refine qVi (rest := []) ⟨hx, hb, hml, hown, hts⟩ (kK_isAnimal l D Y h n hn S a1) (cwV 1 hts (gV uw113 uw114 uw115 uw116 ucK_isAnimal) rfl rfl rfl hvK_isAnimal ⟨Nat.le_of_ble_eq_true rfl, Nat.le_of_ble_eq_true rfl⟩) hK hP (va_recv hK hP (ci := 0) (q0 := 0) rfl rfl) rfl hl.1 rfl (Nat.le_of_ble_eq_true rfl) dK_like_2 ⟨Nat.le_of_ble_eq_true rfl, Nat.le_of_ble_eq_true rfl⟩ ?_
  refine zif (C := (fK_isAnimal n a1) = 0) (fun c5 => ?_) (fun c5 => ?_)
  · skip
    refine lv_if_eq (tgt := 23) hx hb dK_like_5 (by decide) (fun _ => ?_) (fun z => absurd c5 z)
    refine lv_ldc2 (v := (-1)) hx hb hown (hts _ uw156) dK_like_23 ?_
    exact zL_ret hx hb hr hlocks dK_like_26
  · skip
    refine lv_if_eq (tgt := 23) hx hb dK_like_5 (by decide) (fun z => absurd z c5) (fun _ => ?_)
    refine lv_aload_n hx hb dK_like_8 rfl (lv_at hl 0 rfl) ?_
    refine lv_iload_n hx hb dK_like_9 rfl (lv_at hl 2 rfl) ?_
    refine qVi (rest := []) ⟨hx, hb, hml, hown, hts⟩ (kK_isAnimal l D Y h n hn S a2) (cwV 1 hts (gV uw113 uw114 uw115 uw116 ucK_isAnimal) rfl rfl rfl hvK_isAnimal ⟨Nat.le_of_ble_eq_true rfl, Nat.le_of_ble_eq_true rfl⟩) hK hP (va_recv hK hP (ci := 0) (q0 := 0) rfl rfl) rfl hl.1 rfl (Nat.le_of_ble_eq_true rfl) dK_like_10 ⟨Nat.le_of_ble_eq_true rfl, Nat.le_of_ble_eq_true rfl⟩ ?_
    refine zif (C := (fK_isAnimal n a2) = 0) (fun c13 => ?_) (fun c13 => ?_)
    · skip
      refine lv_if_eq (tgt := 23) hx hb dK_like_13 (by decide) (fun _ => ?_) (fun z => absurd c13 z)
      refine lv_ldc2 (v := (-1)) hx hb hown (hts _ uw156) dK_like_23 ?_
      exact zL_ret hx hb hr hlocks dK_like_26
    · skip
      refine lv_if_eq (tgt := 23) hx hb dK_like_13 (by decide) (fun z => absurd z c13) (fun _ => ?_)
      refine lv_iload_n hx hb dK_like_16 rfl (lv_at hl 3 rfl) ?_
      refine qSi (rest := []) ⟨hx, hb, hml, hown, hts⟩ (kF_isPart l D Y a3) (va_cwS 1 hts (gS uw157 uw158 uw2 ucF_isPart) rfl rfl rfl hsF_isPart ⟨Nat.le_of_ble_eq_true rfl, Nat.le_of_ble_eq_true rfl⟩) hK (zsub [] hP rfl) rfl hl.1 rfl (Nat.le_of_ble_eq_true rfl) dK_like_17 ⟨Nat.le_of_ble_eq_true rfl, Nat.le_of_ble_eq_true rfl⟩ ?_
      refine zif (C := (fF_isPart a3) = 0) (fun c20 => ?_) (fun c20 => ?_)
      · skip
        refine lv_if_ne (tgt := 27) hx hb dK_like_20 (by decide) (fun z => absurd c20 z) (fun _ => ?_)
        refine lv_ldc2 (v := (-1)) hx hb hown (hts _ uw156) dK_like_23 ?_
        exact zL_ret hx hb hr hlocks dK_like_26
      · skip
        refine lv_if_ne (tgt := 27) hx hb dK_like_20 (by decide) (fun _ => ?_) (fun z => absurd z c20)
        refine lv_aload_n hx hb dK_like_27 rfl (lv_at hl 0 rfl) ?_
        refine va_get (D := D) (ci := 0) (v := .ref (h 13)) (C := RK) (T := TK) (N := 6) hx hb hts hinK hown hK hP 0 rfl rfl 1 (by decide) (hts _ uw169) (fun _ h9 => h9) rfl dK_like_28 ?_
        refine lv_iload_n hx hb dK_like_31 rfl (lv_at hl 1 rfl) ?_
        refine lv_iload_n hx hb dK_like_32 rfl (lv_at hl 2 rfl) ?_
        refine lv_iload_n hx hb dK_like_33 rfl (lv_at hl 3 rfl) ?_
        refine qVl (rest := []) ⟨hx, hb, hml, hown, hts⟩ (kM_likenessOf l D Y (fun i => h (i + 13)) n hn (g_M S) a1 a2 a3) (cwV 3 hts (gV uw179 uw180 uw181 uw84 ucM_likenessOf) rfl rfl rfl hvM_likenessOf ⟨Nat.le_of_ble_eq_true rfl, Nat.le_of_ble_eq_true rfl⟩) hK (kM_sub hP) (va_recv hK (kM_sub hP) (ci := 2) (q0 := 0) rfl rfl) rfl hl.1 rfl (Nat.le_of_ble_eq_true rfl) dK_like_34 ⟨Nat.le_of_ble_eq_true rfl, Nat.le_of_ble_eq_true rfl⟩ ?_
        exact zL_ret hx hb hr hlocks dK_like_37
abbrev rmK_lost : Room := { frames := 3, cells := 0, slots := 0, locals := 65 }
set_option maxHeartbeats 4000000 in
set_option maxRecDepth 100000 in
theorem tK_lost_4 {p : Program} {l : Launch} {e : Env} {s : State} {m : MethodId} {args : Array Value} {below : List Frame} {meth : Method} {c : Code} {D : va_G} {Y : Nat → ClassId} {h : Nat → Nat} {n : Nat} (hn : n ≤ 24) {S : vK} (CF : CallFix p m c cK_lost 4 s args uT RK) (hr : meth.sig.returnType = (some .int)) (hlocks : meth.locks = false) (hK : va_K D vwCl (tysK Y) s) (hP : va_P D vwCl (wK Y h n S) s.heap) : ∀ (k i : Nat) (x1 : Int32) (x2 : Int32), i + k = n → ∀ ls : Array Slot, lv_has ls 4 [(0, .ref (h 0)), (1, .int x1), (2, .int x2), (3, .int (nI i))] → W p l e rmK_lost s m args below meth c s.heap [] 0 0 (zI below args s (fK_lost_4 n S k i x1 x2)) (F0 m 4 ls []) := by
  obtain ⟨hx, hb, hml, hown, hts⟩ := CF
  intro k
  induction k with
  | zero =>
    intro i x1 x2 hi  ls hl
    rw [fK_lost_4]
    refine lv_iload_n hx hb dK_lost_4 rfl (lv_at hl 3 rfl) ?_
    refine lv_aload_n hx hb dK_lost_5 rfl (lv_at hl 0 rfl) ?_
    refine va_get (D := D) (ci := 0) (v := .int (nI n)) (C := RK) (T := TK) (N := 6) hx hb hts hinK hown hK hP 0 rfl rfl 2 (by decide) (hts _ uw112) (fun _ h9 => h9) rfl dK_lost_6 ?_
    refine lv_icmp_ge (tgt := 36) hx hb dK_lost_9 (by decide) (fun _ => ?_) (fun z => absurd (lp_ge (n := n) hi) z)
    refine lv_iconst (v := (-1)) hx hb dK_lost_36 (by decide) ?_
    exact zI_ret hx hb hr hlocks dK_lost_37
  | succ k ih =>
    intro i x1 x2 hi  ls hl
    rw [fK_lost_4]
    refine lv_iload_n hx hb dK_lost_4 rfl (lv_at hl 3 rfl) ?_
    refine lv_aload_n hx hb dK_lost_5 rfl (lv_at hl 0 rfl) ?_
    refine va_get (D := D) (ci := 0) (v := .int (nI n)) (C := RK) (T := TK) (N := 6) hx hb hts hinK hown hK hP 0 rfl rfl 2 (by decide) (hts _ uw112) (fun _ h9 => h9) rfl dK_lost_6 ?_
    refine lv_icmp_ge (tgt := 36) hx hb dK_lost_9 (by decide) (fun z => absurd z (lp_lt (n := n) hi (by omega))) (fun _ => ?_)
    refine lv_aload_n hx hb dK_lost_12 rfl (lv_at hl 0 rfl) ?_
    refine lv_iload_n hx hb dK_lost_13 rfl (lv_at hl 3 rfl) ?_
    refine qVi (rest := []) ⟨hx, hb, hml, hown, hts⟩ (kK_isLost l D Y h n hn S (nI i)) (cwV 1 hts (gV uw182 uw183 uw184 uw116 ucK_isLost) rfl rfl rfl hvK_isLost ⟨Nat.le_of_ble_eq_true rfl, Nat.le_of_ble_eq_true rfl⟩) hK hP (va_recv hK hP (ci := 0) (q0 := 0) rfl rfl) rfl hl.1 rfl (Nat.le_of_ble_eq_true rfl) dK_lost_14 ⟨Nat.le_of_ble_eq_true rfl, Nat.le_of_ble_eq_true rfl⟩ ?_
    refine zif (C := (fK_isLost n S (nI i)) = 0) (fun c17 => ?_) (fun c17 => ?_)
    · skip
      refine lv_if_eq (tgt := 30) hx hb dK_lost_17 (by decide) (fun _ => ?_) (fun z => absurd c17 z)
      refine lv_iinc (v := (nI (i + 1))) (lv' := [(3, .int (nI (i + 1))), (0, .ref (h 0)), (1, .int x1), (2, .int x2)]) hx hb dK_lost_30 hl (k := 3) rfl (nI_1 _) (by decide) rfl (fun ls hl => ?_)
      refine lv_goto (tgt := 4) hx hb dK_lost_33 (by decide) ?_
      exact ih (i + 1) x1 x2 (by omega) ls (lv_sub hl [1, 2, 3, 0] rfl)
    · skip
      refine lv_if_eq (tgt := 30) hx hb dK_lost_17 (by decide) (fun z => absurd z c17) (fun _ => ?_)
      refine lv_iload_n hx hb dK_lost_20 rfl (lv_at hl 2 rfl) ?_
      refine lv_iload_n hx hb dK_lost_21 rfl (lv_at hl 1 rfl) ?_
      refine zif (C := x2 = x1) (fun c22 => ?_) (fun c22 => ?_)
      · skip
        refine lv_icmp_ne (tgt := 27) hx hb dK_lost_22 (by decide) (fun z => absurd c22 z) (fun _ => ?_)
        refine lv_iload_n hx hb dK_lost_25 rfl (lv_at hl 3 rfl) ?_
        exact zI_ret hx hb hr hlocks dK_lost_26
      · skip
        refine lv_icmp_ne (tgt := 27) hx hb dK_lost_22 (by decide) (fun _ => ?_) (fun z => absurd z c22)
        refine lv_iinc (v := (x2 + 1)) (lv' := [(2, .int (x2 + 1)), (0, .ref (h 0)), (1, .int x1), (3, .int (nI i))]) hx hb dK_lost_27 hl (k := 2) rfl (rfl) (by decide) rfl (fun ls hl => ?_)
        refine lv_iinc (v := (nI (i + 1))) (lv' := [(3, .int (nI (i + 1))), (2, .int (x2 + 1)), (0, .ref (h 0)), (1, .int x1)]) hx hb dK_lost_30 hl (k := 3) rfl (nI_1 _) (by decide) rfl (fun ls hl => ?_)
        refine lv_goto (tgt := 4) hx hb dK_lost_33 (by decide) ?_
        exact ih (i + 1) x1 (x2 + 1) (by omega) ls (lv_sub hl [2, 3, 1, 0] rfl)
set_option maxHeartbeats 4000000 in
set_option maxRecDepth 100000 in
theorem kK_lost (l : Launch) (D : va_G) (Y : Nat → ClassId) (h : Nat → Nat) (n : Nat) (hn : n ≤ 24) (S : vK) (a1 : Int32) : Met l yK_lost wsK_lost rmK_lost (va_Pc [.ref (h 0), .int a1] (zPre D vwCl (tysK Y) (wK Y h n S))) (vp_Si (fun r => r = (fK_lost n S a1))) 0 0 (fun _ => False) := by
  refine Met.ofW (cc := cK_lost) (maxL := 4) (ret := (some .int)) (by decide) rfl ?_
  intro p e s m args below meth c s₁ B hml hv
  obtain ⟨rfl, hP, hK⟩ := hv
  have hx := B.exec
  have hb := B.bytes
  have hr := B.returns
  have hts : ∀ w ∈ uT, w.before _ s = true := fun w hw => atoms_spec (ws := wsK_lost) B.pre w (List.mem_cons_of_mem _ hw)
  have hown : s.vm.findClass RK = some m.cls := findClass_of_methodNamed B.named
  have hlocks := B.notSynchronized
  have hl := lv_entry ([.ref (h 0), .int a1]) (n := 4) (Nat.le_of_ble_eq_true rfl)
  rw [lg_entry_eq]
  generalize (lg_sl ([.ref (h 0), .int a1]) ++ List.replicate (4 - (lg_sl ([.ref (h 0), .int a1])).length) Slot.unset).toArray = ls at hl ⊢
  have hl : lv_has ls 4 [(0, .ref (h 0)), (1, .int a1)] := hl
  show W p l e rmK_lost s m _ below meth c s.heap [] 0 0 (zI below _ s (fK_lost n S a1)) _
  unfold fK_lost
  show W p l e rmK_lost s m _ below meth c s.heap [] 0 0 (zI below _ s _) (F0 m 0 ls [])
  refine lv_iconst (v := 0) hx hb dK_lost_0 (by decide) ?_
  refine lv_istore_n (lv' := [(2, .int 0), (0, .ref (h 0)), (1, .int a1)]) hx hb dK_lost_1 rfl hl (by decide) rfl (fun ls hl => ?_)
  refine lv_iconst (v := 0) hx hb dK_lost_2 (by decide) ?_
  refine lv_istore_n (lv' := [(3, .int 0), (2, .int 0), (0, .ref (h 0)), (1, .int a1)]) hx hb dK_lost_3 rfl hl (by decide) rfl (fun ls hl => ?_)
  exact tK_lost_4 hn ⟨hx, hb, hml, hown, hts⟩ hr hlocks hK hP n 0 a1 0 (by omega) ls (lv_sub hl [2, 3, 1, 0] rfl)
end
section
abbrev rmK_diverse : Room := { frames := 3, cells := 0, slots := 0, locals := 67 }
set_option maxHeartbeats 4000000 in
set_option maxRecDepth 100000 in
theorem tK_diverse_19 {p : Program} {l : Launch} {e : Env} {s : State} {m : MethodId} {args : Array Value} {below : List Frame} {meth : Method} {c : Code} {D : va_G} {Y : Nat → ClassId} {h : Nat → Nat} {n : Nat} (hn : n ≤ 24) {S : vK} (CF : CallFix p m c cK_diverse 7 s args uT RK) (hr : meth.sig.returnType = (some .long)) (hlocks : meth.locks = false) (hK : va_K D vwCl (tysK Y) s) (hP : va_P D vwCl (wK Y h n S) s.heap) : ∀ (k i : Nat) (x1 : Int32) (x2 : Int64) (x4 : Int64), i + k = n → ∀ ls : Array Slot, lv_has ls 7 [(0, .ref (h 0)), (1, .int x1), (2, .long x2), (4, .long x4), (6, .int (nI i))] → W p l e rmK_diverse s m args below meth c s.heap [] 0 0 (zL below args s (fK_diverse_19 n S k i x1 x2 x4)) (F0 m 19 ls []) := by
  obtain ⟨hx, hb, hml, hown, hts⟩ := CF
  intro k
  induction k with
  | zero =>
    intro i x1 x2 x4 hi  ls hl
    rw [fK_diverse_19]
    refine lv_iload hx hb dK_diverse_19 (lv_at hl 4 rfl) ?_
    refine lv_aload_n hx hb dK_diverse_21 rfl (lv_at hl 0 rfl) ?_
    refine va_get (D := D) (ci := 0) (v := .int (nI n)) (C := RK) (T := TK) (N := 6) hx hb hts hinK hown hK hP 0 rfl rfl 2 (by decide) (hts _ uw112) (fun _ h9 => h9) rfl dK_diverse_22 ?_
    refine lv_icmp_ge (tgt := 59) hx hb dK_diverse_25 (by decide) (fun _ => ?_) (fun z => absurd (lp_ge (n := n) hi) z)
    refine lv_lload_n hx hb dK_diverse_59 rfl (lv_at hl 2 rfl) ?_
    refine lv_lconst (v := 0) hx hb dK_diverse_60 (by decide) ?_
    refine W.lcmp hx hb dK_diverse_61 ?_
    refine zif (C := (lg_cmp x2 0) = 0) (fun c62 => ?_) (fun c62 => ?_)
    · skip
      refine lv_if_ne (tgt := 71) hx hb dK_diverse_62 (by decide) (fun z => absurd c62 z) (fun _ => ?_)
      refine lv_ldc2 (v := (-1)) hx hb hown (hts _ uw156) dK_diverse_65 ?_
      refine lv_goto (tgt := 84) hx hb dK_diverse_68 (by decide) ?_
      exact zL_ret hx hb hr hlocks dK_diverse_84
    · skip
      refine lv_if_ne (tgt := 71) hx hb dK_diverse_62 (by decide) (fun _ => ?_) (fun z => absurd z c62)
      refine lv_lload hx hb dK_diverse_71 (lv_at hl 3 rfl) ?_
      refine lv_lload_n hx hb dK_diverse_73 rfl (lv_at hl 2 rfl) ?_
      refine lv_lload_n hx hb dK_diverse_74 rfl (lv_at hl 2 rfl) ?_
      refine lv_lmul hx hb dK_diverse_75 ?_
      refine lv_ldc2 (v := 1073741824) hx hb hown (hts _ uw159) dK_diverse_76 ?_
      refine lv_lmul hx hb dK_diverse_79 ?_
      refine lv_iload_n hx hb dK_diverse_80 rfl (lv_at hl 1 rfl) ?_
      refine qSl (rest := []) ⟨hx, hb, hml, hown, hts⟩ (kF_lowest l D Y x4 ((x2 * x2) * 1073741824) x1) (va_cwS 3 hts (gS uw160 uw100 uw2 ucF_lowest) rfl rfl rfl hsF_lowest ⟨Nat.le_of_ble_eq_true rfl, Nat.le_of_ble_eq_true rfl⟩) hK (zsub [] hP rfl) rfl hl.1 rfl (Nat.le_of_ble_eq_true rfl) dK_diverse_81 ⟨Nat.le_of_ble_eq_true rfl, Nat.le_of_ble_eq_true rfl⟩ ?_
      exact zL_ret hx hb hr hlocks dK_diverse_84
  | succ k ih =>
    intro i x1 x2 x4 hi  ls hl
    rw [fK_diverse_19]
    refine lv_iload hx hb dK_diverse_19 (lv_at hl 4 rfl) ?_
    refine lv_aload_n hx hb dK_diverse_21 rfl (lv_at hl 0 rfl) ?_
    refine va_get (D := D) (ci := 0) (v := .int (nI n)) (C := RK) (T := TK) (N := 6) hx hb hts hinK hown hK hP 0 rfl rfl 2 (by decide) (hts _ uw112) (fun _ h9 => h9) rfl dK_diverse_22 ?_
    refine lv_icmp_ge (tgt := 59) hx hb dK_diverse_25 (by decide) (fun z => absurd z (lp_lt (n := n) hi (by omega))) (fun _ => ?_)
    refine lv_aload_n hx hb dK_diverse_28 rfl (lv_at hl 0 rfl) ?_
    refine va_get (D := D) (ci := 0) (v := .ref (h 3)) (C := RK) (T := TK) (N := 6) hx hb hts hinK hown hK hP 0 rfl rfl 5 (by decide) (hts _ uw131) (fun _ h9 => h9) rfl dK_diverse_29 ?_
    refine lv_iload hx hb dK_diverse_32 (lv_at hl 4 rfl) ?_
    refine va_zald hx hb hK hP 3 2 rfl rfl (vp_in_nI (n := i) (by omega) (by omega)) dK_diverse_34 ?_
    refine zif (C := ((g_dd S) ((nI i) : Int32).toNatClampNeg) = 0) (fun c35 => ?_) (fun c35 => ?_)
    · skip
      refine lv_if_ne (tgt := 53) hx hb dK_diverse_35 (by decide) (fun z => absurd c35 z) (fun _ => ?_)
      refine lv_lload_n hx hb dK_diverse_38 rfl (lv_at hl 2 rfl) ?_
      refine lv_lconst (v := 1) hx hb dK_diverse_39 (by decide) ?_
      refine lv_ladd hx hb dK_diverse_40 ?_
      refine lv_lstore_n (lv' := [(2, .long (x2 + 1)), (0, .ref (h 0)), (1, .int x1), (4, .long x4), (6, .int (nI i))]) hx hb dK_diverse_41 rfl hl (by decide) rfl (fun ls hl => ?_)
      refine lv_lload hx hb dK_diverse_42 (lv_at hl 3 rfl) ?_
      refine lv_aload_n hx hb dK_diverse_44 rfl (lv_at hl 1 rfl) ?_
      refine lv_iload hx hb dK_diverse_45 (lv_at hl 4 rfl) ?_
      refine qVl (rest := [.long x4]) ⟨hx, hb, hml, hown, hts⟩ (kK_kinWithLiving l D Y h n hn S (nI i)) (cwV 1 hts (gV uw185 uw186 uw187 uw116 ucK_kinWithLiving) rfl rfl rfl hvK_kinWithLiving ⟨Nat.le_of_ble_eq_true rfl, Nat.le_of_ble_eq_true rfl⟩) hK hP (va_recv hK hP (ci := 0) (q0 := 0) rfl rfl) rfl hl.1 rfl (Nat.le_of_ble_eq_true rfl) dK_diverse_47 ⟨Nat.le_of_ble_eq_true rfl, Nat.le_of_ble_eq_true rfl⟩ ?_
      refine lv_ladd hx hb dK_diverse_50 ?_
      refine lv_lstore (lv' := [(4, .long (x4 + (fK_kinWithLiving n S (nI i)))), (2, .long (x2 + 1)), (0, .ref (h 0)), (1, .int x1), (6, .int (nI i))]) hx hb dK_diverse_51 hl (by decide) rfl (fun ls hl => ?_)
      refine lv_iinc (v := (nI (i + 1))) (lv' := [(6, .int (nI (i + 1))), (4, .long (x4 + (fK_kinWithLiving n S (nI i)))), (2, .long (x2 + 1)), (0, .ref (h 0)), (1, .int x1)]) hx hb dK_diverse_53 hl (k := 4) rfl (nI_1 _) (by decide) rfl (fun ls hl => ?_)
      refine lv_goto (tgt := 19) hx hb dK_diverse_56 (by decide) ?_
      exact ih (i + 1) x1 (x2 + 1) (x4 + (fK_kinWithLiving n S (nI i))) (by omega) ls (lv_sub hl [3, 4, 2, 1, 0] rfl)
    · skip
      refine lv_if_ne (tgt := 53) hx hb dK_diverse_35 (by decide) (fun _ => ?_) (fun z => absurd z c35)
      refine lv_iinc (v := (nI (i + 1))) (lv' := [(6, .int (nI (i + 1))), (0, .ref (h 0)), (1, .int x1), (2, .long x2), (4, .long x4)]) hx hb dK_diverse_53 hl (k := 4) rfl (nI_1 _) (by decide) rfl (fun ls hl => ?_)
      refine lv_goto (tgt := 19) hx hb dK_diverse_56 (by decide) ?_
      exact ih (i + 1) x1 x2 x4 (by omega) ls (lv_sub hl [1, 2, 3, 4, 0] rfl)
set_option maxHeartbeats 4000000 in
set_option maxRecDepth 100000 in
theorem kK_diverse (l : Launch) (D : va_G) (Y : Nat → ClassId) (h : Nat → Nat) (n : Nat) (hn : n ≤ 24) (S : vK) (a1 : Int32) : Met l yK_diverse wsK_diverse rmK_diverse (va_Pc [.ref (h 0), .int a1] (zPre D vwCl (tysK Y) (wK Y h n S))) (vp_Sl (fun r => r = (fK_diverse n S a1))) 0 0 (fun _ => False) := by
  refine Met.ofW (cc := cK_diverse) (maxL := 7) (ret := (some .long)) (by decide) rfl ?_
  intro p e s m args below meth c s₁ B hml hv
  obtain ⟨rfl, hP, hK⟩ := hv
  have hx := B.exec
  have hb := B.bytes
  have hr := B.returns
  have hts : ∀ w ∈ uT, w.before _ s = true := fun w hw => atoms_spec (ws := wsK_diverse) B.pre w (List.mem_cons_of_mem _ hw)
  have hown : s.vm.findClass RK = some m.cls := findClass_of_methodNamed B.named
  have hlocks := B.notSynchronized
  have hl := lv_entry ([.ref (h 0), .int a1]) (n := 7) (Nat.le_of_ble_eq_true rfl)
  rw [lg_entry_eq]
  generalize (lg_sl ([.ref (h 0), .int a1]) ++ List.replicate (7 - (lg_sl ([.ref (h 0), .int a1])).length) Slot.unset).toArray = ls at hl ⊢
  have hl : lv_has ls 7 [(0, .ref (h 0)), (1, .int a1)] := hl
  show W p l e rmK_diverse s m _ below meth c s.heap [] 0 0 (zL below _ s (fK_diverse n S a1)) _
  unfold fK_diverse
  show W p l e rmK_diverse s m _ below meth c s.heap [] 0 0 (zL below _ s _) (F0 m 0 ls [])
  refine lv_iload_n hx hb dK_diverse_0 rfl (lv_at hl 1 rfl) ?_
  refine qSi (rest := []) ⟨hx, hb, hml, hown, hts⟩ (kF_isPart l D Y a1) (va_cwS 1 hts (gS uw157 uw158 uw2 ucF_isPart) rfl rfl rfl hsF_isPart ⟨Nat.le_of_ble_eq_true rfl, Nat.le_of_ble_eq_true rfl⟩) hK (zsub [] hP rfl) rfl hl.1 rfl (Nat.le_of_ble_eq_true rfl) dK_diverse_1 ⟨Nat.le_of_ble_eq_true rfl, Nat.le_of_ble_eq_true rfl⟩ ?_
  refine zif (C := (fF_isPart a1) = 0) (fun c4 => ?_) (fun c4 => ?_)
  · skip
    refine lv_if_ne (tgt := 11) hx hb dK_diverse_4 (by decide) (fun z => absurd c4 z) (fun _ => ?_)
    refine lv_ldc2 (v := (-1)) hx hb hown (hts _ uw156) dK_diverse_7 ?_
    exact zL_ret hx hb hr hlocks dK_diverse_10
  · skip
    refine lv_if_ne (tgt := 11) hx hb dK_diverse_4 (by decide) (fun _ => ?_) (fun z => absurd z c4)
    refine lv_lconst (v := 0) hx hb dK_diverse_11 (by decide) ?_
    refine lv_lstore_n (lv' := [(2, .long 0), (0, .ref (h 0)), (1, .int a1)]) hx hb dK_diverse_12 rfl hl (by decide) rfl (fun ls hl => ?_)
    refine lv_lconst (v := 0) hx hb dK_diverse_13 (by decide) ?_
    refine lv_lstore (lv' := [(4, .long 0), (2, .long 0), (0, .ref (h 0)), (1, .int a1)]) hx hb dK_diverse_14 hl (by decide) rfl (fun ls hl => ?_)
    refine lv_iconst (v := 0) hx hb dK_diverse_16 (by decide) ?_
    refine lv_istore (lv' := [(6, .int 0), (4, .long 0), (2, .long 0), (0, .ref (h 0)), (1, .int a1)]) hx hb dK_diverse_17 hl (by decide) rfl (fun ls hl => ?_)
    exact tK_diverse_19 hn ⟨hx, hb, hml, hown, hts⟩ hr hlocks hK hP n 0 a1 0 0 (by omega) ls (lv_sub hl [3, 4, 2, 1, 0] rfl)
abbrev rmK_animal : Room := { frames := 2, cells := 0, slots := 0, locals := 42 }
set_option maxHeartbeats 4000000 in
set_option maxRecDepth 100000 in
theorem kK_animal (l : Launch) (D : va_G) (Y : Nat → ClassId) (h : Nat → Nat) (n : Nat) (hn : n ≤ 24) (S : vK) (a1 : Int32) (a2 : Int32) : Met l yK_animal wsK_animal rmK_animal (va_Pc [.ref (h 0), .int a1, .int a2] (zPre D vwCl (tysK Y) (wK Y h n S))) (vp_Si (fun r => r = (fK_animal n S a1 a2))) 0 0 (fun _ => False) := by
  refine Met.ofW (cc := cK_animal) (maxL := 3) (ret := (some .int)) (by decide) rfl ?_
  intro p e s m args below meth c s₁ B hml hv
  obtain ⟨rfl, hP, hK⟩ := hv
  have hx := B.exec
  have hb := B.bytes
  have hr := B.returns
  have hts : ∀ w ∈ uT, w.before _ s = true := fun w hw => atoms_spec (ws := wsK_animal) B.pre w (List.mem_cons_of_mem _ hw)
  have hown : s.vm.findClass RK = some m.cls := findClass_of_methodNamed B.named
  have hlocks := B.notSynchronized
  have hl := lv_entry ([.ref (h 0), .int a1, .int a2]) (n := 3) (Nat.le_of_ble_eq_true rfl)
  rw [lg_entry_eq]
  generalize (lg_sl ([.ref (h 0), .int a1, .int a2]) ++ List.replicate (3 - (lg_sl ([.ref (h 0), .int a1, .int a2])).length) Slot.unset).toArray = ls at hl ⊢
  have hl : lv_has ls 3 [(0, .ref (h 0)), (1, .int a1), (2, .int a2)] := hl
  show W p l e rmK_animal s m _ below meth c s.heap [] 0 0 (zI below _ s (fK_animal n S a1 a2)) _
  unfold fK_animal
  show W p l e rmK_animal s m _ below meth c s.heap [] 0 0 (zI below _ s _) (F0 m 0 ls [])
  refine lv_aload_n hx hb dK_animal_0 rfl (lv_at hl 0 rfl) ?_
  refine lv_iload_n hx hb dK_animal_1 rfl (lv_at hl 1 rfl) ?_
  refine qVi (rest := []) ⟨hx, hb, hml, hown, hts⟩ (kK_isAnimal l D Y h n hn S a1) (cwV 1 hts (gV uw113 uw114 uw115 uw116 ucK_isAnimal) rfl rfl rfl hvK_isAnimal ⟨Nat.le_of_ble_eq_true rfl, Nat.le_of_ble_eq_true rfl⟩) hK hP (va_recv hK hP (ci := 0) (q0 := 0) rfl rfl) rfl hl.1 rfl (Nat.le_of_ble_eq_true rfl) dK_animal_2 ⟨Nat.le_of_ble_eq_true rfl, Nat.le_of_ble_eq_true rfl⟩ ?_
  refine zif (C := (fK_isAnimal n a1) = 0) (fun c5 => ?_) (fun c5 => ?_)
  · skip
    refine lv_if_ne (tgt := 10) hx hb dK_animal_5 (by decide) (fun z => absurd c5 z) (fun _ => ?_)
    refine lv_iconst (v := (-1)) hx hb dK_animal_8 (by decide) ?_
    exact zI_ret hx hb hr hlocks dK_animal_9
  · skip
    refine lv_if_ne (tgt := 10) hx hb dK_animal_5 (by decide) (fun _ => ?_) (fun z => absurd z c5)
    refine lv_iload_n hx hb dK_animal_10 rfl (lv_at hl 2 rfl) ?_
    refine zif (C := a2 = 0) (fun c11_0 => ?_) (fun c11_0 => ?_)
    · skip
      refine lv_tableIn (tgt := 48) hx hb dK_animal_11 (by rw [c11_0]; decide) (by rw [c11_0]; decide) (by rw [c11_0]; rfl) (by decide) ?_
      refine lv_aload_n hx hb dK_animal_48 rfl (lv_at hl 0 rfl) ?_
      refine va_get (D := D) (ci := 0) (v := .ref (h 4)) (C := RK) (T := TK) (N := 6) hx hb hts hinK hown hK hP 0 rfl rfl 0 (by decide) (hts _ uw122) (fun _ h9 => h9) rfl dK_animal_49 ?_
      refine lv_iload_n hx hb dK_animal_52 rfl (lv_at hl 1 rfl) ?_
      refine qVi (rest := []) ⟨hx, hb, hml, hown, hts⟩ (kP_motherOf l D Y (fun i => h (i + 4)) n hn (g_P S) a1) (cwV 1 hts (gV uw123 uw18 uw19 uw8 ucP_motherOf) rfl rfl rfl hvP_motherOf ⟨Nat.le_of_ble_eq_true rfl, Nat.le_of_ble_eq_true rfl⟩) hK (kP_sub hP) (va_recv hK (kP_sub hP) (ci := 1) (q0 := 0) rfl rfl) rfl hl.1 rfl (Nat.le_of_ble_eq_true rfl) dK_animal_53 ⟨Nat.le_of_ble_eq_true rfl, Nat.le_of_ble_eq_true rfl⟩ ?_
      exact zI_ret hx hb hr hlocks dK_animal_56
    refine zif (C := a2 = 1) (fun c11_1 => ?_) (fun c11_1 => ?_)
    · skip
      refine lv_tableIn (tgt := 57) hx hb dK_animal_11 (by rw [c11_1]; decide) (by rw [c11_1]; decide) (by rw [c11_1]; rfl) (by decide) ?_
      refine lv_aload_n hx hb dK_animal_57 rfl (lv_at hl 0 rfl) ?_
      refine va_get (D := D) (ci := 0) (v := .ref (h 4)) (C := RK) (T := TK) (N := 6) hx hb hts hinK hown hK hP 0 rfl rfl 0 (by decide) (hts _ uw122) (fun _ h9 => h9) rfl dK_animal_58 ?_
      refine lv_iload_n hx hb dK_animal_61 rfl (lv_at hl 1 rfl) ?_
      refine qVi (rest := []) ⟨hx, hb, hml, hown, hts⟩ (kP_fatherOf l D Y (fun i => h (i + 4)) n hn (g_P S) a1) (cwV 1 hts (gV uw124 uw21 uw22 uw8 ucP_fatherOf) rfl rfl rfl hvP_fatherOf ⟨Nat.le_of_ble_eq_true rfl, Nat.le_of_ble_eq_true rfl⟩) hK (kP_sub hP) (va_recv hK (kP_sub hP) (ci := 1) (q0 := 0) rfl rfl) rfl hl.1 rfl (Nat.le_of_ble_eq_true rfl) dK_animal_62 ⟨Nat.le_of_ble_eq_true rfl, Nat.le_of_ble_eq_true rfl⟩ ?_
      exact zI_ret hx hb hr hlocks dK_animal_65
    refine zif (C := a2 = 2) (fun c11_2 => ?_) (fun c11_2 => ?_)
    · skip
      refine lv_tableIn (tgt := 66) hx hb dK_animal_11 (by rw [c11_2]; decide) (by rw [c11_2]; decide) (by rw [c11_2]; rfl) (by decide) ?_
      refine lv_aload_n hx hb dK_animal_66 rfl (lv_at hl 0 rfl) ?_
      refine va_get (D := D) (ci := 0) (v := .ref (h 1)) (C := RK) (T := TK) (N := 6) hx hb hts hinK hown hK hP 0 rfl rfl 3 (by decide) (hts _ uw117) (fun _ h9 => h9) rfl dK_animal_67 ?_
      refine lv_iload_n hx hb dK_animal_70 rfl (lv_at hl 1 rfl) ?_
      refine va_iald hx hb hK hP 1 0 rfl rfl (ani_in hn c5) dK_animal_71 ?_
      exact zI_ret hx hb hr hlocks dK_animal_72
    refine zif (C := a2 = 3) (fun c11_3 => ?_) (fun c11_3 => ?_)
    · skip
      refine lv_tableIn (tgt := 73) hx hb dK_animal_11 (by rw [c11_3]; decide) (by rw [c11_3]; decide) (by rw [c11_3]; rfl) (by decide) ?_
      refine lv_aload_n hx hb dK_animal_73 rfl (lv_at hl 0 rfl) ?_
      refine va_get (D := D) (ci := 0) (v := .ref (h 2)) (C := RK) (T := TK) (N := 6) hx hb hts hinK hown hK hP 0 rfl rfl 4 (by decide) (hts _ uw118) (fun _ h9 => h9) rfl dK_animal_74 ?_
      refine lv_iload_n hx hb dK_animal_77 rfl (lv_at hl 1 rfl) ?_
      refine va_iald hx hb hK hP 2 0 rfl rfl (ani_in hn c5) dK_animal_78 ?_
      exact zI_ret hx hb hr hlocks dK_animal_79
    refine zif (C := a2 = 4) (fun c11_4 => ?_) (fun c11_4 => ?_)
    · skip
      refine lv_tableIn (tgt := 80) hx hb dK_animal_11 (by rw [c11_4]; decide) (by rw [c11_4]; decide) (by rw [c11_4]; rfl) (by decide) ?_
      refine lv_aload_n hx hb dK_animal_80 rfl (lv_at hl 0 rfl) ?_
      refine va_get (D := D) (ci := 0) (v := .ref (h 3)) (C := RK) (T := TK) (N := 6) hx hb hts hinK hown hK hP 0 rfl rfl 5 (by decide) (hts _ uw131) (fun _ h9 => h9) rfl dK_animal_81 ?_
      refine lv_iload_n hx hb dK_animal_84 rfl (lv_at hl 1 rfl) ?_
      refine va_zald hx hb hK hP 3 2 rfl rfl (ani_in hn c5) dK_animal_85 ?_
      refine zif (C := ((g_dd S) (a1 : Int32).toNatClampNeg) = 0) (fun c86 => ?_) (fun c86 => ?_)
      · skip
        refine lv_if_eq (tgt := 93) hx hb dK_animal_86 (by decide) (fun _ => ?_) (fun z => absurd c86 z)
        refine lv_iconst (v := 1) hx hb dK_animal_93 (by decide) ?_
        exact zI_ret hx hb hr hlocks dK_animal_94
      · skip
        refine lv_if_eq (tgt := 93) hx hb dK_animal_86 (by decide) (fun z => absurd z c86) (fun _ => ?_)
        refine lv_iconst (v := 0) hx hb dK_animal_89 (by decide) ?_
        refine lv_goto (tgt := 94) hx hb dK_animal_90 (by decide) ?_
        exact zI_ret hx hb hr hlocks dK_animal_94
    refine zif (C := a2 = 5) (fun c11_5 => ?_) (fun c11_5 => ?_)
    · skip
      refine lv_tableIn (tgt := 95) hx hb dK_animal_11 (by rw [c11_5]; decide) (by rw [c11_5]; decide) (by rw [c11_5]; rfl) (by decide) ?_
      refine lv_aload_n hx hb dK_animal_95 rfl (lv_at hl 0 rfl) ?_
      refine va_get (D := D) (ci := 0) (v := .ref (h 4)) (C := RK) (T := TK) (N := 6) hx hb hts hinK hown hK hP 0 rfl rfl 0 (by decide) (hts _ uw122) (fun _ h9 => h9) rfl dK_animal_96 ?_
      refine lv_iload_n hx hb dK_animal_99 rfl (lv_at hl 1 rfl) ?_
      refine qVi (rest := []) ⟨hx, hb, hml, hown, hts⟩ (kP_stepsOf l D Y (fun i => h (i + 4)) n hn (g_P S) a1) (cwV 1 hts (gV uw188 uw60 uw61 uw8 ucP_stepsOf) rfl rfl rfl hvP_stepsOf ⟨Nat.le_of_ble_eq_true rfl, Nat.le_of_ble_eq_true rfl⟩) hK (kP_sub hP) (va_recv hK (kP_sub hP) (ci := 1) (q0 := 0) rfl rfl) rfl hl.1 rfl (Nat.le_of_ble_eq_true rfl) dK_animal_100 ⟨Nat.le_of_ble_eq_true rfl, Nat.le_of_ble_eq_true rfl⟩ ?_
      exact zI_ret hx hb hr hlocks dK_animal_103
    refine lv_tableOut (tgt := 104) hx hb dK_animal_11 (sw_out6 c11_0 c11_1 c11_2 c11_3 c11_4 c11_5) (by decide) ?_
    refine lv_iconst (v := (-1)) hx hb dK_animal_104 (by decide) ?_
    exact zI_ret hx hb hr hlocks dK_animal_105
abbrev rmP_init : Room := { frames := 4, cells := 8, slots := 745, locals := 92 }
set_option maxHeartbeats 4000000 in
set_option maxRecDepth 100000 in
theorem kP_init (l : Launch) (D : va_G) (Y : Nat → ClassId) (h0 : Nat) (n : Nat) (hn : n ≤ 24) (sz : Nat) : Met l yP_init wsP_init rmP_init (va_Pc [.ref h0, .int (nI n)] (zPreM D vwCl (tysK Y) ([(h0, .inr (1, [.int 0, .null, .null, .null, .null, .null, .null, .null, .null, .int 0]))]) sz)) (va_Qv (fun u : (Nat → Nat) × vP => u.1 0 = h0 ∧ u.2 = (fP_init n)) (zAt D vwCl (tysK Y) (va_A ([(h0, .inr (1, [.int 0, .null, .null, .null, .null, .null, .null, .null, .null, .int 0]))]) sz) (fun u => wP Y u.1 n u.2)) (va_A ([(h0, .inr (1, [.int 0, .null, .null, .null, .null, .null, .null, .null, .null, .int 0]))]) sz)) 8 745 (va_A ([(h0, .inr (1, [.int 0, .null, .null, .null, .null, .null, .null, .null, .null, .int 0]))]) sz) := by
  refine Met.ofW (cc := cP_init) (maxL := 2) (ret := none) (by decide) rfl ?_
  intro p e s m args below meth c s₁ B hml hv
  obtain ⟨rfl, hsz, hP, hK, hD0⟩ := hv
  have hx := B.exec
  have hb := B.bytes
  have hr := B.returns
  have hts : ∀ w ∈ uT, w.before _ s = true := fun w hw => atoms_spec (ws := wsP_init) B.pre w (List.mem_cons_of_mem _ hw)
  have hown : s.vm.findClass RP = some m.cls := findClass_of_methodNamed B.named
  have hlocks := B.notSynchronized
  have hin9 : meth.name = "<init>" := (name_of_methodNamed B.named B.method).1
  subst hsz
  have hD := hD0.self (sz := s.heap.size)
  generalize hAe : va_A ([(h0, .inr (1, [.int 0, .null, .null, .null, .null, .null, .null, .null, .null, .int 0]))]) s.heap.size = A at hD ⊢
  have hA : ∀ q : Nat, s.heap.size ≤ q → A q := fun q h => by rw [← hAe]; exact Or.inr h
  have hS : va_S A s.heap s.heap [] := va_S.rf
  have hl := lv_entry ([.ref h0, .int (nI n)]) (n := 2) (Nat.le_of_ble_eq_true rfl)
  rw [lg_entry_eq]
  generalize (lg_sl ([.ref h0, .int (nI n)]) ++ List.replicate (2 - (lg_sl ([.ref h0, .int (nI n)])).length) Slot.unset).toArray = ls at hl ⊢
  have hl : lv_has ls 2 [(0, .ref h0), (1, .int (nI n))] := hl
  show W p l e rmP_init s m _ below meth c s.heap [] 0 0 (zMc (fun h S => wP Y h n S) D vwCl (tysK Y) A h0 below _ s 8 745 (fP_init n)) (F0 m 0 ls [])
  refine lv_aload_n hx hb dP_init_0 rfl (lv_at hl 0 rfl) ?_
  refine W.objInit hx hb hown (hts _ uw189) (hts _ uw190) (hts _ ucO_init) rfl (by rw [hml]; exact hl.1) rfl dP_init_1 (Nat.le_of_ble_eq_true rfl) (Nat.le_of_ble_eq_true rfl) ?_
  refine W.eq (g2 := F0 m 4 ls []) rfl ?_
  refine lv_aload_n hx hb dP_init_4 rfl (lv_at hl 0 rfl) ?_
  refine lv_bipush (v := 24) hx hb dP_init_5 (by decide) ?_
  refine q_newa (N' := 24) (a0 := (24, .inl (fun _ => 0))) .int hx hb (hts _ uw191) rfl hK 0 rfl (fun _ hh => hh) hP hD hS hA (fun _ => rfl) (by decide) (by decide) (by decide) (Nat.le_of_ble_eq_true rfl) (Nat.le_of_ble_eq_true rfl) dP_init_7 (fun q1 H hP hD hS => ?_)
  have hP : va_P D vwCl ([(h0, .inr (1, [.int 0, .null, .null, .null, .null, .null, .null, .null, .null, .int 0])), (q1, .inl (Y 0, 24, .inl (fun _ => 0)))]) H := hP
  have hD : va_D A ([(h0, .inr (1, [.int 0, .null, .null, .null, .null, .null, .null, .null, .null, .int 0])), (q1, .inl (Y 0, 24, .inl (fun _ => 0)))]) := hD
  refine va_putF (D := D) (ci := 1) (v := .ref q1) (ty := .array .int) (C := RP) (T := TP) (N := 10) hx hb hts hinP tyP tyP_ok nmP hown hK hP hD hS 0 rfl rfl 1 (by decide) (hts _ uw9) (fun _ h9 => h9) rfl hin9 rfl (by decide +kernel) rfl rfl (Nat.le_of_ble_eq_true rfl) dP_init_9 (fun H locs hP hD hS => ?_)
  have hP : va_P D vwCl ([(h0, .inr (1, [.int 0, .ref q1, .null, .null, .null, .null, .null, .null, .null, .int 0])), (q1, .inl (Y 0, 24, .inl (fun _ => 0)))]) H := hP
  have hD : va_D A ([(h0, .inr (1, [.int 0, .ref q1, .null, .null, .null, .null, .null, .null, .null, .int 0])), (q1, .inl (Y 0, 24, .inl (fun _ => 0)))]) := hD
  refine lv_aload_n hx hb dP_init_12 rfl (lv_at hl 0 rfl) ?_
  refine lv_bipush (v := 24) hx hb dP_init_13 (by decide) ?_
  refine q_newa (N' := 24) (a0 := (24, .inl (fun _ => 0))) .int hx hb (hts _ uw191) rfl hK 0 rfl (fun _ hh => hh) hP hD hS hA (fun _ => rfl) (by decide) (by decide) (by decide) (Nat.le_of_ble_eq_true rfl) (Nat.le_of_ble_eq_true rfl) dP_init_15 (fun q2 H hP hD hS => ?_)
  have hP : va_P D vwCl ([(h0, .inr (1, [.int 0, .ref q1, .null, .null, .null, .null, .null, .null, .null, .int 0])), (q1, .inl (Y 0, 24, .inl (fun _ => 0))), (q2, .inl (Y 0, 24, .inl (fun _ => 0)))]) H := hP
  have hD : va_D A ([(h0, .inr (1, [.int 0, .ref q1, .null, .null, .null, .null, .null, .null, .null, .int 0])), (q1, .inl (Y 0, 24, .inl (fun _ => 0))), (q2, .inl (Y 0, 24, .inl (fun _ => 0)))]) := hD
  refine va_putF (D := D) (ci := 1) (v := .ref q2) (ty := .array .int) (C := RP) (T := TP) (N := 10) hx hb hts hinP tyP tyP_ok nmP hown hK hP hD hS 0 rfl rfl 2 (by decide) (hts _ uw10) (fun _ h9 => h9) rfl hin9 rfl (by decide +kernel) rfl rfl (Nat.le_of_ble_eq_true rfl) dP_init_17 (fun H locs hP hD hS => ?_)
  have hP : va_P D vwCl ([(h0, .inr (1, [.int 0, .ref q1, .ref q2, .null, .null, .null, .null, .null, .null, .int 0])), (q1, .inl (Y 0, 24, .inl (fun _ => 0))), (q2, .inl (Y 0, 24, .inl (fun _ => 0)))]) H := hP
  have hD : va_D A ([(h0, .inr (1, [.int 0, .ref q1, .ref q2, .null, .null, .null, .null, .null, .null, .int 0])), (q1, .inl (Y 0, 24, .inl (fun _ => 0))), (q2, .inl (Y 0, 24, .inl (fun _ => 0)))]) := hD
  refine lv_aload_n hx hb dP_init_20 rfl (lv_at hl 0 rfl) ?_
  refine lv_bipush (v := 24) hx hb dP_init_21 (by decide) ?_
  refine q_newa (N' := 24) (a0 := (24, .inl (fun _ => 0))) .int hx hb (hts _ uw191) rfl hK 0 rfl (fun _ hh => hh) hP hD hS hA (fun _ => rfl) (by decide) (by decide) (by decide) (Nat.le_of_ble_eq_true rfl) (Nat.le_of_ble_eq_true rfl) dP_init_23 (fun q3 H hP hD hS => ?_)
  have hP : va_P D vwCl ([(h0, .inr (1, [.int 0, .ref q1, .ref q2, .null, .null, .null, .null, .null, .null, .int 0])), (q1, .inl (Y 0, 24, .inl (fun _ => 0))), (q2, .inl (Y 0, 24, .inl (fun _ => 0))), (q3, .inl (Y 0, 24, .inl (fun _ => 0)))]) H := hP
  have hD : va_D A ([(h0, .inr (1, [.int 0, .ref q1, .ref q2, .null, .null, .null, .null, .null, .null, .int 0])), (q1, .inl (Y 0, 24, .inl (fun _ => 0))), (q2, .inl (Y 0, 24, .inl (fun _ => 0))), (q3, .inl (Y 0, 24, .inl (fun _ => 0)))]) := hD
  refine va_putF (D := D) (ci := 1) (v := .ref q3) (ty := .array .int) (C := RP) (T := TP) (N := 10) hx hb hts hinP tyP tyP_ok nmP hown hK hP hD hS 0 rfl rfl 3 (by decide) (hts _ uw11) (fun _ h9 => h9) rfl hin9 rfl (by decide +kernel) rfl rfl (Nat.le_of_ble_eq_true rfl) dP_init_25 (fun H locs hP hD hS => ?_)
  have hP : va_P D vwCl ([(h0, .inr (1, [.int 0, .ref q1, .ref q2, .ref q3, .null, .null, .null, .null, .null, .int 0])), (q1, .inl (Y 0, 24, .inl (fun _ => 0))), (q2, .inl (Y 0, 24, .inl (fun _ => 0))), (q3, .inl (Y 0, 24, .inl (fun _ => 0)))]) H := hP
  have hD : va_D A ([(h0, .inr (1, [.int 0, .ref q1, .ref q2, .ref q3, .null, .null, .null, .null, .null, .int 0])), (q1, .inl (Y 0, 24, .inl (fun _ => 0))), (q2, .inl (Y 0, 24, .inl (fun _ => 0))), (q3, .inl (Y 0, 24, .inl (fun _ => 0)))]) := hD
  refine lv_aload_n hx hb dP_init_28 rfl (lv_at hl 0 rfl) ?_
  refine lv_bipush (v := 24) hx hb dP_init_29 (by decide) ?_
  refine q_newa (N' := 24) (a0 := (24, .inl (fun _ => 0))) .int hx hb (hts _ uw191) rfl hK 0 rfl (fun _ hh => hh) hP hD hS hA (fun _ => rfl) (by decide) (by decide) (by decide) (Nat.le_of_ble_eq_true rfl) (Nat.le_of_ble_eq_true rfl) dP_init_31 (fun q4 H hP hD hS => ?_)
  have hP : va_P D vwCl ([(h0, .inr (1, [.int 0, .ref q1, .ref q2, .ref q3, .null, .null, .null, .null, .null, .int 0])), (q1, .inl (Y 0, 24, .inl (fun _ => 0))), (q2, .inl (Y 0, 24, .inl (fun _ => 0))), (q3, .inl (Y 0, 24, .inl (fun _ => 0))), (q4, .inl (Y 0, 24, .inl (fun _ => 0)))]) H := hP
  have hD : va_D A ([(h0, .inr (1, [.int 0, .ref q1, .ref q2, .ref q3, .null, .null, .null, .null, .null, .int 0])), (q1, .inl (Y 0, 24, .inl (fun _ => 0))), (q2, .inl (Y 0, 24, .inl (fun _ => 0))), (q3, .inl (Y 0, 24, .inl (fun _ => 0))), (q4, .inl (Y 0, 24, .inl (fun _ => 0)))]) := hD
  refine va_putF (D := D) (ci := 1) (v := .ref q4) (ty := .array .int) (C := RP) (T := TP) (N := 10) hx hb hts hinP tyP tyP_ok nmP hown hK hP hD hS 0 rfl rfl 4 (by decide) (hts _ uw12) (fun _ h9 => h9) rfl hin9 rfl (by decide +kernel) rfl rfl (Nat.le_of_ble_eq_true rfl) dP_init_33 (fun H locs hP hD hS => ?_)
  have hP : va_P D vwCl ([(h0, .inr (1, [.int 0, .ref q1, .ref q2, .ref q3, .ref q4, .null, .null, .null, .null, .int 0])), (q1, .inl (Y 0, 24, .inl (fun _ => 0))), (q2, .inl (Y 0, 24, .inl (fun _ => 0))), (q3, .inl (Y 0, 24, .inl (fun _ => 0))), (q4, .inl (Y 0, 24, .inl (fun _ => 0)))]) H := hP
  have hD : va_D A ([(h0, .inr (1, [.int 0, .ref q1, .ref q2, .ref q3, .ref q4, .null, .null, .null, .null, .int 0])), (q1, .inl (Y 0, 24, .inl (fun _ => 0))), (q2, .inl (Y 0, 24, .inl (fun _ => 0))), (q3, .inl (Y 0, 24, .inl (fun _ => 0))), (q4, .inl (Y 0, 24, .inl (fun _ => 0)))]) := hD
  refine lv_aload_n hx hb dP_init_36 rfl (lv_at hl 0 rfl) ?_
  refine lv_bipush (v := 24) hx hb dP_init_37 (by decide) ?_
  refine q_newa (N' := 24) (a0 := (24, .inl (fun _ => 0))) .int hx hb (hts _ uw191) rfl hK 0 rfl (fun _ hh => hh) hP hD hS hA (fun _ => rfl) (by decide) (by decide) (by decide) (Nat.le_of_ble_eq_true rfl) (Nat.le_of_ble_eq_true rfl) dP_init_39 (fun q5 H hP hD hS => ?_)
  have hP : va_P D vwCl ([(h0, .inr (1, [.int 0, .ref q1, .ref q2, .ref q3, .ref q4, .null, .null, .null, .null, .int 0])), (q1, .inl (Y 0, 24, .inl (fun _ => 0))), (q2, .inl (Y 0, 24, .inl (fun _ => 0))), (q3, .inl (Y 0, 24, .inl (fun _ => 0))), (q4, .inl (Y 0, 24, .inl (fun _ => 0))), (q5, .inl (Y 0, 24, .inl (fun _ => 0)))]) H := hP
  have hD : va_D A ([(h0, .inr (1, [.int 0, .ref q1, .ref q2, .ref q3, .ref q4, .null, .null, .null, .null, .int 0])), (q1, .inl (Y 0, 24, .inl (fun _ => 0))), (q2, .inl (Y 0, 24, .inl (fun _ => 0))), (q3, .inl (Y 0, 24, .inl (fun _ => 0))), (q4, .inl (Y 0, 24, .inl (fun _ => 0))), (q5, .inl (Y 0, 24, .inl (fun _ => 0)))]) := hD
  refine va_putF (D := D) (ci := 1) (v := .ref q5) (ty := .array .int) (C := RP) (T := TP) (N := 10) hx hb hts hinP tyP tyP_ok nmP hown hK hP hD hS 0 rfl rfl 5 (by decide) (hts _ uw13) (fun _ h9 => h9) rfl hin9 rfl (by decide +kernel) rfl rfl (Nat.le_of_ble_eq_true rfl) dP_init_41 (fun H locs hP hD hS => ?_)
  have hP : va_P D vwCl ([(h0, .inr (1, [.int 0, .ref q1, .ref q2, .ref q3, .ref q4, .ref q5, .null, .null, .null, .int 0])), (q1, .inl (Y 0, 24, .inl (fun _ => 0))), (q2, .inl (Y 0, 24, .inl (fun _ => 0))), (q3, .inl (Y 0, 24, .inl (fun _ => 0))), (q4, .inl (Y 0, 24, .inl (fun _ => 0))), (q5, .inl (Y 0, 24, .inl (fun _ => 0)))]) H := hP
  have hD : va_D A ([(h0, .inr (1, [.int 0, .ref q1, .ref q2, .ref q3, .ref q4, .ref q5, .null, .null, .null, .int 0])), (q1, .inl (Y 0, 24, .inl (fun _ => 0))), (q2, .inl (Y 0, 24, .inl (fun _ => 0))), (q3, .inl (Y 0, 24, .inl (fun _ => 0))), (q4, .inl (Y 0, 24, .inl (fun _ => 0))), (q5, .inl (Y 0, 24, .inl (fun _ => 0)))]) := hD
  refine lv_aload_n hx hb dP_init_44 rfl (lv_at hl 0 rfl) ?_
  refine lv_sipush (v := 576) hx hb dP_init_45 (by decide) ?_
  refine q_newa (N' := 576) (a0 := (576, .inr (.inl (fun _ => 0)))) .long hx hb (hts _ uw192) rfl hK 1 rfl (fun _ hh => hh) hP hD hS hA (fun _ => rfl) (by decide) (by decide) (by decide) (Nat.le_of_ble_eq_true rfl) (Nat.le_of_ble_eq_true rfl) dP_init_48 (fun q6 H hP hD hS => ?_)
  have hP : va_P D vwCl ([(h0, .inr (1, [.int 0, .ref q1, .ref q2, .ref q3, .ref q4, .ref q5, .null, .null, .null, .int 0])), (q1, .inl (Y 0, 24, .inl (fun _ => 0))), (q2, .inl (Y 0, 24, .inl (fun _ => 0))), (q3, .inl (Y 0, 24, .inl (fun _ => 0))), (q4, .inl (Y 0, 24, .inl (fun _ => 0))), (q5, .inl (Y 0, 24, .inl (fun _ => 0))), (q6, .inl (Y 1, 576, .inr (.inl (fun _ => 0))))]) H := hP
  have hD : va_D A ([(h0, .inr (1, [.int 0, .ref q1, .ref q2, .ref q3, .ref q4, .ref q5, .null, .null, .null, .int 0])), (q1, .inl (Y 0, 24, .inl (fun _ => 0))), (q2, .inl (Y 0, 24, .inl (fun _ => 0))), (q3, .inl (Y 0, 24, .inl (fun _ => 0))), (q4, .inl (Y 0, 24, .inl (fun _ => 0))), (q5, .inl (Y 0, 24, .inl (fun _ => 0))), (q6, .inl (Y 1, 576, .inr (.inl (fun _ => 0))))]) := hD
  refine va_putF (D := D) (ci := 1) (v := .ref q6) (ty := .array .long) (C := RP) (T := TP) (N := 10) hx hb hts hinP tyP tyP_ok nmP hown hK hP hD hS 0 rfl rfl 6 (by decide) (hts _ uw16) (fun _ h9 => h9) rfl hin9 rfl (by decide +kernel) rfl rfl (Nat.le_of_ble_eq_true rfl) dP_init_50 (fun H locs hP hD hS => ?_)
  have hP : va_P D vwCl ([(h0, .inr (1, [.int 0, .ref q1, .ref q2, .ref q3, .ref q4, .ref q5, .ref q6, .null, .null, .int 0])), (q1, .inl (Y 0, 24, .inl (fun _ => 0))), (q2, .inl (Y 0, 24, .inl (fun _ => 0))), (q3, .inl (Y 0, 24, .inl (fun _ => 0))), (q4, .inl (Y 0, 24, .inl (fun _ => 0))), (q5, .inl (Y 0, 24, .inl (fun _ => 0))), (q6, .inl (Y 1, 576, .inr (.inl (fun _ => 0))))]) H := hP
  have hD : va_D A ([(h0, .inr (1, [.int 0, .ref q1, .ref q2, .ref q3, .ref q4, .ref q5, .ref q6, .null, .null, .int 0])), (q1, .inl (Y 0, 24, .inl (fun _ => 0))), (q2, .inl (Y 0, 24, .inl (fun _ => 0))), (q3, .inl (Y 0, 24, .inl (fun _ => 0))), (q4, .inl (Y 0, 24, .inl (fun _ => 0))), (q5, .inl (Y 0, 24, .inl (fun _ => 0))), (q6, .inl (Y 1, 576, .inr (.inl (fun _ => 0))))]) := hD
  refine lv_aload_n hx hb dP_init_53 rfl (lv_at hl 0 rfl) ?_
  refine lv_bipush (v := 24) hx hb dP_init_54 (by decide) ?_
  refine q_newa (N' := 24) (a0 := (24, .inr (.inl (fun _ => 0)))) .long hx hb (hts _ uw192) rfl hK 1 rfl (fun _ hh => hh) hP hD hS hA (fun _ => rfl) (by decide) (by decide) (by decide) (Nat.le_of_ble_eq_true rfl) (Nat.le_of_ble_eq_true rfl) dP_init_56 (fun q7 H hP hD hS => ?_)
  have hP : va_P D vwCl ([(h0, .inr (1, [.int 0, .ref q1, .ref q2, .ref q3, .ref q4, .ref q5, .ref q6, .null, .null, .int 0])), (q1, .inl (Y 0, 24, .inl (fun _ => 0))), (q2, .inl (Y 0, 24, .inl (fun _ => 0))), (q3, .inl (Y 0, 24, .inl (fun _ => 0))), (q4, .inl (Y 0, 24, .inl (fun _ => 0))), (q5, .inl (Y 0, 24, .inl (fun _ => 0))), (q6, .inl (Y 1, 576, .inr (.inl (fun _ => 0)))), (q7, .inl (Y 1, 24, .inr (.inl (fun _ => 0))))]) H := hP
  have hD : va_D A ([(h0, .inr (1, [.int 0, .ref q1, .ref q2, .ref q3, .ref q4, .ref q5, .ref q6, .null, .null, .int 0])), (q1, .inl (Y 0, 24, .inl (fun _ => 0))), (q2, .inl (Y 0, 24, .inl (fun _ => 0))), (q3, .inl (Y 0, 24, .inl (fun _ => 0))), (q4, .inl (Y 0, 24, .inl (fun _ => 0))), (q5, .inl (Y 0, 24, .inl (fun _ => 0))), (q6, .inl (Y 1, 576, .inr (.inl (fun _ => 0)))), (q7, .inl (Y 1, 24, .inr (.inl (fun _ => 0))))]) := hD
  refine va_putF (D := D) (ci := 1) (v := .ref q7) (ty := .array .long) (C := RP) (T := TP) (N := 10) hx hb hts hinP tyP tyP_ok nmP hown hK hP hD hS 0 rfl rfl 7 (by decide) (hts _ uw34) (fun _ h9 => h9) rfl hin9 rfl (by decide +kernel) rfl rfl (Nat.le_of_ble_eq_true rfl) dP_init_58 (fun H locs hP hD hS => ?_)
  have hP : va_P D vwCl ([(h0, .inr (1, [.int 0, .ref q1, .ref q2, .ref q3, .ref q4, .ref q5, .ref q6, .ref q7, .null, .int 0])), (q1, .inl (Y 0, 24, .inl (fun _ => 0))), (q2, .inl (Y 0, 24, .inl (fun _ => 0))), (q3, .inl (Y 0, 24, .inl (fun _ => 0))), (q4, .inl (Y 0, 24, .inl (fun _ => 0))), (q5, .inl (Y 0, 24, .inl (fun _ => 0))), (q6, .inl (Y 1, 576, .inr (.inl (fun _ => 0)))), (q7, .inl (Y 1, 24, .inr (.inl (fun _ => 0))))]) H := hP
  have hD : va_D A ([(h0, .inr (1, [.int 0, .ref q1, .ref q2, .ref q3, .ref q4, .ref q5, .ref q6, .ref q7, .null, .int 0])), (q1, .inl (Y 0, 24, .inl (fun _ => 0))), (q2, .inl (Y 0, 24, .inl (fun _ => 0))), (q3, .inl (Y 0, 24, .inl (fun _ => 0))), (q4, .inl (Y 0, 24, .inl (fun _ => 0))), (q5, .inl (Y 0, 24, .inl (fun _ => 0))), (q6, .inl (Y 1, 576, .inr (.inl (fun _ => 0)))), (q7, .inl (Y 1, 24, .inr (.inl (fun _ => 0))))]) := hD
  refine lv_aload_n hx hb dP_init_61 rfl (lv_at hl 0 rfl) ?_
  refine lv_bipush (v := 25) hx hb dP_init_62 (by decide) ?_
  refine q_newa (N' := 25) (a0 := (25, .inl (fun _ => 0))) .int hx hb (hts _ uw191) rfl hK 0 rfl (fun _ hh => hh) hP hD hS hA (fun _ => rfl) (by decide) (by decide) (by decide) (Nat.le_of_ble_eq_true rfl) (Nat.le_of_ble_eq_true rfl) dP_init_64 (fun q8 H hP hD hS => ?_)
  have hP : va_P D vwCl ([(h0, .inr (1, [.int 0, .ref q1, .ref q2, .ref q3, .ref q4, .ref q5, .ref q6, .ref q7, .null, .int 0])), (q1, .inl (Y 0, 24, .inl (fun _ => 0))), (q2, .inl (Y 0, 24, .inl (fun _ => 0))), (q3, .inl (Y 0, 24, .inl (fun _ => 0))), (q4, .inl (Y 0, 24, .inl (fun _ => 0))), (q5, .inl (Y 0, 24, .inl (fun _ => 0))), (q6, .inl (Y 1, 576, .inr (.inl (fun _ => 0)))), (q7, .inl (Y 1, 24, .inr (.inl (fun _ => 0)))), (q8, .inl (Y 0, 25, .inl (fun _ => 0)))]) H := hP
  have hD : va_D A ([(h0, .inr (1, [.int 0, .ref q1, .ref q2, .ref q3, .ref q4, .ref q5, .ref q6, .ref q7, .null, .int 0])), (q1, .inl (Y 0, 24, .inl (fun _ => 0))), (q2, .inl (Y 0, 24, .inl (fun _ => 0))), (q3, .inl (Y 0, 24, .inl (fun _ => 0))), (q4, .inl (Y 0, 24, .inl (fun _ => 0))), (q5, .inl (Y 0, 24, .inl (fun _ => 0))), (q6, .inl (Y 1, 576, .inr (.inl (fun _ => 0)))), (q7, .inl (Y 1, 24, .inr (.inl (fun _ => 0)))), (q8, .inl (Y 0, 25, .inl (fun _ => 0)))]) := hD
  refine va_putF (D := D) (ci := 1) (v := .ref q8) (ty := .array .int) (C := RP) (T := TP) (N := 10) hx hb hts hinP tyP tyP_ok nmP hown hK hP hD hS 0 rfl rfl 8 (by decide) (hts _ uw42) (fun _ h9 => h9) rfl hin9 rfl (by decide +kernel) rfl rfl (Nat.le_of_ble_eq_true rfl) dP_init_66 (fun H locs hP hD hS => ?_)
  have hP : va_P D vwCl ([(h0, .inr (1, [.int 0, .ref q1, .ref q2, .ref q3, .ref q4, .ref q5, .ref q6, .ref q7, .ref q8, .int 0])), (q1, .inl (Y 0, 24, .inl (fun _ => 0))), (q2, .inl (Y 0, 24, .inl (fun _ => 0))), (q3, .inl (Y 0, 24, .inl (fun _ => 0))), (q4, .inl (Y 0, 24, .inl (fun _ => 0))), (q5, .inl (Y 0, 24, .inl (fun _ => 0))), (q6, .inl (Y 1, 576, .inr (.inl (fun _ => 0)))), (q7, .inl (Y 1, 24, .inr (.inl (fun _ => 0)))), (q8, .inl (Y 0, 25, .inl (fun _ => 0)))]) H := hP
  have hD : va_D A ([(h0, .inr (1, [.int 0, .ref q1, .ref q2, .ref q3, .ref q4, .ref q5, .ref q6, .ref q7, .ref q8, .int 0])), (q1, .inl (Y 0, 24, .inl (fun _ => 0))), (q2, .inl (Y 0, 24, .inl (fun _ => 0))), (q3, .inl (Y 0, 24, .inl (fun _ => 0))), (q4, .inl (Y 0, 24, .inl (fun _ => 0))), (q5, .inl (Y 0, 24, .inl (fun _ => 0))), (q6, .inl (Y 1, 576, .inr (.inl (fun _ => 0)))), (q7, .inl (Y 1, 24, .inr (.inl (fun _ => 0)))), (q8, .inl (Y 0, 25, .inl (fun _ => 0)))]) := hD
  refine lv_aload_n hx hb dP_init_69 rfl (lv_at hl 0 rfl) ?_
  refine lv_iconst (v := 0) hx hb dP_init_70 (by decide) ?_
  refine va_put (D := D) (ci := 1) (v := .int 0) (ty := .int) (C := RP) (T := TP) (N := 10) hx hb hts hinP tyP tyP_ok nmP hown hK hP hD hS 0 rfl rfl 9 (by decide) (hts _ uw41) (fun _ h9 => h9) rfl (by decide +kernel) rfl rfl (Nat.le_of_ble_eq_true rfl) dP_init_71 (fun H locs hP hD hS => ?_)
  have hP : va_P D vwCl ([(h0, .inr (1, [.int 0, .ref q1, .ref q2, .ref q3, .ref q4, .ref q5, .ref q6, .ref q7, .ref q8, .int 0])), (q1, .inl (Y 0, 24, .inl (fun _ => 0))), (q2, .inl (Y 0, 24, .inl (fun _ => 0))), (q3, .inl (Y 0, 24, .inl (fun _ => 0))), (q4, .inl (Y 0, 24, .inl (fun _ => 0))), (q5, .inl (Y 0, 24, .inl (fun _ => 0))), (q6, .inl (Y 1, 576, .inr (.inl (fun _ => 0)))), (q7, .inl (Y 1, 24, .inr (.inl (fun _ => 0)))), (q8, .inl (Y 0, 25, .inl (fun _ => 0)))]) H := hP
  have hD : va_D A ([(h0, .inr (1, [.int 0, .ref q1, .ref q2, .ref q3, .ref q4, .ref q5, .ref q6, .ref q7, .ref q8, .int 0])), (q1, .inl (Y 0, 24, .inl (fun _ => 0))), (q2, .inl (Y 0, 24, .inl (fun _ => 0))), (q3, .inl (Y 0, 24, .inl (fun _ => 0))), (q4, .inl (Y 0, 24, .inl (fun _ => 0))), (q5, .inl (Y 0, 24, .inl (fun _ => 0))), (q6, .inl (Y 1, 576, .inr (.inl (fun _ => 0)))), (q7, .inl (Y 1, 24, .inr (.inl (fun _ => 0)))), (q8, .inl (Y 0, 25, .inl (fun _ => 0)))]) := hD
  refine lv_aload_n hx hb dP_init_74 rfl (lv_at hl 0 rfl) ?_
  refine lv_iload_n hx hb dP_init_75 rfl (lv_at hl 1 rfl) ?_
  refine va_putF (D := D) (ci := 1) (v := .int (nI n)) (ty := .int) (C := RP) (T := TP) (N := 10) hx hb hts hinP tyP tyP_ok nmP hown hK hP hD hS 0 rfl rfl 0 (by decide) (hts _ uw4) (fun _ h9 => h9) rfl hin9 rfl (by decide +kernel) rfl rfl (Nat.le_of_ble_eq_true rfl) dP_init_76 (fun H locs hP hD hS => ?_)
  have hP : va_P D vwCl ([(h0, .inr (1, [.int (nI n), .ref q1, .ref q2, .ref q3, .ref q4, .ref q5, .ref q6, .ref q7, .ref q8, .int 0])), (q1, .inl (Y 0, 24, .inl (fun _ => 0))), (q2, .inl (Y 0, 24, .inl (fun _ => 0))), (q3, .inl (Y 0, 24, .inl (fun _ => 0))), (q4, .inl (Y 0, 24, .inl (fun _ => 0))), (q5, .inl (Y 0, 24, .inl (fun _ => 0))), (q6, .inl (Y 1, 576, .inr (.inl (fun _ => 0)))), (q7, .inl (Y 1, 24, .inr (.inl (fun _ => 0)))), (q8, .inl (Y 0, 25, .inl (fun _ => 0)))]) H := hP
  have hD : va_D A ([(h0, .inr (1, [.int (nI n), .ref q1, .ref q2, .ref q3, .ref q4, .ref q5, .ref q6, .ref q7, .ref q8, .int 0])), (q1, .inl (Y 0, 24, .inl (fun _ => 0))), (q2, .inl (Y 0, 24, .inl (fun _ => 0))), (q3, .inl (Y 0, 24, .inl (fun _ => 0))), (q4, .inl (Y 0, 24, .inl (fun _ => 0))), (q5, .inl (Y 0, 24, .inl (fun _ => 0))), (q6, .inl (Y 1, 576, .inr (.inl (fun _ => 0)))), (q7, .inl (Y 1, 24, .inr (.inl (fun _ => 0)))), (q8, .inl (Y 0, 25, .inl (fun _ => 0)))]) := hD
  refine lv_aload_n hx hb dP_init_79 rfl (lv_at hl 0 rfl) ?_
  refine va_get (D := D) (ci := 1) (v := .ref q1) (C := RP) (T := TP) (N := 10) hx hb hts hinP hown hK hP 0 rfl rfl 1 (by decide) (hts _ uw9) (fun _ h9 => h9) rfl dP_init_80 ?_
  refine lv_iconst (v := (-1)) hx hb dP_init_83 (by decide) ?_
  refine qMSv (ws := [(h0, .inr (1, [.int (nI n), .ref q1, .ref q2, .ref q3, .ref q4, .ref q5, .ref q6, .ref q7, .ref q8, .int 0])), (q1, .inl (Y 0, 24, .inl (fun _ => 0))), (q2, .inl (Y 0, 24, .inl (fun _ => 0))), (q3, .inl (Y 0, 24, .inl (fun _ => 0))), (q4, .inl (Y 0, 24, .inl (fun _ => 0))), (q5, .inl (Y 0, 24, .inl (fun _ => 0))), (q6, .inl (Y 1, 576, .inr (.inl (fun _ => 0)))), (q7, .inl (Y 1, 24, .inr (.inl (fun _ => 0)))), (q8, .inl (Y 0, 25, .inl (fun _ => 0)))]) (wc := wA Y (fun _ => q1) 24 (fun _ => 0)) (wr := ([(h0, .inr (1, [.int (nI n), .ref q1, .ref q2, .ref q3, .ref q4, .ref q5, .ref q6, .ref q7, .ref q8, .int 0])), (q1, .inl (Y 0, 24, .inl (fun _ => 0))), (q2, .inl (Y 0, 24, .inl (fun _ => 0))), (q3, .inl (Y 0, 24, .inl (fun _ => 0))), (q4, .inl (Y 0, 24, .inl (fun _ => 0))), (q5, .inl (Y 0, 24, .inl (fun _ => 0))), (q6, .inl (Y 1, 576, .inr (.inl (fun _ => 0)))), (q7, .inl (Y 1, 24, .inr (.inl (fun _ => 0)))), (q8, .inl (Y 0, 25, .inl (fun _ => 0)))]).eraseIdx 1) (w := wA Y (fun _ => q1) 24) (ws' := [(h0, .inr (1, [.int (nI n), .ref q1, .ref q2, .ref q3, .ref q4, .ref q5, .ref q6, .ref q7, .ref q8, .int 0])), (q1, .inl (Y 0, 24, .inl (fA_fill 24 (fun _ => 0) (-1)))), (q2, .inl (Y 0, 24, .inl (fun _ => 0))), (q3, .inl (Y 0, 24, .inl (fun _ => 0))), (q4, .inl (Y 0, 24, .inl (fun _ => 0))), (q5, .inl (Y 0, 24, .inl (fun _ => 0))), (q6, .inl (Y 1, 576, .inr (.inl (fun _ => 0)))), (q7, .inl (Y 1, 24, .inr (.inl (fun _ => 0)))), (q8, .inl (Y 0, 25, .inl (fun _ => 0)))]) (rest := []) ⟨hx, hb, hml, hown, hts⟩ (kA_fill l D Y (fun _ => q1) 24 (by decide) (fun _ => 0) (-1) _) (va_cwS 2 hts (gS uw56 uw57 uw58 ucA_fill) rfl rfl rfl hsA_fill ⟨Nat.le_of_ble_eq_true rfl, Nat.le_of_ble_eq_true rfl⟩) hK hP hD hS hA [1] [0, 2, 3, 4, 5, 6, 7, 8] [0, 8, 1, 2, 3, 4, 5, 6, 7] rfl rfl (by decide) (by decide) (by decide) rfl (by decide) rfl hl.1 rfl (Nat.le_of_ble_eq_true rfl) dP_init_84 ⟨Nat.le_of_ble_eq_true rfl, Nat.le_of_ble_eq_true rfl⟩ (fun H locs hP hD hS => ?_)
  refine lv_aload_n hx hb dP_init_87 rfl (lv_at hl 0 rfl) ?_
  refine va_get (D := D) (ci := 1) (v := .ref q2) (C := RP) (T := TP) (N := 10) hx hb hts hinP hown hK hP 0 rfl rfl 2 (by decide) (hts _ uw10) (fun _ h9 => h9) rfl dP_init_88 ?_
  refine lv_iconst (v := (-1)) hx hb dP_init_91 (by decide) ?_
  refine qMSv (ws := [(h0, .inr (1, [.int (nI n), .ref q1, .ref q2, .ref q3, .ref q4, .ref q5, .ref q6, .ref q7, .ref q8, .int 0])), (q1, .inl (Y 0, 24, .inl (fA_fill 24 (fun _ => 0) (-1)))), (q2, .inl (Y 0, 24, .inl (fun _ => 0))), (q3, .inl (Y 0, 24, .inl (fun _ => 0))), (q4, .inl (Y 0, 24, .inl (fun _ => 0))), (q5, .inl (Y 0, 24, .inl (fun _ => 0))), (q6, .inl (Y 1, 576, .inr (.inl (fun _ => 0)))), (q7, .inl (Y 1, 24, .inr (.inl (fun _ => 0)))), (q8, .inl (Y 0, 25, .inl (fun _ => 0)))]) (wc := wA Y (fun _ => q2) 24 (fun _ => 0)) (wr := ([(h0, .inr (1, [.int (nI n), .ref q1, .ref q2, .ref q3, .ref q4, .ref q5, .ref q6, .ref q7, .ref q8, .int 0])), (q1, .inl (Y 0, 24, .inl (fA_fill 24 (fun _ => 0) (-1)))), (q2, .inl (Y 0, 24, .inl (fun _ => 0))), (q3, .inl (Y 0, 24, .inl (fun _ => 0))), (q4, .inl (Y 0, 24, .inl (fun _ => 0))), (q5, .inl (Y 0, 24, .inl (fun _ => 0))), (q6, .inl (Y 1, 576, .inr (.inl (fun _ => 0)))), (q7, .inl (Y 1, 24, .inr (.inl (fun _ => 0)))), (q8, .inl (Y 0, 25, .inl (fun _ => 0)))]).eraseIdx 2) (w := wA Y (fun _ => q2) 24) (ws' := [(h0, .inr (1, [.int (nI n), .ref q1, .ref q2, .ref q3, .ref q4, .ref q5, .ref q6, .ref q7, .ref q8, .int 0])), (q1, .inl (Y 0, 24, .inl (fA_fill 24 (fun _ => 0) (-1)))), (q2, .inl (Y 0, 24, .inl (fA_fill 24 (fun _ => 0) (-1)))), (q3, .inl (Y 0, 24, .inl (fun _ => 0))), (q4, .inl (Y 0, 24, .inl (fun _ => 0))), (q5, .inl (Y 0, 24, .inl (fun _ => 0))), (q6, .inl (Y 1, 576, .inr (.inl (fun _ => 0)))), (q7, .inl (Y 1, 24, .inr (.inl (fun _ => 0)))), (q8, .inl (Y 0, 25, .inl (fun _ => 0)))]) (rest := []) ⟨hx, hb, hml, hown, hts⟩ (kA_fill l D Y (fun _ => q2) 24 (by decide) (fun _ => 0) (-1) _) (va_cwS 2 hts (gS uw56 uw57 uw58 ucA_fill) rfl rfl rfl hsA_fill ⟨Nat.le_of_ble_eq_true rfl, Nat.le_of_ble_eq_true rfl⟩) hK hP hD hS hA [2] [0, 1, 3, 4, 5, 6, 7, 8] [0, 1, 8, 2, 3, 4, 5, 6, 7] rfl rfl (by decide) (by decide) (by decide) rfl (by decide) rfl hl.1 rfl (Nat.le_of_ble_eq_true rfl) dP_init_92 ⟨Nat.le_of_ble_eq_true rfl, Nat.le_of_ble_eq_true rfl⟩ (fun H locs hP hD hS => ?_)
  refine lv_aload_n hx hb dP_init_95 rfl (lv_at hl 0 rfl) ?_
  have hP : va_P D vwCl (wP Y (fun i => [h0, q1, q2, q3, q4, q5, q6, q7, q8].getD i 0) n ((fA_fill 24 (fun _ => 0) (-1)), (fA_fill 24 (fun _ => 0) (-1)), (fun _ => 0), (fun _ => 0), (fun _ => 0), (fun _ => 0), (fun _ => 0), (fun _ => 0), 0)) H := hP
  have hD : va_D A (wP Y (fun i => [h0, q1, q2, q3, q4, q5, q6, q7, q8].getD i 0) n ((fA_fill 24 (fun _ => 0) (-1)), (fA_fill 24 (fun _ => 0) (-1)), (fun _ => 0), (fun _ => 0), (fun _ => 0), (fun _ => 0), (fun _ => 0), (fun _ => 0), 0)) := hD
  refine qNVv (w := wP Y (fun i => [h0, q1, q2, q3, q4, q5, q6, q7, q8].getD i 0) n) (rest := []) ⟨hx, hb, hml, hown, hts⟩ (kP_reckon l D Y (fun i => [h0, q1, q2, q3, q4, q5, q6, q7, q8].getD i 0) n hn ((fA_fill 24 (fun _ => 0) (-1)), (fA_fill 24 (fun _ => 0) (-1)), (fun _ => 0), (fun _ => 0), (fun _ => 0), (fun _ => 0), (fun _ => 0), (fun _ => 0), 0) _) (cwV 0 hts (gV uw77 uw78 uw79 uw8 ucP_reckon) rfl rfl rfl hvP_reckon ⟨Nat.le_of_ble_eq_true rfl, Nat.le_of_ble_eq_true rfl⟩) hK hP hD hS hA (va_recv hK hP (ci := 1) (q0 := 0) rfl rfl) rfl hl.1 rfl (Nat.le_of_ble_eq_true rfl) dP_init_96 ⟨Nat.le_of_ble_eq_true rfl, Nat.le_of_ble_eq_true rfl⟩ (fun H locs hP hD hS => ?_)
  exact zMc_ret (S := vP) (w := fun h S => wP Y h n S) (hh := (fun i => [h0, q1, q2, q3, q4, q5, q6, q7, q8].getD i 0)) (u := (fP_reckon n ((fA_fill 24 (fun _ => 0) (-1)), (fA_fill 24 (fun _ => 0) (-1)), (fun _ => 0), (fun _ => 0), (fun _ => 0), (fun _ => 0), (fun _ => 0), (fun _ => 0), 0))) rfl hx hb hr hlocks hK hP hD hS dP_init_99
abbrev rmM_init : Room := { frames := 1, cells := 1, slots := 96, locals := 23 }
set_option maxHeartbeats 4000000 in
set_option maxRecDepth 100000 in
theorem kM_init (l : Launch) (D : va_G) (Y : Nat → ClassId) (h0 : Nat) (n : Nat) (hn : n ≤ 24) (sz : Nat) : Met l yM_init wsM_init rmM_init (va_Pc [.ref h0, .int (nI n)] (zPreM D vwCl (tysK Y) ([(h0, .inr (2, [.int 0, .null]))]) sz)) (va_Qv (fun u : (Nat → Nat) × vM => u.1 0 = h0 ∧ u.2 = (fM_init n)) (zAt D vwCl (tysK Y) (va_A ([(h0, .inr (2, [.int 0, .null]))]) sz) (fun u => wM Y u.1 n u.2)) (va_A ([(h0, .inr (2, [.int 0, .null]))]) sz)) 1 96 (va_A ([(h0, .inr (2, [.int 0, .null]))]) sz) := by
  refine Met.ofW (cc := cM_init) (maxL := 2) (ret := none) (by decide) rfl ?_
  intro p e s m args below meth c s₁ B hml hv
  obtain ⟨rfl, hsz, hP, hK, hD0⟩ := hv
  have hx := B.exec
  have hb := B.bytes
  have hr := B.returns
  have hts : ∀ w ∈ uT, w.before _ s = true := fun w hw => atoms_spec (ws := wsM_init) B.pre w (List.mem_cons_of_mem _ hw)
  have hown : s.vm.findClass RM = some m.cls := findClass_of_methodNamed B.named
  have hlocks := B.notSynchronized
  have hin9 : meth.name = "<init>" := (name_of_methodNamed B.named B.method).1
  subst hsz
  have hD := hD0.self (sz := s.heap.size)
  generalize hAe : va_A ([(h0, .inr (2, [.int 0, .null]))]) s.heap.size = A at hD ⊢
  have hA : ∀ q : Nat, s.heap.size ≤ q → A q := fun q h => by rw [← hAe]; exact Or.inr h
  have hS : va_S A s.heap s.heap [] := va_S.rf
  have hl := lv_entry ([.ref h0, .int (nI n)]) (n := 2) (Nat.le_of_ble_eq_true rfl)
  rw [lg_entry_eq]
  generalize (lg_sl ([.ref h0, .int (nI n)]) ++ List.replicate (2 - (lg_sl ([.ref h0, .int (nI n)])).length) Slot.unset).toArray = ls at hl ⊢
  have hl : lv_has ls 2 [(0, .ref h0), (1, .int (nI n))] := hl
  show W p l e rmM_init s m _ below meth c s.heap [] 0 0 (zMc (fun h S => wM Y h n S) D vwCl (tysK Y) A h0 below _ s 1 96 (fM_init n)) (F0 m 0 ls [])
  refine lv_aload_n hx hb dM_init_0 rfl (lv_at hl 0 rfl) ?_
  refine W.objInit hx hb hown (hts _ uw193) (hts _ uw190) (hts _ ucO_init) rfl (by rw [hml]; exact hl.1) rfl dM_init_1 (Nat.le_of_ble_eq_true rfl) (Nat.le_of_ble_eq_true rfl) ?_
  refine W.eq (g2 := F0 m 4 ls []) rfl ?_
  refine lv_aload_n hx hb dM_init_4 rfl (lv_at hl 0 rfl) ?_
  refine lv_bipush (v := 96) hx hb dM_init_5 (by decide) ?_
  refine q_newa (N' := 96) (a0 := (96, .inl (fun _ => 0))) .int hx hb (hts _ uw191) rfl hK 0 rfl (fun _ hh => hh) hP hD hS hA (fun _ => rfl) (by decide) (by decide) (by decide) (Nat.le_of_ble_eq_true rfl) (Nat.le_of_ble_eq_true rfl) dM_init_7 (fun q1 H hP hD hS => ?_)
  have hP : va_P D vwCl ([(h0, .inr (2, [.int 0, .null])), (q1, .inl (Y 0, 96, .inl (fun _ => 0)))]) H := hP
  have hD : va_D A ([(h0, .inr (2, [.int 0, .null])), (q1, .inl (Y 0, 96, .inl (fun _ => 0)))]) := hD
  refine va_putF (D := D) (ci := 2) (v := .ref q1) (ty := .array .int) (C := RM) (T := TM) (N := 2) hx hb hts hinM tyM tyM_ok nmM hown hK hP hD hS 0 rfl rfl 1 (by decide) (hts _ uw85) (fun _ h9 => h9) rfl hin9 rfl (by decide +kernel) rfl rfl (Nat.le_of_ble_eq_true rfl) dM_init_9 (fun H locs hP hD hS => ?_)
  have hP : va_P D vwCl ([(h0, .inr (2, [.int 0, .ref q1])), (q1, .inl (Y 0, 96, .inl (fun _ => 0)))]) H := hP
  have hD : va_D A ([(h0, .inr (2, [.int 0, .ref q1])), (q1, .inl (Y 0, 96, .inl (fun _ => 0)))]) := hD
  refine lv_aload_n hx hb dM_init_12 rfl (lv_at hl 0 rfl) ?_
  refine lv_iload_n hx hb dM_init_13 rfl (lv_at hl 1 rfl) ?_
  refine va_putF (D := D) (ci := 2) (v := .int (nI n)) (ty := .int) (C := RM) (T := TM) (N := 2) hx hb hts hinM tyM tyM_ok nmM hown hK hP hD hS 0 rfl rfl 0 (by decide) (hts _ uw80) (fun _ h9 => h9) rfl hin9 rfl (by decide +kernel) rfl rfl (Nat.le_of_ble_eq_true rfl) dM_init_14 (fun H locs hP hD hS => ?_)
  have hP : va_P D vwCl ([(h0, .inr (2, [.int (nI n), .ref q1])), (q1, .inl (Y 0, 96, .inl (fun _ => 0)))]) H := hP
  have hD : va_D A ([(h0, .inr (2, [.int (nI n), .ref q1])), (q1, .inl (Y 0, 96, .inl (fun _ => 0)))]) := hD
  refine lv_aload_n hx hb dM_init_17 rfl (lv_at hl 0 rfl) ?_
  refine va_get (D := D) (ci := 2) (v := .ref q1) (C := RM) (T := TM) (N := 2) hx hb hts hinM hown hK hP 0 rfl rfl 1 (by decide) (hts _ uw85) (fun _ h9 => h9) rfl dM_init_18 ?_
  refine lv_iconst (v := (-1)) hx hb dM_init_21 (by decide) ?_
  refine qMSv (ws := [(h0, .inr (2, [.int (nI n), .ref q1])), (q1, .inl (Y 0, 96, .inl (fun _ => 0)))]) (wc := wA Y (fun _ => q1) 96 (fun _ => 0)) (wr := ([(h0, .inr (2, [.int (nI n), .ref q1])), (q1, .inl (Y 0, 96, .inl (fun _ => 0)))]).eraseIdx 1) (w := wA Y (fun _ => q1) 96) (ws' := [(h0, .inr (2, [.int (nI n), .ref q1])), (q1, .inl (Y 0, 96, .inl (fA_fill 96 (fun _ => 0) (-1))))]) (rest := []) ⟨hx, hb, hml, hown, hts⟩ (kA_fill l D Y (fun _ => q1) 96 (by decide) (fun _ => 0) (-1) _) (va_cwS 2 hts (gS uw194 uw57 uw58 ucA_fill) rfl rfl rfl hsA_fill ⟨Nat.le_of_ble_eq_true rfl, Nat.le_of_ble_eq_true rfl⟩) hK hP hD hS hA [1] [0] [0, 1] rfl rfl (by decide) (by decide) (by decide) rfl (by decide) rfl hl.1 rfl (Nat.le_of_ble_eq_true rfl) dM_init_22 ⟨Nat.le_of_ble_eq_true rfl, Nat.le_of_ble_eq_true rfl⟩ (fun H locs hP hD hS => ?_)
  have hP : va_P D vwCl (wM Y (fun i => [h0, q1].getD i 0) n (fA_fill 96 (fun _ => 0) (-1))) H := hP
  have hD : va_D A (wM Y (fun i => [h0, q1].getD i 0) n (fA_fill 96 (fun _ => 0) (-1))) := hD
  exact zMc_ret (S := vM) (w := fun h S => wM Y h n S) (hh := (fun i => [h0, q1].getD i 0)) (u := (fA_fill 96 (fun _ => 0) (-1))) rfl hx hb hr hlocks hK hP hD hS dM_init_25
abbrev rmK_init : Room := { frames := 5, cells := 14, slots := 925, locals := 113 }
set_option maxHeartbeats 4000000 in
set_option maxRecDepth 100000 in
theorem kK_init (l : Launch) (D : va_G) (Y : Nat → ClassId) (h0 : Nat) (a1 : Int32) (n : Nat) (hn : n ≤ 24) (en : fJ_max 1 (fJ_min a1 24) = nI n) (sz : Nat) : Met l yK_init wsK_init rmK_init (va_Pc [.ref h0, .int a1] (zPreM D vwCl (tysK Y) ([(h0, .inr (0, [.null, .null, .int 0, .null, .null, .null]))]) sz)) (va_Qv (fun u : (Nat → Nat) × vK => u.1 0 = h0 ∧ u.2 = (fK_init n)) (zAt D vwCl (tysK Y) (va_A ([(h0, .inr (0, [.null, .null, .int 0, .null, .null, .null]))]) sz) (fun u => wK Y u.1 n u.2)) (va_A ([(h0, .inr (0, [.null, .null, .int 0, .null, .null, .null]))]) sz)) 14 925 (va_A ([(h0, .inr (0, [.null, .null, .int 0, .null, .null, .null]))]) sz) := by
  refine Met.ofW (cc := cK_init) (maxL := 2) (ret := none) (by decide) rfl ?_
  intro p e s m args below meth c s₁ B hml hv
  obtain ⟨rfl, hsz, hP, hK, hD0⟩ := hv
  have hx := B.exec
  have hb := B.bytes
  have hr := B.returns
  have hts : ∀ w ∈ uT, w.before _ s = true := fun w hw => atoms_spec (ws := wsK_init) B.pre w (List.mem_cons_of_mem _ hw)
  have hown : s.vm.findClass RK = some m.cls := findClass_of_methodNamed B.named
  have hlocks := B.notSynchronized
  have hin9 : meth.name = "<init>" := (name_of_methodNamed B.named B.method).1
  subst hsz
  have hD := hD0.self (sz := s.heap.size)
  generalize hAe : va_A ([(h0, .inr (0, [.null, .null, .int 0, .null, .null, .null]))]) s.heap.size = A at hD ⊢
  have hA : ∀ q : Nat, s.heap.size ≤ q → A q := fun q h => by rw [← hAe]; exact Or.inr h
  have hS : va_S A s.heap s.heap [] := va_S.rf
  have hl := lv_entry ([.ref h0, .int a1]) (n := 2) (Nat.le_of_ble_eq_true rfl)
  rw [lg_entry_eq]
  generalize (lg_sl ([.ref h0, .int a1]) ++ List.replicate (2 - (lg_sl ([.ref h0, .int a1])).length) Slot.unset).toArray = ls at hl ⊢
  have hl : lv_has ls 2 [(0, .ref h0), (1, .int a1)] := hl
  show W p l e rmK_init s m _ below meth c s.heap [] 0 0 (zMc (fun h S => wK Y h n S) D vwCl (tysK Y) A h0 below _ s 14 925 (fK_init n)) (F0 m 0 ls [])
  refine lv_aload_n hx hb dK_init_0 rfl (lv_at hl 0 rfl) ?_
  refine W.objInit hx hb hown (hts _ uw195) (hts _ uw190) (hts _ ucO_init) rfl (by rw [hml]; exact hl.1) rfl dK_init_1 (Nat.le_of_ble_eq_true rfl) (Nat.le_of_ble_eq_true rfl) ?_
  refine W.eq (g2 := F0 m 4 ls []) rfl ?_
  refine lv_aload_n hx hb dK_init_4 rfl (lv_at hl 0 rfl) ?_
  refine lv_bipush (v := 24) hx hb dK_init_5 (by decide) ?_
  refine q_newa (N' := 24) (a0 := (24, .inl (fun _ => 0))) .int hx hb (hts _ uw191) rfl hK 0 rfl (fun _ hh => hh) hP hD hS hA (fun _ => rfl) (by decide) (by decide) (by decide) (Nat.le_of_ble_eq_true rfl) (Nat.le_of_ble_eq_true rfl) dK_init_7 (fun q1 H hP hD hS => ?_)
  have hP : va_P D vwCl ([(h0, .inr (0, [.null, .null, .int 0, .null, .null, .null])), (q1, .inl (Y 0, 24, .inl (fun _ => 0)))]) H := hP
  have hD : va_D A ([(h0, .inr (0, [.null, .null, .int 0, .null, .null, .null])), (q1, .inl (Y 0, 24, .inl (fun _ => 0)))]) := hD
  refine va_putF (D := D) (ci := 0) (v := .ref q1) (ty := .array .int) (C := RK) (T := TK) (N := 6) hx hb hts hinK tyK tyK_ok nmK hown hK hP hD hS 0 rfl rfl 3 (by decide) (hts _ uw117) (fun _ h9 => h9) rfl hin9 rfl (by decide +kernel) rfl rfl (Nat.le_of_ble_eq_true rfl) dK_init_9 (fun H locs hP hD hS => ?_)
  have hP : va_P D vwCl ([(h0, .inr (0, [.null, .null, .int 0, .ref q1, .null, .null])), (q1, .inl (Y 0, 24, .inl (fun _ => 0)))]) H := hP
  have hD : va_D A ([(h0, .inr (0, [.null, .null, .int 0, .ref q1, .null, .null])), (q1, .inl (Y 0, 24, .inl (fun _ => 0)))]) := hD
  refine lv_aload_n hx hb dK_init_12 rfl (lv_at hl 0 rfl) ?_
  refine lv_bipush (v := 24) hx hb dK_init_13 (by decide) ?_
  refine q_newa (N' := 24) (a0 := (24, .inl (fun _ => 0))) .int hx hb (hts _ uw191) rfl hK 0 rfl (fun _ hh => hh) hP hD hS hA (fun _ => rfl) (by decide) (by decide) (by decide) (Nat.le_of_ble_eq_true rfl) (Nat.le_of_ble_eq_true rfl) dK_init_15 (fun q2 H hP hD hS => ?_)
  have hP : va_P D vwCl ([(h0, .inr (0, [.null, .null, .int 0, .ref q1, .null, .null])), (q1, .inl (Y 0, 24, .inl (fun _ => 0))), (q2, .inl (Y 0, 24, .inl (fun _ => 0)))]) H := hP
  have hD : va_D A ([(h0, .inr (0, [.null, .null, .int 0, .ref q1, .null, .null])), (q1, .inl (Y 0, 24, .inl (fun _ => 0))), (q2, .inl (Y 0, 24, .inl (fun _ => 0)))]) := hD
  refine va_putF (D := D) (ci := 0) (v := .ref q2) (ty := .array .int) (C := RK) (T := TK) (N := 6) hx hb hts hinK tyK tyK_ok nmK hown hK hP hD hS 0 rfl rfl 4 (by decide) (hts _ uw118) (fun _ h9 => h9) rfl hin9 rfl (by decide +kernel) rfl rfl (Nat.le_of_ble_eq_true rfl) dK_init_17 (fun H locs hP hD hS => ?_)
  have hP : va_P D vwCl ([(h0, .inr (0, [.null, .null, .int 0, .ref q1, .ref q2, .null])), (q1, .inl (Y 0, 24, .inl (fun _ => 0))), (q2, .inl (Y 0, 24, .inl (fun _ => 0)))]) H := hP
  have hD : va_D A ([(h0, .inr (0, [.null, .null, .int 0, .ref q1, .ref q2, .null])), (q1, .inl (Y 0, 24, .inl (fun _ => 0))), (q2, .inl (Y 0, 24, .inl (fun _ => 0)))]) := hD
  refine lv_aload_n hx hb dK_init_20 rfl (lv_at hl 0 rfl) ?_
  refine lv_bipush (v := 24) hx hb dK_init_21 (by decide) ?_
  refine q_newa (N' := 24) (a0 := (24, .inl (fun _ => 0))) .boolean hx hb (hts _ uw196) rfl hK 2 rfl (fun _ hh => hh) hP hD hS hA (fun _ => rfl) (by decide) (by decide) (by decide) (Nat.le_of_ble_eq_true rfl) (Nat.le_of_ble_eq_true rfl) dK_init_23 (fun q3 H hP hD hS => ?_)
  have hP : va_P D vwCl ([(h0, .inr (0, [.null, .null, .int 0, .ref q1, .ref q2, .null])), (q1, .inl (Y 0, 24, .inl (fun _ => 0))), (q2, .inl (Y 0, 24, .inl (fun _ => 0))), (q3, .inl (Y 2, 24, .inl (fun _ => 0)))]) H := hP
  have hD : va_D A ([(h0, .inr (0, [.null, .null, .int 0, .ref q1, .ref q2, .null])), (q1, .inl (Y 0, 24, .inl (fun _ => 0))), (q2, .inl (Y 0, 24, .inl (fun _ => 0))), (q3, .inl (Y 2, 24, .inl (fun _ => 0)))]) := hD
  refine va_putF (D := D) (ci := 0) (v := .ref q3) (ty := .array .boolean) (C := RK) (T := TK) (N := 6) hx hb hts hinK tyK tyK_ok nmK hown hK hP hD hS 0 rfl rfl 5 (by decide) (hts _ uw131) (fun _ h9 => h9) rfl hin9 rfl (by decide +kernel) rfl rfl (Nat.le_of_ble_eq_true rfl) dK_init_25 (fun H locs hP hD hS => ?_)
  have hP : va_P D vwCl ([(h0, .inr (0, [.null, .null, .int 0, .ref q1, .ref q2, .ref q3])), (q1, .inl (Y 0, 24, .inl (fun _ => 0))), (q2, .inl (Y 0, 24, .inl (fun _ => 0))), (q3, .inl (Y 2, 24, .inl (fun _ => 0)))]) H := hP
  have hD : va_D A ([(h0, .inr (0, [.null, .null, .int 0, .ref q1, .ref q2, .ref q3])), (q1, .inl (Y 0, 24, .inl (fun _ => 0))), (q2, .inl (Y 0, 24, .inl (fun _ => 0))), (q3, .inl (Y 2, 24, .inl (fun _ => 0)))]) := hD
  refine lv_aload_n hx hb dK_init_28 rfl (lv_at hl 0 rfl) ?_
  refine lv_iconst (v := 1) hx hb dK_init_29 (by decide) ?_
  refine lv_iload_n hx hb dK_init_30 rfl (lv_at hl 1 rfl) ?_
  refine lv_bipush (v := 24) hx hb dK_init_31 (by decide) ?_
  refine q_min hx hb (hml.trans hl.1.symm) hown (hts _ uw197) (hts _ uw198) (hts _ uw64) (hts _ ucJ_min) (Nat.le_of_ble_eq_true rfl) (Nat.le_of_ble_eq_true rfl) (Nat.le_of_ble_eq_true rfl) (Nat.le_of_ble_eq_true rfl) dK_init_33 ?_
  refine q_max hx hb (hml.trans hl.1.symm) hown (hts _ uw199) (hts _ uw63) (hts _ uw64) (hts _ ucJ_max) (Nat.le_of_ble_eq_true rfl) (Nat.le_of_ble_eq_true rfl) (Nat.le_of_ble_eq_true rfl) (Nat.le_of_ble_eq_true rfl) dK_init_36 ?_
  rw [en]
  refine va_putF (D := D) (ci := 0) (v := .int (nI n)) (ty := .int) (C := RK) (T := TK) (N := 6) hx hb hts hinK tyK tyK_ok nmK hown hK hP hD hS 0 rfl rfl 2 (by decide) (hts _ uw112) (fun _ h9 => h9) rfl hin9 rfl (by decide +kernel) rfl rfl (Nat.le_of_ble_eq_true rfl) dK_init_39 (fun H locs hP hD hS => ?_)
  have hP : va_P D vwCl ([(h0, .inr (0, [.null, .null, .int (nI n), .ref q1, .ref q2, .ref q3])), (q1, .inl (Y 0, 24, .inl (fun _ => 0))), (q2, .inl (Y 0, 24, .inl (fun _ => 0))), (q3, .inl (Y 2, 24, .inl (fun _ => 0)))]) H := hP
  have hD : va_D A ([(h0, .inr (0, [.null, .null, .int (nI n), .ref q1, .ref q2, .ref q3])), (q1, .inl (Y 0, 24, .inl (fun _ => 0))), (q2, .inl (Y 0, 24, .inl (fun _ => 0))), (q3, .inl (Y 2, 24, .inl (fun _ => 0)))]) := hD
  refine lv_aload_n hx hb dK_init_42 rfl (lv_at hl 0 rfl) ?_
  refine va_new (ci := 1) (fs := [.int 0, .null, .null, .null, .null, .null, .null, .null, .null, .int 0]) (C := RP) (T := TP) (N := 10) hx hb hts hinP tyP tyP_ok hown (hts _ uw200) (hts _ uw201) (hts _ uw8) hK hP hD hS hA rfl (fun j hj => by rcases (show j = 0 ∨ j = 1 ∨ j = 2 ∨ j = 3 ∨ j = 4 ∨ j = 5 ∨ j = 6 ∨ j = 7 ∨ j = 8 ∨ j = 9 by omega) with rfl | rfl | rfl | rfl | rfl | rfl | rfl | rfl | rfl | rfl <;> rfl) (Nat.le_of_ble_eq_true rfl) (Nat.le_of_ble_eq_true rfl) dK_init_43 (fun q4 H hP hD hS => ?_)
  have hP : va_P D vwCl ([(h0, .inr (0, [.null, .null, .int (nI n), .ref q1, .ref q2, .ref q3])), (q1, .inl (Y 0, 24, .inl (fun _ => 0))), (q2, .inl (Y 0, 24, .inl (fun _ => 0))), (q3, .inl (Y 2, 24, .inl (fun _ => 0))), (q4, .inr (1, [.int 0, .null, .null, .null, .null, .null, .null, .null, .null, .int 0]))]) H := hP
  have hD : va_D A ([(h0, .inr (0, [.null, .null, .int (nI n), .ref q1, .ref q2, .ref q3])), (q1, .inl (Y 0, 24, .inl (fun _ => 0))), (q2, .inl (Y 0, 24, .inl (fun _ => 0))), (q3, .inl (Y 2, 24, .inl (fun _ => 0))), (q4, .inr (1, [.int 0, .null, .null, .null, .null, .null, .null, .null, .null, .int 0]))]) := hD
  refine lv_dup hx hb dK_init_46 rfl ?_
  refine lv_aload_n hx hb dK_init_47 rfl (lv_at hl 0 rfl) ?_
  refine va_get (D := D) (ci := 0) (v := .int (nI n)) (C := RK) (T := TK) (N := 6) hx hb hts hinK hown hK hP 0 rfl rfl 2 (by decide) (hts _ uw112) (fun _ h9 => h9) rfl dK_init_48 ?_
  refine qMIc (w := fun h S => wP Y h n S) (b := q4) (As := [.int (nI n)]) (mc := 8) (ms := 745) (ws := [(h0, .inr (0, [.null, .null, .int (nI n), .ref q1, .ref q2, .ref q3])), (q1, .inl (Y 0, 24, .inl (fun _ => 0))), (q2, .inl (Y 0, 24, .inl (fun _ => 0))), (q3, .inl (Y 2, 24, .inl (fun _ => 0))), (q4, .inr (1, [.int 0, .null, .null, .null, .null, .null, .null, .null, .null, .int 0]))]) (wc := [(q4, .inr (1, [.int 0, .null, .null, .null, .null, .null, .null, .null, .null, .int 0]))]) (wr := [(h0, .inr (0, [.null, .null, .int (nI n), .ref q1, .ref q2, .ref q3])), (q1, .inl (Y 0, 24, .inl (fun _ => 0))), (q2, .inl (Y 0, 24, .inl (fun _ => 0))), (q3, .inl (Y 2, 24, .inl (fun _ => 0)))]) (rest := [.ref q4, .ref h0]) ⟨hx, hb, hml, hown, hts⟩ (kP_init l D Y q4 n hn _) (cwI 1 hts (gI ucP_init) rfl rfl rfl (hts _ uw8) (hts _ uw202) (hts _ uw203) rfl hsP_init ⟨Nat.le_of_ble_eq_true rfl, Nat.le_of_ble_eq_true rfl⟩) hK hP hD hS hA [4] [0, 1, 2, 3] rfl rfl (by decide) (by decide) (by decide) rfl hl.1 rfl (Nat.le_of_ble_eq_true rfl) dK_init_51 ⟨Nat.le_of_ble_eq_true rfl, Nat.le_of_ble_eq_true rfl⟩ (fun h_q4 e_h_q4 H locs hP2 hD2 hS2 => ?_)
  have e_h_q4 : q4 = h_q4 0 := e_h_q4.symm
  clear hP hD hS
  subst e_h_q4
  have hP := hP2
  have hD := hD2
  have hS := hS2
  have hP : va_P D vwCl (([(h0, .inr (0, [.null, .null, .int (nI n), .ref q1, .ref q2, .ref q3])), (q1, .inl (Y 0, 24, .inl (fun _ => 0))), (q2, .inl (Y 0, 24, .inl (fun _ => 0))), (q3, .inl (Y 2, 24, .inl (fun _ => 0)))] : va_W) ++ (wP Y h_q4 n (fP_init n))) H := hP
  have hD : va_D A (([(h0, .inr (0, [.null, .null, .int (nI n), .ref q1, .ref q2, .ref q3])), (q1, .inl (Y 0, 24, .inl (fun _ => 0))), (q2, .inl (Y 0, 24, .inl (fun _ => 0))), (q3, .inl (Y 2, 24, .inl (fun _ => 0)))] : va_W) ++ (wP Y h_q4 n (fP_init n))) := hD
  refine va_putF (D := D) (ci := 0) (v := .ref (h_q4 0)) (ty := .object "KinNumbers$Pedigree") (C := RK) (T := TK) (N := 6) hx hb hts hinK tyK tyK_ok nmK hown hK hP hD hS 0 rfl rfl 0 (by decide) (hts _ uw122) (fun _ h9 => h9) rfl hin9 rfl (by decide +kernel) rfl rfl (Nat.le_of_ble_eq_true rfl) dK_init_54 (fun H locs hP hD hS => ?_)
  have hP : va_P D vwCl (([(h0, .inr (0, [.ref (h_q4 0), .null, .int (nI n), .ref q1, .ref q2, .ref q3])), (q1, .inl (Y 0, 24, .inl (fun _ => 0))), (q2, .inl (Y 0, 24, .inl (fun _ => 0))), (q3, .inl (Y 2, 24, .inl (fun _ => 0)))] : va_W) ++ (wP Y h_q4 n (fP_init n))) H := hP
  have hD : va_D A (([(h0, .inr (0, [.ref (h_q4 0), .null, .int (nI n), .ref q1, .ref q2, .ref q3])), (q1, .inl (Y 0, 24, .inl (fun _ => 0))), (q2, .inl (Y 0, 24, .inl (fun _ => 0))), (q3, .inl (Y 2, 24, .inl (fun _ => 0)))] : va_W) ++ (wP Y h_q4 n (fP_init n))) := hD
  refine lv_aload_n hx hb dK_init_57 rfl (lv_at hl 0 rfl) ?_
  refine va_new (ci := 2) (fs := [.int 0, .null]) (C := RM) (T := TM) (N := 2) hx hb hts hinM tyM tyM_ok hown (hts _ uw204) (hts _ uw205) (hts _ uw84) hK hP hD hS hA rfl (fun j hj => by rcases (show j = 0 ∨ j = 1 by omega) with rfl | rfl <;> rfl) (Nat.le_of_ble_eq_true rfl) (Nat.le_of_ble_eq_true rfl) dK_init_58 (fun q5 H hP hD hS => ?_)
  have hP : va_P D vwCl (([(h0, .inr (0, [.ref (h_q4 0), .null, .int (nI n), .ref q1, .ref q2, .ref q3])), (q1, .inl (Y 0, 24, .inl (fun _ => 0))), (q2, .inl (Y 0, 24, .inl (fun _ => 0))), (q3, .inl (Y 2, 24, .inl (fun _ => 0)))] : va_W) ++ (wP Y h_q4 n (fP_init n)) ++ ([(q5, .inr (2, [.int 0, .null]))] : va_W)) H := hP
  have hD : va_D A (([(h0, .inr (0, [.ref (h_q4 0), .null, .int (nI n), .ref q1, .ref q2, .ref q3])), (q1, .inl (Y 0, 24, .inl (fun _ => 0))), (q2, .inl (Y 0, 24, .inl (fun _ => 0))), (q3, .inl (Y 2, 24, .inl (fun _ => 0)))] : va_W) ++ (wP Y h_q4 n (fP_init n)) ++ ([(q5, .inr (2, [.int 0, .null]))] : va_W)) := hD
  refine lv_dup hx hb dK_init_61 rfl ?_
  refine lv_aload_n hx hb dK_init_62 rfl (lv_at hl 0 rfl) ?_
  refine va_get (D := D) (ci := 0) (v := .int (nI n)) (C := RK) (T := TK) (N := 6) hx hb hts hinK hown hK hP 0 rfl rfl 2 (by decide) (hts _ uw112) (fun _ h9 => h9) rfl dK_init_63 ?_
  refine qMIc (w := fun h S => wM Y h n S) (b := q5) (As := [.int (nI n)]) (mc := 1) (ms := 96) (ws := ([(h0, .inr (0, [.ref (h_q4 0), .null, .int (nI n), .ref q1, .ref q2, .ref q3])), (q1, .inl (Y 0, 24, .inl (fun _ => 0))), (q2, .inl (Y 0, 24, .inl (fun _ => 0))), (q3, .inl (Y 2, 24, .inl (fun _ => 0)))] : va_W) ++ (wP Y h_q4 n (fP_init n)) ++ ([(q5, .inr (2, [.int 0, .null]))] : va_W)) (wc := [(q5, .inr (2, [.int 0, .null]))]) (wr := ([(h0, .inr (0, [.ref (h_q4 0), .null, .int (nI n), .ref q1, .ref q2, .ref q3])), (q1, .inl (Y 0, 24, .inl (fun _ => 0))), (q2, .inl (Y 0, 24, .inl (fun _ => 0))), (q3, .inl (Y 2, 24, .inl (fun _ => 0)))] : va_W) ++ (wP Y h_q4 n (fP_init n))) (rest := [.ref q5, .ref h0]) ⟨hx, hb, hml, hown, hts⟩ (kM_init l D Y q5 n hn _) (cwI 1 hts (gI ucM_init) rfl rfl rfl (hts _ uw84) (hts _ uw206) (hts _ uw207) rfl hsM_init ⟨Nat.le_of_ble_eq_true rfl, Nat.le_of_ble_eq_true rfl⟩) hK hP hD hS hA [13] [0, 1, 2, 3, 4, 5, 6, 7, 8, 9, 10, 11, 12] rfl rfl (by decide) (by decide) (by decide) rfl hl.1 rfl (Nat.le_of_ble_eq_true rfl) dK_init_66 ⟨Nat.le_of_ble_eq_true rfl, Nat.le_of_ble_eq_true rfl⟩ (fun h_q5 e_h_q5 H locs hP2 hD2 hS2 => ?_)
  have e_h_q5 : q5 = h_q5 0 := e_h_q5.symm
  clear hP hD hS
  subst e_h_q5
  have hP := hP2
  have hD := hD2
  have hS := hS2
  have hP : va_P D vwCl (([(h0, .inr (0, [.ref (h_q4 0), .null, .int (nI n), .ref q1, .ref q2, .ref q3])), (q1, .inl (Y 0, 24, .inl (fun _ => 0))), (q2, .inl (Y 0, 24, .inl (fun _ => 0))), (q3, .inl (Y 2, 24, .inl (fun _ => 0)))] : va_W) ++ (wP Y h_q4 n (fP_init n)) ++ (wM Y h_q5 n (fM_init n))) H := hP
  have hD : va_D A (([(h0, .inr (0, [.ref (h_q4 0), .null, .int (nI n), .ref q1, .ref q2, .ref q3])), (q1, .inl (Y 0, 24, .inl (fun _ => 0))), (q2, .inl (Y 0, 24, .inl (fun _ => 0))), (q3, .inl (Y 2, 24, .inl (fun _ => 0)))] : va_W) ++ (wP Y h_q4 n (fP_init n)) ++ (wM Y h_q5 n (fM_init n))) := hD
  refine va_putF (D := D) (ci := 0) (v := .ref (h_q5 0)) (ty := .object "KinNumbers$Marks") (C := RK) (T := TK) (N := 6) hx hb hts hinK tyK tyK_ok nmK hown hK hP hD hS 0 rfl rfl 1 (by decide) (hts _ uw169) (fun _ h9 => h9) rfl hin9 rfl (by decide +kernel) rfl rfl (Nat.le_of_ble_eq_true rfl) dK_init_69 (fun H locs hP hD hS => ?_)
  have hP : va_P D vwCl (([(h0, .inr (0, [.ref (h_q4 0), .ref (h_q5 0), .int (nI n), .ref q1, .ref q2, .ref q3])), (q1, .inl (Y 0, 24, .inl (fun _ => 0))), (q2, .inl (Y 0, 24, .inl (fun _ => 0))), (q3, .inl (Y 2, 24, .inl (fun _ => 0)))] : va_W) ++ (wP Y h_q4 n (fP_init n)) ++ (wM Y h_q5 n (fM_init n))) H := hP
  have hD : va_D A (([(h0, .inr (0, [.ref (h_q4 0), .ref (h_q5 0), .int (nI n), .ref q1, .ref q2, .ref q3])), (q1, .inl (Y 0, 24, .inl (fun _ => 0))), (q2, .inl (Y 0, 24, .inl (fun _ => 0))), (q3, .inl (Y 2, 24, .inl (fun _ => 0)))] : va_W) ++ (wP Y h_q4 n (fP_init n)) ++ (wM Y h_q5 n (fM_init n))) := hD
  refine lv_aload_n hx hb dK_init_72 rfl (lv_at hl 0 rfl) ?_
  refine va_get (D := D) (ci := 0) (v := .ref q2) (C := RK) (T := TK) (N := 6) hx hb hts hinK hown hK hP 0 rfl rfl 4 (by decide) (hts _ uw118) (fun _ h9 => h9) rfl dK_init_73 ?_
  refine lv_iconst (v := (-1)) hx hb dK_init_76 (by decide) ?_
  refine qMSv (ws := ([(h0, .inr (0, [.ref (h_q4 0), .ref (h_q5 0), .int (nI n), .ref q1, .ref q2, .ref q3])), (q1, .inl (Y 0, 24, .inl (fun _ => 0))), (q2, .inl (Y 0, 24, .inl (fun _ => 0))), (q3, .inl (Y 2, 24, .inl (fun _ => 0)))] : va_W) ++ (wP Y h_q4 n (fP_init n)) ++ (wM Y h_q5 n (fM_init n))) (wc := wA Y (fun _ => q2) 24 (fun _ => 0)) (wr := (([(h0, .inr (0, [.ref (h_q4 0), .ref (h_q5 0), .int (nI n), .ref q1, .ref q2, .ref q3])), (q1, .inl (Y 0, 24, .inl (fun _ => 0))), (q2, .inl (Y 0, 24, .inl (fun _ => 0))), (q3, .inl (Y 2, 24, .inl (fun _ => 0)))] : va_W) ++ (wP Y h_q4 n (fP_init n)) ++ (wM Y h_q5 n (fM_init n))).eraseIdx 2) (w := wA Y (fun _ => q2) 24) (ws' := ([(h0, .inr (0, [.ref (h_q4 0), .ref (h_q5 0), .int (nI n), .ref q1, .ref q2, .ref q3])), (q1, .inl (Y 0, 24, .inl (fun _ => 0))), (q2, .inl (Y 0, 24, .inl (fA_fill 24 (fun _ => 0) (-1)))), (q3, .inl (Y 2, 24, .inl (fun _ => 0)))] : va_W) ++ (wP Y h_q4 n (fP_init n)) ++ (wM Y h_q5 n (fM_init n))) (rest := []) ⟨hx, hb, hml, hown, hts⟩ (kA_fill l D Y (fun _ => q2) 24 (by decide) (fun _ => 0) (-1) _) (va_cwS 2 hts (gS uw208 uw57 uw58 ucA_fill) rfl rfl rfl hsA_fill ⟨Nat.le_of_ble_eq_true rfl, Nat.le_of_ble_eq_true rfl⟩) hK hP hD hS hA [2] [0, 1, 3, 4, 5, 6, 7, 8, 9, 10, 11, 12, 13, 14] [0, 1, 14, 2, 3, 4, 5, 6, 7, 8, 9, 10, 11, 12, 13] rfl rfl (by decide) (by decide) (by decide) rfl (by decide) rfl hl.1 rfl (Nat.le_of_ble_eq_true rfl) dK_init_77 ⟨Nat.le_of_ble_eq_true rfl, Nat.le_of_ble_eq_true rfl⟩ (fun H locs hP hD hS => ?_)
  have hP : va_P D vwCl (wK Y (fun i => [h0, q1, q2, q3, h_q4 0, h_q4 1, h_q4 2, h_q4 3, h_q4 4, h_q4 5, h_q4 6, h_q4 7, h_q4 8, h_q5 0, h_q5 1].getD i 0) n ((fun _ => 0), (fA_fill 24 (fun _ => 0) (-1)), (fun _ => 0), fP_init n, fM_init n)) H := hP
  have hD : va_D A (wK Y (fun i => [h0, q1, q2, q3, h_q4 0, h_q4 1, h_q4 2, h_q4 3, h_q4 4, h_q4 5, h_q4 6, h_q4 7, h_q4 8, h_q5 0, h_q5 1].getD i 0) n ((fun _ => 0), (fA_fill 24 (fun _ => 0) (-1)), (fun _ => 0), fP_init n, fM_init n)) := hD
  exact zMc_ret (S := vK) (w := fun h S => wK Y h n S) (hh := (fun i => [h0, q1, q2, q3, h_q4 0, h_q4 1, h_q4 2, h_q4 3, h_q4 4, h_q4 5, h_q4 6, h_q4 7, h_q4 8, h_q5 0, h_q5 1].getD i 0)) (u := ((fun _ => 0), (fA_fill 24 (fun _ => 0) (-1)), (fun _ => 0), fP_init n, fM_init n)) rfl hx hb hr hlocks hK hP hD hS dK_init_80
end
