-- ===== PART A: goes FIRST, ahead of the names: the tables' words, and 'selects' of the private methods out of them =====
/-- a private method of a class that the tables say can be made, by its rows of tables_1 -/
def lw_okq (q : MethodName × Nat) : Prop := (q.1.cls ≠ "java/lang/invoke/MethodHandle" ∧ q.1.cls ≠ "java/lang/invoke/VarHandle") ∧ Cond.instantiable q.1.cls q.2 ∈ tables_1 ∧ Cond.privateMethod q.1 ∈ tables_1 ∧ Cond.instanceMethod q.1 ∈ tables_1
theorem lw_p0 : lw_okq (⟨"KinNumbers$Pedigree", "reckon", "()V"⟩, 10) := ⟨⟨by decide +kernel, by decide +kernel⟩, List.mem_of_getElem? (i := 23) (by decide +kernel), List.mem_of_getElem? (i := 32) (by decide +kernel), List.mem_of_getElem? (i := 33) (by decide +kernel)⟩
theorem lw_p1 : lw_okq (⟨"KinNumbers$Pedigree", "reckonSteps", "()V"⟩, 10) := ⟨⟨by decide +kernel, by decide +kernel⟩, List.mem_of_getElem? (i := 23) (by decide +kernel), List.mem_of_getElem? (i := 36) (by decide +kernel), List.mem_of_getElem? (i := 37) (by decide +kernel)⟩
theorem lw_p2 : lw_okq (⟨"KinNumbers$Pedigree", "has", "(I)Z"⟩, 10) := ⟨⟨by decide +kernel, by decide +kernel⟩, List.mem_of_getElem? (i := 23) (by decide +kernel), List.mem_of_getElem? (i := 44) (by decide +kernel), List.mem_of_getElem? (i := 45) (by decide +kernel)⟩
theorem lw_p3 : lw_okq (⟨"KinNumbers$Pedigree", "reckonOrder", "()V"⟩, 10) := ⟨⟨by decide +kernel, by decide +kernel⟩, List.mem_of_getElem? (i := 23) (by decide +kernel), List.mem_of_getElem? (i := 49) (by decide +kernel), List.mem_of_getElem? (i := 50) (by decide +kernel)⟩
theorem lw_p4 : lw_okq (⟨"KinNumbers$Pedigree", "reckonForbears", "(I)V"⟩, 10) := ⟨⟨by decide +kernel, by decide +kernel⟩, List.mem_of_getElem? (i := 23) (by decide +kernel), List.mem_of_getElem? (i := 57) (by decide +kernel), List.mem_of_getElem? (i := 58) (by decide +kernel)⟩
theorem lw_p5 : lw_okq (⟨"KinNumbers$Pedigree", "lineOf", "(I)I"⟩, 10) := ⟨⟨by decide +kernel, by decide +kernel⟩, List.mem_of_getElem? (i := 23) (by decide +kernel), List.mem_of_getElem? (i := 61) (by decide +kernel), List.mem_of_getElem? (i := 62) (by decide +kernel)⟩
theorem lw_p6 : lw_okq (⟨"KinNumbers$Pedigree", "reckonKin", "(I)V"⟩, 10) := ⟨⟨by decide +kernel, by decide +kernel⟩, List.mem_of_getElem? (i := 23) (by decide +kernel), List.mem_of_getElem? (i := 68) (by decide +kernel), List.mem_of_getElem? (i := 69) (by decide +kernel)⟩
theorem lw_p7 : lw_okq (⟨"KinNumbers$Pedigree", "setKin", "(IIJ)V"⟩, 10) := ⟨⟨by decide +kernel, by decide +kernel⟩, List.mem_of_getElem? (i := 23) (by decide +kernel), List.mem_of_getElem? (i := 85) (by decide +kernel), List.mem_of_getElem? (i := 86) (by decide +kernel)⟩
theorem lw_p8 : lw_okq (⟨"KinNumbers", "isAnimal", "(I)Z"⟩, 6) := ⟨⟨by decide +kernel, by decide +kernel⟩, List.mem_of_getElem? (i := 9) (by decide +kernel), List.mem_of_getElem? (i := 166) (by decide +kernel), List.mem_of_getElem? (i := 167) (by decide +kernel)⟩
theorem lw_p9 : lw_okq (⟨"KinNumbers", "isAnimalOrNone", "(I)Z"⟩, 6) := ⟨⟨by decide +kernel, by decide +kernel⟩, List.mem_of_getElem? (i := 9) (by decide +kernel), List.mem_of_getElem? (i := 170) (by decide +kernel), List.mem_of_getElem? (i := 171) (by decide +kernel)⟩
theorem lw_p10 : lw_okq (⟨"KinNumbers$Pedigree", "leadsTo", "(II)Z"⟩, 10) := ⟨⟨by decide +kernel, by decide +kernel⟩, List.mem_of_getElem? (i := 23) (by decide +kernel), List.mem_of_getElem? (i := 178) (by decide +kernel), List.mem_of_getElem? (i := 179) (by decide +kernel)⟩
theorem lw_p11 : lw_okq (⟨"KinNumbers", "mayBeParents", "(III)Z"⟩, 6) := ⟨⟨by decide +kernel, by decide +kernel⟩, List.mem_of_getElem? (i := 9) (by decide +kernel), List.mem_of_getElem? (i := 190) (by decide +kernel), List.mem_of_getElem? (i := 191) (by decide +kernel)⟩
theorem lw_p12 : lw_okq (⟨"KinNumbers", "mayBeParent", "(III)Z"⟩, 6) := ⟨⟨by decide +kernel, by decide +kernel⟩, List.mem_of_getElem? (i := 9) (by decide +kernel), List.mem_of_getElem? (i := 194) (by decide +kernel), List.mem_of_getElem? (i := 195) (by decide +kernel)⟩
theorem lw_p13 : lw_okq (⟨"KinNumbers", "areSexesAndDaysRight", "()Z"⟩, 6) := ⟨⟨by decide +kernel, by decide +kernel⟩, List.mem_of_getElem? (i := 9) (by decide +kernel), List.mem_of_getElem? (i := 215) (by decide +kernel), List.mem_of_getElem? (i := 216) (by decide +kernel)⟩
theorem lw_p14 : lw_okq (⟨"KinNumbers$Pedigree", "settledBy", "(I)J"⟩, 10) := ⟨⟨by decide +kernel, by decide +kernel⟩, List.mem_of_getElem? (i := 23) (by decide +kernel), List.mem_of_getElem? (i := 258) (by decide +kernel), List.mem_of_getElem? (i := 259) (by decide +kernel)⟩
theorem lw_p15 : lw_okq (⟨"KinNumbers$Pedigree", "shareRow", "(I)J"⟩, 10) := ⟨⟨by decide +kernel, by decide +kernel⟩, List.mem_of_getElem? (i := 23) (by decide +kernel), List.mem_of_getElem? (i := 276) (by decide +kernel), List.mem_of_getElem? (i := 277) (by decide +kernel)⟩
def lw_privs_1 : List (MethodName × Nat) := [(⟨"KinNumbers$Pedigree", "reckon", "()V"⟩, 10), (⟨"KinNumbers$Pedigree", "reckonSteps", "()V"⟩, 10), (⟨"KinNumbers$Pedigree", "has", "(I)Z"⟩, 10), (⟨"KinNumbers$Pedigree", "reckonOrder", "()V"⟩, 10), (⟨"KinNumbers$Pedigree", "reckonForbears", "(I)V"⟩, 10), (⟨"KinNumbers$Pedigree", "lineOf", "(I)I"⟩, 10), (⟨"KinNumbers$Pedigree", "reckonKin", "(I)V"⟩, 10), (⟨"KinNumbers$Pedigree", "setKin", "(IIJ)V"⟩, 10), (⟨"KinNumbers", "isAnimal", "(I)Z"⟩, 6), (⟨"KinNumbers", "isAnimalOrNone", "(I)Z"⟩, 6), (⟨"KinNumbers$Pedigree", "leadsTo", "(II)Z"⟩, 10), (⟨"KinNumbers", "mayBeParents", "(III)Z"⟩, 6), (⟨"KinNumbers", "mayBeParent", "(III)Z"⟩, 6), (⟨"KinNumbers", "areSexesAndDaysRight", "()Z"⟩, 6), (⟨"KinNumbers$Pedigree", "settledBy", "(I)J"⟩, 10), (⟨"KinNumbers$Pedigree", "shareRow", "(I)J"⟩, 10)]
theorem lw_r1 : ∀ q ∈ lw_privs_1, lw_okq q := List.forall_mem_cons.mpr ⟨lw_p0, List.forall_mem_cons.mpr ⟨lw_p1, List.forall_mem_cons.mpr ⟨lw_p2, List.forall_mem_cons.mpr ⟨lw_p3, List.forall_mem_cons.mpr ⟨lw_p4, List.forall_mem_cons.mpr ⟨lw_p5, List.forall_mem_cons.mpr ⟨lw_p6, List.forall_mem_cons.mpr ⟨lw_p7, List.forall_mem_cons.mpr ⟨lw_p8, List.forall_mem_cons.mpr ⟨lw_p9, List.forall_mem_cons.mpr ⟨lw_p10, List.forall_mem_cons.mpr ⟨lw_p11, List.forall_mem_cons.mpr ⟨lw_p12, List.forall_mem_cons.mpr ⟨lw_p13, List.forall_mem_cons.mpr ⟨lw_p14, List.forall_mem_cons.mpr ⟨lw_p15, fun _ h => absurd h List.not_mem_nil⟩⟩⟩⟩⟩⟩⟩⟩⟩⟩⟩⟩⟩⟩⟩⟩
theorem lw_p16 : lw_okq (⟨"KinNumbers$Marks", "has", "(II)Z"⟩, 2) := ⟨⟨by decide +kernel, by decide +kernel⟩, List.mem_of_getElem? (i := 124) (by decide +kernel), List.mem_of_getElem? (i := 298) (by decide +kernel), List.mem_of_getElem? (i := 299) (by decide +kernel)⟩
theorem lw_p17 : lw_okq (⟨"KinNumbers$Marks", "isKnownOfBoth", "(III)Z"⟩, 2) := ⟨⟨by decide +kernel, by decide +kernel⟩, List.mem_of_getElem? (i := 124) (by decide +kernel), List.mem_of_getElem? (i := 310) (by decide +kernel), List.mem_of_getElem? (i := 311) (by decide +kernel)⟩
theorem lw_p18 : lw_okq (⟨"KinNumbers$Marks", "formOf", "(II)I"⟩, 2) := ⟨⟨by decide +kernel, by decide +kernel⟩, List.mem_of_getElem? (i := 124) (by decide +kernel), List.mem_of_getElem? (i := 314) (by decide +kernel), List.mem_of_getElem? (i := 315) (by decide +kernel)⟩
theorem lw_p19 : lw_okq (⟨"KinNumbers$Marks", "difference", "(III)I"⟩, 2) := ⟨⟨by decide +kernel, by decide +kernel⟩, List.mem_of_getElem? (i := 124) (by decide +kernel), List.mem_of_getElem? (i := 318) (by decide +kernel), List.mem_of_getElem? (i := 319) (by decide +kernel)⟩
theorem lw_p20 : lw_okq (⟨"KinNumbers$Marks", "knownForms", "(I)I"⟩, 2) := ⟨⟨by decide +kernel, by decide +kernel⟩, List.mem_of_getElem? (i := 124) (by decide +kernel), List.mem_of_getElem? (i := 334) (by decide +kernel), List.mem_of_getElem? (i := 335) (by decide +kernel)⟩
theorem lw_p21 : lw_okq (⟨"KinNumbers$Marks", "lettersB", "(I)I"⟩, 2) := ⟨⟨by decide +kernel, by decide +kernel⟩, List.mem_of_getElem? (i := 124) (by decide +kernel), List.mem_of_getElem? (i := 338) (by decide +kernel), List.mem_of_getElem? (i := 339) (by decide +kernel)⟩
theorem lw_p22 : lw_okq (⟨"KinNumbers", "isLost", "(I)Z"⟩, 6) := ⟨⟨by decide +kernel, by decide +kernel⟩, List.mem_of_getElem? (i := 9) (by decide +kernel), List.mem_of_getElem? (i := 363) (by decide +kernel), List.mem_of_getElem? (i := 364) (by decide +kernel)⟩
theorem lw_p23 : lw_okq (⟨"KinNumbers", "kinWithLiving", "(I)J"⟩, 6) := ⟨⟨by decide +kernel, by decide +kernel⟩, List.mem_of_getElem? (i := 9) (by decide +kernel), List.mem_of_getElem? (i := 371) (by decide +kernel), List.mem_of_getElem? (i := 372) (by decide +kernel)⟩
theorem lw_p24 : lw_okq (⟨"KinNumbersModel", "is", "(I)Z"⟩, 13) := ⟨⟨by decide +kernel, by decide +kernel⟩, List.mem_of_getElem? (i := 383) (by decide +kernel), List.mem_of_getElem? (i := 433) (by decide +kernel), List.mem_of_getElem? (i := 434) (by decide +kernel)⟩
theorem lw_p25 : lw_okq (⟨"KinNumbersModel", "isOrNone", "(I)Z"⟩, 13) := ⟨⟨by decide +kernel, by decide +kernel⟩, List.mem_of_getElem? (i := 383) (by decide +kernel), List.mem_of_getElem? (i := 437) (by decide +kernel), List.mem_of_getElem? (i := 438) (by decide +kernel)⟩
theorem lw_p26 : lw_okq (⟨"KinNumbersModel", "find", "()V"⟩, 13) := ⟨⟨by decide +kernel, by decide +kernel⟩, List.mem_of_getElem? (i := 383) (by decide +kernel), List.mem_of_getElem? (i := 441) (by decide +kernel), List.mem_of_getElem? (i := 442) (by decide +kernel)⟩
theorem lw_p27 : lw_okq (⟨"KinNumbersModel", "leads", "(II)I"⟩, 13) := ⟨⟨by decide +kernel, by decide +kernel⟩, List.mem_of_getElem? (i := 383) (by decide +kernel), List.mem_of_getElem? (i := 445) (by decide +kernel), List.mem_of_getElem? (i := 446) (by decide +kernel)⟩
theorem lw_p28 : lw_okq (⟨"KinNumbersModel", "tellRing", "(II)V"⟩, 13) := ⟨⟨by decide +kernel, by decide +kernel⟩, List.mem_of_getElem? (i := 383) (by decide +kernel), List.mem_of_getElem? (i := 449) (by decide +kernel), List.mem_of_getElem? (i := 450) (by decide +kernel)⟩
theorem lw_p29 : lw_okq (⟨"KinNumbersModel", "isOlder", "(II)Z"⟩, 13) := ⟨⟨by decide +kernel, by decide +kernel⟩, List.mem_of_getElem? (i := 383) (by decide +kernel), List.mem_of_getElem? (i := 453) (by decide +kernel), List.mem_of_getElem? (i := 454) (by decide +kernel)⟩
theorem lw_p30 : lw_okq (⟨"KinNumbersModel", "findKin", "()V"⟩, 13) := ⟨⟨by decide +kernel, by decide +kernel⟩, List.mem_of_getElem? (i := 383) (by decide +kernel), List.mem_of_getElem? (i := 478) (by decide +kernel), List.mem_of_getElem? (i := 479) (by decide +kernel)⟩
theorem lw_p31 : lw_okq (⟨"KinNumbersModel", "kinOf", "(II)J"⟩, 13) := ⟨⟨by decide +kernel, by decide +kernel⟩, List.mem_of_getElem? (i := 383) (by decide +kernel), List.mem_of_getElem? (i := 482) (by decide +kernel), List.mem_of_getElem? (i := 483) (by decide +kernel)⟩
def lw_privs_2 : List (MethodName × Nat) := [(⟨"KinNumbers$Marks", "has", "(II)Z"⟩, 2), (⟨"KinNumbers$Marks", "isKnownOfBoth", "(III)Z"⟩, 2), (⟨"KinNumbers$Marks", "formOf", "(II)I"⟩, 2), (⟨"KinNumbers$Marks", "difference", "(III)I"⟩, 2), (⟨"KinNumbers$Marks", "knownForms", "(I)I"⟩, 2), (⟨"KinNumbers$Marks", "lettersB", "(I)I"⟩, 2), (⟨"KinNumbers", "isLost", "(I)Z"⟩, 6), (⟨"KinNumbers", "kinWithLiving", "(I)J"⟩, 6), (⟨"KinNumbersModel", "is", "(I)Z"⟩, 13), (⟨"KinNumbersModel", "isOrNone", "(I)Z"⟩, 13), (⟨"KinNumbersModel", "find", "()V"⟩, 13), (⟨"KinNumbersModel", "leads", "(II)I"⟩, 13), (⟨"KinNumbersModel", "tellRing", "(II)V"⟩, 13), (⟨"KinNumbersModel", "isOlder", "(II)Z"⟩, 13), (⟨"KinNumbersModel", "findKin", "()V"⟩, 13), (⟨"KinNumbersModel", "kinOf", "(II)J"⟩, 13)]
theorem lw_r2 : ∀ q ∈ lw_privs_2, lw_okq q := List.forall_mem_cons.mpr ⟨lw_p16, List.forall_mem_cons.mpr ⟨lw_p17, List.forall_mem_cons.mpr ⟨lw_p18, List.forall_mem_cons.mpr ⟨lw_p19, List.forall_mem_cons.mpr ⟨lw_p20, List.forall_mem_cons.mpr ⟨lw_p21, List.forall_mem_cons.mpr ⟨lw_p22, List.forall_mem_cons.mpr ⟨lw_p23, List.forall_mem_cons.mpr ⟨lw_p24, List.forall_mem_cons.mpr ⟨lw_p25, List.forall_mem_cons.mpr ⟨lw_p26, List.forall_mem_cons.mpr ⟨lw_p27, List.forall_mem_cons.mpr ⟨lw_p28, List.forall_mem_cons.mpr ⟨lw_p29, List.forall_mem_cons.mpr ⟨lw_p30, List.forall_mem_cons.mpr ⟨lw_p31, fun _ h => absurd h List.not_mem_nil⟩⟩⟩⟩⟩⟩⟩⟩⟩⟩⟩⟩⟩⟩⟩⟩
theorem lw_p32 : lw_okq (⟨"KinNumbersModel", "inbredOf", "(I)J"⟩, 13) := ⟨⟨by decide +kernel, by decide +kernel⟩, List.mem_of_getElem? (i := 383) (by decide +kernel), List.mem_of_getElem? (i := 495) (by decide +kernel), List.mem_of_getElem? (i := 496) (by decide +kernel)⟩
theorem lw_p33 : lw_okq (⟨"KinNumbersModel", "isFounder", "(I)Z"⟩, 13) := ⟨⟨by decide +kernel, by decide +kernel⟩, List.mem_of_getElem? (i := 383) (by decide +kernel), List.mem_of_getElem? (i := 508) (by decide +kernel), List.mem_of_getElem? (i := 509) (by decide +kernel)⟩
theorem lw_p34 : lw_okq (⟨"KinNumbersModel", "isLeftOut", "(II)Z"⟩, 13) := ⟨⟨by decide +kernel, by decide +kernel⟩, List.mem_of_getElem? (i := 383) (by decide +kernel), List.mem_of_getElem? (i := 528) (by decide +kernel), List.mem_of_getElem? (i := 529) (by decide +kernel)⟩
def lw_privs_3 : List (MethodName × Nat) := [(⟨"KinNumbersModel", "inbredOf", "(I)J"⟩, 13), (⟨"KinNumbersModel", "isFounder", "(I)Z"⟩, 13), (⟨"KinNumbersModel", "isLeftOut", "(II)Z"⟩, 13)]
theorem lw_r3 : ∀ q ∈ lw_privs_3, lw_okq q := List.forall_mem_cons.mpr ⟨lw_p32, List.forall_mem_cons.mpr ⟨lw_p33, List.forall_mem_cons.mpr ⟨lw_p34, fun _ h => absurd h List.not_mem_nil⟩⟩⟩
def lw_privs : List (MethodName × Nat) := lw_privs_1 ++ (lw_privs_2 ++ (lw_privs_3))
def lw_tbl : List Cond := k2_sels lw_privs ++ tables_1
theorem lw_privs_ok : ∀ q ∈ lw_privs, lw_okq q := by
  show ∀ q ∈ lw_privs_1 ++ (lw_privs_2 ++ (lw_privs_3)), lw_okq q
  exact List.forall_mem_append.mpr ⟨lw_r1, List.forall_mem_append.mpr ⟨lw_r2, lw_r3⟩⟩

theorem um0 {w : Cond} (h : w ∈ k2_sels lw_privs) : w ∈ lw_tbl := List.mem_append_left _ h
theorem um1 {w : Cond} (h : w ∈ tables_1_1) : w ∈ lw_tbl := List.mem_append_right _ (List.mem_append_left _ h)
theorem um2 {w : Cond} (h : w ∈ tables_1_2) : w ∈ lw_tbl := List.mem_append_right _ (List.mem_append_right _ (List.mem_append_left _ h))
theorem um3 {w : Cond} (h : w ∈ tables_1_3) : w ∈ lw_tbl := List.mem_append_right _ (List.mem_append_right _ (List.mem_append_right _ h))
def uT : List Cond := lw_tbl.filter goodWord
theorem uk {w : Cond} (h : w ∈ lw_tbl) (hg : goodWord w = true) : w ∈ uT := List.mem_filter.mpr ⟨h, hg⟩
theorem uw_good : ∀ w ∈ uT, ((w.onTables && w.keeps) = true ∨ ∃ ty, w = .arrayClass ty) := fun w h => good_of_word (List.mem_filter.mp h).2
def RK : String := "KinNumbers"
def RP : String := "KinNumbers$Pedigree"
def RM : String := "KinNumbers$Marks"
def RF : String := "KinNumbers$Fraction"
def RR : String := "KinNumbersModel"
def RL : String := "KinNumbersLaw"
def RJ : String := "java/lang/Math"
def RA : String := "java/util/Arrays"
def RO : String := "java/lang/Object"
def TK : u_T := fun k => match k with
  | 0 => ("KinNumbers", "pedigree", "LKinNumbers$Pedigree;", true)
  | 1 => ("KinNumbers", "marks", "LKinNumbers$Marks;", true)
  | 2 => ("KinNumbers", "count", "I", true)
  | 3 => ("KinNumbers", "sexes", "[I", true)
  | 4 => ("KinNumbers", "days", "[I", true)
  | _ => ("KinNumbers", "dead", "[Z", true)
def tyK : Nat → FieldType := fun k => match k with
  | 0 => .object "KinNumbers$Pedigree"
  | 1 => .object "KinNumbers$Marks"
  | 2 => .int
  | 3 => .array .int
  | 4 => .array .int
  | _ => .array .boolean
theorem nmK : ∀ a, a < 6 → ∀ b, b < 6 → a ≠ b → (TK a).2.1 ≠ (TK b).2.1 := by decide +kernel
theorem tyK_ok : ∀ k, k < 6 → parseFieldDescriptor (TK k).2.2.1 = some (tyK k) := by decide +kernel
theorem hinK : ∀ w ∈ u_ws RK TK 6, w ∈ uT := by decide +kernel
def TP : u_T := fun k => match k with
  | 0 => ("KinNumbers$Pedigree", "count", "I", true)
  | 1 => ("KinNumbers$Pedigree", "mothers", "[I", true)
  | 2 => ("KinNumbers$Pedigree", "fathers", "[I", true)
  | 3 => ("KinNumbers$Pedigree", "steps", "[I", true)
  | 4 => ("KinNumbers$Pedigree", "sequence", "[I", true)
  | 5 => ("KinNumbers$Pedigree", "forbears", "[I", true)
  | 6 => ("KinNumbers$Pedigree", "kinTable", "[J", true)
  | 7 => ("KinNumbers$Pedigree", "shares", "[J", true)
  | 8 => ("KinNumbers$Pedigree", "ringRows", "[I", true)
  | _ => ("KinNumbers$Pedigree", "ringLength", "I", false)
def tyP : Nat → FieldType := fun k => match k with
  | 0 => .int
  | 1 => .array .int
  | 2 => .array .int
  | 3 => .array .int
  | 4 => .array .int
  | 5 => .array .int
  | 6 => .array .long
  | 7 => .array .long
  | 8 => .array .int
  | _ => .int
theorem nmP : ∀ a, a < 10 → ∀ b, b < 10 → a ≠ b → (TP a).2.1 ≠ (TP b).2.1 := by decide +kernel
theorem tyP_ok : ∀ k, k < 10 → parseFieldDescriptor (TP k).2.2.1 = some (tyP k) := by decide +kernel
theorem hinP : ∀ w ∈ u_ws RP TP 10, w ∈ uT := by decide +kernel
def TM : u_T := fun k => match k with
  | 0 => ("KinNumbers$Marks", "count", "I", true)
  | _ => ("KinNumbers$Marks", "forms", "[I", true)
def tyM : Nat → FieldType := fun k => match k with
  | 0 => .int
  | _ => .array .int
theorem nmM : ∀ a, a < 2 → ∀ b, b < 2 → a ≠ b → (TM a).2.1 ≠ (TM b).2.1 := by decide +kernel
theorem tyM_ok : ∀ k, k < 2 → parseFieldDescriptor (TM k).2.2.1 = some (tyM k) := by decide +kernel
theorem hinM : ∀ w ∈ u_ws RM TM 2, w ∈ uT := by decide +kernel
def TR : u_T := fun k => match k with
  | 0 => ("KinNumbersModel", "n", "I", true)
  | 1 => ("KinNumbersModel", "mother", "[I", true)
  | 2 => ("KinNumbersModel", "father", "[I", true)
  | 3 => ("KinNumbersModel", "sex", "[I", true)
  | 4 => ("KinNumbersModel", "day", "[I", true)
  | 5 => ("KinNumbersModel", "gone", "[Z", true)
  | 6 => ("KinNumbersModel", "form", "[I", true)
  | 7 => ("KinNumbersModel", "rings", "I", false)
  | 8 => ("KinNumbersModel", "ring", "[I", true)
  | 9 => ("KinNumbersModel", "above", "[Z", true)
  | 10 => ("KinNumbersModel", "steps", "[I", true)
  | 11 => ("KinNumbersModel", "row", "[I", true)
  | _ => ("KinNumbersModel", "kin", "[J", true)
def tyR : Nat → FieldType := fun k => match k with
  | 0 => .int
  | 1 => .array .int
  | 2 => .array .int
  | 3 => .array .int
  | 4 => .array .int
  | 5 => .array .boolean
  | 6 => .array .int
  | 7 => .int
  | 8 => .array .int
  | 9 => .array .boolean
  | 10 => .array .int
  | 11 => .array .int
  | _ => .array .long
theorem nmR : ∀ a, a < 13 → ∀ b, b < 13 → a ≠ b → (TR a).2.1 ≠ (TR b).2.1 := by decide +kernel
theorem tyR_ok : ∀ k, k < 13 → parseFieldDescriptor (TR k).2.2.1 = some (tyR k) := by decide +kernel
theorem hinR : ∀ w ∈ u_ws RR TR 13, w ∈ uT := by decide +kernel
abbrev vwCl : List vw_C := [(RK, TK, 6), (RP, TP, 10), (RM, TM, 2), (RR, TR, 13)]
abbrev cK_init : ByteArray := prog_1_method_1_code
def yK_init : MethodName := ⟨RK, "<init>", "(I)V"⟩
theorem ucK_init : Cond.code yK_init cK_init 2 none ∈ uT := uk (um1 (List.mem_of_getElem? (i := 12) rfl)) rfl
def wsK_init : List Cond := Cond.code yK_init cK_init 2 none :: uT
abbrev cO_init : ByteArray := object_method_1_code
def yO_init : MethodName := ⟨RO, "<init>", "()V"⟩
theorem ucO_init : Cond.code yO_init cO_init 1 none ∈ uT := uk (um1 (List.mem_of_getElem? (i := 15) rfl)) rfl
def wsO_init : List Cond := Cond.code yO_init cO_init 1 none :: uT
abbrev yJ_min : MethodName := Lib.Math.min.name
theorem ucJ_min : Cond.code Lib.Math.min.name Lib.Math.min.code 2 (some .int) ∈ uT := uk (um1 (List.mem_of_getElem? (i := 18) rfl)) rfl
abbrev yJ_max : MethodName := Lib.Math.max.name
theorem ucJ_max : Cond.code Lib.Math.max.name Lib.Math.max.code 2 (some .int) ∈ uT := uk (um1 (List.mem_of_getElem? (i := 21) rfl)) rfl
abbrev cP_init : ByteArray := prog_4_method_1_code
def yP_init : MethodName := ⟨RP, "<init>", "(I)V"⟩
theorem ucP_init : Cond.code yP_init cP_init 2 none ∈ uT := uk (um1 (List.mem_of_getElem? (i := 26) rfl)) rfl
def wsP_init : List Cond := Cond.code yP_init cP_init 2 none :: uT
abbrev cA_fill : ByteArray := prog_8_method_103_code
def yA_fill : MethodName := ⟨RA, "fill", "([II)V"⟩
theorem ucA_fill : Cond.code yA_fill cA_fill 4 none ∈ uT := uk (um1 (List.mem_of_getElem? (i := 30) rfl)) rfl
def wsA_fill : List Cond := Cond.code yA_fill cA_fill 4 none :: uT
abbrev cP_reckon : ByteArray := prog_4_method_22_code
def yP_reckon : MethodName := ⟨RP, "reckon", "()V"⟩
theorem ucP_reckon : Cond.code yP_reckon cP_reckon 2 none ∈ uT := uk (um1 (List.mem_of_getElem? (i := 34) rfl)) rfl
def wsP_reckon : List Cond := Cond.code yP_reckon cP_reckon 2 none :: uT
abbrev cP_reckonSteps : ByteArray := prog_4_method_23_code
def yP_reckonSteps : MethodName := ⟨RP, "reckonSteps", "()V"⟩
theorem ucP_reckonSteps : Cond.code yP_reckonSteps cP_reckonSteps 5 none ∈ uT := uk (um1 (List.mem_of_getElem? (i := 38) rfl)) rfl
def wsP_reckonSteps : List Cond := Cond.code yP_reckonSteps cP_reckonSteps 5 none :: uT
abbrev cP_stepsOf : ByteArray := prog_4_method_4_code
def yP_stepsOf : MethodName := ⟨RP, "stepsOf", "(I)I"⟩
theorem ucP_stepsOf : Cond.code yP_stepsOf cP_stepsOf 2 (some .int) ∈ uT := uk (um1 (List.mem_of_getElem? (i := 42) rfl)) rfl
def wsP_stepsOf : List Cond := Cond.code yP_stepsOf cP_stepsOf 2 (some .int) :: uT
abbrev cP_has : ByteArray := prog_4_method_17_code
def yP_has : MethodName := ⟨RP, "has", "(I)Z"⟩
theorem ucP_has : Cond.code yP_has cP_has 2 (some .boolean) ∈ uT := uk (um1 (List.mem_of_getElem? (i := 46) rfl)) rfl
def wsP_has : List Cond := Cond.code yP_has cP_has 2 (some .boolean) :: uT
abbrev cP_reckonOrder : ByteArray := prog_4_method_24_code
def yP_reckonOrder : MethodName := ⟨RP, "reckonOrder", "()V"⟩
theorem ucP_reckonOrder : Cond.code yP_reckonOrder cP_reckonOrder 4 none ∈ uT := uk (um1 (List.mem_of_getElem? (i := 51) rfl)) rfl
def wsP_reckonOrder : List Cond := Cond.code yP_reckonOrder cP_reckonOrder 4 none :: uT
abbrev cP_inOrder : ByteArray := prog_4_method_5_code
def yP_inOrder : MethodName := ⟨RP, "inOrder", "(I)I"⟩
theorem ucP_inOrder : Cond.code yP_inOrder cP_inOrder 2 (some .int) ∈ uT := uk (um1 (List.mem_of_getElem? (i := 55) rfl)) rfl
def wsP_inOrder : List Cond := Cond.code yP_inOrder cP_inOrder 2 (some .int) :: uT
abbrev cP_reckonForbears : ByteArray := prog_4_method_25_code
def yP_reckonForbears : MethodName := ⟨RP, "reckonForbears", "(I)V"⟩
theorem ucP_reckonForbears : Cond.code yP_reckonForbears cP_reckonForbears 2 none ∈ uT := uk (um1 (List.mem_of_getElem? (i := 59) rfl)) rfl
def wsP_reckonForbears : List Cond := Cond.code yP_reckonForbears cP_reckonForbears 2 none :: uT
abbrev cP_lineOf : ByteArray := prog_4_method_26_code
def yP_lineOf : MethodName := ⟨RP, "lineOf", "(I)I"⟩
theorem ucP_lineOf : Cond.code yP_lineOf cP_lineOf 2 (some .int) ∈ uT := uk (um1 (List.mem_of_getElem? (i := 63) rfl)) rfl
def wsP_lineOf : List Cond := Cond.code yP_lineOf cP_lineOf 2 (some .int) :: uT
abbrev cP_bitOf : ByteArray := prog_4_method_18_code
def yP_bitOf : MethodName := ⟨RP, "bitOf", "(I)I"⟩
theorem ucP_bitOf : Cond.code yP_bitOf cP_bitOf 1 (some .int) ∈ uT := uk (um1 (List.mem_of_getElem? (i := 66) rfl)) rfl
def wsP_bitOf : List Cond := Cond.code yP_bitOf cP_bitOf 1 (some .int) :: uT
abbrev cP_reckonKin : ByteArray := prog_4_method_27_code
def yP_reckonKin : MethodName := ⟨RP, "reckonKin", "(I)V"⟩
theorem ucP_reckonKin : Cond.code yP_reckonKin cP_reckonKin 7 none ∈ uT := uk (um1 (List.mem_of_getElem? (i := 70) rfl)) rfl
def wsP_reckonKin : List Cond := Cond.code yP_reckonKin cP_reckonKin 7 none :: uT
abbrev cP_motherOf : ByteArray := prog_4_method_2_code
def yP_motherOf : MethodName := ⟨RP, "motherOf", "(I)I"⟩
theorem ucP_motherOf : Cond.code yP_motherOf cP_motherOf 2 (some .int) ∈ uT := uk (um1 (List.mem_of_getElem? (i := 74) rfl)) rfl
def wsP_motherOf : List Cond := Cond.code yP_motherOf cP_motherOf 2 (some .int) :: uT
abbrev cP_fatherOf : ByteArray := prog_4_method_3_code
def yP_fatherOf : MethodName := ⟨RP, "fatherOf", "(I)I"⟩
theorem ucP_fatherOf : Cond.code yP_fatherOf cP_fatherOf 2 (some .int) ∈ uT := uk (um1 (List.mem_of_getElem? (i := 78) rfl)) rfl
def wsP_fatherOf : List Cond := Cond.code yP_fatherOf cP_fatherOf 2 (some .int) :: uT
abbrev cP_kinOf : ByteArray := prog_4_method_8_code
def yP_kinOf : MethodName := ⟨RP, "kinOf", "(II)J"⟩
theorem ucP_kinOf : Cond.code yP_kinOf cP_kinOf 3 (some .long) ∈ uT := uk (um1 (List.mem_of_getElem? (i := 82) rfl)) rfl
def wsP_kinOf : List Cond := Cond.code yP_kinOf cP_kinOf 3 (some .long) :: uT
abbrev cP_setKin : ByteArray := prog_4_method_28_code
def yP_setKin : MethodName := ⟨RP, "setKin", "(IIJ)V"⟩
theorem ucP_setKin : Cond.code yP_setKin cP_setKin 5 none ∈ uT := uk (um1 (List.mem_of_getElem? (i := 87) rfl)) rfl
def wsP_setKin : List Cond := Cond.code yP_setKin cP_setKin 5 none :: uT
abbrev cM_init : ByteArray := prog_3_method_1_code
def yM_init : MethodName := ⟨RM, "<init>", "(I)V"⟩
theorem ucM_init : Cond.code yM_init cM_init 2 none ∈ uT := uk (um1 (List.mem_of_getElem? (i := 127) rfl)) rfl
def wsM_init : List Cond := Cond.code yM_init cM_init 2 none :: uT
abbrev cK_parents : ByteArray := prog_1_method_2_code
def yK_parents : MethodName := ⟨RK, "parents", "(III)Z"⟩
theorem ucK_parents : Cond.code yK_parents cK_parents 4 (some .boolean) ∈ uT := uk (um1 (List.mem_of_getElem? (i := 160) rfl)) rfl
def wsK_parents : List Cond := Cond.code yK_parents cK_parents 4 (some .boolean) :: uT
abbrev cP_forgetRing : ByteArray := prog_4_method_14_code
def yP_forgetRing : MethodName := ⟨RP, "forgetRing", "()V"⟩
theorem ucP_forgetRing : Cond.code yP_forgetRing cP_forgetRing 1 none ∈ uT := uk (um1 (List.mem_of_getElem? (i := 164) rfl)) rfl
def wsP_forgetRing : List Cond := Cond.code yP_forgetRing cP_forgetRing 1 none :: uT
abbrev cK_isAnimal : ByteArray := prog_1_method_19_code
def yK_isAnimal : MethodName := ⟨RK, "isAnimal", "(I)Z"⟩
theorem ucK_isAnimal : Cond.code yK_isAnimal cK_isAnimal 2 (some .boolean) ∈ uT := uk (um1 (List.mem_of_getElem? (i := 168) rfl)) rfl
def wsK_isAnimal : List Cond := Cond.code yK_isAnimal cK_isAnimal 2 (some .boolean) :: uT
abbrev cK_isAnimalOrNone : ByteArray := prog_1_method_20_code
def yK_isAnimalOrNone : MethodName := ⟨RK, "isAnimalOrNone", "(I)Z"⟩
theorem ucK_isAnimalOrNone : Cond.code yK_isAnimalOrNone cK_isAnimalOrNone 2 (some .boolean) ∈ uT := uk (um1 (List.mem_of_getElem? (i := 172) rfl)) rfl
def wsK_isAnimalOrNone : List Cond := Cond.code yK_isAnimalOrNone cK_isAnimalOrNone 2 (some .boolean) :: uT
abbrev cP_wouldClose : ByteArray := prog_4_method_12_code
def yP_wouldClose : MethodName := ⟨RP, "wouldClose", "(III)Z"⟩
theorem ucP_wouldClose : Cond.code yP_wouldClose cP_wouldClose 4 (some .boolean) ∈ uT := uk (um1 (List.mem_of_getElem? (i := 176) rfl)) rfl
def wsP_wouldClose : List Cond := Cond.code yP_wouldClose cP_wouldClose 4 (some .boolean) :: uT
abbrev cP_leadsTo : ByteArray := prog_4_method_19_code
def yP_leadsTo : MethodName := ⟨RP, "leadsTo", "(II)Z"⟩
theorem ucP_leadsTo : Cond.code yP_leadsTo cP_leadsTo 3 (some .boolean) ∈ uT := uk (um1 (List.mem_of_getElem? (i := 180) rfl)) rfl
def wsP_leadsTo : List Cond := Cond.code yP_leadsTo cP_leadsTo 3 (some .boolean) :: uT
abbrev cP_hasForbear : ByteArray := prog_4_method_7_code
def yP_hasForbear : MethodName := ⟨RP, "hasForbear", "(II)Z"⟩
theorem ucP_hasForbear : Cond.code yP_hasForbear cP_hasForbear 3 (some .boolean) ∈ uT := uk (um1 (List.mem_of_getElem? (i := 184) rfl)) rfl
def wsP_hasForbear : List Cond := Cond.code yP_hasForbear cP_hasForbear 3 (some .boolean) :: uT
abbrev cP_keepRing : ByteArray := prog_4_method_13_code
def yP_keepRing : MethodName := ⟨RP, "keepRing", "(III)V"⟩
theorem ucP_keepRing : Cond.code yP_keepRing cP_keepRing 6 none ∈ uT := uk (um1 (List.mem_of_getElem? (i := 188) rfl)) rfl
def wsP_keepRing : List Cond := Cond.code yP_keepRing cP_keepRing 6 none :: uT
abbrev cK_mayBeParents : ByteArray := prog_1_method_21_code
def yK_mayBeParents : MethodName := ⟨RK, "mayBeParents", "(III)Z"⟩
theorem ucK_mayBeParents : Cond.code yK_mayBeParents cK_mayBeParents 4 (some .boolean) ∈ uT := uk (um1 (List.mem_of_getElem? (i := 192) rfl)) rfl
def wsK_mayBeParents : List Cond := Cond.code yK_mayBeParents cK_mayBeParents 4 (some .boolean) :: uT
abbrev cK_mayBeParent : ByteArray := prog_1_method_22_code
def yK_mayBeParent : MethodName := ⟨RK, "mayBeParent", "(III)Z"⟩
theorem ucK_mayBeParent : Cond.code yK_mayBeParent cK_mayBeParent 4 (some .boolean) ∈ uT := uk (um1 (List.mem_of_getElem? (i := 196) rfl)) rfl
def wsK_mayBeParent : List Cond := Cond.code yK_mayBeParent cK_mayBeParent 4 (some .boolean) :: uT
abbrev cP_setParents : ByteArray := prog_4_method_16_code
def yP_setParents : MethodName := ⟨RP, "setParents", "(III)V"⟩
theorem ucP_setParents : Cond.code yP_setParents cP_setParents 4 none ∈ uT := uk (um1 (List.mem_of_getElem? (i := 200) rfl)) rfl
def wsP_setParents : List Cond := Cond.code yP_setParents cP_setParents 4 none :: uT
abbrev cK_ring : ByteArray := prog_1_method_3_code
def yK_ring : MethodName := ⟨RK, "ring", "(I)I"⟩
theorem ucK_ring : Cond.code yK_ring cK_ring 2 (some .int) ∈ uT := uk (um1 (List.mem_of_getElem? (i := 204) rfl)) rfl
def wsK_ring : List Cond := Cond.code yK_ring cK_ring 2 (some .int) :: uT
abbrev cP_ringAt : ByteArray := prog_4_method_15_code
def yP_ringAt : MethodName := ⟨RP, "ringAt", "(I)I"⟩
theorem ucP_ringAt : Cond.code yP_ringAt cP_ringAt 2 (some .int) ∈ uT := uk (um1 (List.mem_of_getElem? (i := 208) rfl)) rfl
def wsP_ringAt : List Cond := Cond.code yP_ringAt cP_ringAt 2 (some .int) :: uT
abbrev cK_told : ByteArray := prog_1_method_4_code
def yK_told : MethodName := ⟨RK, "told", "(III)Z"⟩
theorem ucK_told : Cond.code yK_told cK_told 6 (some .boolean) ∈ uT := uk (um1 (List.mem_of_getElem? (i := 212) rfl)) rfl
def wsK_told : List Cond := Cond.code yK_told cK_told 6 (some .boolean) :: uT
abbrev cK_areSexesAndDaysRight : ByteArray := prog_1_method_23_code
def yK_areSexesAndDaysRight : MethodName := ⟨RK, "areSexesAndDaysRight", "()Z"⟩
theorem ucK_areSexesAndDaysRight : Cond.code yK_areSexesAndDaysRight cK_areSexesAndDaysRight 2 (some .boolean) ∈ uT := uk (um1 (List.mem_of_getElem? (i := 217) rfl)) rfl
def wsK_areSexesAndDaysRight : List Cond := Cond.code yK_areSexesAndDaysRight cK_areSexesAndDaysRight 2 (some .boolean) :: uT
abbrev cK_lives : ByteArray := prog_1_method_5_code
def yK_lives : MethodName := ⟨RK, "lives", "(IZ)Z"⟩
theorem ucK_lives : Cond.code yK_lives cK_lives 3 (some .boolean) ∈ uT := uk (um1 (List.mem_of_getElem? (i := 223) rfl)) rfl
def wsK_lives : List Cond := Cond.code yK_lives cK_lives 3 (some .boolean) :: uT
abbrev cK_kin : ByteArray := prog_1_method_6_code
def yK_kin : MethodName := ⟨RK, "kin", "(III)J"⟩
theorem ucK_kin : Cond.code yK_kin cK_kin 4 (some .long) ∈ uT := uk (um1 (List.mem_of_getElem? (i := 227) rfl)) rfl
def wsK_kin : List Cond := Cond.code yK_kin cK_kin 4 (some .long) :: uT
abbrev cF_isPart : ByteArray := prog_2_method_2_code
def yF_isPart : MethodName := ⟨RF, "isPart", "(I)Z"⟩
theorem ucF_isPart : Cond.code yF_isPart cF_isPart 1 (some .boolean) ∈ uT := uk (um1 (List.mem_of_getElem? (i := 230) rfl)) rfl
def wsF_isPart : List Cond := Cond.code yF_isPart cF_isPart 1 (some .boolean) :: uT
abbrev cF_lowest : ByteArray := prog_2_method_3_code
def yF_lowest : MethodName := ⟨RF, "lowest", "(JJI)J"⟩
theorem ucF_lowest : Cond.code yF_lowest cF_lowest 7 (some .long) ∈ uT := uk (um1 (List.mem_of_getElem? (i := 236) rfl)) rfl
def wsF_lowest : List Cond := Cond.code yF_lowest cF_lowest 7 (some .long) :: uT
abbrev cF_commonDivisor : ByteArray := prog_2_method_4_code
def yF_commonDivisor : MethodName := ⟨RF, "commonDivisor", "(JJ)J"⟩
theorem ucF_commonDivisor : Cond.code yF_commonDivisor cF_commonDivisor 11 (some .long) ∈ uT := uk (um1 (List.mem_of_getElem? (i := 239) rfl)) rfl
def wsF_commonDivisor : List Cond := Cond.code yF_commonDivisor cF_commonDivisor 11 (some .long) :: uT
abbrev cK_inbred : ByteArray := prog_1_method_7_code
def yK_inbred : MethodName := ⟨RK, "inbred", "(II)J"⟩
theorem ucK_inbred : Cond.code yK_inbred cK_inbred 3 (some .long) ∈ uT := uk (um2 (List.mem_of_getElem? (i := 4) rfl)) rfl
def wsK_inbred : List Cond := Cond.code yK_inbred cK_inbred 3 (some .long) :: uT
abbrev cP_inbreedingOf : ByteArray := prog_4_method_9_code
def yP_inbreedingOf : MethodName := ⟨RP, "inbreedingOf", "(I)J"⟩
theorem ucP_inbreedingOf : Cond.code yP_inbreedingOf cP_inbreedingOf 2 (some .long) ∈ uT := uk (um2 (List.mem_of_getElem? (i := 8) rfl)) rfl
def wsP_inbreedingOf : List Cond := Cond.code yP_inbreedingOf cP_inbreedingOf 2 (some .long) :: uT
abbrev cK_chance : ByteArray := prog_1_method_8_code
def yK_chance : MethodName := ⟨RK, "chance", "(II)J"⟩
theorem ucK_chance : Cond.code yK_chance cK_chance 3 (some .long) ∈ uT := uk (um2 (List.mem_of_getElem? (i := 12) rfl)) rfl
def wsK_chance : List Cond := Cond.code yK_chance cK_chance 3 (some .long) :: uT
abbrev cP_chanceOf : ByteArray := prog_4_method_10_code
def yP_chanceOf : MethodName := ⟨RP, "chanceOf", "(I)J"⟩
theorem ucP_chanceOf : Cond.code yP_chanceOf cP_chanceOf 2 (some .long) ∈ uT := uk (um2 (List.mem_of_getElem? (i := 16) rfl)) rfl
def wsP_chanceOf : List Cond := Cond.code yP_chanceOf cP_chanceOf 2 (some .long) :: uT
abbrev cP_settledBy : ByteArray := prog_4_method_20_code
def yP_settledBy : MethodName := ⟨RP, "settledBy", "(I)J"⟩
theorem ucP_settledBy : Cond.code yP_settledBy cP_settledBy 2 (some .long) ∈ uT := uk (um2 (List.mem_of_getElem? (i := 20) rfl)) rfl
def wsP_settledBy : List Cond := Cond.code yP_settledBy cP_settledBy 2 (some .long) :: uT
abbrev cK_share : ByteArray := prog_1_method_9_code
def yK_share : MethodName := ⟨RK, "share", "(III)J"⟩
theorem ucK_share : Cond.code yK_share cK_share 4 (some .long) ∈ uT := uk (um2 (List.mem_of_getElem? (i := 26) rfl)) rfl
def wsK_share : List Cond := Cond.code yK_share cK_share 4 (some .long) :: uT
abbrev cP_isFounder : ByteArray := prog_4_method_6_code
def yP_isFounder : MethodName := ⟨RP, "isFounder", "(I)Z"⟩
theorem ucP_isFounder : Cond.code yP_isFounder cP_isFounder 2 (some .boolean) ∈ uT := uk (um2 (List.mem_of_getElem? (i := 30) rfl)) rfl
def wsP_isFounder : List Cond := Cond.code yP_isFounder cP_isFounder 2 (some .boolean) :: uT
abbrev cP_shareOf : ByteArray := prog_4_method_11_code
def yP_shareOf : MethodName := ⟨RP, "shareOf", "(II)J"⟩
theorem ucP_shareOf : Cond.code yP_shareOf cP_shareOf 5 (some .long) ∈ uT := uk (um2 (List.mem_of_getElem? (i := 34) rfl)) rfl
def wsP_shareOf : List Cond := Cond.code yP_shareOf cP_shareOf 5 (some .long) :: uT
abbrev cP_shareRow : ByteArray := prog_4_method_21_code
def yP_shareRow : MethodName := ⟨RP, "shareRow", "(I)J"⟩
theorem ucP_shareRow : Cond.code yP_shareRow cP_shareRow 2 (some .long) ∈ uT := uk (um2 (List.mem_of_getElem? (i := 38) rfl)) rfl
def wsP_shareRow : List Cond := Cond.code yP_shareRow cP_shareRow 2 (some .long) :: uT
abbrev cK_isForbear : ByteArray := prog_1_method_10_code
def yK_isForbear : MethodName := ⟨RK, "isForbear", "(II)Z"⟩
theorem ucK_isForbear : Cond.code yK_isForbear cK_isForbear 3 (some .boolean) ∈ uT := uk (um2 (List.mem_of_getElem? (i := 42) rfl)) rfl
def wsK_isForbear : List Cond := Cond.code yK_isForbear cK_isForbear 3 (some .boolean) :: uT
abbrev cK_order : ByteArray := prog_1_method_11_code
def yK_order : MethodName := ⟨RK, "order", "(I)I"⟩
theorem ucK_order : Cond.code yK_order cK_order 2 (some .int) ∈ uT := uk (um2 (List.mem_of_getElem? (i := 47) rfl)) rfl
def wsK_order : List Cond := Cond.code yK_order cK_order 2 (some .int) :: uT
abbrev cK_mark : ByteArray := prog_1_method_12_code
def yK_mark : MethodName := ⟨RK, "mark", "(III)Z"⟩
theorem ucK_mark : Cond.code yK_mark cK_mark 4 (some .boolean) ∈ uT := uk (um2 (List.mem_of_getElem? (i := 52) rfl)) rfl
def wsK_mark : List Cond := Cond.code yK_mark cK_mark 4 (some .boolean) :: uT
abbrev cM_setForm : ByteArray := prog_3_method_2_code
def yM_setForm : MethodName := ⟨RM, "setForm", "(III)Z"⟩
theorem ucM_setForm : Cond.code yM_setForm cM_setForm 4 (some .boolean) ∈ uT := uk (um2 (List.mem_of_getElem? (i := 56) rfl)) rfl
def wsM_setForm : List Cond := Cond.code yM_setForm cM_setForm 4 (some .boolean) :: uT
abbrev cM_has : ByteArray := prog_3_method_6_code
def yM_has : MethodName := ⟨RM, "has", "(II)Z"⟩
theorem ucM_has : Cond.code yM_has cM_has 3 (some .boolean) ∈ uT := uk (um2 (List.mem_of_getElem? (i := 60) rfl)) rfl
def wsM_has : List Cond := Cond.code yM_has cM_has 3 (some .boolean) :: uT
abbrev cK_left : ByteArray := prog_1_method_13_code
def yK_left : MethodName := ⟨RK, "left", "(II)I"⟩
theorem ucK_left : Cond.code yK_left cK_left 6 (some .int) ∈ uT := uk (um2 (List.mem_of_getElem? (i := 64) rfl)) rfl
def wsK_left : List Cond := Cond.code yK_left cK_left 6 (some .int) :: uT
abbrev cM_isLeftOut : ByteArray := prog_3_method_3_code
def yM_isLeftOut : MethodName := ⟨RM, "isLeftOut", "(II)Z"⟩
theorem ucM_isLeftOut : Cond.code yM_isLeftOut cM_isLeftOut 4 (some .boolean) ∈ uT := uk (um2 (List.mem_of_getElem? (i := 68) rfl)) rfl
def wsM_isLeftOut : List Cond := Cond.code yM_isLeftOut cM_isLeftOut 4 (some .boolean) :: uT
abbrev cM_isKnownOfBoth : ByteArray := prog_3_method_8_code
def yM_isKnownOfBoth : MethodName := ⟨RM, "isKnownOfBoth", "(III)Z"⟩
theorem ucM_isKnownOfBoth : Cond.code yM_isKnownOfBoth cM_isKnownOfBoth 4 (some .boolean) ∈ uT := uk (um2 (List.mem_of_getElem? (i := 72) rfl)) rfl
def wsM_isKnownOfBoth : List Cond := Cond.code yM_isKnownOfBoth cM_isKnownOfBoth 4 (some .boolean) :: uT
abbrev cM_formOf : ByteArray := prog_3_method_7_code
def yM_formOf : MethodName := ⟨RM, "formOf", "(II)I"⟩
theorem ucM_formOf : Cond.code yM_formOf cM_formOf 3 (some .int) ∈ uT := uk (um2 (List.mem_of_getElem? (i := 76) rfl)) rfl
def wsM_formOf : List Cond := Cond.code yM_formOf cM_formOf 3 (some .int) :: uT
abbrev cM_difference : ByteArray := prog_3_method_9_code
def yM_difference : MethodName := ⟨RM, "difference", "(III)I"⟩
theorem ucM_difference : Cond.code yM_difference cM_difference 4 (some .int) ∈ uT := uk (um2 (List.mem_of_getElem? (i := 80) rfl)) rfl
def wsM_difference : List Cond := Cond.code yM_difference cM_difference 4 (some .int) :: uT
abbrev yJ_abs : MethodName := Lib.Math.abs.name
theorem ucJ_abs : Cond.code Lib.Math.abs.name Lib.Math.abs.code 1 (some .int) ∈ uT := uk (um2 (List.mem_of_getElem? (i := 83) rfl)) rfl
abbrev cK_odds : ByteArray := prog_1_method_14_code
def yK_odds : MethodName := ⟨RK, "odds", "(III)J"⟩
theorem ucK_odds : Cond.code yK_odds cK_odds 4 (some .long) ∈ uT := uk (um2 (List.mem_of_getElem? (i := 87) rfl)) rfl
def wsK_odds : List Cond := Cond.code yK_odds cK_odds 4 (some .long) :: uT
abbrev cM_oddsOf : ByteArray := prog_3_method_4_code
def yM_oddsOf : MethodName := ⟨RM, "oddsOf", "(III)J"⟩
theorem ucM_oddsOf : Cond.code yM_oddsOf cM_oddsOf 14 (some .long) ∈ uT := uk (um2 (List.mem_of_getElem? (i := 91) rfl)) rfl
def wsM_oddsOf : List Cond := Cond.code yM_oddsOf cM_oddsOf 14 (some .long) :: uT
abbrev cM_knownForms : ByteArray := prog_3_method_10_code
def yM_knownForms : MethodName := ⟨RM, "knownForms", "(I)I"⟩
theorem ucM_knownForms : Cond.code yM_knownForms cM_knownForms 4 (some .int) ∈ uT := uk (um2 (List.mem_of_getElem? (i := 96) rfl)) rfl
def wsM_knownForms : List Cond := Cond.code yM_knownForms cM_knownForms 4 (some .int) :: uT
abbrev cM_lettersB : ByteArray := prog_3_method_11_code
def yM_lettersB : MethodName := ⟨RM, "lettersB", "(I)I"⟩
theorem ucM_lettersB : Cond.code yM_lettersB cM_lettersB 4 (some .int) ∈ uT := uk (um2 (List.mem_of_getElem? (i := 100) rfl)) rfl
def wsM_lettersB : List Cond := Cond.code yM_lettersB cM_lettersB 4 (some .int) :: uT
abbrev cM_amongChildren : ByteArray := prog_3_method_12_code
def yM_amongChildren : MethodName := ⟨RM, "amongChildren", "(IIJJ)J"⟩
theorem ucM_amongChildren : Cond.code yM_amongChildren cM_amongChildren 6 (some .long) ∈ uT := uk (um2 (List.mem_of_getElem? (i := 104) rfl)) rfl
def wsM_amongChildren : List Cond := Cond.code yM_amongChildren cM_amongChildren 6 (some .long) :: uT
abbrev cM_amongStrangers : ByteArray := prog_3_method_13_code
def yM_amongStrangers : MethodName := ⟨RM, "amongStrangers", "(IJJ)J"⟩
theorem ucM_amongStrangers : Cond.code yM_amongStrangers cM_amongStrangers 5 (some .long) ∈ uT := uk (um2 (List.mem_of_getElem? (i := 107) rfl)) rfl
def wsM_amongStrangers : List Cond := Cond.code yM_amongStrangers cM_amongStrangers 5 (some .long) :: uT
abbrev cK_like : ByteArray := prog_1_method_15_code
def yK_like : MethodName := ⟨RK, "like", "(III)J"⟩
theorem ucK_like : Cond.code yK_like cK_like 4 (some .long) ∈ uT := uk (um2 (List.mem_of_getElem? (i := 112) rfl)) rfl
def wsK_like : List Cond := Cond.code yK_like cK_like 4 (some .long) :: uT
abbrev cM_likenessOf : ByteArray := prog_3_method_5_code
def yM_likenessOf : MethodName := ⟨RM, "likenessOf", "(III)J"⟩
theorem ucM_likenessOf : Cond.code yM_likenessOf cM_likenessOf 9 (some .long) ∈ uT := uk (um2 (List.mem_of_getElem? (i := 116) rfl)) rfl
def wsM_likenessOf : List Cond := Cond.code yM_likenessOf cM_likenessOf 9 (some .long) :: uT
abbrev cK_lost : ByteArray := prog_1_method_16_code
def yK_lost : MethodName := ⟨RK, "lost", "(I)I"⟩
theorem ucK_lost : Cond.code yK_lost cK_lost 4 (some .int) ∈ uT := uk (um2 (List.mem_of_getElem? (i := 121) rfl)) rfl
def wsK_lost : List Cond := Cond.code yK_lost cK_lost 4 (some .int) :: uT
abbrev cK_isLost : ByteArray := prog_1_method_24_code
def yK_isLost : MethodName := ⟨RK, "isLost", "(I)Z"⟩
theorem ucK_isLost : Cond.code yK_isLost cK_isLost 3 (some .boolean) ∈ uT := uk (um2 (List.mem_of_getElem? (i := 125) rfl)) rfl
def wsK_isLost : List Cond := Cond.code yK_isLost cK_isLost 3 (some .boolean) :: uT
abbrev cK_diverse : ByteArray := prog_1_method_17_code
def yK_diverse : MethodName := ⟨RK, "diverse", "(I)J"⟩
theorem ucK_diverse : Cond.code yK_diverse cK_diverse 7 (some .long) ∈ uT := uk (um2 (List.mem_of_getElem? (i := 129) rfl)) rfl
def wsK_diverse : List Cond := Cond.code yK_diverse cK_diverse 7 (some .long) :: uT
abbrev cK_kinWithLiving : ByteArray := prog_1_method_25_code
def yK_kinWithLiving : MethodName := ⟨RK, "kinWithLiving", "(I)J"⟩
theorem ucK_kinWithLiving : Cond.code yK_kinWithLiving cK_kinWithLiving 5 (some .long) ∈ uT := uk (um2 (List.mem_of_getElem? (i := 133) rfl)) rfl
def wsK_kinWithLiving : List Cond := Cond.code yK_kinWithLiving cK_kinWithLiving 5 (some .long) :: uT
abbrev cK_animal : ByteArray := prog_1_method_18_code
def yK_animal : MethodName := ⟨RK, "animal", "(II)I"⟩
theorem ucK_animal : Cond.code yK_animal cK_animal 3 (some .int) ∈ uT := uk (um2 (List.mem_of_getElem? (i := 137) rfl)) rfl
def wsK_animal : List Cond := Cond.code yK_animal cK_animal 3 (some .int) :: uT
abbrev cL_cell : ByteArray := method_2_code
def yL_cell : MethodName := ⟨RL, "cell", "([II)I"⟩
theorem ucL_cell : Cond.code yL_cell cL_cell 2 (some .int) ∈ uT := uk (um2 (List.mem_of_getElem? (i := 141) rfl)) rfl
def wsL_cell : List Cond := Cond.code yL_cell cL_cell 2 (some .int) :: uT
abbrev cR_init : ByteArray := prog_6_method_1_code
def yR_init : MethodName := ⟨RR, "<init>", "(I)V"⟩
theorem ucR_init : Cond.code yR_init cR_init 3 none ∈ uT := uk (um2 (List.mem_of_getElem? (i := 146) rfl)) rfl
def wsR_init : List Cond := Cond.code yR_init cR_init 3 none :: uT
abbrev cR_parents : ByteArray := prog_6_method_12_code
def yR_parents : MethodName := ⟨RR, "parents", "(III)Z"⟩
theorem ucR_parents : Cond.code yR_parents cR_parents 5 (some .boolean) ∈ uT := uk (um2 (List.mem_of_getElem? (i := 191) rfl)) rfl
def wsR_parents : List Cond := Cond.code yR_parents cR_parents 5 (some .boolean) :: uT
abbrev cR_is : ByteArray := prog_6_method_2_code
def yR_is : MethodName := ⟨RR, "is", "(I)Z"⟩
theorem ucR_is : Cond.code yR_is cR_is 2 (some .boolean) ∈ uT := uk (um2 (List.mem_of_getElem? (i := 195) rfl)) rfl
def wsR_is : List Cond := Cond.code yR_is cR_is 2 (some .boolean) :: uT
abbrev cR_isOrNone : ByteArray := prog_6_method_3_code
def yR_isOrNone : MethodName := ⟨RR, "isOrNone", "(I)Z"⟩
theorem ucR_isOrNone : Cond.code yR_isOrNone cR_isOrNone 2 (some .boolean) ∈ uT := uk (um2 (List.mem_of_getElem? (i := 199) rfl)) rfl
def wsR_isOrNone : List Cond := Cond.code yR_isOrNone cR_isOrNone 2 (some .boolean) :: uT
abbrev cR_find : ByteArray := prog_6_method_4_code
def yR_find : MethodName := ⟨RR, "find", "()V"⟩
theorem ucR_find : Cond.code yR_find cR_find 7 none ∈ uT := uk (um2 (List.mem_of_getElem? (i := 203) rfl)) rfl
def wsR_find : List Cond := Cond.code yR_find cR_find 7 none :: uT
abbrev cR_leads : ByteArray := prog_6_method_9_code
def yR_leads : MethodName := ⟨RR, "leads", "(II)I"⟩
theorem ucR_leads : Cond.code yR_leads cR_leads 3 (some .int) ∈ uT := uk (um2 (List.mem_of_getElem? (i := 207) rfl)) rfl
def wsR_leads : List Cond := Cond.code yR_leads cR_leads 3 (some .int) :: uT
abbrev cR_tellRing : ByteArray := prog_6_method_10_code
def yR_tellRing : MethodName := ⟨RR, "tellRing", "(II)V"⟩
theorem ucR_tellRing : Cond.code yR_tellRing cR_tellRing 5 none ∈ uT := uk (um2 (List.mem_of_getElem? (i := 211) rfl)) rfl
def wsR_tellRing : List Cond := Cond.code yR_tellRing cR_tellRing 5 none :: uT
abbrev cR_isOlder : ByteArray := prog_6_method_11_code
def yR_isOlder : MethodName := ⟨RR, "isOlder", "(II)Z"⟩
theorem ucR_isOlder : Cond.code yR_isOlder cR_isOlder 3 (some .boolean) ∈ uT := uk (um2 (List.mem_of_getElem? (i := 215) rfl)) rfl
def wsR_isOlder : List Cond := Cond.code yR_isOlder cR_isOlder 3 (some .boolean) :: uT
abbrev cR_ring : ByteArray := prog_6_method_13_code
def yR_ring : MethodName := ⟨RR, "ring", "(I)I"⟩
theorem ucR_ring : Cond.code yR_ring cR_ring 2 (some .int) ∈ uT := uk (um2 (List.mem_of_getElem? (i := 219) rfl)) rfl
def wsR_ring : List Cond := Cond.code yR_ring cR_ring 2 (some .int) :: uT
abbrev cR_told : ByteArray := prog_6_method_14_code
def yR_told : MethodName := ⟨RR, "told", "(III)Z"⟩
theorem ucR_told : Cond.code yR_told cR_told 8 (some .boolean) ∈ uT := uk (um2 (List.mem_of_getElem? (i := 223) rfl)) rfl
def wsR_told : List Cond := Cond.code yR_told cR_told 8 (some .boolean) :: uT
abbrev cR_lives : ByteArray := prog_6_method_15_code
def yR_lives : MethodName := ⟨RR, "lives", "(IZ)Z"⟩
theorem ucR_lives : Cond.code yR_lives cR_lives 3 (some .boolean) ∈ uT := uk (um2 (List.mem_of_getElem? (i := 228) rfl)) rfl
def wsR_lives : List Cond := Cond.code yR_lives cR_lives 3 (some .boolean) :: uT
abbrev cR_kin : ByteArray := prog_6_method_16_code
def yR_kin : MethodName := ⟨RR, "kin", "(III)J"⟩
theorem ucR_kin : Cond.code yR_kin cR_kin 4 (some .long) ∈ uT := uk (um2 (List.mem_of_getElem? (i := 232) rfl)) rfl
def wsR_kin : List Cond := Cond.code yR_kin cR_kin 4 (some .long) :: uT
abbrev cR_isPart : ByteArray := prog_6_method_8_code
def yR_isPart : MethodName := ⟨RR, "isPart", "(I)Z"⟩
theorem ucR_isPart : Cond.code yR_isPart cR_isPart 1 (some .boolean) ∈ uT := uk (um2 (List.mem_of_getElem? (i := 235) rfl)) rfl
def wsR_isPart : List Cond := Cond.code yR_isPart cR_isPart 1 (some .boolean) :: uT
abbrev cR_findKin : ByteArray := prog_6_method_6_code
def yR_findKin : MethodName := ⟨RR, "findKin", "()V"⟩
theorem ucR_findKin : Cond.code yR_findKin cR_findKin 7 none ∈ uT := uk (um3 (List.mem_of_getElem? (i := 0) rfl)) rfl
def wsR_findKin : List Cond := Cond.code yR_findKin cR_findKin 7 none :: uT
abbrev cR_kinOf : ByteArray := prog_6_method_5_code
def yR_kinOf : MethodName := ⟨RR, "kinOf", "(II)J"⟩
theorem ucR_kinOf : Cond.code yR_kinOf cR_kinOf 3 (some .long) ∈ uT := uk (um3 (List.mem_of_getElem? (i := 4) rfl)) rfl
def wsR_kinOf : List Cond := Cond.code yR_kinOf cR_kinOf 3 (some .long) :: uT
abbrev cR_lowest : ByteArray := prog_6_method_7_code
def yR_lowest : MethodName := ⟨RR, "lowest", "(JJI)J"⟩
theorem ucR_lowest : Cond.code yR_lowest cR_lowest 11 (some .long) ∈ uT := uk (um3 (List.mem_of_getElem? (i := 9) rfl)) rfl
def wsR_lowest : List Cond := Cond.code yR_lowest cR_lowest 11 (some .long) :: uT
abbrev cR_inbred : ByteArray := prog_6_method_18_code
def yR_inbred : MethodName := ⟨RR, "inbred", "(II)J"⟩
theorem ucR_inbred : Cond.code yR_inbred cR_inbred 3 (some .long) ∈ uT := uk (um3 (List.mem_of_getElem? (i := 13) rfl)) rfl
def wsR_inbred : List Cond := Cond.code yR_inbred cR_inbred 3 (some .long) :: uT
abbrev cR_inbredOf : ByteArray := prog_6_method_17_code
def yR_inbredOf : MethodName := ⟨RR, "inbredOf", "(I)J"⟩
theorem ucR_inbredOf : Cond.code yR_inbredOf cR_inbredOf 2 (some .long) ∈ uT := uk (um3 (List.mem_of_getElem? (i := 17) rfl)) rfl
def wsR_inbredOf : List Cond := Cond.code yR_inbredOf cR_inbredOf 2 (some .long) :: uT
abbrev cR_chance : ByteArray := prog_6_method_19_code
def yR_chance : MethodName := ⟨RR, "chance", "(II)J"⟩
theorem ucR_chance : Cond.code yR_chance cR_chance 6 (some .long) ∈ uT := uk (um3 (List.mem_of_getElem? (i := 21) rfl)) rfl
def wsR_chance : List Cond := Cond.code yR_chance cR_chance 6 (some .long) :: uT
abbrev cR_share : ByteArray := prog_6_method_21_code
def yR_share : MethodName := ⟨RR, "share", "(III)J"⟩
theorem ucR_share : Cond.code yR_share cR_share 9 (some .long) ∈ uT := uk (um3 (List.mem_of_getElem? (i := 26) rfl)) rfl
def wsR_share : List Cond := Cond.code yR_share cR_share 9 (some .long) :: uT
abbrev cR_isFounder : ByteArray := prog_6_method_20_code
def yR_isFounder : MethodName := ⟨RR, "isFounder", "(I)Z"⟩
theorem ucR_isFounder : Cond.code yR_isFounder cR_isFounder 2 (some .boolean) ∈ uT := uk (um3 (List.mem_of_getElem? (i := 30) rfl)) rfl
def wsR_isFounder : List Cond := Cond.code yR_isFounder cR_isFounder 2 (some .boolean) :: uT
abbrev cR_isForbear : ByteArray := prog_6_method_22_code
def yR_isForbear : MethodName := ⟨RR, "isForbear", "(II)Z"⟩
theorem ucR_isForbear : Cond.code yR_isForbear cR_isForbear 3 (some .boolean) ∈ uT := uk (um3 (List.mem_of_getElem? (i := 34) rfl)) rfl
def wsR_isForbear : List Cond := Cond.code yR_isForbear cR_isForbear 3 (some .boolean) :: uT
abbrev cR_order : ByteArray := prog_6_method_23_code
def yR_order : MethodName := ⟨RR, "order", "(I)I"⟩
theorem ucR_order : Cond.code yR_order cR_order 2 (some .int) ∈ uT := uk (um3 (List.mem_of_getElem? (i := 38) rfl)) rfl
def wsR_order : List Cond := Cond.code yR_order cR_order 2 (some .int) :: uT
abbrev cR_mark : ByteArray := prog_6_method_24_code
def yR_mark : MethodName := ⟨RR, "mark", "(III)Z"⟩
theorem ucR_mark : Cond.code yR_mark cR_mark 4 (some .boolean) ∈ uT := uk (um3 (List.mem_of_getElem? (i := 42) rfl)) rfl
def wsR_mark : List Cond := Cond.code yR_mark cR_mark 4 (some .boolean) :: uT
abbrev cR_left : ByteArray := prog_6_method_26_code
def yR_left : MethodName := ⟨RR, "left", "(II)I"⟩
theorem ucR_left : Cond.code yR_left cR_left 5 (some .int) ∈ uT := uk (um3 (List.mem_of_getElem? (i := 46) rfl)) rfl
def wsR_left : List Cond := Cond.code yR_left cR_left 5 (some .int) :: uT
abbrev cR_isLeftOut : ByteArray := prog_6_method_25_code
def yR_isLeftOut : MethodName := ⟨RR, "isLeftOut", "(II)Z"⟩
theorem ucR_isLeftOut : Cond.code yR_isLeftOut cR_isLeftOut 6 (some .boolean) ∈ uT := uk (um3 (List.mem_of_getElem? (i := 50) rfl)) rfl
def wsR_isLeftOut : List Cond := Cond.code yR_isLeftOut cR_isLeftOut 6 (some .boolean) :: uT
abbrev cR_odds : ByteArray := prog_6_method_27_code
def yR_odds : MethodName := ⟨RR, "odds", "(III)J"⟩
theorem ucR_odds : Cond.code yR_odds cR_odds 23 (some .long) ∈ uT := uk (um3 (List.mem_of_getElem? (i := 54) rfl)) rfl
def wsR_odds : List Cond := Cond.code yR_odds cR_odds 23 (some .long) :: uT
abbrev cR_like : ByteArray := prog_6_method_28_code
def yR_like : MethodName := ⟨RR, "like", "(III)J"⟩
theorem ucR_like : Cond.code yR_like cR_like 9 (some .long) ∈ uT := uk (um3 (List.mem_of_getElem? (i := 59) rfl)) rfl
def wsR_like : List Cond := Cond.code yR_like cR_like 9 (some .long) :: uT
abbrev cR_lost : ByteArray := prog_6_method_29_code
def yR_lost : MethodName := ⟨RR, "lost", "(I)I"⟩
theorem ucR_lost : Cond.code yR_lost cR_lost 6 (some .int) ∈ uT := uk (um3 (List.mem_of_getElem? (i := 63) rfl)) rfl
def wsR_lost : List Cond := Cond.code yR_lost cR_lost 6 (some .int) :: uT
abbrev cR_diverse : ByteArray := prog_6_method_30_code
def yR_diverse : MethodName := ⟨RR, "diverse", "(I)J"⟩
theorem ucR_diverse : Cond.code yR_diverse cR_diverse 8 (some .long) ∈ uT := uk (um3 (List.mem_of_getElem? (i := 67) rfl)) rfl
def wsR_diverse : List Cond := Cond.code yR_diverse cR_diverse 8 (some .long) :: uT
abbrev cR_animal : ByteArray := prog_6_method_31_code
def yR_animal : MethodName := ⟨RR, "animal", "(II)I"⟩
theorem ucR_animal : Cond.code yR_animal cR_animal 3 (some .int) ∈ uT := uk (um3 (List.mem_of_getElem? (i := 71) rfl)) rfl
def wsR_animal : List Cond := Cond.code yR_animal cR_animal 3 (some .int) :: uT
theorem gV {own C : String} {idx : Nat} {y : MethodName} {b : ByteArray} {ml : Nat} {r : Option FieldType} (h1 : Cond.methodLink own idx y ∈ uT) (h2 : Cond.instanceMethod y ∈ uT) (h3 : Cond.selects C y y ∈ uT) (h4 : Cond.initialized C ∈ uT) (h5 : Cond.code y b ml r ∈ uT) : GoodIn uT (wsV own idx C y (Cond.code y b ml r :: uT)) := by
  intro w hw
  have hm : w ∈ uT := by
    rcases List.mem_append.mp hw with h | h
    · rcases List.mem_cons.mp h with h | h
      · rw [h]; exact h1
      · rcases List.mem_cons.mp h with h | h
        · rw [h]; exact h2
        · rcases List.mem_cons.mp h with h | h
          · rw [h]; exact h3
          · rcases List.mem_cons.mp h with h | h
            · rw [h]; exact h4
            · cases h
    · rcases List.mem_cons.mp h with h | h
      · rw [h]; exact h5
      · exact h
  exact ⟨hm, uw_good w hm⟩
theorem gS {own : String} {idx : Nat} {y : MethodName} {b : ByteArray} {ml : Nat} {r : Option FieldType} (h1 : Cond.methodLink own idx y ∈ uT) (h2 : Cond.static y ∈ uT) (h4 : Cond.initialized y.cls ∈ uT) (h5 : Cond.code y b ml r ∈ uT) : GoodIn uT (va_wsS own idx y (Cond.code y b ml r :: uT)) := by
  intro w hw
  have hm : w ∈ uT := by
    rcases List.mem_append.mp hw with h | h
    · rcases List.mem_cons.mp h with h | h
      · rw [h]; exact h1
      · rcases List.mem_cons.mp h with h | h
        · rw [h]; exact h2
        · rcases List.mem_cons.mp h with h | h
          · rw [h]; exact h4
          · cases h
    · rcases List.mem_cons.mp h with h | h
      · rw [h]; exact h5
      · exact h
  exact ⟨hm, uw_good w hm⟩
theorem gI {y : MethodName} {b : ByteArray} {ml : Nat} {r : Option FieldType} (h5 : Cond.code y b ml r ∈ uT) : GoodIn uT (Cond.code y b ml r :: uT) := by
  intro w hw
  have hm : w ∈ uT := by
    rcases List.mem_cons.mp hw with h | h
    · rw [h]; exact h5
    · exact h
  exact ⟨hm, uw_good w hm⟩
theorem hvK_init : yK_init.cls = RK ∧ yK_init.cls ≠ "java/lang/invoke/MethodHandle" ∧ yK_init.cls ≠ "java/lang/invoke/VarHandle" ∧ (parseMethodDescriptor yK_init.desc).map (fun d => d.parameters.length) = some 1 := by decide +kernel
theorem hsK_init : yK_init.cls ≠ "java/lang/invoke/MethodHandle" ∧ yK_init.cls ≠ "java/lang/invoke/VarHandle" ∧ (parseMethodDescriptor yK_init.desc).map (fun d => d.parameters.length) = some 1 := hvK_init.2
theorem hvO_init : yO_init.cls = RO ∧ yO_init.cls ≠ "java/lang/invoke/MethodHandle" ∧ yO_init.cls ≠ "java/lang/invoke/VarHandle" ∧ (parseMethodDescriptor yO_init.desc).map (fun d => d.parameters.length) = some 0 := by decide +kernel
theorem hsO_init : yO_init.cls ≠ "java/lang/invoke/MethodHandle" ∧ yO_init.cls ≠ "java/lang/invoke/VarHandle" ∧ (parseMethodDescriptor yO_init.desc).map (fun d => d.parameters.length) = some 0 := hvO_init.2
theorem hvP_init : yP_init.cls = RP ∧ yP_init.cls ≠ "java/lang/invoke/MethodHandle" ∧ yP_init.cls ≠ "java/lang/invoke/VarHandle" ∧ (parseMethodDescriptor yP_init.desc).map (fun d => d.parameters.length) = some 1 := by decide +kernel
theorem hsP_init : yP_init.cls ≠ "java/lang/invoke/MethodHandle" ∧ yP_init.cls ≠ "java/lang/invoke/VarHandle" ∧ (parseMethodDescriptor yP_init.desc).map (fun d => d.parameters.length) = some 1 := hvP_init.2
theorem hvA_fill : yA_fill.cls = RA ∧ yA_fill.cls ≠ "java/lang/invoke/MethodHandle" ∧ yA_fill.cls ≠ "java/lang/invoke/VarHandle" ∧ (parseMethodDescriptor yA_fill.desc).map (fun d => d.parameters.length) = some 2 := by decide +kernel
theorem hsA_fill : yA_fill.cls ≠ "java/lang/invoke/MethodHandle" ∧ yA_fill.cls ≠ "java/lang/invoke/VarHandle" ∧ (parseMethodDescriptor yA_fill.desc).map (fun d => d.parameters.length) = some 2 := hvA_fill.2
theorem hvP_reckon : yP_reckon.cls = RP ∧ yP_reckon.cls ≠ "java/lang/invoke/MethodHandle" ∧ yP_reckon.cls ≠ "java/lang/invoke/VarHandle" ∧ (parseMethodDescriptor yP_reckon.desc).map (fun d => d.parameters.length) = some 0 := by decide +kernel
theorem hsP_reckon : yP_reckon.cls ≠ "java/lang/invoke/MethodHandle" ∧ yP_reckon.cls ≠ "java/lang/invoke/VarHandle" ∧ (parseMethodDescriptor yP_reckon.desc).map (fun d => d.parameters.length) = some 0 := hvP_reckon.2
theorem hvP_reckonSteps : yP_reckonSteps.cls = RP ∧ yP_reckonSteps.cls ≠ "java/lang/invoke/MethodHandle" ∧ yP_reckonSteps.cls ≠ "java/lang/invoke/VarHandle" ∧ (parseMethodDescriptor yP_reckonSteps.desc).map (fun d => d.parameters.length) = some 0 := by decide +kernel
theorem hsP_reckonSteps : yP_reckonSteps.cls ≠ "java/lang/invoke/MethodHandle" ∧ yP_reckonSteps.cls ≠ "java/lang/invoke/VarHandle" ∧ (parseMethodDescriptor yP_reckonSteps.desc).map (fun d => d.parameters.length) = some 0 := hvP_reckonSteps.2
theorem hvP_stepsOf : yP_stepsOf.cls = RP ∧ yP_stepsOf.cls ≠ "java/lang/invoke/MethodHandle" ∧ yP_stepsOf.cls ≠ "java/lang/invoke/VarHandle" ∧ (parseMethodDescriptor yP_stepsOf.desc).map (fun d => d.parameters.length) = some 1 := by decide +kernel
theorem hsP_stepsOf : yP_stepsOf.cls ≠ "java/lang/invoke/MethodHandle" ∧ yP_stepsOf.cls ≠ "java/lang/invoke/VarHandle" ∧ (parseMethodDescriptor yP_stepsOf.desc).map (fun d => d.parameters.length) = some 1 := hvP_stepsOf.2
theorem hvP_has : yP_has.cls = RP ∧ yP_has.cls ≠ "java/lang/invoke/MethodHandle" ∧ yP_has.cls ≠ "java/lang/invoke/VarHandle" ∧ (parseMethodDescriptor yP_has.desc).map (fun d => d.parameters.length) = some 1 := by decide +kernel
theorem hsP_has : yP_has.cls ≠ "java/lang/invoke/MethodHandle" ∧ yP_has.cls ≠ "java/lang/invoke/VarHandle" ∧ (parseMethodDescriptor yP_has.desc).map (fun d => d.parameters.length) = some 1 := hvP_has.2
theorem hvP_reckonOrder : yP_reckonOrder.cls = RP ∧ yP_reckonOrder.cls ≠ "java/lang/invoke/MethodHandle" ∧ yP_reckonOrder.cls ≠ "java/lang/invoke/VarHandle" ∧ (parseMethodDescriptor yP_reckonOrder.desc).map (fun d => d.parameters.length) = some 0 := by decide +kernel
theorem hsP_reckonOrder : yP_reckonOrder.cls ≠ "java/lang/invoke/MethodHandle" ∧ yP_reckonOrder.cls ≠ "java/lang/invoke/VarHandle" ∧ (parseMethodDescriptor yP_reckonOrder.desc).map (fun d => d.parameters.length) = some 0 := hvP_reckonOrder.2
theorem hvP_inOrder : yP_inOrder.cls = RP ∧ yP_inOrder.cls ≠ "java/lang/invoke/MethodHandle" ∧ yP_inOrder.cls ≠ "java/lang/invoke/VarHandle" ∧ (parseMethodDescriptor yP_inOrder.desc).map (fun d => d.parameters.length) = some 1 := by decide +kernel
theorem hsP_inOrder : yP_inOrder.cls ≠ "java/lang/invoke/MethodHandle" ∧ yP_inOrder.cls ≠ "java/lang/invoke/VarHandle" ∧ (parseMethodDescriptor yP_inOrder.desc).map (fun d => d.parameters.length) = some 1 := hvP_inOrder.2
theorem hvP_reckonForbears : yP_reckonForbears.cls = RP ∧ yP_reckonForbears.cls ≠ "java/lang/invoke/MethodHandle" ∧ yP_reckonForbears.cls ≠ "java/lang/invoke/VarHandle" ∧ (parseMethodDescriptor yP_reckonForbears.desc).map (fun d => d.parameters.length) = some 1 := by decide +kernel
theorem hsP_reckonForbears : yP_reckonForbears.cls ≠ "java/lang/invoke/MethodHandle" ∧ yP_reckonForbears.cls ≠ "java/lang/invoke/VarHandle" ∧ (parseMethodDescriptor yP_reckonForbears.desc).map (fun d => d.parameters.length) = some 1 := hvP_reckonForbears.2
theorem hvP_lineOf : yP_lineOf.cls = RP ∧ yP_lineOf.cls ≠ "java/lang/invoke/MethodHandle" ∧ yP_lineOf.cls ≠ "java/lang/invoke/VarHandle" ∧ (parseMethodDescriptor yP_lineOf.desc).map (fun d => d.parameters.length) = some 1 := by decide +kernel
theorem hsP_lineOf : yP_lineOf.cls ≠ "java/lang/invoke/MethodHandle" ∧ yP_lineOf.cls ≠ "java/lang/invoke/VarHandle" ∧ (parseMethodDescriptor yP_lineOf.desc).map (fun d => d.parameters.length) = some 1 := hvP_lineOf.2
theorem hvP_bitOf : yP_bitOf.cls = RP ∧ yP_bitOf.cls ≠ "java/lang/invoke/MethodHandle" ∧ yP_bitOf.cls ≠ "java/lang/invoke/VarHandle" ∧ (parseMethodDescriptor yP_bitOf.desc).map (fun d => d.parameters.length) = some 1 := by decide +kernel
theorem hsP_bitOf : yP_bitOf.cls ≠ "java/lang/invoke/MethodHandle" ∧ yP_bitOf.cls ≠ "java/lang/invoke/VarHandle" ∧ (parseMethodDescriptor yP_bitOf.desc).map (fun d => d.parameters.length) = some 1 := hvP_bitOf.2
theorem hvP_reckonKin : yP_reckonKin.cls = RP ∧ yP_reckonKin.cls ≠ "java/lang/invoke/MethodHandle" ∧ yP_reckonKin.cls ≠ "java/lang/invoke/VarHandle" ∧ (parseMethodDescriptor yP_reckonKin.desc).map (fun d => d.parameters.length) = some 1 := by decide +kernel
theorem hsP_reckonKin : yP_reckonKin.cls ≠ "java/lang/invoke/MethodHandle" ∧ yP_reckonKin.cls ≠ "java/lang/invoke/VarHandle" ∧ (parseMethodDescriptor yP_reckonKin.desc).map (fun d => d.parameters.length) = some 1 := hvP_reckonKin.2
theorem hvP_motherOf : yP_motherOf.cls = RP ∧ yP_motherOf.cls ≠ "java/lang/invoke/MethodHandle" ∧ yP_motherOf.cls ≠ "java/lang/invoke/VarHandle" ∧ (parseMethodDescriptor yP_motherOf.desc).map (fun d => d.parameters.length) = some 1 := by decide +kernel
theorem hsP_motherOf : yP_motherOf.cls ≠ "java/lang/invoke/MethodHandle" ∧ yP_motherOf.cls ≠ "java/lang/invoke/VarHandle" ∧ (parseMethodDescriptor yP_motherOf.desc).map (fun d => d.parameters.length) = some 1 := hvP_motherOf.2
theorem hvP_fatherOf : yP_fatherOf.cls = RP ∧ yP_fatherOf.cls ≠ "java/lang/invoke/MethodHandle" ∧ yP_fatherOf.cls ≠ "java/lang/invoke/VarHandle" ∧ (parseMethodDescriptor yP_fatherOf.desc).map (fun d => d.parameters.length) = some 1 := by decide +kernel
theorem hsP_fatherOf : yP_fatherOf.cls ≠ "java/lang/invoke/MethodHandle" ∧ yP_fatherOf.cls ≠ "java/lang/invoke/VarHandle" ∧ (parseMethodDescriptor yP_fatherOf.desc).map (fun d => d.parameters.length) = some 1 := hvP_fatherOf.2
theorem hvP_kinOf : yP_kinOf.cls = RP ∧ yP_kinOf.cls ≠ "java/lang/invoke/MethodHandle" ∧ yP_kinOf.cls ≠ "java/lang/invoke/VarHandle" ∧ (parseMethodDescriptor yP_kinOf.desc).map (fun d => d.parameters.length) = some 2 := by decide +kernel
theorem hsP_kinOf : yP_kinOf.cls ≠ "java/lang/invoke/MethodHandle" ∧ yP_kinOf.cls ≠ "java/lang/invoke/VarHandle" ∧ (parseMethodDescriptor yP_kinOf.desc).map (fun d => d.parameters.length) = some 2 := hvP_kinOf.2
theorem hvP_setKin : yP_setKin.cls = RP ∧ yP_setKin.cls ≠ "java/lang/invoke/MethodHandle" ∧ yP_setKin.cls ≠ "java/lang/invoke/VarHandle" ∧ (parseMethodDescriptor yP_setKin.desc).map (fun d => d.parameters.length) = some 3 := by decide +kernel
theorem hsP_setKin : yP_setKin.cls ≠ "java/lang/invoke/MethodHandle" ∧ yP_setKin.cls ≠ "java/lang/invoke/VarHandle" ∧ (parseMethodDescriptor yP_setKin.desc).map (fun d => d.parameters.length) = some 3 := hvP_setKin.2
theorem hvM_init : yM_init.cls = RM ∧ yM_init.cls ≠ "java/lang/invoke/MethodHandle" ∧ yM_init.cls ≠ "java/lang/invoke/VarHandle" ∧ (parseMethodDescriptor yM_init.desc).map (fun d => d.parameters.length) = some 1 := by decide +kernel
theorem hsM_init : yM_init.cls ≠ "java/lang/invoke/MethodHandle" ∧ yM_init.cls ≠ "java/lang/invoke/VarHandle" ∧ (parseMethodDescriptor yM_init.desc).map (fun d => d.parameters.length) = some 1 := hvM_init.2
theorem hvK_parents : yK_parents.cls = RK ∧ yK_parents.cls ≠ "java/lang/invoke/MethodHandle" ∧ yK_parents.cls ≠ "java/lang/invoke/VarHandle" ∧ (parseMethodDescriptor yK_parents.desc).map (fun d => d.parameters.length) = some 3 := by decide +kernel
theorem hsK_parents : yK_parents.cls ≠ "java/lang/invoke/MethodHandle" ∧ yK_parents.cls ≠ "java/lang/invoke/VarHandle" ∧ (parseMethodDescriptor yK_parents.desc).map (fun d => d.parameters.length) = some 3 := hvK_parents.2
theorem hvP_forgetRing : yP_forgetRing.cls = RP ∧ yP_forgetRing.cls ≠ "java/lang/invoke/MethodHandle" ∧ yP_forgetRing.cls ≠ "java/lang/invoke/VarHandle" ∧ (parseMethodDescriptor yP_forgetRing.desc).map (fun d => d.parameters.length) = some 0 := by decide +kernel
theorem hsP_forgetRing : yP_forgetRing.cls ≠ "java/lang/invoke/MethodHandle" ∧ yP_forgetRing.cls ≠ "java/lang/invoke/VarHandle" ∧ (parseMethodDescriptor yP_forgetRing.desc).map (fun d => d.parameters.length) = some 0 := hvP_forgetRing.2
theorem hvK_isAnimal : yK_isAnimal.cls = RK ∧ yK_isAnimal.cls ≠ "java/lang/invoke/MethodHandle" ∧ yK_isAnimal.cls ≠ "java/lang/invoke/VarHandle" ∧ (parseMethodDescriptor yK_isAnimal.desc).map (fun d => d.parameters.length) = some 1 := by decide +kernel
theorem hsK_isAnimal : yK_isAnimal.cls ≠ "java/lang/invoke/MethodHandle" ∧ yK_isAnimal.cls ≠ "java/lang/invoke/VarHandle" ∧ (parseMethodDescriptor yK_isAnimal.desc).map (fun d => d.parameters.length) = some 1 := hvK_isAnimal.2
theorem hvK_isAnimalOrNone : yK_isAnimalOrNone.cls = RK ∧ yK_isAnimalOrNone.cls ≠ "java/lang/invoke/MethodHandle" ∧ yK_isAnimalOrNone.cls ≠ "java/lang/invoke/VarHandle" ∧ (parseMethodDescriptor yK_isAnimalOrNone.desc).map (fun d => d.parameters.length) = some 1 := by decide +kernel
theorem hsK_isAnimalOrNone : yK_isAnimalOrNone.cls ≠ "java/lang/invoke/MethodHandle" ∧ yK_isAnimalOrNone.cls ≠ "java/lang/invoke/VarHandle" ∧ (parseMethodDescriptor yK_isAnimalOrNone.desc).map (fun d => d.parameters.length) = some 1 := hvK_isAnimalOrNone.2
theorem hvP_wouldClose : yP_wouldClose.cls = RP ∧ yP_wouldClose.cls ≠ "java/lang/invoke/MethodHandle" ∧ yP_wouldClose.cls ≠ "java/lang/invoke/VarHandle" ∧ (parseMethodDescriptor yP_wouldClose.desc).map (fun d => d.parameters.length) = some 3 := by decide +kernel
theorem hsP_wouldClose : yP_wouldClose.cls ≠ "java/lang/invoke/MethodHandle" ∧ yP_wouldClose.cls ≠ "java/lang/invoke/VarHandle" ∧ (parseMethodDescriptor yP_wouldClose.desc).map (fun d => d.parameters.length) = some 3 := hvP_wouldClose.2
theorem hvP_leadsTo : yP_leadsTo.cls = RP ∧ yP_leadsTo.cls ≠ "java/lang/invoke/MethodHandle" ∧ yP_leadsTo.cls ≠ "java/lang/invoke/VarHandle" ∧ (parseMethodDescriptor yP_leadsTo.desc).map (fun d => d.parameters.length) = some 2 := by decide +kernel
theorem hsP_leadsTo : yP_leadsTo.cls ≠ "java/lang/invoke/MethodHandle" ∧ yP_leadsTo.cls ≠ "java/lang/invoke/VarHandle" ∧ (parseMethodDescriptor yP_leadsTo.desc).map (fun d => d.parameters.length) = some 2 := hvP_leadsTo.2
theorem hvP_hasForbear : yP_hasForbear.cls = RP ∧ yP_hasForbear.cls ≠ "java/lang/invoke/MethodHandle" ∧ yP_hasForbear.cls ≠ "java/lang/invoke/VarHandle" ∧ (parseMethodDescriptor yP_hasForbear.desc).map (fun d => d.parameters.length) = some 2 := by decide +kernel
theorem hsP_hasForbear : yP_hasForbear.cls ≠ "java/lang/invoke/MethodHandle" ∧ yP_hasForbear.cls ≠ "java/lang/invoke/VarHandle" ∧ (parseMethodDescriptor yP_hasForbear.desc).map (fun d => d.parameters.length) = some 2 := hvP_hasForbear.2
theorem hvP_keepRing : yP_keepRing.cls = RP ∧ yP_keepRing.cls ≠ "java/lang/invoke/MethodHandle" ∧ yP_keepRing.cls ≠ "java/lang/invoke/VarHandle" ∧ (parseMethodDescriptor yP_keepRing.desc).map (fun d => d.parameters.length) = some 3 := by decide +kernel
theorem hsP_keepRing : yP_keepRing.cls ≠ "java/lang/invoke/MethodHandle" ∧ yP_keepRing.cls ≠ "java/lang/invoke/VarHandle" ∧ (parseMethodDescriptor yP_keepRing.desc).map (fun d => d.parameters.length) = some 3 := hvP_keepRing.2
theorem hvK_mayBeParents : yK_mayBeParents.cls = RK ∧ yK_mayBeParents.cls ≠ "java/lang/invoke/MethodHandle" ∧ yK_mayBeParents.cls ≠ "java/lang/invoke/VarHandle" ∧ (parseMethodDescriptor yK_mayBeParents.desc).map (fun d => d.parameters.length) = some 3 := by decide +kernel
theorem hsK_mayBeParents : yK_mayBeParents.cls ≠ "java/lang/invoke/MethodHandle" ∧ yK_mayBeParents.cls ≠ "java/lang/invoke/VarHandle" ∧ (parseMethodDescriptor yK_mayBeParents.desc).map (fun d => d.parameters.length) = some 3 := hvK_mayBeParents.2
theorem hvK_mayBeParent : yK_mayBeParent.cls = RK ∧ yK_mayBeParent.cls ≠ "java/lang/invoke/MethodHandle" ∧ yK_mayBeParent.cls ≠ "java/lang/invoke/VarHandle" ∧ (parseMethodDescriptor yK_mayBeParent.desc).map (fun d => d.parameters.length) = some 3 := by decide +kernel
theorem hsK_mayBeParent : yK_mayBeParent.cls ≠ "java/lang/invoke/MethodHandle" ∧ yK_mayBeParent.cls ≠ "java/lang/invoke/VarHandle" ∧ (parseMethodDescriptor yK_mayBeParent.desc).map (fun d => d.parameters.length) = some 3 := hvK_mayBeParent.2
theorem hvP_setParents : yP_setParents.cls = RP ∧ yP_setParents.cls ≠ "java/lang/invoke/MethodHandle" ∧ yP_setParents.cls ≠ "java/lang/invoke/VarHandle" ∧ (parseMethodDescriptor yP_setParents.desc).map (fun d => d.parameters.length) = some 3 := by decide +kernel
theorem hsP_setParents : yP_setParents.cls ≠ "java/lang/invoke/MethodHandle" ∧ yP_setParents.cls ≠ "java/lang/invoke/VarHandle" ∧ (parseMethodDescriptor yP_setParents.desc).map (fun d => d.parameters.length) = some 3 := hvP_setParents.2
theorem hvK_ring : yK_ring.cls = RK ∧ yK_ring.cls ≠ "java/lang/invoke/MethodHandle" ∧ yK_ring.cls ≠ "java/lang/invoke/VarHandle" ∧ (parseMethodDescriptor yK_ring.desc).map (fun d => d.parameters.length) = some 1 := by decide +kernel
theorem hsK_ring : yK_ring.cls ≠ "java/lang/invoke/MethodHandle" ∧ yK_ring.cls ≠ "java/lang/invoke/VarHandle" ∧ (parseMethodDescriptor yK_ring.desc).map (fun d => d.parameters.length) = some 1 := hvK_ring.2
theorem hvP_ringAt : yP_ringAt.cls = RP ∧ yP_ringAt.cls ≠ "java/lang/invoke/MethodHandle" ∧ yP_ringAt.cls ≠ "java/lang/invoke/VarHandle" ∧ (parseMethodDescriptor yP_ringAt.desc).map (fun d => d.parameters.length) = some 1 := by decide +kernel
theorem hsP_ringAt : yP_ringAt.cls ≠ "java/lang/invoke/MethodHandle" ∧ yP_ringAt.cls ≠ "java/lang/invoke/VarHandle" ∧ (parseMethodDescriptor yP_ringAt.desc).map (fun d => d.parameters.length) = some 1 := hvP_ringAt.2
theorem hvK_told : yK_told.cls = RK ∧ yK_told.cls ≠ "java/lang/invoke/MethodHandle" ∧ yK_told.cls ≠ "java/lang/invoke/VarHandle" ∧ (parseMethodDescriptor yK_told.desc).map (fun d => d.parameters.length) = some 3 := by decide +kernel
theorem hsK_told : yK_told.cls ≠ "java/lang/invoke/MethodHandle" ∧ yK_told.cls ≠ "java/lang/invoke/VarHandle" ∧ (parseMethodDescriptor yK_told.desc).map (fun d => d.parameters.length) = some 3 := hvK_told.2
theorem hvK_areSexesAndDaysRight : yK_areSexesAndDaysRight.cls = RK ∧ yK_areSexesAndDaysRight.cls ≠ "java/lang/invoke/MethodHandle" ∧ yK_areSexesAndDaysRight.cls ≠ "java/lang/invoke/VarHandle" ∧ (parseMethodDescriptor yK_areSexesAndDaysRight.desc).map (fun d => d.parameters.length) = some 0 := by decide +kernel
theorem hsK_areSexesAndDaysRight : yK_areSexesAndDaysRight.cls ≠ "java/lang/invoke/MethodHandle" ∧ yK_areSexesAndDaysRight.cls ≠ "java/lang/invoke/VarHandle" ∧ (parseMethodDescriptor yK_areSexesAndDaysRight.desc).map (fun d => d.parameters.length) = some 0 := hvK_areSexesAndDaysRight.2
theorem hvK_lives : yK_lives.cls = RK ∧ yK_lives.cls ≠ "java/lang/invoke/MethodHandle" ∧ yK_lives.cls ≠ "java/lang/invoke/VarHandle" ∧ (parseMethodDescriptor yK_lives.desc).map (fun d => d.parameters.length) = some 2 := by decide +kernel
theorem hsK_lives : yK_lives.cls ≠ "java/lang/invoke/MethodHandle" ∧ yK_lives.cls ≠ "java/lang/invoke/VarHandle" ∧ (parseMethodDescriptor yK_lives.desc).map (fun d => d.parameters.length) = some 2 := hvK_lives.2
theorem hvK_kin : yK_kin.cls = RK ∧ yK_kin.cls ≠ "java/lang/invoke/MethodHandle" ∧ yK_kin.cls ≠ "java/lang/invoke/VarHandle" ∧ (parseMethodDescriptor yK_kin.desc).map (fun d => d.parameters.length) = some 3 := by decide +kernel
theorem hsK_kin : yK_kin.cls ≠ "java/lang/invoke/MethodHandle" ∧ yK_kin.cls ≠ "java/lang/invoke/VarHandle" ∧ (parseMethodDescriptor yK_kin.desc).map (fun d => d.parameters.length) = some 3 := hvK_kin.2
theorem hvF_isPart : yF_isPart.cls = RF ∧ yF_isPart.cls ≠ "java/lang/invoke/MethodHandle" ∧ yF_isPart.cls ≠ "java/lang/invoke/VarHandle" ∧ (parseMethodDescriptor yF_isPart.desc).map (fun d => d.parameters.length) = some 1 := by decide +kernel
theorem hsF_isPart : yF_isPart.cls ≠ "java/lang/invoke/MethodHandle" ∧ yF_isPart.cls ≠ "java/lang/invoke/VarHandle" ∧ (parseMethodDescriptor yF_isPart.desc).map (fun d => d.parameters.length) = some 1 := hvF_isPart.2
theorem hvF_lowest : yF_lowest.cls = RF ∧ yF_lowest.cls ≠ "java/lang/invoke/MethodHandle" ∧ yF_lowest.cls ≠ "java/lang/invoke/VarHandle" ∧ (parseMethodDescriptor yF_lowest.desc).map (fun d => d.parameters.length) = some 3 := by decide +kernel
theorem hsF_lowest : yF_lowest.cls ≠ "java/lang/invoke/MethodHandle" ∧ yF_lowest.cls ≠ "java/lang/invoke/VarHandle" ∧ (parseMethodDescriptor yF_lowest.desc).map (fun d => d.parameters.length) = some 3 := hvF_lowest.2
theorem hvF_commonDivisor : yF_commonDivisor.cls = RF ∧ yF_commonDivisor.cls ≠ "java/lang/invoke/MethodHandle" ∧ yF_commonDivisor.cls ≠ "java/lang/invoke/VarHandle" ∧ (parseMethodDescriptor yF_commonDivisor.desc).map (fun d => d.parameters.length) = some 2 := by decide +kernel
theorem hsF_commonDivisor : yF_commonDivisor.cls ≠ "java/lang/invoke/MethodHandle" ∧ yF_commonDivisor.cls ≠ "java/lang/invoke/VarHandle" ∧ (parseMethodDescriptor yF_commonDivisor.desc).map (fun d => d.parameters.length) = some 2 := hvF_commonDivisor.2
theorem hvK_inbred : yK_inbred.cls = RK ∧ yK_inbred.cls ≠ "java/lang/invoke/MethodHandle" ∧ yK_inbred.cls ≠ "java/lang/invoke/VarHandle" ∧ (parseMethodDescriptor yK_inbred.desc).map (fun d => d.parameters.length) = some 2 := by decide +kernel
theorem hsK_inbred : yK_inbred.cls ≠ "java/lang/invoke/MethodHandle" ∧ yK_inbred.cls ≠ "java/lang/invoke/VarHandle" ∧ (parseMethodDescriptor yK_inbred.desc).map (fun d => d.parameters.length) = some 2 := hvK_inbred.2
theorem hvP_inbreedingOf : yP_inbreedingOf.cls = RP ∧ yP_inbreedingOf.cls ≠ "java/lang/invoke/MethodHandle" ∧ yP_inbreedingOf.cls ≠ "java/lang/invoke/VarHandle" ∧ (parseMethodDescriptor yP_inbreedingOf.desc).map (fun d => d.parameters.length) = some 1 := by decide +kernel
theorem hsP_inbreedingOf : yP_inbreedingOf.cls ≠ "java/lang/invoke/MethodHandle" ∧ yP_inbreedingOf.cls ≠ "java/lang/invoke/VarHandle" ∧ (parseMethodDescriptor yP_inbreedingOf.desc).map (fun d => d.parameters.length) = some 1 := hvP_inbreedingOf.2
theorem hvK_chance : yK_chance.cls = RK ∧ yK_chance.cls ≠ "java/lang/invoke/MethodHandle" ∧ yK_chance.cls ≠ "java/lang/invoke/VarHandle" ∧ (parseMethodDescriptor yK_chance.desc).map (fun d => d.parameters.length) = some 2 := by decide +kernel
theorem hsK_chance : yK_chance.cls ≠ "java/lang/invoke/MethodHandle" ∧ yK_chance.cls ≠ "java/lang/invoke/VarHandle" ∧ (parseMethodDescriptor yK_chance.desc).map (fun d => d.parameters.length) = some 2 := hvK_chance.2
theorem hvP_chanceOf : yP_chanceOf.cls = RP ∧ yP_chanceOf.cls ≠ "java/lang/invoke/MethodHandle" ∧ yP_chanceOf.cls ≠ "java/lang/invoke/VarHandle" ∧ (parseMethodDescriptor yP_chanceOf.desc).map (fun d => d.parameters.length) = some 1 := by decide +kernel
theorem hsP_chanceOf : yP_chanceOf.cls ≠ "java/lang/invoke/MethodHandle" ∧ yP_chanceOf.cls ≠ "java/lang/invoke/VarHandle" ∧ (parseMethodDescriptor yP_chanceOf.desc).map (fun d => d.parameters.length) = some 1 := hvP_chanceOf.2
theorem hvP_settledBy : yP_settledBy.cls = RP ∧ yP_settledBy.cls ≠ "java/lang/invoke/MethodHandle" ∧ yP_settledBy.cls ≠ "java/lang/invoke/VarHandle" ∧ (parseMethodDescriptor yP_settledBy.desc).map (fun d => d.parameters.length) = some 1 := by decide +kernel
theorem hsP_settledBy : yP_settledBy.cls ≠ "java/lang/invoke/MethodHandle" ∧ yP_settledBy.cls ≠ "java/lang/invoke/VarHandle" ∧ (parseMethodDescriptor yP_settledBy.desc).map (fun d => d.parameters.length) = some 1 := hvP_settledBy.2
theorem hvK_share : yK_share.cls = RK ∧ yK_share.cls ≠ "java/lang/invoke/MethodHandle" ∧ yK_share.cls ≠ "java/lang/invoke/VarHandle" ∧ (parseMethodDescriptor yK_share.desc).map (fun d => d.parameters.length) = some 3 := by decide +kernel
theorem hsK_share : yK_share.cls ≠ "java/lang/invoke/MethodHandle" ∧ yK_share.cls ≠ "java/lang/invoke/VarHandle" ∧ (parseMethodDescriptor yK_share.desc).map (fun d => d.parameters.length) = some 3 := hvK_share.2
theorem hvP_isFounder : yP_isFounder.cls = RP ∧ yP_isFounder.cls ≠ "java/lang/invoke/MethodHandle" ∧ yP_isFounder.cls ≠ "java/lang/invoke/VarHandle" ∧ (parseMethodDescriptor yP_isFounder.desc).map (fun d => d.parameters.length) = some 1 := by decide +kernel
theorem hsP_isFounder : yP_isFounder.cls ≠ "java/lang/invoke/MethodHandle" ∧ yP_isFounder.cls ≠ "java/lang/invoke/VarHandle" ∧ (parseMethodDescriptor yP_isFounder.desc).map (fun d => d.parameters.length) = some 1 := hvP_isFounder.2
theorem hvP_shareOf : yP_shareOf.cls = RP ∧ yP_shareOf.cls ≠ "java/lang/invoke/MethodHandle" ∧ yP_shareOf.cls ≠ "java/lang/invoke/VarHandle" ∧ (parseMethodDescriptor yP_shareOf.desc).map (fun d => d.parameters.length) = some 2 := by decide +kernel
theorem hsP_shareOf : yP_shareOf.cls ≠ "java/lang/invoke/MethodHandle" ∧ yP_shareOf.cls ≠ "java/lang/invoke/VarHandle" ∧ (parseMethodDescriptor yP_shareOf.desc).map (fun d => d.parameters.length) = some 2 := hvP_shareOf.2
theorem hvP_shareRow : yP_shareRow.cls = RP ∧ yP_shareRow.cls ≠ "java/lang/invoke/MethodHandle" ∧ yP_shareRow.cls ≠ "java/lang/invoke/VarHandle" ∧ (parseMethodDescriptor yP_shareRow.desc).map (fun d => d.parameters.length) = some 1 := by decide +kernel
theorem hsP_shareRow : yP_shareRow.cls ≠ "java/lang/invoke/MethodHandle" ∧ yP_shareRow.cls ≠ "java/lang/invoke/VarHandle" ∧ (parseMethodDescriptor yP_shareRow.desc).map (fun d => d.parameters.length) = some 1 := hvP_shareRow.2
theorem hvK_isForbear : yK_isForbear.cls = RK ∧ yK_isForbear.cls ≠ "java/lang/invoke/MethodHandle" ∧ yK_isForbear.cls ≠ "java/lang/invoke/VarHandle" ∧ (parseMethodDescriptor yK_isForbear.desc).map (fun d => d.parameters.length) = some 2 := by decide +kernel
theorem hsK_isForbear : yK_isForbear.cls ≠ "java/lang/invoke/MethodHandle" ∧ yK_isForbear.cls ≠ "java/lang/invoke/VarHandle" ∧ (parseMethodDescriptor yK_isForbear.desc).map (fun d => d.parameters.length) = some 2 := hvK_isForbear.2
theorem hvK_order : yK_order.cls = RK ∧ yK_order.cls ≠ "java/lang/invoke/MethodHandle" ∧ yK_order.cls ≠ "java/lang/invoke/VarHandle" ∧ (parseMethodDescriptor yK_order.desc).map (fun d => d.parameters.length) = some 1 := by decide +kernel
theorem hsK_order : yK_order.cls ≠ "java/lang/invoke/MethodHandle" ∧ yK_order.cls ≠ "java/lang/invoke/VarHandle" ∧ (parseMethodDescriptor yK_order.desc).map (fun d => d.parameters.length) = some 1 := hvK_order.2
theorem hvK_mark : yK_mark.cls = RK ∧ yK_mark.cls ≠ "java/lang/invoke/MethodHandle" ∧ yK_mark.cls ≠ "java/lang/invoke/VarHandle" ∧ (parseMethodDescriptor yK_mark.desc).map (fun d => d.parameters.length) = some 3 := by decide +kernel
theorem hsK_mark : yK_mark.cls ≠ "java/lang/invoke/MethodHandle" ∧ yK_mark.cls ≠ "java/lang/invoke/VarHandle" ∧ (parseMethodDescriptor yK_mark.desc).map (fun d => d.parameters.length) = some 3 := hvK_mark.2
theorem hvM_setForm : yM_setForm.cls = RM ∧ yM_setForm.cls ≠ "java/lang/invoke/MethodHandle" ∧ yM_setForm.cls ≠ "java/lang/invoke/VarHandle" ∧ (parseMethodDescriptor yM_setForm.desc).map (fun d => d.parameters.length) = some 3 := by decide +kernel
theorem hsM_setForm : yM_setForm.cls ≠ "java/lang/invoke/MethodHandle" ∧ yM_setForm.cls ≠ "java/lang/invoke/VarHandle" ∧ (parseMethodDescriptor yM_setForm.desc).map (fun d => d.parameters.length) = some 3 := hvM_setForm.2
theorem hvM_has : yM_has.cls = RM ∧ yM_has.cls ≠ "java/lang/invoke/MethodHandle" ∧ yM_has.cls ≠ "java/lang/invoke/VarHandle" ∧ (parseMethodDescriptor yM_has.desc).map (fun d => d.parameters.length) = some 2 := by decide +kernel
theorem hsM_has : yM_has.cls ≠ "java/lang/invoke/MethodHandle" ∧ yM_has.cls ≠ "java/lang/invoke/VarHandle" ∧ (parseMethodDescriptor yM_has.desc).map (fun d => d.parameters.length) = some 2 := hvM_has.2
theorem hvK_left : yK_left.cls = RK ∧ yK_left.cls ≠ "java/lang/invoke/MethodHandle" ∧ yK_left.cls ≠ "java/lang/invoke/VarHandle" ∧ (parseMethodDescriptor yK_left.desc).map (fun d => d.parameters.length) = some 2 := by decide +kernel
theorem hsK_left : yK_left.cls ≠ "java/lang/invoke/MethodHandle" ∧ yK_left.cls ≠ "java/lang/invoke/VarHandle" ∧ (parseMethodDescriptor yK_left.desc).map (fun d => d.parameters.length) = some 2 := hvK_left.2
theorem hvM_isLeftOut : yM_isLeftOut.cls = RM ∧ yM_isLeftOut.cls ≠ "java/lang/invoke/MethodHandle" ∧ yM_isLeftOut.cls ≠ "java/lang/invoke/VarHandle" ∧ (parseMethodDescriptor yM_isLeftOut.desc).map (fun d => d.parameters.length) = some 2 := by decide +kernel
theorem hsM_isLeftOut : yM_isLeftOut.cls ≠ "java/lang/invoke/MethodHandle" ∧ yM_isLeftOut.cls ≠ "java/lang/invoke/VarHandle" ∧ (parseMethodDescriptor yM_isLeftOut.desc).map (fun d => d.parameters.length) = some 2 := hvM_isLeftOut.2
theorem hvM_isKnownOfBoth : yM_isKnownOfBoth.cls = RM ∧ yM_isKnownOfBoth.cls ≠ "java/lang/invoke/MethodHandle" ∧ yM_isKnownOfBoth.cls ≠ "java/lang/invoke/VarHandle" ∧ (parseMethodDescriptor yM_isKnownOfBoth.desc).map (fun d => d.parameters.length) = some 3 := by decide +kernel
theorem hsM_isKnownOfBoth : yM_isKnownOfBoth.cls ≠ "java/lang/invoke/MethodHandle" ∧ yM_isKnownOfBoth.cls ≠ "java/lang/invoke/VarHandle" ∧ (parseMethodDescriptor yM_isKnownOfBoth.desc).map (fun d => d.parameters.length) = some 3 := hvM_isKnownOfBoth.2
theorem hvM_formOf : yM_formOf.cls = RM ∧ yM_formOf.cls ≠ "java/lang/invoke/MethodHandle" ∧ yM_formOf.cls ≠ "java/lang/invoke/VarHandle" ∧ (parseMethodDescriptor yM_formOf.desc).map (fun d => d.parameters.length) = some 2 := by decide +kernel
theorem hsM_formOf : yM_formOf.cls ≠ "java/lang/invoke/MethodHandle" ∧ yM_formOf.cls ≠ "java/lang/invoke/VarHandle" ∧ (parseMethodDescriptor yM_formOf.desc).map (fun d => d.parameters.length) = some 2 := hvM_formOf.2
theorem hvM_difference : yM_difference.cls = RM ∧ yM_difference.cls ≠ "java/lang/invoke/MethodHandle" ∧ yM_difference.cls ≠ "java/lang/invoke/VarHandle" ∧ (parseMethodDescriptor yM_difference.desc).map (fun d => d.parameters.length) = some 3 := by decide +kernel
theorem hsM_difference : yM_difference.cls ≠ "java/lang/invoke/MethodHandle" ∧ yM_difference.cls ≠ "java/lang/invoke/VarHandle" ∧ (parseMethodDescriptor yM_difference.desc).map (fun d => d.parameters.length) = some 3 := hvM_difference.2
theorem hvK_odds : yK_odds.cls = RK ∧ yK_odds.cls ≠ "java/lang/invoke/MethodHandle" ∧ yK_odds.cls ≠ "java/lang/invoke/VarHandle" ∧ (parseMethodDescriptor yK_odds.desc).map (fun d => d.parameters.length) = some 3 := by decide +kernel
theorem hsK_odds : yK_odds.cls ≠ "java/lang/invoke/MethodHandle" ∧ yK_odds.cls ≠ "java/lang/invoke/VarHandle" ∧ (parseMethodDescriptor yK_odds.desc).map (fun d => d.parameters.length) = some 3 := hvK_odds.2
theorem hvM_oddsOf : yM_oddsOf.cls = RM ∧ yM_oddsOf.cls ≠ "java/lang/invoke/MethodHandle" ∧ yM_oddsOf.cls ≠ "java/lang/invoke/VarHandle" ∧ (parseMethodDescriptor yM_oddsOf.desc).map (fun d => d.parameters.length) = some 3 := by decide +kernel
theorem hsM_oddsOf : yM_oddsOf.cls ≠ "java/lang/invoke/MethodHandle" ∧ yM_oddsOf.cls ≠ "java/lang/invoke/VarHandle" ∧ (parseMethodDescriptor yM_oddsOf.desc).map (fun d => d.parameters.length) = some 3 := hvM_oddsOf.2
theorem hvM_knownForms : yM_knownForms.cls = RM ∧ yM_knownForms.cls ≠ "java/lang/invoke/MethodHandle" ∧ yM_knownForms.cls ≠ "java/lang/invoke/VarHandle" ∧ (parseMethodDescriptor yM_knownForms.desc).map (fun d => d.parameters.length) = some 1 := by decide +kernel
theorem hsM_knownForms : yM_knownForms.cls ≠ "java/lang/invoke/MethodHandle" ∧ yM_knownForms.cls ≠ "java/lang/invoke/VarHandle" ∧ (parseMethodDescriptor yM_knownForms.desc).map (fun d => d.parameters.length) = some 1 := hvM_knownForms.2
theorem hvM_lettersB : yM_lettersB.cls = RM ∧ yM_lettersB.cls ≠ "java/lang/invoke/MethodHandle" ∧ yM_lettersB.cls ≠ "java/lang/invoke/VarHandle" ∧ (parseMethodDescriptor yM_lettersB.desc).map (fun d => d.parameters.length) = some 1 := by decide +kernel
theorem hsM_lettersB : yM_lettersB.cls ≠ "java/lang/invoke/MethodHandle" ∧ yM_lettersB.cls ≠ "java/lang/invoke/VarHandle" ∧ (parseMethodDescriptor yM_lettersB.desc).map (fun d => d.parameters.length) = some 1 := hvM_lettersB.2
theorem hvM_amongChildren : yM_amongChildren.cls = RM ∧ yM_amongChildren.cls ≠ "java/lang/invoke/MethodHandle" ∧ yM_amongChildren.cls ≠ "java/lang/invoke/VarHandle" ∧ (parseMethodDescriptor yM_amongChildren.desc).map (fun d => d.parameters.length) = some 4 := by decide +kernel
theorem hsM_amongChildren : yM_amongChildren.cls ≠ "java/lang/invoke/MethodHandle" ∧ yM_amongChildren.cls ≠ "java/lang/invoke/VarHandle" ∧ (parseMethodDescriptor yM_amongChildren.desc).map (fun d => d.parameters.length) = some 4 := hvM_amongChildren.2
theorem hvM_amongStrangers : yM_amongStrangers.cls = RM ∧ yM_amongStrangers.cls ≠ "java/lang/invoke/MethodHandle" ∧ yM_amongStrangers.cls ≠ "java/lang/invoke/VarHandle" ∧ (parseMethodDescriptor yM_amongStrangers.desc).map (fun d => d.parameters.length) = some 3 := by decide +kernel
theorem hsM_amongStrangers : yM_amongStrangers.cls ≠ "java/lang/invoke/MethodHandle" ∧ yM_amongStrangers.cls ≠ "java/lang/invoke/VarHandle" ∧ (parseMethodDescriptor yM_amongStrangers.desc).map (fun d => d.parameters.length) = some 3 := hvM_amongStrangers.2
theorem hvK_like : yK_like.cls = RK ∧ yK_like.cls ≠ "java/lang/invoke/MethodHandle" ∧ yK_like.cls ≠ "java/lang/invoke/VarHandle" ∧ (parseMethodDescriptor yK_like.desc).map (fun d => d.parameters.length) = some 3 := by decide +kernel
theorem hsK_like : yK_like.cls ≠ "java/lang/invoke/MethodHandle" ∧ yK_like.cls ≠ "java/lang/invoke/VarHandle" ∧ (parseMethodDescriptor yK_like.desc).map (fun d => d.parameters.length) = some 3 := hvK_like.2
theorem hvM_likenessOf : yM_likenessOf.cls = RM ∧ yM_likenessOf.cls ≠ "java/lang/invoke/MethodHandle" ∧ yM_likenessOf.cls ≠ "java/lang/invoke/VarHandle" ∧ (parseMethodDescriptor yM_likenessOf.desc).map (fun d => d.parameters.length) = some 3 := by decide +kernel
theorem hsM_likenessOf : yM_likenessOf.cls ≠ "java/lang/invoke/MethodHandle" ∧ yM_likenessOf.cls ≠ "java/lang/invoke/VarHandle" ∧ (parseMethodDescriptor yM_likenessOf.desc).map (fun d => d.parameters.length) = some 3 := hvM_likenessOf.2
theorem hvK_lost : yK_lost.cls = RK ∧ yK_lost.cls ≠ "java/lang/invoke/MethodHandle" ∧ yK_lost.cls ≠ "java/lang/invoke/VarHandle" ∧ (parseMethodDescriptor yK_lost.desc).map (fun d => d.parameters.length) = some 1 := by decide +kernel
theorem hsK_lost : yK_lost.cls ≠ "java/lang/invoke/MethodHandle" ∧ yK_lost.cls ≠ "java/lang/invoke/VarHandle" ∧ (parseMethodDescriptor yK_lost.desc).map (fun d => d.parameters.length) = some 1 := hvK_lost.2
theorem hvK_isLost : yK_isLost.cls = RK ∧ yK_isLost.cls ≠ "java/lang/invoke/MethodHandle" ∧ yK_isLost.cls ≠ "java/lang/invoke/VarHandle" ∧ (parseMethodDescriptor yK_isLost.desc).map (fun d => d.parameters.length) = some 1 := by decide +kernel
theorem hsK_isLost : yK_isLost.cls ≠ "java/lang/invoke/MethodHandle" ∧ yK_isLost.cls ≠ "java/lang/invoke/VarHandle" ∧ (parseMethodDescriptor yK_isLost.desc).map (fun d => d.parameters.length) = some 1 := hvK_isLost.2
theorem hvK_diverse : yK_diverse.cls = RK ∧ yK_diverse.cls ≠ "java/lang/invoke/MethodHandle" ∧ yK_diverse.cls ≠ "java/lang/invoke/VarHandle" ∧ (parseMethodDescriptor yK_diverse.desc).map (fun d => d.parameters.length) = some 1 := by decide +kernel
theorem hsK_diverse : yK_diverse.cls ≠ "java/lang/invoke/MethodHandle" ∧ yK_diverse.cls ≠ "java/lang/invoke/VarHandle" ∧ (parseMethodDescriptor yK_diverse.desc).map (fun d => d.parameters.length) = some 1 := hvK_diverse.2
theorem hvK_kinWithLiving : yK_kinWithLiving.cls = RK ∧ yK_kinWithLiving.cls ≠ "java/lang/invoke/MethodHandle" ∧ yK_kinWithLiving.cls ≠ "java/lang/invoke/VarHandle" ∧ (parseMethodDescriptor yK_kinWithLiving.desc).map (fun d => d.parameters.length) = some 1 := by decide +kernel
theorem hsK_kinWithLiving : yK_kinWithLiving.cls ≠ "java/lang/invoke/MethodHandle" ∧ yK_kinWithLiving.cls ≠ "java/lang/invoke/VarHandle" ∧ (parseMethodDescriptor yK_kinWithLiving.desc).map (fun d => d.parameters.length) = some 1 := hvK_kinWithLiving.2
theorem hvK_animal : yK_animal.cls = RK ∧ yK_animal.cls ≠ "java/lang/invoke/MethodHandle" ∧ yK_animal.cls ≠ "java/lang/invoke/VarHandle" ∧ (parseMethodDescriptor yK_animal.desc).map (fun d => d.parameters.length) = some 2 := by decide +kernel
theorem hsK_animal : yK_animal.cls ≠ "java/lang/invoke/MethodHandle" ∧ yK_animal.cls ≠ "java/lang/invoke/VarHandle" ∧ (parseMethodDescriptor yK_animal.desc).map (fun d => d.parameters.length) = some 2 := hvK_animal.2
theorem hvL_cell : yL_cell.cls = RL ∧ yL_cell.cls ≠ "java/lang/invoke/MethodHandle" ∧ yL_cell.cls ≠ "java/lang/invoke/VarHandle" ∧ (parseMethodDescriptor yL_cell.desc).map (fun d => d.parameters.length) = some 2 := by decide +kernel
theorem hsL_cell : yL_cell.cls ≠ "java/lang/invoke/MethodHandle" ∧ yL_cell.cls ≠ "java/lang/invoke/VarHandle" ∧ (parseMethodDescriptor yL_cell.desc).map (fun d => d.parameters.length) = some 2 := hvL_cell.2
theorem hvR_init : yR_init.cls = RR ∧ yR_init.cls ≠ "java/lang/invoke/MethodHandle" ∧ yR_init.cls ≠ "java/lang/invoke/VarHandle" ∧ (parseMethodDescriptor yR_init.desc).map (fun d => d.parameters.length) = some 1 := by decide +kernel
theorem hsR_init : yR_init.cls ≠ "java/lang/invoke/MethodHandle" ∧ yR_init.cls ≠ "java/lang/invoke/VarHandle" ∧ (parseMethodDescriptor yR_init.desc).map (fun d => d.parameters.length) = some 1 := hvR_init.2
theorem hvR_parents : yR_parents.cls = RR ∧ yR_parents.cls ≠ "java/lang/invoke/MethodHandle" ∧ yR_parents.cls ≠ "java/lang/invoke/VarHandle" ∧ (parseMethodDescriptor yR_parents.desc).map (fun d => d.parameters.length) = some 3 := by decide +kernel
theorem hsR_parents : yR_parents.cls ≠ "java/lang/invoke/MethodHandle" ∧ yR_parents.cls ≠ "java/lang/invoke/VarHandle" ∧ (parseMethodDescriptor yR_parents.desc).map (fun d => d.parameters.length) = some 3 := hvR_parents.2
theorem hvR_is : yR_is.cls = RR ∧ yR_is.cls ≠ "java/lang/invoke/MethodHandle" ∧ yR_is.cls ≠ "java/lang/invoke/VarHandle" ∧ (parseMethodDescriptor yR_is.desc).map (fun d => d.parameters.length) = some 1 := by decide +kernel
theorem hsR_is : yR_is.cls ≠ "java/lang/invoke/MethodHandle" ∧ yR_is.cls ≠ "java/lang/invoke/VarHandle" ∧ (parseMethodDescriptor yR_is.desc).map (fun d => d.parameters.length) = some 1 := hvR_is.2
theorem hvR_isOrNone : yR_isOrNone.cls = RR ∧ yR_isOrNone.cls ≠ "java/lang/invoke/MethodHandle" ∧ yR_isOrNone.cls ≠ "java/lang/invoke/VarHandle" ∧ (parseMethodDescriptor yR_isOrNone.desc).map (fun d => d.parameters.length) = some 1 := by decide +kernel
theorem hsR_isOrNone : yR_isOrNone.cls ≠ "java/lang/invoke/MethodHandle" ∧ yR_isOrNone.cls ≠ "java/lang/invoke/VarHandle" ∧ (parseMethodDescriptor yR_isOrNone.desc).map (fun d => d.parameters.length) = some 1 := hvR_isOrNone.2
theorem hvR_find : yR_find.cls = RR ∧ yR_find.cls ≠ "java/lang/invoke/MethodHandle" ∧ yR_find.cls ≠ "java/lang/invoke/VarHandle" ∧ (parseMethodDescriptor yR_find.desc).map (fun d => d.parameters.length) = some 0 := by decide +kernel
theorem hsR_find : yR_find.cls ≠ "java/lang/invoke/MethodHandle" ∧ yR_find.cls ≠ "java/lang/invoke/VarHandle" ∧ (parseMethodDescriptor yR_find.desc).map (fun d => d.parameters.length) = some 0 := hvR_find.2
theorem hvR_leads : yR_leads.cls = RR ∧ yR_leads.cls ≠ "java/lang/invoke/MethodHandle" ∧ yR_leads.cls ≠ "java/lang/invoke/VarHandle" ∧ (parseMethodDescriptor yR_leads.desc).map (fun d => d.parameters.length) = some 2 := by decide +kernel
theorem hsR_leads : yR_leads.cls ≠ "java/lang/invoke/MethodHandle" ∧ yR_leads.cls ≠ "java/lang/invoke/VarHandle" ∧ (parseMethodDescriptor yR_leads.desc).map (fun d => d.parameters.length) = some 2 := hvR_leads.2
theorem hvR_tellRing : yR_tellRing.cls = RR ∧ yR_tellRing.cls ≠ "java/lang/invoke/MethodHandle" ∧ yR_tellRing.cls ≠ "java/lang/invoke/VarHandle" ∧ (parseMethodDescriptor yR_tellRing.desc).map (fun d => d.parameters.length) = some 2 := by decide +kernel
theorem hsR_tellRing : yR_tellRing.cls ≠ "java/lang/invoke/MethodHandle" ∧ yR_tellRing.cls ≠ "java/lang/invoke/VarHandle" ∧ (parseMethodDescriptor yR_tellRing.desc).map (fun d => d.parameters.length) = some 2 := hvR_tellRing.2
theorem hvR_isOlder : yR_isOlder.cls = RR ∧ yR_isOlder.cls ≠ "java/lang/invoke/MethodHandle" ∧ yR_isOlder.cls ≠ "java/lang/invoke/VarHandle" ∧ (parseMethodDescriptor yR_isOlder.desc).map (fun d => d.parameters.length) = some 2 := by decide +kernel
theorem hsR_isOlder : yR_isOlder.cls ≠ "java/lang/invoke/MethodHandle" ∧ yR_isOlder.cls ≠ "java/lang/invoke/VarHandle" ∧ (parseMethodDescriptor yR_isOlder.desc).map (fun d => d.parameters.length) = some 2 := hvR_isOlder.2
theorem hvR_ring : yR_ring.cls = RR ∧ yR_ring.cls ≠ "java/lang/invoke/MethodHandle" ∧ yR_ring.cls ≠ "java/lang/invoke/VarHandle" ∧ (parseMethodDescriptor yR_ring.desc).map (fun d => d.parameters.length) = some 1 := by decide +kernel
theorem hsR_ring : yR_ring.cls ≠ "java/lang/invoke/MethodHandle" ∧ yR_ring.cls ≠ "java/lang/invoke/VarHandle" ∧ (parseMethodDescriptor yR_ring.desc).map (fun d => d.parameters.length) = some 1 := hvR_ring.2
theorem hvR_told : yR_told.cls = RR ∧ yR_told.cls ≠ "java/lang/invoke/MethodHandle" ∧ yR_told.cls ≠ "java/lang/invoke/VarHandle" ∧ (parseMethodDescriptor yR_told.desc).map (fun d => d.parameters.length) = some 3 := by decide +kernel
theorem hsR_told : yR_told.cls ≠ "java/lang/invoke/MethodHandle" ∧ yR_told.cls ≠ "java/lang/invoke/VarHandle" ∧ (parseMethodDescriptor yR_told.desc).map (fun d => d.parameters.length) = some 3 := hvR_told.2
theorem hvR_lives : yR_lives.cls = RR ∧ yR_lives.cls ≠ "java/lang/invoke/MethodHandle" ∧ yR_lives.cls ≠ "java/lang/invoke/VarHandle" ∧ (parseMethodDescriptor yR_lives.desc).map (fun d => d.parameters.length) = some 2 := by decide +kernel
theorem hsR_lives : yR_lives.cls ≠ "java/lang/invoke/MethodHandle" ∧ yR_lives.cls ≠ "java/lang/invoke/VarHandle" ∧ (parseMethodDescriptor yR_lives.desc).map (fun d => d.parameters.length) = some 2 := hvR_lives.2
theorem hvR_kin : yR_kin.cls = RR ∧ yR_kin.cls ≠ "java/lang/invoke/MethodHandle" ∧ yR_kin.cls ≠ "java/lang/invoke/VarHandle" ∧ (parseMethodDescriptor yR_kin.desc).map (fun d => d.parameters.length) = some 3 := by decide +kernel
theorem hsR_kin : yR_kin.cls ≠ "java/lang/invoke/MethodHandle" ∧ yR_kin.cls ≠ "java/lang/invoke/VarHandle" ∧ (parseMethodDescriptor yR_kin.desc).map (fun d => d.parameters.length) = some 3 := hvR_kin.2
theorem hvR_isPart : yR_isPart.cls = RR ∧ yR_isPart.cls ≠ "java/lang/invoke/MethodHandle" ∧ yR_isPart.cls ≠ "java/lang/invoke/VarHandle" ∧ (parseMethodDescriptor yR_isPart.desc).map (fun d => d.parameters.length) = some 1 := by decide +kernel
theorem hsR_isPart : yR_isPart.cls ≠ "java/lang/invoke/MethodHandle" ∧ yR_isPart.cls ≠ "java/lang/invoke/VarHandle" ∧ (parseMethodDescriptor yR_isPart.desc).map (fun d => d.parameters.length) = some 1 := hvR_isPart.2
theorem hvR_findKin : yR_findKin.cls = RR ∧ yR_findKin.cls ≠ "java/lang/invoke/MethodHandle" ∧ yR_findKin.cls ≠ "java/lang/invoke/VarHandle" ∧ (parseMethodDescriptor yR_findKin.desc).map (fun d => d.parameters.length) = some 0 := by decide +kernel
theorem hsR_findKin : yR_findKin.cls ≠ "java/lang/invoke/MethodHandle" ∧ yR_findKin.cls ≠ "java/lang/invoke/VarHandle" ∧ (parseMethodDescriptor yR_findKin.desc).map (fun d => d.parameters.length) = some 0 := hvR_findKin.2
theorem hvR_kinOf : yR_kinOf.cls = RR ∧ yR_kinOf.cls ≠ "java/lang/invoke/MethodHandle" ∧ yR_kinOf.cls ≠ "java/lang/invoke/VarHandle" ∧ (parseMethodDescriptor yR_kinOf.desc).map (fun d => d.parameters.length) = some 2 := by decide +kernel
theorem hsR_kinOf : yR_kinOf.cls ≠ "java/lang/invoke/MethodHandle" ∧ yR_kinOf.cls ≠ "java/lang/invoke/VarHandle" ∧ (parseMethodDescriptor yR_kinOf.desc).map (fun d => d.parameters.length) = some 2 := hvR_kinOf.2
theorem hvR_lowest : yR_lowest.cls = RR ∧ yR_lowest.cls ≠ "java/lang/invoke/MethodHandle" ∧ yR_lowest.cls ≠ "java/lang/invoke/VarHandle" ∧ (parseMethodDescriptor yR_lowest.desc).map (fun d => d.parameters.length) = some 3 := by decide +kernel
theorem hsR_lowest : yR_lowest.cls ≠ "java/lang/invoke/MethodHandle" ∧ yR_lowest.cls ≠ "java/lang/invoke/VarHandle" ∧ (parseMethodDescriptor yR_lowest.desc).map (fun d => d.parameters.length) = some 3 := hvR_lowest.2
theorem hvR_inbred : yR_inbred.cls = RR ∧ yR_inbred.cls ≠ "java/lang/invoke/MethodHandle" ∧ yR_inbred.cls ≠ "java/lang/invoke/VarHandle" ∧ (parseMethodDescriptor yR_inbred.desc).map (fun d => d.parameters.length) = some 2 := by decide +kernel
theorem hsR_inbred : yR_inbred.cls ≠ "java/lang/invoke/MethodHandle" ∧ yR_inbred.cls ≠ "java/lang/invoke/VarHandle" ∧ (parseMethodDescriptor yR_inbred.desc).map (fun d => d.parameters.length) = some 2 := hvR_inbred.2
theorem hvR_inbredOf : yR_inbredOf.cls = RR ∧ yR_inbredOf.cls ≠ "java/lang/invoke/MethodHandle" ∧ yR_inbredOf.cls ≠ "java/lang/invoke/VarHandle" ∧ (parseMethodDescriptor yR_inbredOf.desc).map (fun d => d.parameters.length) = some 1 := by decide +kernel
theorem hsR_inbredOf : yR_inbredOf.cls ≠ "java/lang/invoke/MethodHandle" ∧ yR_inbredOf.cls ≠ "java/lang/invoke/VarHandle" ∧ (parseMethodDescriptor yR_inbredOf.desc).map (fun d => d.parameters.length) = some 1 := hvR_inbredOf.2
theorem hvR_chance : yR_chance.cls = RR ∧ yR_chance.cls ≠ "java/lang/invoke/MethodHandle" ∧ yR_chance.cls ≠ "java/lang/invoke/VarHandle" ∧ (parseMethodDescriptor yR_chance.desc).map (fun d => d.parameters.length) = some 2 := by decide +kernel
theorem hsR_chance : yR_chance.cls ≠ "java/lang/invoke/MethodHandle" ∧ yR_chance.cls ≠ "java/lang/invoke/VarHandle" ∧ (parseMethodDescriptor yR_chance.desc).map (fun d => d.parameters.length) = some 2 := hvR_chance.2
theorem hvR_share : yR_share.cls = RR ∧ yR_share.cls ≠ "java/lang/invoke/MethodHandle" ∧ yR_share.cls ≠ "java/lang/invoke/VarHandle" ∧ (parseMethodDescriptor yR_share.desc).map (fun d => d.parameters.length) = some 3 := by decide +kernel
theorem hsR_share : yR_share.cls ≠ "java/lang/invoke/MethodHandle" ∧ yR_share.cls ≠ "java/lang/invoke/VarHandle" ∧ (parseMethodDescriptor yR_share.desc).map (fun d => d.parameters.length) = some 3 := hvR_share.2
theorem hvR_isFounder : yR_isFounder.cls = RR ∧ yR_isFounder.cls ≠ "java/lang/invoke/MethodHandle" ∧ yR_isFounder.cls ≠ "java/lang/invoke/VarHandle" ∧ (parseMethodDescriptor yR_isFounder.desc).map (fun d => d.parameters.length) = some 1 := by decide +kernel
theorem hsR_isFounder : yR_isFounder.cls ≠ "java/lang/invoke/MethodHandle" ∧ yR_isFounder.cls ≠ "java/lang/invoke/VarHandle" ∧ (parseMethodDescriptor yR_isFounder.desc).map (fun d => d.parameters.length) = some 1 := hvR_isFounder.2
theorem hvR_isForbear : yR_isForbear.cls = RR ∧ yR_isForbear.cls ≠ "java/lang/invoke/MethodHandle" ∧ yR_isForbear.cls ≠ "java/lang/invoke/VarHandle" ∧ (parseMethodDescriptor yR_isForbear.desc).map (fun d => d.parameters.length) = some 2 := by decide +kernel
theorem hsR_isForbear : yR_isForbear.cls ≠ "java/lang/invoke/MethodHandle" ∧ yR_isForbear.cls ≠ "java/lang/invoke/VarHandle" ∧ (parseMethodDescriptor yR_isForbear.desc).map (fun d => d.parameters.length) = some 2 := hvR_isForbear.2
theorem hvR_order : yR_order.cls = RR ∧ yR_order.cls ≠ "java/lang/invoke/MethodHandle" ∧ yR_order.cls ≠ "java/lang/invoke/VarHandle" ∧ (parseMethodDescriptor yR_order.desc).map (fun d => d.parameters.length) = some 1 := by decide +kernel
theorem hsR_order : yR_order.cls ≠ "java/lang/invoke/MethodHandle" ∧ yR_order.cls ≠ "java/lang/invoke/VarHandle" ∧ (parseMethodDescriptor yR_order.desc).map (fun d => d.parameters.length) = some 1 := hvR_order.2
theorem hvR_mark : yR_mark.cls = RR ∧ yR_mark.cls ≠ "java/lang/invoke/MethodHandle" ∧ yR_mark.cls ≠ "java/lang/invoke/VarHandle" ∧ (parseMethodDescriptor yR_mark.desc).map (fun d => d.parameters.length) = some 3 := by decide +kernel
theorem hsR_mark : yR_mark.cls ≠ "java/lang/invoke/MethodHandle" ∧ yR_mark.cls ≠ "java/lang/invoke/VarHandle" ∧ (parseMethodDescriptor yR_mark.desc).map (fun d => d.parameters.length) = some 3 := hvR_mark.2
theorem hvR_left : yR_left.cls = RR ∧ yR_left.cls ≠ "java/lang/invoke/MethodHandle" ∧ yR_left.cls ≠ "java/lang/invoke/VarHandle" ∧ (parseMethodDescriptor yR_left.desc).map (fun d => d.parameters.length) = some 2 := by decide +kernel
theorem hsR_left : yR_left.cls ≠ "java/lang/invoke/MethodHandle" ∧ yR_left.cls ≠ "java/lang/invoke/VarHandle" ∧ (parseMethodDescriptor yR_left.desc).map (fun d => d.parameters.length) = some 2 := hvR_left.2
theorem hvR_isLeftOut : yR_isLeftOut.cls = RR ∧ yR_isLeftOut.cls ≠ "java/lang/invoke/MethodHandle" ∧ yR_isLeftOut.cls ≠ "java/lang/invoke/VarHandle" ∧ (parseMethodDescriptor yR_isLeftOut.desc).map (fun d => d.parameters.length) = some 2 := by decide +kernel
theorem hsR_isLeftOut : yR_isLeftOut.cls ≠ "java/lang/invoke/MethodHandle" ∧ yR_isLeftOut.cls ≠ "java/lang/invoke/VarHandle" ∧ (parseMethodDescriptor yR_isLeftOut.desc).map (fun d => d.parameters.length) = some 2 := hvR_isLeftOut.2
theorem hvR_odds : yR_odds.cls = RR ∧ yR_odds.cls ≠ "java/lang/invoke/MethodHandle" ∧ yR_odds.cls ≠ "java/lang/invoke/VarHandle" ∧ (parseMethodDescriptor yR_odds.desc).map (fun d => d.parameters.length) = some 3 := by decide +kernel
theorem hsR_odds : yR_odds.cls ≠ "java/lang/invoke/MethodHandle" ∧ yR_odds.cls ≠ "java/lang/invoke/VarHandle" ∧ (parseMethodDescriptor yR_odds.desc).map (fun d => d.parameters.length) = some 3 := hvR_odds.2
theorem hvR_like : yR_like.cls = RR ∧ yR_like.cls ≠ "java/lang/invoke/MethodHandle" ∧ yR_like.cls ≠ "java/lang/invoke/VarHandle" ∧ (parseMethodDescriptor yR_like.desc).map (fun d => d.parameters.length) = some 3 := by decide +kernel
theorem hsR_like : yR_like.cls ≠ "java/lang/invoke/MethodHandle" ∧ yR_like.cls ≠ "java/lang/invoke/VarHandle" ∧ (parseMethodDescriptor yR_like.desc).map (fun d => d.parameters.length) = some 3 := hvR_like.2
theorem hvR_lost : yR_lost.cls = RR ∧ yR_lost.cls ≠ "java/lang/invoke/MethodHandle" ∧ yR_lost.cls ≠ "java/lang/invoke/VarHandle" ∧ (parseMethodDescriptor yR_lost.desc).map (fun d => d.parameters.length) = some 1 := by decide +kernel
theorem hsR_lost : yR_lost.cls ≠ "java/lang/invoke/MethodHandle" ∧ yR_lost.cls ≠ "java/lang/invoke/VarHandle" ∧ (parseMethodDescriptor yR_lost.desc).map (fun d => d.parameters.length) = some 1 := hvR_lost.2
theorem hvR_diverse : yR_diverse.cls = RR ∧ yR_diverse.cls ≠ "java/lang/invoke/MethodHandle" ∧ yR_diverse.cls ≠ "java/lang/invoke/VarHandle" ∧ (parseMethodDescriptor yR_diverse.desc).map (fun d => d.parameters.length) = some 1 := by decide +kernel
theorem hsR_diverse : yR_diverse.cls ≠ "java/lang/invoke/MethodHandle" ∧ yR_diverse.cls ≠ "java/lang/invoke/VarHandle" ∧ (parseMethodDescriptor yR_diverse.desc).map (fun d => d.parameters.length) = some 1 := hvR_diverse.2
theorem hvR_animal : yR_animal.cls = RR ∧ yR_animal.cls ≠ "java/lang/invoke/MethodHandle" ∧ yR_animal.cls ≠ "java/lang/invoke/VarHandle" ∧ (parseMethodDescriptor yR_animal.desc).map (fun d => d.parameters.length) = some 2 := by decide +kernel
theorem hsR_animal : yR_animal.cls ≠ "java/lang/invoke/MethodHandle" ∧ yR_animal.cls ≠ "java/lang/invoke/VarHandle" ∧ (parseMethodDescriptor yR_animal.desc).map (fun d => d.parameters.length) = some 2 := hvR_animal.2
theorem uw0 : Cond.methodLink RF 11 yF_commonDivisor ∈ uT := uk (um1 (List.mem_of_getElem? (i := 237) (by decide +kernel))) rfl
theorem uw1 : Cond.static yF_commonDivisor ∈ uT := uk (um1 (List.mem_of_getElem? (i := 238) (by decide +kernel))) rfl
theorem uw2 : Cond.initialized RF ∈ uT := uk (um1 (List.mem_of_getElem? (i := 7) (by decide +kernel))) rfl
theorem uw3 : Cond.constantLong RF 15 (-1) ∈ uT := uk (um2 (List.mem_of_getElem? (i := 0) (by decide +kernel))) rfl
theorem uw4 : Cond.fieldLink RP 41 "KinNumbers$Pedigree" "count" "I" ∈ uT := uk (um1 (List.mem_of_getElem? (i := 89) (by decide +kernel))) rfl
theorem uw5 : Cond.methodLink RP 53 yP_has ∈ uT := uk (um1 (List.mem_of_getElem? (i := 43) (by decide +kernel))) rfl
theorem uw6 : Cond.instanceMethod yP_has ∈ uT := uk (um1 (List.mem_of_getElem? (i := 45) (by decide +kernel))) rfl
theorem uw7 : Cond.selects RP yP_has yP_has ∈ uT := uk (um0 (List.mem_of_getElem? (i := 2) (by decide +kernel))) rfl
theorem uw8 : Cond.initialized RP ∈ uT := uk (um1 (List.mem_of_getElem? (i := 3) (by decide +kernel))) rfl
theorem uw9 : Cond.fieldLink RP 9 "KinNumbers$Pedigree" "mothers" "[I" ∈ uT := uk (um1 (List.mem_of_getElem? (i := 90) (by decide +kernel))) rfl
theorem uw10 : Cond.fieldLink RP 15 "KinNumbers$Pedigree" "fathers" "[I" ∈ uT := uk (um1 (List.mem_of_getElem? (i := 91) (by decide +kernel))) rfl
theorem uw11 : Cond.fieldLink RP 18 "KinNumbers$Pedigree" "steps" "[I" ∈ uT := uk (um1 (List.mem_of_getElem? (i := 92) (by decide +kernel))) rfl
theorem uw12 : Cond.fieldLink RP 21 "KinNumbers$Pedigree" "sequence" "[I" ∈ uT := uk (um1 (List.mem_of_getElem? (i := 93) (by decide +kernel))) rfl
theorem uw13 : Cond.fieldLink RP 24 "KinNumbers$Pedigree" "forbears" "[I" ∈ uT := uk (um1 (List.mem_of_getElem? (i := 94) (by decide +kernel))) rfl
theorem uw14 : Cond.methodLink RP 57 yP_bitOf ∈ uT := uk (um1 (List.mem_of_getElem? (i := 64) (by decide +kernel))) rfl
theorem uw15 : Cond.static yP_bitOf ∈ uT := uk (um1 (List.mem_of_getElem? (i := 65) (by decide +kernel))) rfl
theorem uw16 : Cond.fieldLink RP 27 "KinNumbers$Pedigree" "kinTable" "[J" ∈ uT := uk (um1 (List.mem_of_getElem? (i := 95) (by decide +kernel))) rfl
theorem uw17 : Cond.methodLink RP 61 yP_motherOf ∈ uT := uk (um1 (List.mem_of_getElem? (i := 71) (by decide +kernel))) rfl
theorem uw18 : Cond.instanceMethod yP_motherOf ∈ uT := uk (um1 (List.mem_of_getElem? (i := 72) (by decide +kernel))) rfl
theorem uw19 : Cond.selects RP yP_motherOf yP_motherOf ∈ uT := uk (um1 (List.mem_of_getElem? (i := 73) (by decide +kernel))) rfl
theorem uw20 : Cond.methodLink RP 64 yP_fatherOf ∈ uT := uk (um1 (List.mem_of_getElem? (i := 75) (by decide +kernel))) rfl
theorem uw21 : Cond.instanceMethod yP_fatherOf ∈ uT := uk (um1 (List.mem_of_getElem? (i := 76) (by decide +kernel))) rfl
theorem uw22 : Cond.selects RP yP_fatherOf yP_fatherOf ∈ uT := uk (um1 (List.mem_of_getElem? (i := 77) (by decide +kernel))) rfl
theorem uw23 : Cond.methodLink RP 67 yP_kinOf ∈ uT := uk (um1 (List.mem_of_getElem? (i := 79) (by decide +kernel))) rfl
theorem uw24 : Cond.instanceMethod yP_kinOf ∈ uT := uk (um1 (List.mem_of_getElem? (i := 80) (by decide +kernel))) rfl
theorem uw25 : Cond.selects RP yP_kinOf yP_kinOf ∈ uT := uk (um1 (List.mem_of_getElem? (i := 81) (by decide +kernel))) rfl
theorem uw26 : Cond.constantLong RP 73 (1073741824) ∈ uT := uk (um1 (List.mem_of_getElem? (i := 88) (by decide +kernel))) rfl
theorem uw27 : Cond.methodLink RP 94 yP_inbreedingOf ∈ uT := uk (um2 (List.mem_of_getElem? (i := 21) (by decide +kernel))) rfl
theorem uw28 : Cond.instanceMethod yP_inbreedingOf ∈ uT := uk (um2 (List.mem_of_getElem? (i := 6) (by decide +kernel))) rfl
theorem uw29 : Cond.selects RP yP_inbreedingOf yP_inbreedingOf ∈ uT := uk (um2 (List.mem_of_getElem? (i := 7) (by decide +kernel))) rfl
theorem uw30 : Cond.constantLong RP 97 (4) ∈ uT := uk (um2 (List.mem_of_getElem? (i := 22) (by decide +kernel))) rfl
theorem uw31 : Cond.methodLink RP 75 yP_settledBy ∈ uT := uk (um2 (List.mem_of_getElem? (i := 17) (by decide +kernel))) rfl
theorem uw32 : Cond.instanceMethod yP_settledBy ∈ uT := uk (um2 (List.mem_of_getElem? (i := 19) (by decide +kernel))) rfl
theorem uw33 : Cond.selects RP yP_settledBy yP_settledBy ∈ uT := uk (um0 (List.mem_of_getElem? (i := 14) (by decide +kernel))) rfl
theorem uw34 : Cond.fieldLink RP 31 "KinNumbers$Pedigree" "shares" "[J" ∈ uT := uk (um1 (List.mem_of_getElem? (i := 96) (by decide +kernel))) rfl
theorem uw35 : Cond.methodLink RP 91 yP_hasForbear ∈ uT := uk (um1 (List.mem_of_getElem? (i := 181) (by decide +kernel))) rfl
theorem uw36 : Cond.instanceMethod yP_hasForbear ∈ uT := uk (um1 (List.mem_of_getElem? (i := 182) (by decide +kernel))) rfl
theorem uw37 : Cond.selects RP yP_hasForbear yP_hasForbear ∈ uT := uk (um1 (List.mem_of_getElem? (i := 183) (by decide +kernel))) rfl
theorem uw38 : Cond.methodLink RP 87 yP_leadsTo ∈ uT := uk (um1 (List.mem_of_getElem? (i := 177) (by decide +kernel))) rfl
theorem uw39 : Cond.instanceMethod yP_leadsTo ∈ uT := uk (um1 (List.mem_of_getElem? (i := 179) (by decide +kernel))) rfl
theorem uw40 : Cond.selects RP yP_leadsTo yP_leadsTo ∈ uT := uk (um0 (List.mem_of_getElem? (i := 10) (by decide +kernel))) rfl
theorem uw41 : Cond.fieldLink RP 37 "KinNumbers$Pedigree" "ringLength" "I" ∈ uT := uk (um1 (List.mem_of_getElem? (i := 98) (by decide +kernel))) rfl
theorem uw42 : Cond.fieldLink RP 34 "KinNumbers$Pedigree" "ringRows" "[I" ∈ uT := uk (um1 (List.mem_of_getElem? (i := 97) (by decide +kernel))) rfl
theorem uw43 : Cond.methodLink RP 82 yP_shareRow ∈ uT := uk (um2 (List.mem_of_getElem? (i := 35) (by decide +kernel))) rfl
theorem uw44 : Cond.instanceMethod yP_shareRow ∈ uT := uk (um2 (List.mem_of_getElem? (i := 37) (by decide +kernel))) rfl
theorem uw45 : Cond.selects RP yP_shareRow yP_shareRow ∈ uT := uk (um0 (List.mem_of_getElem? (i := 15) (by decide +kernel))) rfl
theorem uw46 : Cond.methodLink RP 79 yP_inOrder ∈ uT := uk (um1 (List.mem_of_getElem? (i := 52) (by decide +kernel))) rfl
theorem uw47 : Cond.instanceMethod yP_inOrder ∈ uT := uk (um1 (List.mem_of_getElem? (i := 53) (by decide +kernel))) rfl
theorem uw48 : Cond.selects RP yP_inOrder yP_inOrder ∈ uT := uk (um1 (List.mem_of_getElem? (i := 54) (by decide +kernel))) rfl
theorem uw49 : Cond.constantLong RP 85 (2) ∈ uT := uk (um1 (List.mem_of_getElem? (i := 83) (by decide +kernel))) rfl
theorem uw50 : Cond.methodLink RP 121 yP_lineOf ∈ uT := uk (um1 (List.mem_of_getElem? (i := 60) (by decide +kernel))) rfl
theorem uw51 : Cond.instanceMethod yP_lineOf ∈ uT := uk (um1 (List.mem_of_getElem? (i := 62) (by decide +kernel))) rfl
theorem uw52 : Cond.selects RP yP_lineOf yP_lineOf ∈ uT := uk (um0 (List.mem_of_getElem? (i := 5) (by decide +kernel))) rfl
theorem uw53 : Cond.methodLink RP 124 yP_setKin ∈ uT := uk (um1 (List.mem_of_getElem? (i := 84) (by decide +kernel))) rfl
theorem uw54 : Cond.instanceMethod yP_setKin ∈ uT := uk (um1 (List.mem_of_getElem? (i := 86) (by decide +kernel))) rfl
theorem uw55 : Cond.selects RP yP_setKin yP_setKin ∈ uT := uk (um0 (List.mem_of_getElem? (i := 7) (by decide +kernel))) rfl
theorem uw56 : Cond.methodLink RP 44 yA_fill ∈ uT := uk (um1 (List.mem_of_getElem? (i := 28) (by decide +kernel))) rfl
theorem uw57 : Cond.static yA_fill ∈ uT := uk (um1 (List.mem_of_getElem? (i := 29) (by decide +kernel))) rfl
theorem uw58 : Cond.initialized RA ∈ uT := uk (um1 (List.mem_of_getElem? (i := 4) (by decide +kernel))) rfl
theorem uw59 : Cond.methodLink RP 112 yP_stepsOf ∈ uT := uk (um1 (List.mem_of_getElem? (i := 39) (by decide +kernel))) rfl
theorem uw60 : Cond.instanceMethod yP_stepsOf ∈ uT := uk (um1 (List.mem_of_getElem? (i := 40) (by decide +kernel))) rfl
theorem uw61 : Cond.selects RP yP_stepsOf yP_stepsOf ∈ uT := uk (um1 (List.mem_of_getElem? (i := 41) (by decide +kernel))) rfl
theorem uw62 : Cond.methodLink RP 115 yJ_max ∈ uT := uk (um1 (List.mem_of_getElem? (i := 47) (by decide +kernel))) rfl
theorem uw63 : Cond.static yJ_max ∈ uT := uk (um1 (List.mem_of_getElem? (i := 20) (by decide +kernel))) rfl
theorem uw64 : Cond.initialized RJ ∈ uT := uk (um1 (List.mem_of_getElem? (i := 2) (by decide +kernel))) rfl
theorem uw65 : Cond.methodLink RP 99 yP_reckonSteps ∈ uT := uk (um1 (List.mem_of_getElem? (i := 35) (by decide +kernel))) rfl
theorem uw66 : Cond.instanceMethod yP_reckonSteps ∈ uT := uk (um1 (List.mem_of_getElem? (i := 37) (by decide +kernel))) rfl
theorem uw67 : Cond.selects RP yP_reckonSteps yP_reckonSteps ∈ uT := uk (um0 (List.mem_of_getElem? (i := 1) (by decide +kernel))) rfl
theorem uw68 : Cond.methodLink RP 102 yP_reckonOrder ∈ uT := uk (um1 (List.mem_of_getElem? (i := 48) (by decide +kernel))) rfl
theorem uw69 : Cond.instanceMethod yP_reckonOrder ∈ uT := uk (um1 (List.mem_of_getElem? (i := 50) (by decide +kernel))) rfl
theorem uw70 : Cond.selects RP yP_reckonOrder yP_reckonOrder ∈ uT := uk (um0 (List.mem_of_getElem? (i := 3) (by decide +kernel))) rfl
theorem uw71 : Cond.methodLink RP 105 yP_reckonForbears ∈ uT := uk (um1 (List.mem_of_getElem? (i := 56) (by decide +kernel))) rfl
theorem uw72 : Cond.instanceMethod yP_reckonForbears ∈ uT := uk (um1 (List.mem_of_getElem? (i := 58) (by decide +kernel))) rfl
theorem uw73 : Cond.selects RP yP_reckonForbears yP_reckonForbears ∈ uT := uk (um0 (List.mem_of_getElem? (i := 4) (by decide +kernel))) rfl
theorem uw74 : Cond.methodLink RP 109 yP_reckonKin ∈ uT := uk (um1 (List.mem_of_getElem? (i := 67) (by decide +kernel))) rfl
theorem uw75 : Cond.instanceMethod yP_reckonKin ∈ uT := uk (um1 (List.mem_of_getElem? (i := 69) (by decide +kernel))) rfl
theorem uw76 : Cond.selects RP yP_reckonKin yP_reckonKin ∈ uT := uk (um0 (List.mem_of_getElem? (i := 6) (by decide +kernel))) rfl
theorem uw77 : Cond.methodLink RP 50 yP_reckon ∈ uT := uk (um1 (List.mem_of_getElem? (i := 31) (by decide +kernel))) rfl
theorem uw78 : Cond.instanceMethod yP_reckon ∈ uT := uk (um1 (List.mem_of_getElem? (i := 33) (by decide +kernel))) rfl
theorem uw79 : Cond.selects RP yP_reckon yP_reckon ∈ uT := uk (um0 (List.mem_of_getElem? (i := 0) (by decide +kernel))) rfl
theorem uw80 : Cond.fieldLink RM 15 "KinNumbers$Marks" "count" "I" ∈ uT := uk (um1 (List.mem_of_getElem? (i := 130) (by decide +kernel))) rfl
theorem uw81 : Cond.methodLink RM 25 yM_has ∈ uT := uk (um2 (List.mem_of_getElem? (i := 57) (by decide +kernel))) rfl
theorem uw82 : Cond.instanceMethod yM_has ∈ uT := uk (um2 (List.mem_of_getElem? (i := 59) (by decide +kernel))) rfl
theorem uw83 : Cond.selects RM yM_has yM_has ∈ uT := uk (um0 (List.mem_of_getElem? (i := 16) (by decide +kernel))) rfl
theorem uw84 : Cond.initialized RM ∈ uT := uk (um1 (List.mem_of_getElem? (i := 5) (by decide +kernel))) rfl
theorem uw85 : Cond.fieldLink RM 11 "KinNumbers$Marks" "forms" "[I" ∈ uT := uk (um1 (List.mem_of_getElem? (i := 131) (by decide +kernel))) rfl
theorem uw86 : Cond.methodLink RM 46 yM_formOf ∈ uT := uk (um2 (List.mem_of_getElem? (i := 73) (by decide +kernel))) rfl
theorem uw87 : Cond.instanceMethod yM_formOf ∈ uT := uk (um2 (List.mem_of_getElem? (i := 75) (by decide +kernel))) rfl
theorem uw88 : Cond.selects RM yM_formOf yM_formOf ∈ uT := uk (um0 (List.mem_of_getElem? (i := 18) (by decide +kernel))) rfl
theorem uw89 : Cond.methodLink RM 66 yJ_abs ∈ uT := uk (um2 (List.mem_of_getElem? (i := 81) (by decide +kernel))) rfl
theorem uw90 : Cond.static yJ_abs ∈ uT := uk (um2 (List.mem_of_getElem? (i := 82) (by decide +kernel))) rfl
theorem uw91 : Cond.methodLink RM 71 yJ_max ∈ uT := uk (um2 (List.mem_of_getElem? (i := 101) (by decide +kernel))) rfl
theorem uw92 : Cond.constantLong RM 37 (2) ∈ uT := uk (um2 (List.mem_of_getElem? (i := 92) (by decide +kernel))) rfl
theorem uw93 : Cond.methodLink RM 29 yM_isKnownOfBoth ∈ uT := uk (um2 (List.mem_of_getElem? (i := 69) (by decide +kernel))) rfl
theorem uw94 : Cond.instanceMethod yM_isKnownOfBoth ∈ uT := uk (um2 (List.mem_of_getElem? (i := 71) (by decide +kernel))) rfl
theorem uw95 : Cond.selects RM yM_isKnownOfBoth yM_isKnownOfBoth ∈ uT := uk (um0 (List.mem_of_getElem? (i := 17) (by decide +kernel))) rfl
theorem uw96 : Cond.methodLink RM 33 yM_difference ∈ uT := uk (um2 (List.mem_of_getElem? (i := 77) (by decide +kernel))) rfl
theorem uw97 : Cond.instanceMethod yM_difference ∈ uT := uk (um2 (List.mem_of_getElem? (i := 79) (by decide +kernel))) rfl
theorem uw98 : Cond.selects RM yM_difference yM_difference ∈ uT := uk (um0 (List.mem_of_getElem? (i := 19) (by decide +kernel))) rfl
theorem uw99 : Cond.methodLink RM 58 yF_lowest ∈ uT := uk (um2 (List.mem_of_getElem? (i := 108) (by decide +kernel))) rfl
theorem uw100 : Cond.static yF_lowest ∈ uT := uk (um1 (List.mem_of_getElem? (i := 235) (by decide +kernel))) rfl
theorem uw101 : Cond.methodLink RM 39 yM_knownForms ∈ uT := uk (um2 (List.mem_of_getElem? (i := 93) (by decide +kernel))) rfl
theorem uw102 : Cond.instanceMethod yM_knownForms ∈ uT := uk (um2 (List.mem_of_getElem? (i := 95) (by decide +kernel))) rfl
theorem uw103 : Cond.selects RM yM_knownForms yM_knownForms ∈ uT := uk (um0 (List.mem_of_getElem? (i := 20) (by decide +kernel))) rfl
theorem uw104 : Cond.methodLink RM 43 yM_lettersB ∈ uT := uk (um2 (List.mem_of_getElem? (i := 97) (by decide +kernel))) rfl
theorem uw105 : Cond.instanceMethod yM_lettersB ∈ uT := uk (um2 (List.mem_of_getElem? (i := 99) (by decide +kernel))) rfl
theorem uw106 : Cond.selects RM yM_lettersB yM_lettersB ∈ uT := uk (um0 (List.mem_of_getElem? (i := 21) (by decide +kernel))) rfl
theorem uw107 : Cond.methodLink RM 50 yM_amongChildren ∈ uT := uk (um2 (List.mem_of_getElem? (i := 102) (by decide +kernel))) rfl
theorem uw108 : Cond.static yM_amongChildren ∈ uT := uk (um2 (List.mem_of_getElem? (i := 103) (by decide +kernel))) rfl
theorem uw109 : Cond.methodLink RM 54 yM_amongStrangers ∈ uT := uk (um2 (List.mem_of_getElem? (i := 105) (by decide +kernel))) rfl
theorem uw110 : Cond.static yM_amongStrangers ∈ uT := uk (um2 (List.mem_of_getElem? (i := 106) (by decide +kernel))) rfl
theorem uw111 : Cond.constantLong RM 64 (-1) ∈ uT := uk (um2 (List.mem_of_getElem? (i := 117) (by decide +kernel))) rfl
theorem uw112 : Cond.fieldLink RK 29 "KinNumbers" "count" "I" ∈ uT := uk (um1 (List.mem_of_getElem? (i := 140) (by decide +kernel))) rfl
theorem uw113 : Cond.methodLink RK 58 yK_isAnimal ∈ uT := uk (um1 (List.mem_of_getElem? (i := 165) (by decide +kernel))) rfl
theorem uw114 : Cond.instanceMethod yK_isAnimal ∈ uT := uk (um1 (List.mem_of_getElem? (i := 167) (by decide +kernel))) rfl
theorem uw115 : Cond.selects RK yK_isAnimal yK_isAnimal ∈ uT := uk (um0 (List.mem_of_getElem? (i := 8) (by decide +kernel))) rfl
theorem uw116 : Cond.initialized RK ∈ uT := uk (um1 (List.mem_of_getElem? (i := 1) (by decide +kernel))) rfl
theorem uw117 : Cond.fieldLink RK 9 "KinNumbers" "sexes" "[I" ∈ uT := uk (um1 (List.mem_of_getElem? (i := 141) (by decide +kernel))) rfl
theorem uw118 : Cond.fieldLink RK 13 "KinNumbers" "days" "[I" ∈ uT := uk (um1 (List.mem_of_getElem? (i := 142) (by decide +kernel))) rfl
theorem uw119 : Cond.methodLink RK 153 yK_mayBeParent ∈ uT := uk (um1 (List.mem_of_getElem? (i := 193) (by decide +kernel))) rfl
theorem uw120 : Cond.instanceMethod yK_mayBeParent ∈ uT := uk (um1 (List.mem_of_getElem? (i := 195) (by decide +kernel))) rfl
theorem uw121 : Cond.selects RK yK_mayBeParent yK_mayBeParent ∈ uT := uk (um0 (List.mem_of_getElem? (i := 12) (by decide +kernel))) rfl
theorem uw122 : Cond.fieldLink RK 38 "KinNumbers" "pedigree" "LKinNumbers$Pedigree;" ∈ uT := uk (um1 (List.mem_of_getElem? (i := 138) (by decide +kernel))) rfl
theorem uw123 : Cond.methodLink RK 144 yP_motherOf ∈ uT := uk (um1 (List.mem_of_getElem? (i := 218) (by decide +kernel))) rfl
theorem uw124 : Cond.methodLink RK 147 yP_fatherOf ∈ uT := uk (um1 (List.mem_of_getElem? (i := 219) (by decide +kernel))) rfl
theorem uw125 : Cond.methodLink RK 73 yK_mayBeParents ∈ uT := uk (um1 (List.mem_of_getElem? (i := 189) (by decide +kernel))) rfl
theorem uw126 : Cond.instanceMethod yK_mayBeParents ∈ uT := uk (um1 (List.mem_of_getElem? (i := 191) (by decide +kernel))) rfl
theorem uw127 : Cond.selects RK yK_mayBeParents yK_mayBeParents ∈ uT := uk (um0 (List.mem_of_getElem? (i := 11) (by decide +kernel))) rfl
theorem uw128 : Cond.methodLink RK 112 yP_isFounder ∈ uT := uk (um2 (List.mem_of_getElem? (i := 27) (by decide +kernel))) rfl
theorem uw129 : Cond.instanceMethod yP_isFounder ∈ uT := uk (um2 (List.mem_of_getElem? (i := 28) (by decide +kernel))) rfl
theorem uw130 : Cond.selects RP yP_isFounder yP_isFounder ∈ uT := uk (um2 (List.mem_of_getElem? (i := 29) (by decide +kernel))) rfl
theorem uw131 : Cond.fieldLink RK 16 "KinNumbers" "dead" "[Z" ∈ uT := uk (um1 (List.mem_of_getElem? (i := 143) (by decide +kernel))) rfl
theorem uw132 : Cond.methodLink RK 118 yP_hasForbear ∈ uT := uk (um2 (List.mem_of_getElem? (i := 43) (by decide +kernel))) rfl
theorem uw133 : Cond.methodLink RK 95 yP_kinOf ∈ uT := uk (um1 (List.mem_of_getElem? (i := 232) (by decide +kernel))) rfl
theorem uw134 : Cond.methodLink RK 55 yP_forgetRing ∈ uT := uk (um1 (List.mem_of_getElem? (i := 161) (by decide +kernel))) rfl
theorem uw135 : Cond.instanceMethod yP_forgetRing ∈ uT := uk (um1 (List.mem_of_getElem? (i := 162) (by decide +kernel))) rfl
theorem uw136 : Cond.selects RP yP_forgetRing yP_forgetRing ∈ uT := uk (um1 (List.mem_of_getElem? (i := 163) (by decide +kernel))) rfl
theorem uw137 : Cond.methodLink RK 62 yK_isAnimalOrNone ∈ uT := uk (um1 (List.mem_of_getElem? (i := 169) (by decide +kernel))) rfl
theorem uw138 : Cond.instanceMethod yK_isAnimalOrNone ∈ uT := uk (um1 (List.mem_of_getElem? (i := 171) (by decide +kernel))) rfl
theorem uw139 : Cond.selects RK yK_isAnimalOrNone yK_isAnimalOrNone ∈ uT := uk (um0 (List.mem_of_getElem? (i := 9) (by decide +kernel))) rfl
theorem uw140 : Cond.methodLink RK 65 yP_wouldClose ∈ uT := uk (um1 (List.mem_of_getElem? (i := 173) (by decide +kernel))) rfl
theorem uw141 : Cond.instanceMethod yP_wouldClose ∈ uT := uk (um1 (List.mem_of_getElem? (i := 174) (by decide +kernel))) rfl
theorem uw142 : Cond.selects RP yP_wouldClose yP_wouldClose ∈ uT := uk (um1 (List.mem_of_getElem? (i := 175) (by decide +kernel))) rfl
theorem uw143 : Cond.methodLink RK 76 yP_setParents ∈ uT := uk (um1 (List.mem_of_getElem? (i := 197) (by decide +kernel))) rfl
theorem uw144 : Cond.instanceMethod yP_setParents ∈ uT := uk (um1 (List.mem_of_getElem? (i := 198) (by decide +kernel))) rfl
theorem uw145 : Cond.selects RP yP_setParents yP_setParents ∈ uT := uk (um1 (List.mem_of_getElem? (i := 199) (by decide +kernel))) rfl
theorem uw146 : Cond.methodLink RK 69 yP_keepRing ∈ uT := uk (um1 (List.mem_of_getElem? (i := 185) (by decide +kernel))) rfl
theorem uw147 : Cond.instanceMethod yP_keepRing ∈ uT := uk (um1 (List.mem_of_getElem? (i := 186) (by decide +kernel))) rfl
theorem uw148 : Cond.selects RP yP_keepRing yP_keepRing ∈ uT := uk (um1 (List.mem_of_getElem? (i := 187) (by decide +kernel))) rfl
theorem uw149 : Cond.methodLink RK 79 yP_ringAt ∈ uT := uk (um1 (List.mem_of_getElem? (i := 205) (by decide +kernel))) rfl
theorem uw150 : Cond.instanceMethod yP_ringAt ∈ uT := uk (um1 (List.mem_of_getElem? (i := 206) (by decide +kernel))) rfl
theorem uw151 : Cond.selects RP yP_ringAt yP_ringAt ∈ uT := uk (um1 (List.mem_of_getElem? (i := 207) (by decide +kernel))) rfl
theorem uw152 : Cond.constant RK 83 (99999) ∈ uT := uk (um1 (List.mem_of_getElem? (i := 213) (by decide +kernel))) rfl
theorem uw153 : Cond.methodLink RK 84 yK_areSexesAndDaysRight ∈ uT := uk (um1 (List.mem_of_getElem? (i := 214) (by decide +kernel))) rfl
theorem uw154 : Cond.instanceMethod yK_areSexesAndDaysRight ∈ uT := uk (um1 (List.mem_of_getElem? (i := 216) (by decide +kernel))) rfl
theorem uw155 : Cond.selects RK yK_areSexesAndDaysRight yK_areSexesAndDaysRight ∈ uT := uk (um0 (List.mem_of_getElem? (i := 13) (by decide +kernel))) rfl
theorem uw156 : Cond.constantLong RK 93 (-1) ∈ uT := uk (um1 (List.mem_of_getElem? (i := 231) (by decide +kernel))) rfl
theorem uw157 : Cond.methodLink RK 88 yF_isPart ∈ uT := uk (um1 (List.mem_of_getElem? (i := 228) (by decide +kernel))) rfl
theorem uw158 : Cond.static yF_isPart ∈ uT := uk (um1 (List.mem_of_getElem? (i := 229) (by decide +kernel))) rfl
theorem uw159 : Cond.constantLong RK 99 (1073741824) ∈ uT := uk (um1 (List.mem_of_getElem? (i := 233) (by decide +kernel))) rfl
theorem uw160 : Cond.methodLink RK 101 yF_lowest ∈ uT := uk (um1 (List.mem_of_getElem? (i := 234) (by decide +kernel))) rfl
theorem uw161 : Cond.methodLink RK 105 yP_inbreedingOf ∈ uT := uk (um2 (List.mem_of_getElem? (i := 5) (by decide +kernel))) rfl
theorem uw162 : Cond.methodLink RK 109 yP_chanceOf ∈ uT := uk (um2 (List.mem_of_getElem? (i := 13) (by decide +kernel))) rfl
theorem uw163 : Cond.instanceMethod yP_chanceOf ∈ uT := uk (um2 (List.mem_of_getElem? (i := 14) (by decide +kernel))) rfl
theorem uw164 : Cond.selects RP yP_chanceOf yP_chanceOf ∈ uT := uk (um2 (List.mem_of_getElem? (i := 15) (by decide +kernel))) rfl
theorem uw165 : Cond.methodLink RK 115 yP_shareOf ∈ uT := uk (um2 (List.mem_of_getElem? (i := 31) (by decide +kernel))) rfl
theorem uw166 : Cond.instanceMethod yP_shareOf ∈ uT := uk (um2 (List.mem_of_getElem? (i := 32) (by decide +kernel))) rfl
theorem uw167 : Cond.selects RP yP_shareOf yP_shareOf ∈ uT := uk (um2 (List.mem_of_getElem? (i := 33) (by decide +kernel))) rfl
theorem uw168 : Cond.methodLink RK 122 yP_inOrder ∈ uT := uk (um2 (List.mem_of_getElem? (i := 48) (by decide +kernel))) rfl
theorem uw169 : Cond.fieldLink RK 45 "KinNumbers" "marks" "LKinNumbers$Marks;" ∈ uT := uk (um1 (List.mem_of_getElem? (i := 139) (by decide +kernel))) rfl
theorem uw170 : Cond.methodLink RK 125 yM_setForm ∈ uT := uk (um2 (List.mem_of_getElem? (i := 53) (by decide +kernel))) rfl
theorem uw171 : Cond.instanceMethod yM_setForm ∈ uT := uk (um2 (List.mem_of_getElem? (i := 54) (by decide +kernel))) rfl
theorem uw172 : Cond.selects RM yM_setForm yM_setForm ∈ uT := uk (um2 (List.mem_of_getElem? (i := 55) (by decide +kernel))) rfl
theorem uw173 : Cond.methodLink RK 128 yM_isLeftOut ∈ uT := uk (um2 (List.mem_of_getElem? (i := 65) (by decide +kernel))) rfl
theorem uw174 : Cond.instanceMethod yM_isLeftOut ∈ uT := uk (um2 (List.mem_of_getElem? (i := 66) (by decide +kernel))) rfl
theorem uw175 : Cond.selects RM yM_isLeftOut yM_isLeftOut ∈ uT := uk (um2 (List.mem_of_getElem? (i := 67) (by decide +kernel))) rfl
theorem uw176 : Cond.methodLink RK 131 yM_oddsOf ∈ uT := uk (um2 (List.mem_of_getElem? (i := 88) (by decide +kernel))) rfl
theorem uw177 : Cond.instanceMethod yM_oddsOf ∈ uT := uk (um2 (List.mem_of_getElem? (i := 89) (by decide +kernel))) rfl
theorem uw178 : Cond.selects RM yM_oddsOf yM_oddsOf ∈ uT := uk (um2 (List.mem_of_getElem? (i := 90) (by decide +kernel))) rfl
theorem uw179 : Cond.methodLink RK 135 yM_likenessOf ∈ uT := uk (um2 (List.mem_of_getElem? (i := 113) (by decide +kernel))) rfl
theorem uw180 : Cond.instanceMethod yM_likenessOf ∈ uT := uk (um2 (List.mem_of_getElem? (i := 114) (by decide +kernel))) rfl
theorem uw181 : Cond.selects RM yM_likenessOf yM_likenessOf ∈ uT := uk (um2 (List.mem_of_getElem? (i := 115) (by decide +kernel))) rfl
theorem uw182 : Cond.methodLink RK 138 yK_isLost ∈ uT := uk (um2 (List.mem_of_getElem? (i := 122) (by decide +kernel))) rfl
theorem uw183 : Cond.instanceMethod yK_isLost ∈ uT := uk (um2 (List.mem_of_getElem? (i := 124) (by decide +kernel))) rfl
theorem uw184 : Cond.selects RK yK_isLost yK_isLost ∈ uT := uk (um0 (List.mem_of_getElem? (i := 22) (by decide +kernel))) rfl
theorem uw185 : Cond.methodLink RK 141 yK_kinWithLiving ∈ uT := uk (um2 (List.mem_of_getElem? (i := 130) (by decide +kernel))) rfl
theorem uw186 : Cond.instanceMethod yK_kinWithLiving ∈ uT := uk (um2 (List.mem_of_getElem? (i := 132) (by decide +kernel))) rfl
theorem uw187 : Cond.selects RK yK_kinWithLiving yK_kinWithLiving ∈ uT := uk (um0 (List.mem_of_getElem? (i := 23) (by decide +kernel))) rfl
theorem uw188 : Cond.methodLink RK 150 yP_stepsOf ∈ uT := uk (um2 (List.mem_of_getElem? (i := 138) (by decide +kernel))) rfl
theorem uw189 : Cond.methodLink RP 3 yO_init ∈ uT := uk (um1 (List.mem_of_getElem? (i := 27) (by decide +kernel))) rfl
theorem uw190 : Cond.instanceMethod yO_init ∈ uT := uk (um1 (List.mem_of_getElem? (i := 14) (by decide +kernel))) rfl
theorem uw191 : Cond.arrayClass .int ∈ uT := uk (um1 (List.mem_of_getElem? (i := 120) (by decide +kernel))) rfl
theorem uw192 : Cond.arrayClass .long ∈ uT := uk (um1 (List.mem_of_getElem? (i := 122) (by decide +kernel))) rfl
theorem uw193 : Cond.methodLink RM 3 yO_init ∈ uT := uk (um1 (List.mem_of_getElem? (i := 128) (by decide +kernel))) rfl
theorem uw194 : Cond.methodLink RM 19 yA_fill ∈ uT := uk (um1 (List.mem_of_getElem? (i := 129) (by decide +kernel))) rfl
theorem uw195 : Cond.methodLink RK 1 yO_init ∈ uT := uk (um1 (List.mem_of_getElem? (i := 13) (by decide +kernel))) rfl
theorem uw196 : Cond.arrayClass .boolean ∈ uT := uk (um1 (List.mem_of_getElem? (i := 121) (by decide +kernel))) rfl
theorem uw197 : Cond.methodLink RK 20 yJ_min ∈ uT := uk (um1 (List.mem_of_getElem? (i := 16) (by decide +kernel))) rfl
theorem uw198 : Cond.static yJ_min ∈ uT := uk (um1 (List.mem_of_getElem? (i := 17) (by decide +kernel))) rfl
theorem uw199 : Cond.methodLink RK 26 yJ_max ∈ uT := uk (um1 (List.mem_of_getElem? (i := 19) (by decide +kernel))) rfl
theorem uw200 : Cond.classLink RK 33 RP ∈ uT := uk (um1 (List.mem_of_getElem? (i := 22) (by decide +kernel))) rfl
theorem uw201 : Cond.instantiable RP 10 ∈ uT := uk (um1 (List.mem_of_getElem? (i := 23) (by decide +kernel))) rfl
theorem uw202 : Cond.methodLink RK 35 yP_init ∈ uT := uk (um1 (List.mem_of_getElem? (i := 24) (by decide +kernel))) rfl
theorem uw203 : Cond.instanceMethod yP_init ∈ uT := uk (um1 (List.mem_of_getElem? (i := 25) (by decide +kernel))) rfl
theorem uw204 : Cond.classLink RK 42 RM ∈ uT := uk (um1 (List.mem_of_getElem? (i := 123) (by decide +kernel))) rfl
theorem uw205 : Cond.instantiable RM 2 ∈ uT := uk (um1 (List.mem_of_getElem? (i := 124) (by decide +kernel))) rfl
theorem uw206 : Cond.methodLink RK 44 yM_init ∈ uT := uk (um1 (List.mem_of_getElem? (i := 125) (by decide +kernel))) rfl
theorem uw207 : Cond.instanceMethod yM_init ∈ uT := uk (um1 (List.mem_of_getElem? (i := 126) (by decide +kernel))) rfl
theorem uw208 : Cond.methodLink RK 49 yA_fill ∈ uT := uk (um1 (List.mem_of_getElem? (i := 137) (by decide +kernel))) rfl
