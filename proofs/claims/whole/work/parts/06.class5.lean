abbrev rmK_diverse : Room := { frames := 3, cells := 0, slots := 0, locals := 67 }
set_option maxHeartbeats 4000000 in
set_option maxRecDepth 100000 in
theorem tK_diverse_19 {p : Program} {l : Launch} {e : Env} {s : State} {m : MethodId} {args : Array Value} {below : List Frame} {meth : Method} {c : Code} {D : va_G} {Y : Nat → ClassId} {h : Nat → Nat} {n : Nat} (hn : n ≤ 24) {S : vK} (CF : CallFix p m c cK_diverse 7 s args uT RK) (hr : meth.sig.returnType = (some .long)) (hlocks : meth.locks = false) (hK : va_K D vwCl (tysK Y) s) (hP : va_P D vwCl (wK Y h n S) s.heap) : ∀ (k i : Nat) (x1 : Int32) (x2 : Int64) (x4 : Int64), i + k = n → ∀ ls : Array Slot, lv_has ls 7 [(0, .ref (h 0)), (1, .int x1), (2, .long x2), (4, .long x4), (6, .int (nI i))] → W p l e rmK_diverse s m args below meth c s.heap [] 0 0 (zL below args s (fK_diverse_19 n S k i x1 x2 x4)) (F0 m 19 ls []) := by
  obtain ⟨hx, hb, hml, hown, hts⟩ := CF
  intro k
  induction k with
  | zero =>
    intro i x1 x2 x4 hi  ls hl
    rw [fK_diverse_19]
    refine lv_iload hx hb dK_diverse_19 (lv_at hl 4 rfl) ?_
    refine lv_aload_n hx hb dK_diverse_21 rfl (lv_at hl 0 rfl) ?_
    refine va_get (D := D) (ci := 0) (v := .int (nI n)) (C := RK) (T := TK) (N := 6) hx hb hts hinK hown hK hP 0 rfl rfl 2 (by decide) (hts _ uw112) (fun _ h9 => h9) rfl dK_diverse_22 ?_
    refine lv_icmp_ge (tgt := 59) hx hb dK_diverse_25 (by decide) (fun _ => ?_) (fun z => absurd (lp_ge (n := n) hi) z)
    refine lv_lload_n hx hb dK_diverse_59 rfl (lv_at hl 2 rfl) ?_
    refine lv_lconst (v := 0) hx hb dK_diverse_60 (by decide) ?_
    refine W.lcmp hx hb dK_diverse_61 ?_
    refine zif (C := (lg_cmp x2 0) = 0) (fun c62 => ?_) (fun c62 => ?_)
    · skip
      refine lv_if_ne (tgt := 71) hx hb dK_diverse_62 (by decide) (fun z => absurd c62 z) (fun _ => ?_)
      refine lv_ldc2 (v := (-1)) hx hb hown (hts _ uw156) dK_diverse_65 ?_
      refine lv_goto (tgt := 84) hx hb dK_diverse_68 (by decide) ?_
      exact zL_ret hx hb hr hlocks dK_diverse_84
    · skip
      refine lv_if_ne (tgt := 71) hx hb dK_diverse_62 (by decide) (fun _ => ?_) (fun z => absurd z c62)
      refine lv_lload hx hb dK_diverse_71 (lv_at hl 3 rfl) ?_
      refine lv_lload_n hx hb dK_diverse_73 rfl (lv_at hl 2 rfl) ?_
      refine lv_lload_n hx hb dK_diverse_74 rfl (lv_at hl 2 rfl) ?_
      refine lv_lmul hx hb dK_diverse_75 ?_
      refine lv_ldc2 (v := 1073741824) hx hb hown (hts _ uw159) dK_diverse_76 ?_
      refine lv_lmul hx hb dK_diverse_79 ?_
      refine lv_iload_n hx hb dK_diverse_80 rfl (lv_at hl 1 rfl) ?_
      refine qSl (rest := []) ⟨hx, hb, hml, hown, hts⟩ (kF_lowest l D Y x4 ((x2 * x2) * 1073741824) x1) (va_cwS 3 hts (gS uw160 uw100 uw2 ucF_lowest) rfl rfl rfl hsF_lowest ⟨Nat.le_of_ble_eq_true rfl, Nat.le_of_ble_eq_true rfl⟩) hK (zsub [] hP rfl) rfl hl.1 rfl (Nat.le_of_ble_eq_true rfl) dK_diverse_81 ⟨Nat.le_of_ble_eq_true rfl, Nat.le_of_ble_eq_true rfl⟩ ?_
      exact zL_ret hx hb hr hlocks dK_diverse_84
  | succ k ih =>
    intro i x1 x2 x4 hi  ls hl
    rw [fK_diverse_19]
    refine lv_iload hx hb dK_diverse_19 (lv_at hl 4 rfl) ?_
    refine lv_aload_n hx hb dK_diverse_21 rfl (lv_at hl 0 rfl) ?_
    refine va_get (D := D) (ci := 0) (v := .int (nI n)) (C := RK) (T := TK) (N := 6) hx hb hts hinK hown hK hP 0 rfl rfl 2 (by decide) (hts _ uw112) (fun _ h9 => h9) rfl dK_diverse_22 ?_
    refine lv_icmp_ge (tgt := 59) hx hb dK_diverse_25 (by decide) (fun z => absurd z (lp_lt (n := n) hi (by omega))) (fun _ => ?_)
    refine lv_aload_n hx hb dK_diverse_28 rfl (lv_at hl 0 rfl) ?_
    refine va_get (D := D) (ci := 0) (v := .ref (h 3)) (C := RK) (T := TK) (N := 6) hx hb hts hinK hown hK hP 0 rfl rfl 5 (by decide) (hts _ uw131) (fun _ h9 => h9) rfl dK_diverse_29 ?_
    refine lv_iload hx hb dK_diverse_32 (lv_at hl 4 rfl) ?_
    refine va_zald hx hb hK hP 3 2 rfl rfl (vp_in_nI (n := i) (by omega) (by omega)) dK_diverse_34 ?_
    refine zif (C := ((g_dd S) ((nI i) : Int32).toNatClampNeg) = 0) (fun c35 => ?_) (fun c35 => ?_)
    · skip
      refine lv_if_ne (tgt := 53) hx hb dK_diverse_35 (by decide) (fun z => absurd c35 z) (fun _ => ?_)
      refine lv_lload_n hx hb dK_diverse_38 rfl (lv_at hl 2 rfl) ?_
      refine lv_lconst (v := 1) hx hb dK_diverse_39 (by decide) ?_
      refine lv_ladd hx hb dK_diverse_40 ?_
      refine lv_lstore_n (lv' := [(2, .long (x2 + 1)), (0, .ref (h 0)), (1, .int x1), (4, .long x4), (6, .int (nI i))]) hx hb dK_diverse_41 rfl hl (by decide) rfl (fun ls hl => ?_)
      refine lv_lload hx hb dK_diverse_42 (lv_at hl 3 rfl) ?_
      refine lv_aload_n hx hb dK_diverse_44 rfl (lv_at hl 1 rfl) ?_
      refine lv_iload hx hb dK_diverse_45 (lv_at hl 4 rfl) ?_
      refine qVl (rest := [.long x4]) ⟨hx, hb, hml, hown, hts⟩ (kK_kinWithLiving l D Y h n hn S (nI i)) (cwV 1 hts (gV uw185 uw186 uw187 uw116 ucK_kinWithLiving) rfl rfl rfl hvK_kinWithLiving ⟨Nat.le_of_ble_eq_true rfl, Nat.le_of_ble_eq_true rfl⟩) hK hP (va_recv hK hP (ci := 0) (q0 := 0) rfl rfl) rfl hl.1 rfl (Nat.le_of_ble_eq_true rfl) dK_diverse_47 ⟨Nat.le_of_ble_eq_true rfl, Nat.le_of_ble_eq_true rfl⟩ ?_
      refine lv_ladd hx hb dK_diverse_50 ?_
      refine lv_lstore (lv' := [(4, .long (x4 + (fK_kinWithLiving n S (nI i)))), (2, .long (x2 + 1)), (0, .ref (h 0)), (1, .int x1), (6, .int (nI i))]) hx hb dK_diverse_51 hl (by decide) rfl (fun ls hl => ?_)
      refine lv_iinc (v := (nI (i + 1))) (lv' := [(6, .int (nI (i + 1))), (4, .long (x4 + (fK_kinWithLiving n S (nI i)))), (2, .long (x2 + 1)), (0, .ref (h 0)), (1, .int x1)]) hx hb dK_diverse_53 hl (k := 4) rfl (nI_1 _) (by decide) rfl (fun ls hl => ?_)
      refine lv_goto (tgt := 19) hx hb dK_diverse_56 (by decide) ?_
      exact ih (i + 1) x1 (x2 + 1) (x4 + (fK_kinWithLiving n S (nI i))) (by omega) ls (lv_sub hl [3, 4, 2, 1, 0] rfl)
    · skip
      refine lv_if_ne (tgt := 53) hx hb dK_diverse_35 (by decide) (fun _ => ?_) (fun z => absurd z c35)
      refine lv_iinc (v := (nI (i + 1))) (lv' := [(6, .int (nI (i + 1))), (0, .ref (h 0)), (1, .int x1), (2, .long x2), (4, .long x4)]) hx hb dK_diverse_53 hl (k := 4) rfl (nI_1 _) (by decide) rfl (fun ls hl => ?_)
      refine lv_goto (tgt := 19) hx hb dK_diverse_56 (by decide) ?_
      exact ih (i + 1) x1 x2 x4 (by omega) ls (lv_sub hl [1, 2, 3, 4, 0] rfl)
set_option maxHeartbeats 4000000 in
set_option maxRecDepth 100000 in
theorem kK_diverse (l : Launch) (D : va_G) (Y : Nat → ClassId) (h : Nat → Nat) (n : Nat) (hn : n ≤ 24) (S : vK) (a1 : Int32) : Met l yK_diverse wsK_diverse rmK_diverse (va_Pc [.ref (h 0), .int a1] (zPre D vwCl (tysK Y) (wK Y h n S))) (vp_Sl (fun r => r = (fK_diverse n S a1))) 0 0 (fun _ => False) := by
  refine Met.ofW (cc := cK_diverse) (maxL := 7) (ret := (some .long)) (by decide) rfl ?_
  intro p e s m args below meth c s₁ B hml hv
  obtain ⟨rfl, hP, hK⟩ := hv
  have hx := B.exec
  have hb := B.bytes
  have hr := B.returns
  have hts : ∀ w ∈ uT, w.before _ s = true := fun w hw => atoms_spec (ws := wsK_diverse) B.pre w (List.mem_cons_of_mem _ hw)
  have hown : s.vm.findClass RK = some m.cls := findClass_of_methodNamed B.named
  have hlocks := B.notSynchronized
  have hl := lv_entry ([.ref (h 0), .int a1]) (n := 7) (Nat.le_of_ble_eq_true rfl)
  rw [lg_entry_eq]
  generalize (lg_sl ([.ref (h 0), .int a1]) ++ List.replicate (7 - (lg_sl ([.ref (h 0), .int a1])).length) Slot.unset).toArray = ls at hl ⊢
  have hl : lv_has ls 7 [(0, .ref (h 0)), (1, .int a1)] := hl
  show W p l e rmK_diverse s m _ below meth c s.heap [] 0 0 (zL below _ s (fK_diverse n S a1)) _
  unfold fK_diverse
  show W p l e rmK_diverse s m _ below meth c s.heap [] 0 0 (zL below _ s _) (F0 m 0 ls [])
  refine lv_iload_n hx hb dK_diverse_0 rfl (lv_at hl 1 rfl) ?_
  refine qSi (rest := []) ⟨hx, hb, hml, hown, hts⟩ (kF_isPart l D Y a1) (va_cwS 1 hts (gS uw157 uw158 uw2 ucF_isPart) rfl rfl rfl hsF_isPart ⟨Nat.le_of_ble_eq_true rfl, Nat.le_of_ble_eq_true rfl⟩) hK (zsub [] hP rfl) rfl hl.1 rfl (Nat.le_of_ble_eq_true rfl) dK_diverse_1 ⟨Nat.le_of_ble_eq_true rfl, Nat.le_of_ble_eq_true rfl⟩ ?_
  refine zif (C := (fF_isPart a1) = 0) (fun c4 => ?_) (fun c4 => ?_)
  · skip
    refine lv_if_ne (tgt := 11) hx hb dK_diverse_4 (by decide) (fun z => absurd c4 z) (fun _ => ?_)
    refine lv_ldc2 (v := (-1)) hx hb hown (hts _ uw156) dK_diverse_7 ?_
    exact zL_ret hx hb hr hlocks dK_diverse_10
  · skip
    refine lv_if_ne (tgt := 11) hx hb dK_diverse_4 (by decide) (fun _ => ?_) (fun z => absurd z c4)
    refine lv_lconst (v := 0) hx hb dK_diverse_11 (by decide) ?_
    refine lv_lstore_n (lv' := [(2, .long 0), (0, .ref (h 0)), (1, .int a1)]) hx hb dK_diverse_12 rfl hl (by decide) rfl (fun ls hl => ?_)
    refine lv_lconst (v := 0) hx hb dK_diverse_13 (by decide) ?_
    refine lv_lstore (lv' := [(4, .long 0), (2, .long 0), (0, .ref (h 0)), (1, .int a1)]) hx hb dK_diverse_14 hl (by decide) rfl (fun ls hl => ?_)
    refine lv_iconst (v := 0) hx hb dK_diverse_16 (by decide) ?_
    refine lv_istore (lv' := [(6, .int 0), (4, .long 0), (2, .long 0), (0, .ref (h 0)), (1, .int a1)]) hx hb dK_diverse_17 hl (by decide) rfl (fun ls hl => ?_)
    exact tK_diverse_19 hn ⟨hx, hb, hml, hown, hts⟩ hr hlocks hK hP n 0 a1 0 0 (by omega) ls (lv_sub hl [3, 4, 2, 1, 0] rfl)
abbrev rmK_animal : Room := { frames := 2, cells := 0, slots := 0, locals := 42 }
set_option maxHeartbeats 4000000 in
set_option maxRecDepth 100000 in
theorem kK_animal (l : Launch) (D : va_G) (Y : Nat → ClassId) (h : Nat → Nat) (n : Nat) (hn : n ≤ 24) (S : vK) (a1 : Int32) (a2 : Int32) : Met l yK_animal wsK_animal rmK_animal (va_Pc [.ref (h 0), .int a1, .int a2] (zPre D vwCl (tysK Y) (wK Y h n S))) (vp_Si (fun r => r = (fK_animal n S a1 a2))) 0 0 (fun _ => False) := by
  refine Met.ofW (cc := cK_animal) (maxL := 3) (ret := (some .int)) (by decide) rfl ?_
  intro p e s m args below meth c s₁ B hml hv
  obtain ⟨rfl, hP, hK⟩ := hv
  have hx := B.exec
  have hb := B.bytes
  have hr := B.returns
  have hts : ∀ w ∈ uT, w.before _ s = true := fun w hw => atoms_spec (ws := wsK_animal) B.pre w (List.mem_cons_of_mem _ hw)
  have hown : s.vm.findClass RK = some m.cls := findClass_of_methodNamed B.named
  have hlocks := B.notSynchronized
  have hl := lv_entry ([.ref (h 0), .int a1, .int a2]) (n := 3) (Nat.le_of_ble_eq_true rfl)
  rw [lg_entry_eq]
  generalize (lg_sl ([.ref (h 0), .int a1, .int a2]) ++ List.replicate (3 - (lg_sl ([.ref (h 0), .int a1, .int a2])).length) Slot.unset).toArray = ls at hl ⊢
  have hl : lv_has ls 3 [(0, .ref (h 0)), (1, .int a1), (2, .int a2)] := hl
  show W p l e rmK_animal s m _ below meth c s.heap [] 0 0 (zI below _ s (fK_animal n S a1 a2)) _
  unfold fK_animal
  show W p l e rmK_animal s m _ below meth c s.heap [] 0 0 (zI below _ s _) (F0 m 0 ls [])
  refine lv_aload_n hx hb dK_animal_0 rfl (lv_at hl 0 rfl) ?_
  refine lv_iload_n hx hb dK_animal_1 rfl (lv_at hl 1 rfl) ?_
  refine qVi (rest := []) ⟨hx, hb, hml, hown, hts⟩ (kK_isAnimal l D Y h n hn S a1) (cwV 1 hts (gV uw113 uw114 uw115 uw116 ucK_isAnimal) rfl rfl rfl hvK_isAnimal ⟨Nat.le_of_ble_eq_true rfl, Nat.le_of_ble_eq_true rfl⟩) hK hP (va_recv hK hP (ci := 0) (q0 := 0) rfl rfl) rfl hl.1 rfl (Nat.le_of_ble_eq_true rfl) dK_animal_2 ⟨Nat.le_of_ble_eq_true rfl, Nat.le_of_ble_eq_true rfl⟩ ?_
  refine zif (C := (fK_isAnimal n a1) = 0) (fun c5 => ?_) (fun c5 => ?_)
  · skip
    refine lv_if_ne (tgt := 10) hx hb dK_animal_5 (by decide) (fun z => absurd c5 z) (fun _ => ?_)
    refine lv_iconst (v := (-1)) hx hb dK_animal_8 (by decide) ?_
    exact zI_ret hx hb hr hlocks dK_animal_9
  · skip
    refine lv_if_ne (tgt := 10) hx hb dK_animal_5 (by decide) (fun _ => ?_) (fun z => absurd z c5)
    refine lv_iload_n hx hb dK_animal_10 rfl (lv_at hl 2 rfl) ?_
    refine zif (C := a2 = 0) (fun c11_0 => ?_) (fun c11_0 => ?_)
    · skip
      refine lv_tableIn (tgt := 48) hx hb dK_animal_11 (by rw [c11_0]; decide) (by rw [c11_0]; decide) (by rw [c11_0]; rfl) (by decide) ?_
      refine lv_aload_n hx hb dK_animal_48 rfl (lv_at hl 0 rfl) ?_
      refine va_get (D := D) (ci := 0) (v := .ref (h 4)) (C := RK) (T := TK) (N := 6) hx hb hts hinK hown hK hP 0 rfl rfl 0 (by decide) (hts _ uw122) (fun _ h9 => h9) rfl dK_animal_49 ?_
      refine lv_iload_n hx hb dK_animal_52 rfl (lv_at hl 1 rfl) ?_
      refine qVi (rest := []) ⟨hx, hb, hml, hown, hts⟩ (kP_motherOf l D Y (fun i => h (i + 4)) n hn (g_P S) a1) (cwV 1 hts (gV uw123 uw18 uw19 uw8 ucP_motherOf) rfl rfl rfl hvP_motherOf ⟨Nat.le_of_ble_eq_true rfl, Nat.le_of_ble_eq_true rfl⟩) hK (kP_sub hP) (va_recv hK (kP_sub hP) (ci := 1) (q0 := 0) rfl rfl) rfl hl.1 rfl (Nat.le_of_ble_eq_true rfl) dK_animal_53 ⟨Nat.le_of_ble_eq_true rfl, Nat.le_of_ble_eq_true rfl⟩ ?_
      exact zI_ret hx hb hr hlocks dK_animal_56
    refine zif (C := a2 = 1) (fun c11_1 => ?_) (fun c11_1 => ?_)
    · skip
      refine lv_tableIn (tgt := 57) hx hb dK_animal_11 (by rw [c11_1]; decide) (by rw [c11_1]; decide) (by rw [c11_1]; rfl) (by decide) ?_
      refine lv_aload_n hx hb dK_animal_57 rfl (lv_at hl 0 rfl) ?_
      refine va_get (D := D) (ci := 0) (v := .ref (h 4)) (C := RK) (T := TK) (N := 6) hx hb hts hinK hown hK hP 0 rfl rfl 0 (by decide) (hts _ uw122) (fun _ h9 => h9) rfl dK_animal_58 ?_
      refine lv_iload_n hx hb dK_animal_61 rfl (lv_at hl 1 rfl) ?_
      refine qVi (rest := []) ⟨hx, hb, hml, hown, hts⟩ (kP_fatherOf l D Y (fun i => h (i + 4)) n hn (g_P S) a1) (cwV 1 hts (gV uw124 uw21 uw22 uw8 ucP_fatherOf) rfl rfl rfl hvP_fatherOf ⟨Nat.le_of_ble_eq_true rfl, Nat.le_of_ble_eq_true rfl⟩) hK (kP_sub hP) (va_recv hK (kP_sub hP) (ci := 1) (q0 := 0) rfl rfl) rfl hl.1 rfl (Nat.le_of_ble_eq_true rfl) dK_animal_62 ⟨Nat.le_of_ble_eq_true rfl, Nat.le_of_ble_eq_true rfl⟩ ?_
      exact zI_ret hx hb hr hlocks dK_animal_65
    refine zif (C := a2 = 2) (fun c11_2 => ?_) (fun c11_2 => ?_)
    · skip
      refine lv_tableIn (tgt := 66) hx hb dK_animal_11 (by rw [c11_2]; decide) (by rw [c11_2]; decide) (by rw [c11_2]; rfl) (by decide) ?_
      refine lv_aload_n hx hb dK_animal_66 rfl (lv_at hl 0 rfl) ?_
      refine va_get (D := D) (ci := 0) (v := .ref (h 1)) (C := RK) (T := TK) (N := 6) hx hb hts hinK hown hK hP 0 rfl rfl 3 (by decide) (hts _ uw117) (fun _ h9 => h9) rfl dK_animal_67 ?_
      refine lv_iload_n hx hb dK_animal_70 rfl (lv_at hl 1 rfl) ?_
      refine va_iald hx hb hK hP 1 0 rfl rfl (ani_in hn c5) dK_animal_71 ?_
      exact zI_ret hx hb hr hlocks dK_animal_72
    refine zif (C := a2 = 3) (fun c11_3 => ?_) (fun c11_3 => ?_)
    · skip
      refine lv_tableIn (tgt := 73) hx hb dK_animal_11 (by rw [c11_3]; decide) (by rw [c11_3]; decide) (by rw [c11_3]; rfl) (by decide) ?_
      refine lv_aload_n hx hb dK_animal_73 rfl (lv_at hl 0 rfl) ?_
      refine va_get (D := D) (ci := 0) (v := .ref (h 2)) (C := RK) (T := TK) (N := 6) hx hb hts hinK hown hK hP 0 rfl rfl 4 (by decide) (hts _ uw118) (fun _ h9 => h9) rfl dK_animal_74 ?_
      refine lv_iload_n hx hb dK_animal_77 rfl (lv_at hl 1 rfl) ?_
      refine va_iald hx hb hK hP 2 0 rfl rfl (ani_in hn c5) dK_animal_78 ?_
      exact zI_ret hx hb hr hlocks dK_animal_79
    refine zif (C := a2 = 4) (fun c11_4 => ?_) (fun c11_4 => ?_)
    · skip
      refine lv_tableIn (tgt := 80) hx hb dK_animal_11 (by rw [c11_4]; decide) (by rw [c11_4]; decide) (by rw [c11_4]; rfl) (by decide) ?_
      refine lv_aload_n hx hb dK_animal_80 rfl (lv_at hl 0 rfl) ?_
      refine va_get (D := D) (ci := 0) (v := .ref (h 3)) (C := RK) (T := TK) (N := 6) hx hb hts hinK hown hK hP 0 rfl rfl 5 (by decide) (hts _ uw131) (fun _ h9 => h9) rfl dK_animal_81 ?_
      refine lv_iload_n hx hb dK_animal_84 rfl (lv_at hl 1 rfl) ?_
      refine va_zald hx hb hK hP 3 2 rfl rfl (ani_in hn c5) dK_animal_85 ?_
      refine zif (C := ((g_dd S) (a1 : Int32).toNatClampNeg) = 0) (fun c86 => ?_) (fun c86 => ?_)
      · skip
        refine lv_if_eq (tgt := 93) hx hb dK_animal_86 (by decide) (fun _ => ?_) (fun z => absurd c86 z)
        refine lv_iconst (v := 1) hx hb dK_animal_93 (by decide) ?_
        exact zI_ret hx hb hr hlocks dK_animal_94
      · skip
        refine lv_if_eq (tgt := 93) hx hb dK_animal_86 (by decide) (fun z => absurd z c86) (fun _ => ?_)
        refine lv_iconst (v := 0) hx hb dK_animal_89 (by decide) ?_
        refine lv_goto (tgt := 94) hx hb dK_animal_90 (by decide) ?_
        exact zI_ret hx hb hr hlocks dK_animal_94
    refine zif (C := a2 = 5) (fun c11_5 => ?_) (fun c11_5 => ?_)
    · skip
      refine lv_tableIn (tgt := 95) hx hb dK_animal_11 (by rw [c11_5]; decide) (by rw [c11_5]; decide) (by rw [c11_5]; rfl) (by decide) ?_
      refine lv_aload_n hx hb dK_animal_95 rfl (lv_at hl 0 rfl) ?_
      refine va_get (D := D) (ci := 0) (v := .ref (h 4)) (C := RK) (T := TK) (N := 6) hx hb hts hinK hown hK hP 0 rfl rfl 0 (by decide) (hts _ uw122) (fun _ h9 => h9) rfl dK_animal_96 ?_
      refine lv_iload_n hx hb dK_animal_99 rfl (lv_at hl 1 rfl) ?_
      refine qVi (rest := []) ⟨hx, hb, hml, hown, hts⟩ (kP_stepsOf l D Y (fun i => h (i + 4)) n hn (g_P S) a1) (cwV 1 hts (gV uw188 uw60 uw61 uw8 ucP_stepsOf) rfl rfl rfl hvP_stepsOf ⟨Nat.le_of_ble_eq_true rfl, Nat.le_of_ble_eq_true rfl⟩) hK (kP_sub hP) (va_recv hK (kP_sub hP) (ci := 1) (q0 := 0) rfl rfl) rfl hl.1 rfl (Nat.le_of_ble_eq_true rfl) dK_animal_100 ⟨Nat.le_of_ble_eq_true rfl, Nat.le_of_ble_eq_true rfl⟩ ?_
      exact zI_ret hx hb hr hlocks dK_animal_103
    refine lv_tableOut (tgt := 104) hx hb dK_animal_11 (sw_out6 c11_0 c11_1 c11_2 c11_3 c11_4 c11_5) (by decide) ?_
    refine lv_iconst (v := (-1)) hx hb dK_animal_104 (by decide) ?_
    exact zI_ret hx hb hr hlocks dK_animal_105
abbrev rmP_init : Room := { frames := 4, cells := 8, slots := 745, locals := 92 }
set_option maxHeartbeats 4000000 in
set_option maxRecDepth 100000 in
theorem kP_init (l : Launch) (D : va_G) (Y : Nat → ClassId) (h0 : Nat) (n : Nat) (hn : n ≤ 24) (sz : Nat) : Met l yP_init wsP_init rmP_init (va_Pc [.ref h0, .int (nI n)] (zPreM D vwCl (tysK Y) ([(h0, .inr (1, [.int 0, .null, .null, .null, .null, .null, .null, .null, .null, .int 0]))]) sz)) (va_Qv (fun u : (Nat → Nat) × vP => u.1 0 = h0 ∧ u.2 = (fP_init n)) (zAt D vwCl (tysK Y) (va_A ([(h0, .inr (1, [.int 0, .null, .null, .null, .null, .null, .null, .null, .null, .int 0]))]) sz) (fun u => wP Y u.1 n u.2)) (va_A ([(h0, .inr (1, [.int 0, .null, .null, .null, .null, .null, .null, .null, .null, .int 0]))]) sz)) 8 745 (va_A ([(h0, .inr (1, [.int 0, .null, .null, .null, .null, .null, .null, .null, .null, .int 0]))]) sz) := by
  refine Met.ofW (cc := cP_init) (maxL := 2) (ret := none) (by decide) rfl ?_
  intro p e s m args below meth c s₁ B hml hv
  obtain ⟨rfl, hsz, hP, hK, hD0⟩ := hv
  have hx := B.exec
  have hb := B.bytes
  have hr := B.returns
  have hts : ∀ w ∈ uT, w.before _ s = true := fun w hw => atoms_spec (ws := wsP_init) B.pre w (List.mem_cons_of_mem _ hw)
  have hown : s.vm.findClass RP = some m.cls := findClass_of_methodNamed B.named
  have hlocks := B.notSynchronized
  have hin9 : meth.name = "<init>" := (name_of_methodNamed B.named B.method).1
  subst hsz
  have hD := hD0.self (sz := s.heap.size)
  generalize hAe : va_A ([(h0, .inr (1, [.int 0, .null, .null, .null, .null, .null, .null, .null, .null, .int 0]))]) s.heap.size = A at hD ⊢
  have hA : ∀ q : Nat, s.heap.size ≤ q → A q := fun q h => by rw [← hAe]; exact Or.inr h
  have hS : va_S A s.heap s.heap [] := va_S.rf
  have hl := lv_entry ([.ref h0, .int (nI n)]) (n := 2) (Nat.le_of_ble_eq_true rfl)
  rw [lg_entry_eq]
  generalize (lg_sl ([.ref h0, .int (nI n)]) ++ List.replicate (2 - (lg_sl ([.ref h0, .int (nI n)])).length) Slot.unset).toArray = ls at hl ⊢
  have hl : lv_has ls 2 [(0, .ref h0), (1, .int (nI n))] := hl
  show W p l e rmP_init s m _ below meth c s.heap [] 0 0 (zMc (fun h S => wP Y h n S) D vwCl (tysK Y) A h0 below _ s 8 745 (fP_init n)) (F0 m 0 ls [])
  refine lv_aload_n hx hb dP_init_0 rfl (lv_at hl 0 rfl) ?_
  refine W.objInit hx hb hown (hts _ uw189) (hts _ uw190) (hts _ ucO_init) rfl (by rw [hml]; exact hl.1) rfl dP_init_1 (Nat.le_of_ble_eq_true rfl) (Nat.le_of_ble_eq_true rfl) ?_
  refine W.eq (g2 := F0 m 4 ls []) rfl ?_
  refine lv_aload_n hx hb dP_init_4 rfl (lv_at hl 0 rfl) ?_
  refine lv_bipush (v := 24) hx hb dP_init_5 (by decide) ?_
  refine q_newa (N' := 24) (a0 := (24, .inl (fun _ => 0))) .int hx hb (hts _ uw191) rfl hK 0 rfl (fun _ hh => hh) hP hD hS hA (fun _ => rfl) (by decide) (by decide) (by decide) (Nat.le_of_ble_eq_true rfl) (Nat.le_of_ble_eq_true rfl) dP_init_7 (fun q1 H hP hD hS => ?_)
  have hP : va_P D vwCl ([(h0, .inr (1, [.int 0, .null, .null, .null, .null, .null, .null, .null, .null, .int 0])), (q1, .inl (Y 0, 24, .inl (fun _ => 0)))]) H := hP
  have hD : va_D A ([(h0, .inr (1, [.int 0, .null, .null, .null, .null, .null, .null, .null, .null, .int 0])), (q1, .inl (Y 0, 24, .inl (fun _ => 0)))]) := hD
  refine va_putF (D := D) (ci := 1) (v := .ref q1) (ty := .array .int) (C := RP) (T := TP) (N := 10) hx hb hts hinP tyP tyP_ok nmP hown hK hP hD hS 0 rfl rfl 1 (by decide) (hts _ uw9) (fun _ h9 => h9) rfl hin9 rfl (by decide +kernel) rfl rfl (Nat.le_of_ble_eq_true rfl) dP_init_9 (fun H locs hP hD hS => ?_)
  have hP : va_P D vwCl ([(h0, .inr (1, [.int 0, .ref q1, .null, .null, .null, .null, .null, .null, .null, .int 0])), (q1, .inl (Y 0, 24, .inl (fun _ => 0)))]) H := hP
  have hD : va_D A ([(h0, .inr (1, [.int 0, .ref q1, .null, .null, .null, .null, .null, .null, .null, .int 0])), (q1, .inl (Y 0, 24, .inl (fun _ => 0)))]) := hD
  refine lv_aload_n hx hb dP_init_12 rfl (lv_at hl 0 rfl) ?_
  refine lv_bipush (v := 24) hx hb dP_init_13 (by decide) ?_
  refine q_newa (N' := 24) (a0 := (24, .inl (fun _ => 0))) .int hx hb (hts _ uw191) rfl hK 0 rfl (fun _ hh => hh) hP hD hS hA (fun _ => rfl) (by decide) (by decide) (by decide) (Nat.le_of_ble_eq_true rfl) (Nat.le_of_ble_eq_true rfl) dP_init_15 (fun q2 H hP hD hS => ?_)
  have hP : va_P D vwCl ([(h0, .inr (1, [.int 0, .ref q1, .null, .null, .null, .null, .null, .null, .null, .int 0])), (q1, .inl (Y 0, 24, .inl (fun _ => 0))), (q2, .inl (Y 0, 24, .inl (fun _ => 0)))]) H := hP
  have hD : va_D A ([(h0, .inr (1, [.int 0, .ref q1, .null, .null, .null, .null, .null, .null, .null, .int 0])), (q1, .inl (Y 0, 24, .inl (fun _ => 0))), (q2, .inl (Y 0, 24, .inl (fun _ => 0)))]) := hD
  refine va_putF (D := D) (ci := 1) (v := .ref q2) (ty := .array .int) (C := RP) (T := TP) (N := 10) hx hb hts hinP tyP tyP_ok nmP hown hK hP hD hS 0 rfl rfl 2 (by decide) (hts _ uw10) (fun _ h9 => h9) rfl hin9 rfl (by decide +kernel) rfl rfl (Nat.le_of_ble_eq_true rfl) dP_init_17 (fun H locs hP hD hS => ?_)
  have hP : va_P D vwCl ([(h0, .inr (1, [.int 0, .ref q1, .ref q2, .null, .null, .null, .null, .null, .null, .int 0])), (q1, .inl (Y 0, 24, .inl (fun _ => 0))), (q2, .inl (Y 0, 24, .inl (fun _ => 0)))]) H := hP
  have hD : va_D A ([(h0, .inr (1, [.int 0, .ref q1, .ref q2, .null, .null, .null, .null, .null, .null, .int 0])), (q1, .inl (Y 0, 24, .inl (fun _ => 0))), (q2, .inl (Y 0, 24, .inl (fun _ => 0)))]) := hD
  refine lv_aload_n hx hb dP_init_20 rfl (lv_at hl 0 rfl) ?_
  refine lv_bipush (v := 24) hx hb dP_init_21 (by decide) ?_
  refine q_newa (N' := 24) (a0 := (24, .inl (fun _ => 0))) .int hx hb (hts _ uw191) rfl hK 0 rfl (fun _ hh => hh) hP hD hS hA (fun _ => rfl) (by decide) (by decide) (by decide) (Nat.le_of_ble_eq_true rfl) (Nat.le_of_ble_eq_true rfl) dP_init_23 (fun q3 H hP hD hS => ?_)
  have hP : va_P D vwCl ([(h0, .inr (1, [.int 0, .ref q1, .ref q2, .null, .null, .null, .null, .null, .null, .int 0])), (q1, .inl (Y 0, 24, .inl (fun _ => 0))), (q2, .inl (Y 0, 24, .inl (fun _ => 0))), (q3, .inl (Y 0, 24, .inl (fun _ => 0)))]) H := hP
  have hD : va_D A ([(h0, .inr (1, [.int 0, .ref q1, .ref q2, .null, .null, .null, .null, .null, .null, .int 0])), (q1, .inl (Y 0, 24, .inl (fun _ => 0))), (q2, .inl (Y 0, 24, .inl (fun _ => 0))), (q3, .inl (Y 0, 24, .inl (fun _ => 0)))]) := hD
  refine va_putF (D := D) (ci := 1) (v := .ref q3) (ty := .array .int) (C := RP) (T := TP) (N := 10) hx hb hts hinP tyP tyP_ok nmP hown hK hP hD hS 0 rfl rfl 3 (by decide) (hts _ uw11) (fun _ h9 => h9) rfl hin9 rfl (by decide +kernel) rfl rfl (Nat.le_of_ble_eq_true rfl) dP_init_25 (fun H locs hP hD hS => ?_)
  have hP : va_P D vwCl ([(h0, .inr (1, [.int 0, .ref q1, .ref q2, .ref q3, .null, .null, .null, .null, .null, .int 0])), (q1, .inl (Y 0, 24, .inl (fun _ => 0))), (q2, .inl (Y 0, 24, .inl (fun _ => 0))), (q3, .inl (Y 0, 24, .inl (fun _ => 0)))]) H := hP
  have hD : va_D A ([(h0, .inr (1, [.int 0, .ref q1, .ref q2, .ref q3, .null, .null, .null, .null, .null, .int 0])), (q1, .inl (Y 0, 24, .inl (fun _ => 0))), (q2, .inl (Y 0, 24, .inl (fun _ => 0))), (q3, .inl (Y 0, 24, .inl (fun _ => 0)))]) := hD
  refine lv_aload_n hx hb dP_init_28 rfl (lv_at hl 0 rfl) ?_
  refine lv_bipush (v := 24) hx hb dP_init_29 (by decide) ?_
  refine q_newa (N' := 24) (a0 := (24, .inl (fun _ => 0))) .int hx hb (hts _ uw191) rfl hK 0 rfl (fun _ hh => hh) hP hD hS hA (fun _ => rfl) (by decide) (by decide) (by decide) (Nat.le_of_ble_eq_true rfl) (Nat.le_of_ble_eq_true rfl) dP_init_31 (fun q4 H hP hD hS => ?_)
  have hP : va_P D vwCl ([(h0, .inr (1, [.int 0, .ref q1, .ref q2, .ref q3, .null, .null, .null, .null, .null, .int 0])), (q1, .inl (Y 0, 24, .inl (fun _ => 0))), (q2, .inl (Y 0, 24, .inl (fun _ => 0))), (q3, .inl (Y 0, 24, .inl (fun _ => 0))), (q4, .inl (Y 0, 24, .inl (fun _ => 0)))]) H := hP
  have hD : va_D A ([(h0, .inr (1, [.int 0, .ref q1, .ref q2, .ref q3, .null, .null, .null, .null, .null, .int 0])), (q1, .inl (Y 0, 24, .inl (fun _ => 0))), (q2, .inl (Y 0, 24, .inl (fun _ => 0))), (q3, .inl (Y 0, 24, .inl (fun _ => 0))), (q4, .inl (Y 0, 24, .inl (fun _ => 0)))]) := hD
  refine va_putF (D := D) (ci := 1) (v := .ref q4) (ty := .array .int) (C := RP) (T := TP) (N := 10) hx hb hts hinP tyP tyP_ok nmP hown hK hP hD hS 0 rfl rfl 4 (by decide) (hts _ uw12) (fun _ h9 => h9) rfl hin9 rfl (by decide +kernel) rfl rfl (Nat.le_of_ble_eq_true rfl) dP_init_33 (fun H locs hP hD hS => ?_)
  have hP : va_P D vwCl ([(h0, .inr (1, [.int 0, .ref q1, .ref q2, .ref q3, .ref q4, .null, .null, .null, .null, .int 0])), (q1, .inl (Y 0, 24, .inl (fun _ => 0))), (q2, .inl (Y 0, 24, .inl (fun _ => 0))), (q3, .inl (Y 0, 24, .inl (fun _ => 0))), (q4, .inl (Y 0, 24, .inl (fun _ => 0)))]) H := hP
  have hD : va_D A ([(h0, .inr (1, [.int 0, .ref q1, .ref q2, .ref q3, .ref q4, .null, .null, .null, .null, .int 0])), (q1, .inl (Y 0, 24, .inl (fun _ => 0))), (q2, .inl (Y 0, 24, .inl (fun _ => 0))), (q3, .inl (Y 0, 24, .inl (fun _ => 0))), (q4, .inl (Y 0, 24, .inl (fun _ => 0)))]) := hD
  refine lv_aload_n hx hb dP_init_36 rfl (lv_at hl 0 rfl) ?_
  refine lv_bipush (v := 24) hx hb dP_init_37 (by decide) ?_
  refine q_newa (N' := 24) (a0 := (24, .inl (fun _ => 0))) .int hx hb (hts _ uw191) rfl hK 0 rfl (fun _ hh => hh) hP hD hS hA (fun _ => rfl) (by decide) (by decide) (by decide) (Nat.le_of_ble_eq_true rfl) (Nat.le_of_ble_eq_true rfl) dP_init_39 (fun q5 H hP hD hS => ?_)
  have hP : va_P D vwCl ([(h0, .inr (1, [.int 0, .ref q1, .ref q2, .ref q3, .ref q4, .null, .null, .null, .null, .int 0])), (q1, .inl (Y 0, 24, .inl (fun _ => 0))), (q2, .inl (Y 0, 24, .inl (fun _ => 0))), (q3, .inl (Y 0, 24, .inl (fun _ => 0))), (q4, .inl (Y 0, 24, .inl (fun _ => 0))), (q5, .inl (Y 0, 24, .inl (fun _ => 0)))]) H := hP
  have hD : va_D A ([(h0, .inr (1, [.int 0, .ref q1, .ref q2, .ref q3, .ref q4, .null, .null, .null, .null, .int 0])), (q1, .inl (Y 0, 24, .inl (fun _ => 0))), (q2, .inl (Y 0, 24, .inl (fun _ => 0))), (q3, .inl (Y 0, 24, .inl (fun _ => 0))), (q4, .inl (Y 0, 24, .inl (fun _ => 0))), (q5, .inl (Y 0, 24, .inl (fun _ => 0)))]) := hD
  refine va_putF (D := D) (ci := 1) (v := .ref q5) (ty := .array .int) (C := RP) (T := TP) (N := 10) hx hb hts hinP tyP tyP_ok nmP hown hK hP hD hS 0 rfl rfl 5 (by decide) (hts _ uw13) (fun _ h9 => h9) rfl hin9 rfl (by decide +kernel) rfl rfl (Nat.le_of_ble_eq_true rfl) dP_init_41 (fun H locs hP hD hS => ?_)
  have hP : va_P D vwCl ([(h0, .inr (1, [.int 0, .ref q1, .ref q2, .ref q3, .ref q4, .ref q5, .null, .null, .null, .int 0])), (q1, .inl (Y 0, 24, .inl (fun _ => 0))), (q2, .inl (Y 0, 24, .inl (fun _ => 0))), (q3, .inl (Y 0, 24, .inl (fun _ => 0))), (q4, .inl (Y 0, 24, .inl (fun _ => 0))), (q5, .inl (Y 0, 24, .inl (fun _ => 0)))]) H := hP
  have hD : va_D A ([(h0, .inr (1, [.int 0, .ref q1, .ref q2, .ref q3, .ref q4, .ref q5, .null, .null, .null, .int 0])), (q1, .inl (Y 0, 24, .inl (fun _ => 0))), (q2, .inl (Y 0, 24, .inl (fun _ => 0))), (q3, .inl (Y 0, 24, .inl (fun _ => 0))), (q4, .inl (Y 0, 24, .inl (fun _ => 0))), (q5, .inl (Y 0, 24, .inl (fun _ => 0)))]) := hD
  refine lv_aload_n hx hb dP_init_44 rfl (lv_at hl 0 rfl) ?_
  refine lv_sipush (v := 576) hx hb dP_init_45 (by decide) ?_
  refine q_newa (N' := 576) (a0 := (576, .inr (.inl (fun _ => 0)))) .long hx hb (hts _ uw192) rfl hK 1 rfl (fun _ hh => hh) hP hD hS hA (fun _ => rfl) (by decide) (by decide) (by decide) (Nat.le_of_ble_eq_true rfl) (Nat.le_of_ble_eq_true rfl) dP_init_48 (fun q6 H hP hD hS => ?_)
  have hP : va_P D vwCl ([(h0, .inr (1, [.int 0, .ref q1, .ref q2, .ref q3, .ref q4, .ref q5, .null, .null, .null, .int 0])), (q1, .inl (Y 0, 24, .inl (fun _ => 0))), (q2, .inl (Y 0, 24, .inl (fun _ => 0))), (q3, .inl (Y 0, 24, .inl (fun _ => 0))), (q4, .inl (Y 0, 24, .inl (fun _ => 0))), (q5, .inl (Y 0, 24, .inl (fun _ => 0))), (q6, .inl (Y 1, 576, .inr (.inl (fun _ => 0))))]) H := hP
  have hD : va_D A ([(h0, .inr (1, [.int 0, .ref q1, .ref q2, .ref q3, .ref q4, .ref q5, .null, .null, .null, .int 0])), (q1, .inl (Y 0, 24, .inl (fun _ => 0))), (q2, .inl (Y 0, 24, .inl (fun _ => 0))), (q3, .inl (Y 0, 24, .inl (fun _ => 0))), (q4, .inl (Y 0, 24, .inl (fun _ => 0))), (q5, .inl (Y 0, 24, .inl (fun _ => 0))), (q6, .inl (Y 1, 576, .inr (.inl (fun _ => 0))))]) := hD
  refine va_putF (D := D) (ci := 1) (v := .ref q6) (ty := .array .long) (C := RP) (T := TP) (N := 10) hx hb hts hinP tyP tyP_ok nmP hown hK hP hD hS 0 rfl rfl 6 (by decide) (hts _ uw16) (fun _ h9 => h9) rfl hin9 rfl (by decide +kernel) rfl rfl (Nat.le_of_ble_eq_true rfl) dP_init_50 (fun H locs hP hD hS => ?_)
  have hP : va_P D vwCl ([(h0, .inr (1, [.int 0, .ref q1, .ref q2, .ref q3, .ref q4, .ref q5, .ref q6, .null, .null, .int 0])), (q1, .inl (Y 0, 24, .inl (fun _ => 0))), (q2, .inl (Y 0, 24, .inl (fun _ => 0))), (q3, .inl (Y 0, 24, .inl (fun _ => 0))), (q4, .inl (Y 0, 24, .inl (fun _ => 0))), (q5, .inl (Y 0, 24, .inl (fun _ => 0))), (q6, .inl (Y 1, 576, .inr (.inl (fun _ => 0))))]) H := hP
  have hD : va_D A ([(h0, .inr (1, [.int 0, .ref q1, .ref q2, .ref q3, .ref q4, .ref q5, .ref q6, .null, .null, .int 0])), (q1, .inl (Y 0, 24, .inl (fun _ => 0))), (q2, .inl (Y 0, 24, .inl (fun _ => 0))), (q3, .inl (Y 0, 24, .inl (fun _ => 0))), (q4, .inl (Y 0, 24, .inl (fun _ => 0))), (q5, .inl (Y 0, 24, .inl (fun _ => 0))), (q6, .inl (Y 1, 576, .inr (.inl (fun _ => 0))))]) := hD
  refine lv_aload_n hx hb dP_init_53 rfl (lv_at hl 0 rfl) ?_
  refine lv_bipush (v := 24) hx hb dP_init_54 (by decide) ?_
  refine q_newa (N' := 24) (a0 := (24, .inr (.inl (fun _ => 0)))) .long hx hb (hts _ uw192) rfl hK 1 rfl (fun _ hh => hh) hP hD hS hA (fun _ => rfl) (by decide) (by decide) (by decide) (Nat.le_of_ble_eq_true rfl) (Nat.le_of_ble_eq_true rfl) dP_init_56 (fun q7 H hP hD hS => ?_)
  have hP : va_P D vwCl ([(h0, .inr (1, [.int 0, .ref q1, .ref q2, .ref q3, .ref q4, .ref q5, .ref q6, .null, .null, .int 0])), (q1, .inl (Y 0, 24, .inl (fun _ => 0))), (q2, .inl (Y 0, 24, .inl (fun _ => 0))), (q3, .inl (Y 0, 24, .inl (fun _ => 0))), (q4, .inl (Y 0, 24, .inl (fun _ => 0))), (q5, .inl (Y 0, 24, .inl (fun _ => 0))), (q6, .inl (Y 1, 576, .inr (.inl (fun _ => 0)))), (q7, .inl (Y 1, 24, .inr (.inl (fun _ => 0))))]) H := hP
  have hD : va_D A ([(h0, .inr (1, [.int 0, .ref q1, .ref q2, .ref q3, .ref q4, .ref q5, .ref q6, .null, .null, .int 0])), (q1, .inl (Y 0, 24, .inl (fun _ => 0))), (q2, .inl (Y 0, 24, .inl (fun _ => 0))), (q3, .inl (Y 0, 24, .inl (fun _ => 0))), (q4, .inl (Y 0, 24, .inl (fun _ => 0))), (q5, .inl (Y 0, 24, .inl (fun _ => 0))), (q6, .inl (Y 1, 576, .inr (.inl (fun _ => 0)))), (q7, .inl (Y 1, 24, .inr (.inl (fun _ => 0))))]) := hD
  refine va_putF (D := D) (ci := 1) (v := .ref q7) (ty := .array .long) (C := RP) (T := TP) (N := 10) hx hb hts hinP tyP tyP_ok nmP hown hK hP hD hS 0 rfl rfl 7 (by decide) (hts _ uw34) (fun _ h9 => h9) rfl hin9 rfl (by decide +kernel) rfl rfl (Nat.le_of_ble_eq_true rfl) dP_init_58 (fun H locs hP hD hS => ?_)
  have hP : va_P D vwCl ([(h0, .inr (1, [.int 0, .ref q1, .ref q2, .ref q3, .ref q4, .ref q5, .ref q6, .ref q7, .null, .int 0])), (q1, .inl (Y 0, 24, .inl (fun _ => 0))), (q2, .inl (Y 0, 24, .inl (fun _ => 0))), (q3, .inl (Y 0, 24, .inl (fun _ => 0))), (q4, .inl (Y 0, 24, .inl (fun _ => 0))), (q5, .inl (Y 0, 24, .inl (fun _ => 0))), (q6, .inl (Y 1, 576, .inr (.inl (fun _ => 0)))), (q7, .inl (Y 1, 24, .inr (.inl (fun _ => 0))))]) H := hP
  have hD : va_D A ([(h0, .inr (1, [.int 0, .ref q1, .ref q2, .ref q3, .ref q4, .ref q5, .ref q6, .ref q7, .null, .int 0])), (q1, .inl (Y 0, 24, .inl (fun _ => 0))), (q2, .inl (Y 0, 24, .inl (fun _ => 0))), (q3, .inl (Y 0, 24, .inl (fun _ => 0))), (q4, .inl (Y 0, 24, .inl (fun _ => 0))), (q5, .inl (Y 0, 24, .inl (fun _ => 0))), (q6, .inl (Y 1, 576, .inr (.inl (fun _ => 0)))), (q7, .inl (Y 1, 24, .inr (.inl (fun _ => 0))))]) := hD
  refine lv_aload_n hx hb dP_init_61 rfl (lv_at hl 0 rfl) ?_
  refine lv_bipush (v := 25) hx hb dP_init_62 (by decide) ?_
  refine q_newa (N' := 25) (a0 := (25, .inl (fun _ => 0))) .int hx hb (hts _ uw191) rfl hK 0 rfl (fun _ hh => hh) hP hD hS hA (fun _ => rfl) (by decide) (by decide) (by decide) (Nat.le_of_ble_eq_true rfl) (Nat.le_of_ble_eq_true rfl) dP_init_64 (fun q8 H hP hD hS => ?_)
  have hP : va_P D vwCl ([(h0, .inr (1, [.int 0, .ref q1, .ref q2, .ref q3, .ref q4, .ref q5, .ref q6, .ref q7, .null, .int 0])), (q1, .inl (Y 0, 24, .inl (fun _ => 0))), (q2, .inl (Y 0, 24, .inl (fun _ => 0))), (q3, .inl (Y 0, 24, .inl (fun _ => 0))), (q4, .inl (Y 0, 24, .inl (fun _ => 0))), (q5, .inl (Y 0, 24, .inl (fun _ => 0))), (q6, .inl (Y 1, 576, .inr (.inl (fun _ => 0)))), (q7, .inl (Y 1, 24, .inr (.inl (fun _ => 0)))), (q8, .inl (Y 0, 25, .inl (fun _ => 0)))]) H := hP
  have hD : va_D A ([(h0, .inr (1, [.int 0, .ref q1, .ref q2, .ref q3, .ref q4, .ref q5, .ref q6, .ref q7, .null, .int 0])), (q1, .inl (Y 0, 24, .inl (fun _ => 0))), (q2, .inl (Y 0, 24, .inl (fun _ => 0))), (q3, .inl (Y 0, 24, .inl (fun _ => 0))), (q4, .inl (Y 0, 24, .inl (fun _ => 0))), (q5, .inl (Y 0, 24, .inl (fun _ => 0))), (q6, .inl (Y 1, 576, .inr (.inl (fun _ => 0)))), (q7, .inl (Y 1, 24, .inr (.inl (fun _ => 0)))), (q8, .inl (Y 0, 25, .inl (fun _ => 0)))]) := hD
  refine va_putF (D := D) (ci := 1) (v := .ref q8) (ty := .array .int) (C := RP) (T := TP) (N := 10) hx hb hts hinP tyP tyP_ok nmP hown hK hP hD hS 0 rfl rfl 8 (by decide) (hts _ uw42) (fun _ h9 => h9) rfl hin9 rfl (by decide +kernel) rfl rfl (Nat.le_of_ble_eq_true rfl) dP_init_66 (fun H locs hP hD hS => ?_)
  have hP : va_P D vwCl ([(h0, .inr (1, [.int 0, .ref q1, .ref q2, .ref q3, .ref q4, .ref q5, .ref q6, .ref q7, .ref q8, .int 0])), (q1, .inl (Y 0, 24, .inl (fun _ => 0))), (q2, .inl (Y 0, 24, .inl (fun _ => 0))), (q3, .inl (Y 0, 24, .inl (fun _ => 0))), (q4, .inl (Y 0, 24, .inl (fun _ => 0))), (q5, .inl (Y 0, 24, .inl (fun _ => 0))), (q6, .inl (Y 1, 576, .inr (.inl (fun _ => 0)))), (q7, .inl (Y 1, 24, .inr (.inl (fun _ => 0)))), (q8, .inl (Y 0, 25, .inl (fun _ => 0)))]) H := hP
  have hD : va_D A ([(h0, .inr (1, [.int 0, .ref q1, .ref q2, .ref q3, .ref q4, .ref q5, .ref q6, .ref q7, .ref q8, .int 0])), (q1, .inl (Y 0, 24, .inl (fun _ => 0))), (q2, .inl (Y 0, 24, .inl (fun _ => 0))), (q3, .inl (Y 0, 24, .inl (fun _ => 0))), (q4, .inl (Y 0, 24, .inl (fun _ => 0))), (q5, .inl (Y 0, 24, .inl (fun _ => 0))), (q6, .inl (Y 1, 576, .inr (.inl (fun _ => 0)))), (q7, .inl (Y 1, 24, .inr (.inl (fun _ => 0)))), (q8, .inl (Y 0, 25, .inl (fun _ => 0)))]) := hD
  refine lv_aload_n hx hb dP_init_69 rfl (lv_at hl 0 rfl) ?_
  refine lv_iconst (v := 0) hx hb dP_init_70 (by decide) ?_
  refine va_put (D := D) (ci := 1) (v := .int 0) (ty := .int) (C := RP) (T := TP) (N := 10) hx hb hts hinP tyP tyP_ok nmP hown hK hP hD hS 0 rfl rfl 9 (by decide) (hts _ uw41) (fun _ h9 => h9) rfl (by decide +kernel) rfl rfl (Nat.le_of_ble_eq_true rfl) dP_init_71 (fun H locs hP hD hS => ?_)
  have hP : va_P D vwCl ([(h0, .inr (1, [.int 0, .ref q1, .ref q2, .ref q3, .ref q4, .ref q5, .ref q6, .ref q7, .ref q8, .int 0])), (q1, .inl (Y 0, 24, .inl (fun _ => 0))), (q2, .inl (Y 0, 24, .inl (fun _ => 0))), (q3, .inl (Y 0, 24, .inl (fun _ => 0))), (q4, .inl (Y 0, 24, .inl (fun _ => 0))), (q5, .inl (Y 0, 24, .inl (fun _ => 0))), (q6, .inl (Y 1, 576, .inr (.inl (fun _ => 0)))), (q7, .inl (Y 1, 24, .inr (.inl (fun _ => 0)))), (q8, .inl (Y 0, 25, .inl (fun _ => 0)))]) H := hP
  have hD : va_D A ([(h0, .inr (1, [.int 0, .ref q1, .ref q2, .ref q3, .ref q4, .ref q5, .ref q6, .ref q7, .ref q8, .int 0])), (q1, .inl (Y 0, 24, .inl (fun _ => 0))), (q2, .inl (Y 0, 24, .inl (fun _ => 0))), (q3, .inl (Y 0, 24, .inl (fun _ => 0))), (q4, .inl (Y 0, 24, .inl (fun _ => 0))), (q5, .inl (Y 0, 24, .inl (fun _ => 0))), (q6, .inl (Y 1, 576, .inr (.inl (fun _ => 0)))), (q7, .inl (Y 1, 24, .inr (.inl (fun _ => 0)))), (q8, .inl (Y 0, 25, .inl (fun _ => 0)))]) := hD
  refine lv_aload_n hx hb dP_init_74 rfl (lv_at hl 0 rfl) ?_
  refine lv_iload_n hx hb dP_init_75 rfl (lv_at hl 1 rfl) ?_
  refine va_putF (D := D) (ci := 1) (v := .int (nI n)) (ty := .int) (C := RP) (T := TP) (N := 10) hx hb hts hinP tyP tyP_ok nmP hown hK hP hD hS 0 rfl rfl 0 (by decide) (hts _ uw4) (fun _ h9 => h9) rfl hin9 rfl (by decide +kernel) rfl rfl (Nat.le_of_ble_eq_true rfl) dP_init_76 (fun H locs hP hD hS => ?_)
  have hP : va_P D vwCl ([(h0, .inr (1, [.int (nI n), .ref q1, .ref q2, .ref q3, .ref q4, .ref q5, .ref q6, .ref q7, .ref q8, .int 0])), (q1, .inl (Y 0, 24, .inl (fun _ => 0))), (q2, .inl (Y 0, 24, .inl (fun _ => 0))), (q3, .inl (Y 0, 24, .inl (fun _ => 0))), (q4, .inl (Y 0, 24, .inl (fun _ => 0))), (q5, .inl (Y 0, 24, .inl (fun _ => 0))), (q6, .inl (Y 1, 576, .inr (.inl (fun _ => 0)))), (q7, .inl (Y 1, 24, .inr (.inl (fun _ => 0)))), (q8, .inl (Y 0, 25, .inl (fun _ => 0)))]) H := hP
  have hD : va_D A ([(h0, .inr (1, [.int (nI n), .ref q1, .ref q2, .ref q3, .ref q4, .ref q5, .ref q6, .ref q7, .ref q8, .int 0])), (q1, .inl (Y 0, 24, .inl (fun _ => 0))), (q2, .inl (Y 0, 24, .inl (fun _ => 0))), (q3, .inl (Y 0, 24, .inl (fun _ => 0))), (q4, .inl (Y 0, 24, .inl (fun _ => 0))), (q5, .inl (Y 0, 24, .inl (fun _ => 0))), (q6, .inl (Y 1, 576, .inr (.inl (fun _ => 0)))), (q7, .inl (Y 1, 24, .inr (.inl (fun _ => 0)))), (q8, .inl (Y 0, 25, .inl (fun _ => 0)))]) := hD
  refine lv_aload_n hx hb dP_init_79 rfl (lv_at hl 0 rfl) ?_
  refine va_get (D := D) (ci := 1) (v := .ref q1) (C := RP) (T := TP) (N := 10) hx hb hts hinP hown hK hP 0 rfl rfl 1 (by decide) (hts _ uw9) (fun _ h9 => h9) rfl dP_init_80 ?_
  refine lv_iconst (v := (-1)) hx hb dP_init_83 (by decide) ?_
  refine qMSv (ws := [(h0, .inr (1, [.int (nI n), .ref q1, .ref q2, .ref q3, .ref q4, .ref q5, .ref q6, .ref q7, .ref q8, .int 0])), (q1, .inl (Y 0, 24, .inl (fun _ => 0))), (q2, .inl (Y 0, 24, .inl (fun _ => 0))), (q3, .inl (Y 0, 24, .inl (fun _ => 0))), (q4, .inl (Y 0, 24, .inl (fun _ => 0))), (q5, .inl (Y 0, 24, .inl (fun _ => 0))), (q6, .inl (Y 1, 576, .inr (.inl (fun _ => 0)))), (q7, .inl (Y 1, 24, .inr (.inl (fun _ => 0)))), (q8, .inl (Y 0, 25, .inl (fun _ => 0)))]) (wc := wA Y (fun _ => q1) 24 (fun _ => 0)) (wr := ([(h0, .inr (1, [.int (nI n), .ref q1, .ref q2, .ref q3, .ref q4, .ref q5, .ref q6, .ref q7, .ref q8, .int 0])), (q1, .inl (Y 0, 24, .inl (fun _ => 0))), (q2, .inl (Y 0, 24, .inl (fun _ => 0))), (q3, .inl (Y 0, 24, .inl (fun _ => 0))), (q4, .inl (Y 0, 24, .inl (fun _ => 0))), (q5, .inl (Y 0, 24, .inl (fun _ => 0))), (q6, .inl (Y 1, 576, .inr (.inl (fun _ => 0)))), (q7, .inl (Y 1, 24, .inr (.inl (fun _ => 0)))), (q8, .inl (Y 0, 25, .inl (fun _ => 0)))]).eraseIdx 1) (w := wA Y (fun _ => q1) 24) (ws' := [(h0, .inr (1, [.int (nI n), .ref q1, .ref q2, .ref q3, .ref q4, .ref q5, .ref q6, .ref q7, .ref q8, .int 0])), (q1, .inl (Y 0, 24, .inl (fA_fill 24 (fun _ => 0) (-1)))), (q2, .inl (Y 0, 24, .inl (fun _ => 0))), (q3, .inl (Y 0, 24, .inl (fun _ => 0))), (q4, .inl (Y 0, 24, .inl (fun _ => 0))), (q5, .inl (Y 0, 24, .inl (fun _ => 0))), (q6, .inl (Y 1, 576, .inr (.inl (fun _ => 0)))), (q7, .inl (Y 1, 24, .inr (.inl (fun _ => 0)))), (q8, .inl (Y 0, 25, .inl (fun _ => 0)))]) (rest := []) ⟨hx, hb, hml, hown, hts⟩ (kA_fill l D Y (fun _ => q1) 24 (by decide) (fun _ => 0) (-1) _) (va_cwS 2 hts (gS uw56 uw57 uw58 ucA_fill) rfl rfl rfl hsA_fill ⟨Nat.le_of_ble_eq_true rfl, Nat.le_of_ble_eq_true rfl⟩) hK hP hD hS hA [1] [0, 2, 3, 4, 5, 6, 7, 8] [0, 8, 1, 2, 3, 4, 5, 6, 7] rfl rfl (by decide) (by decide) (by decide) rfl (by decide) rfl hl.1 rfl (Nat.le_of_ble_eq_true rfl) dP_init_84 ⟨Nat.le_of_ble_eq_true rfl, Nat.le_of_ble_eq_true rfl⟩ (fun H locs hP hD hS => ?_)
  refine lv_aload_n hx hb dP_init_87 rfl (lv_at hl 0 rfl) ?_
  refine va_get (D := D) (ci := 1) (v := .ref q2) (C := RP) (T := TP) (N := 10) hx hb hts hinP hown hK hP 0 rfl rfl 2 (by decide) (hts _ uw10) (fun _ h9 => h9) rfl dP_init_88 ?_
  refine lv_iconst (v := (-1)) hx hb dP_init_91 (by decide) ?_
  refine qMSv (ws := [(h0, .inr (1, [.int (nI n), .ref q1, .ref q2, .ref q3, .ref q4, .ref q5, .ref q6, .ref q7, .ref q8, .int 0])), (q1, .inl (Y 0, 24, .inl (fA_fill 24 (fun _ => 0) (-1)))), (q2, .inl (Y 0, 24, .inl (fun _ => 0))), (q3, .inl (Y 0, 24, .inl (fun _ => 0))), (q4, .inl (Y 0, 24, .inl (fun _ => 0))), (q5, .inl (Y 0, 24, .inl (fun _ => 0))), (q6, .inl (Y 1, 576, .inr (.inl (fun _ => 0)))), (q7, .inl (Y 1, 24, .inr (.inl (fun _ => 0)))), (q8, .inl (Y 0, 25, .inl (fun _ => 0)))]) (wc := wA Y (fun _ => q2) 24 (fun _ => 0)) (wr := ([(h0, .inr (1, [.int (nI n), .ref q1, .ref q2, .ref q3, .ref q4, .ref q5, .ref q6, .ref q7, .ref q8, .int 0])), (q1, .inl (Y 0, 24, .inl (fA_fill 24 (fun _ => 0) (-1)))), (q2, .inl (Y 0, 24, .inl (fun _ => 0))), (q3, .inl (Y 0, 24, .inl (fun _ => 0))), (q4, .inl (Y 0, 24, .inl (fun _ => 0))), (q5, .inl (Y 0, 24, .inl (fun _ => 0))), (q6, .inl (Y 1, 576, .inr (.inl (fun _ => 0)))), (q7, .inl (Y 1, 24, .inr (.inl (fun _ => 0)))), (q8, .inl (Y 0, 25, .inl (fun _ => 0)))]).eraseIdx 2) (w := wA Y (fun _ => q2) 24) (ws' := [(h0, .inr (1, [.int (nI n), .ref q1, .ref q2, .ref q3, .ref q4, .ref q5, .ref q6, .ref q7, .ref q8, .int 0])), (q1, .inl (Y 0, 24, .inl (fA_fill 24 (fun _ => 0) (-1)))), (q2, .inl (Y 0, 24, .inl (fA_fill 24 (fun _ => 0) (-1)))), (q3, .inl (Y 0, 24, .inl (fun _ => 0))), (q4, .inl (Y 0, 24, .inl (fun _ => 0))), (q5, .inl (Y 0, 24, .inl (fun _ => 0))), (q6, .inl (Y 1, 576, .inr (.inl (fun _ => 0)))), (q7, .inl (Y 1, 24, .inr (.inl (fun _ => 0)))), (q8, .inl (Y 0, 25, .inl (fun _ => 0)))]) (rest := []) ⟨hx, hb, hml, hown, hts⟩ (kA_fill l D Y (fun _ => q2) 24 (by decide) (fun _ => 0) (-1) _) (va_cwS 2 hts (gS uw56 uw57 uw58 ucA_fill) rfl rfl rfl hsA_fill ⟨Nat.le_of_ble_eq_true rfl, Nat.le_of_ble_eq_true rfl⟩) hK hP hD hS hA [2] [0, 1, 3, 4, 5, 6, 7, 8] [0, 1, 8, 2, 3, 4, 5, 6, 7] rfl rfl (by decide) (by decide) (by decide) rfl (by decide) rfl hl.1 rfl (Nat.le_of_ble_eq_true rfl) dP_init_92 ⟨Nat.le_of_ble_eq_true rfl, Nat.le_of_ble_eq_true rfl⟩ (fun H locs hP hD hS => ?_)
  refine lv_aload_n hx hb dP_init_95 rfl (lv_at hl 0 rfl) ?_
  have hP : va_P D vwCl (wP Y (fun i => [h0, q1, q2, q3, q4, q5, q6, q7, q8].getD i 0) n ((fA_fill 24 (fun _ => 0) (-1)), (fA_fill 24 (fun _ => 0) (-1)), (fun _ => 0), (fun _ => 0), (fun _ => 0), (fun _ => 0), (fun _ => 0), (fun _ => 0), 0)) H := hP
  have hD : va_D A (wP Y (fun i => [h0, q1, q2, q3, q4, q5, q6, q7, q8].getD i 0) n ((fA_fill 24 (fun _ => 0) (-1)), (fA_fill 24 (fun _ => 0) (-1)), (fun _ => 0), (fun _ => 0), (fun _ => 0), (fun _ => 0), (fun _ => 0), (fun _ => 0), 0)) := hD
  refine qNVv (w := wP Y (fun i => [h0, q1, q2, q3, q4, q5, q6, q7, q8].getD i 0) n) (rest := []) ⟨hx, hb, hml, hown, hts⟩ (kP_reckon l D Y (fun i => [h0, q1, q2, q3, q4, q5, q6, q7, q8].getD i 0) n hn ((fA_fill 24 (fun _ => 0) (-1)), (fA_fill 24 (fun _ => 0) (-1)), (fun _ => 0), (fun _ => 0), (fun _ => 0), (fun _ => 0), (fun _ => 0), (fun _ => 0), 0) _) (cwV 0 hts (gV uw77 uw78 uw79 uw8 ucP_reckon) rfl rfl rfl hvP_reckon ⟨Nat.le_of_ble_eq_true rfl, Nat.le_of_ble_eq_true rfl⟩) hK hP hD hS hA (va_recv hK hP (ci := 1) (q0 := 0) rfl rfl) rfl hl.1 rfl (Nat.le_of_ble_eq_true rfl) dP_init_96 ⟨Nat.le_of_ble_eq_true rfl, Nat.le_of_ble_eq_true rfl⟩ (fun H locs hP hD hS => ?_)
  exact zMc_ret (S := vP) (w := fun h S => wP Y h n S) (hh := (fun i => [h0, q1, q2, q3, q4, q5, q6, q7, q8].getD i 0)) (u := (fP_reckon n ((fA_fill 24 (fun _ => 0) (-1)), (fA_fill 24 (fun _ => 0) (-1)), (fun _ => 0), (fun _ => 0), (fun _ => 0), (fun _ => 0), (fun _ => 0), (fun _ => 0), 0))) rfl hx hb hr hlocks hK hP hD hS dP_init_99
abbrev rmM_init : Room := { frames := 1, cells := 1, slots := 96, locals := 23 }
set_option maxHeartbeats 4000000 in
set_option maxRecDepth 100000 in
theorem kM_init (l : Launch) (D : va_G) (Y : Nat → ClassId) (h0 : Nat) (n : Nat) (hn : n ≤ 24) (sz : Nat) : Met l yM_init wsM_init rmM_init (va_Pc [.ref h0, .int (nI n)] (zPreM D vwCl (tysK Y) ([(h0, .inr (2, [.int 0, .null]))]) sz)) (va_Qv (fun u : (Nat → Nat) × vM => u.1 0 = h0 ∧ u.2 = (fM_init n)) (zAt D vwCl (tysK Y) (va_A ([(h0, .inr (2, [.int 0, .null]))]) sz) (fun u => wM Y u.1 n u.2)) (va_A ([(h0, .inr (2, [.int 0, .null]))]) sz)) 1 96 (va_A ([(h0, .inr (2, [.int 0, .null]))]) sz) := by
  refine Met.ofW (cc := cM_init) (maxL := 2) (ret := none) (by decide) rfl ?_
  intro p e s m args below meth c s₁ B hml hv
  obtain ⟨rfl, hsz, hP, hK, hD0⟩ := hv
  have hx := B.exec
  have hb := B.bytes
  have hr := B.returns
  have hts : ∀ w ∈ uT, w.before _ s = true := fun w hw => atoms_spec (ws := wsM_init) B.pre w (List.mem_cons_of_mem _ hw)
  have hown : s.vm.findClass RM = some m.cls := findClass_of_methodNamed B.named
  have hlocks := B.notSynchronized
  have hin9 : meth.name = "<init>" := (name_of_methodNamed B.named B.method).1
  subst hsz
  have hD := hD0.self (sz := s.heap.size)
  generalize hAe : va_A ([(h0, .inr (2, [.int 0, .null]))]) s.heap.size = A at hD ⊢
  have hA : ∀ q : Nat, s.heap.size ≤ q → A q := fun q h => by rw [← hAe]; exact Or.inr h
  have hS : va_S A s.heap s.heap [] := va_S.rf
  have hl := lv_entry ([.ref h0, .int (nI n)]) (n := 2) (Nat.le_of_ble_eq_true rfl)
  rw [lg_entry_eq]
  generalize (lg_sl ([.ref h0, .int (nI n)]) ++ List.replicate (2 - (lg_sl ([.ref h0, .int (nI n)])).length) Slot.unset).toArray = ls at hl ⊢
  have hl : lv_has ls 2 [(0, .ref h0), (1, .int (nI n))] := hl
  show W p l e rmM_init s m _ below meth c s.heap [] 0 0 (zMc (fun h S => wM Y h n S) D vwCl (tysK Y) A h0 below _ s 1 96 (fM_init n)) (F0 m 0 ls [])
  refine lv_aload_n hx hb dM_init_0 rfl (lv_at hl 0 rfl) ?_
  refine W.objInit hx hb hown (hts _ uw193) (hts _ uw190) (hts _ ucO_init) rfl (by rw [hml]; exact hl.1) rfl dM_init_1 (Nat.le_of_ble_eq_true rfl) (Nat.le_of_ble_eq_true rfl) ?_
  refine W.eq (g2 := F0 m 4 ls []) rfl ?_
  refine lv_aload_n hx hb dM_init_4 rfl (lv_at hl 0 rfl) ?_
  refine lv_bipush (v := 96) hx hb dM_init_5 (by decide) ?_
  refine q_newa (N' := 96) (a0 := (96, .inl (fun _ => 0))) .int hx hb (hts _ uw191) rfl hK 0 rfl (fun _ hh => hh) hP hD hS hA (fun _ => rfl) (by decide) (by decide) (by decide) (Nat.le_of_ble_eq_true rfl) (Nat.le_of_ble_eq_true rfl) dM_init_7 (fun q1 H hP hD hS => ?_)
  have hP : va_P D vwCl ([(h0, .inr (2, [.int 0, .null])), (q1, .inl (Y 0, 96, .inl (fun _ => 0)))]) H := hP
  have hD : va_D A ([(h0, .inr (2, [.int 0, .null])), (q1, .inl (Y 0, 96, .inl (fun _ => 0)))]) := hD
  refine va_putF (D := D) (ci := 2) (v := .ref q1) (ty := .array .int) (C := RM) (T := TM) (N := 2) hx hb hts hinM tyM tyM_ok nmM hown hK hP hD hS 0 rfl rfl 1 (by decide) (hts _ uw85) (fun _ h9 => h9) rfl hin9 rfl (by decide +kernel) rfl rfl (Nat.le_of_ble_eq_true rfl) dM_init_9 (fun H locs hP hD hS => ?_)
  have hP : va_P D vwCl ([(h0, .inr (2, [.int 0, .ref q1])), (q1, .inl (Y 0, 96, .inl (fun _ => 0)))]) H := hP
  have hD : va_D A ([(h0, .inr (2, [.int 0, .ref q1])), (q1, .inl (Y 0, 96, .inl (fun _ => 0)))]) := hD
  refine lv_aload_n hx hb dM_init_12 rfl (lv_at hl 0 rfl) ?_
  refine lv_iload_n hx hb dM_init_13 rfl (lv_at hl 1 rfl) ?_
  refine va_putF (D := D) (ci := 2) (v := .int (nI n)) (ty := .int) (C := RM) (T := TM) (N := 2) hx hb hts hinM tyM tyM_ok nmM hown hK hP hD hS 0 rfl rfl 0 (by decide) (hts _ uw80) (fun _ h9 => h9) rfl hin9 rfl (by decide +kernel) rfl rfl (Nat.le_of_ble_eq_true rfl) dM_init_14 (fun H locs hP hD hS => ?_)
  have hP : va_P D vwCl ([(h0, .inr (2, [.int (nI n), .ref q1])), (q1, .inl (Y 0, 96, .inl (fun _ => 0)))]) H := hP
  have hD : va_D A ([(h0, .inr (2, [.int (nI n), .ref q1])), (q1, .inl (Y 0, 96, .inl (fun _ => 0)))]) := hD
  refine lv_aload_n hx hb dM_init_17 rfl (lv_at hl 0 rfl) ?_
  refine va_get (D := D) (ci := 2) (v := .ref q1) (C := RM) (T := TM) (N := 2) hx hb hts hinM hown hK hP 0 rfl rfl 1 (by decide) (hts _ uw85) (fun _ h9 => h9) rfl dM_init_18 ?_
  refine lv_iconst (v := (-1)) hx hb dM_init_21 (by decide) ?_
  refine qMSv (ws := [(h0, .inr (2, [.int (nI n), .ref q1])), (q1, .inl (Y 0, 96, .inl (fun _ => 0)))]) (wc := wA Y (fun _ => q1) 96 (fun _ => 0)) (wr := ([(h0, .inr (2, [.int (nI n), .ref q1])), (q1, .inl (Y 0, 96, .inl (fun _ => 0)))]).eraseIdx 1) (w := wA Y (fun _ => q1) 96) (ws' := [(h0, .inr (2, [.int (nI n), .ref q1])), (q1, .inl (Y 0, 96, .inl (fA_fill 96 (fun _ => 0) (-1))))]) (rest := []) ⟨hx, hb, hml, hown, hts⟩ (kA_fill l D Y (fun _ => q1) 96 (by decide) (fun _ => 0) (-1) _) (va_cwS 2 hts (gS uw194 uw57 uw58 ucA_fill) rfl rfl rfl hsA_fill ⟨Nat.le_of_ble_eq_true rfl, Nat.le_of_ble_eq_true rfl⟩) hK hP hD hS hA [1] [0] [0, 1] rfl rfl (by decide) (by decide) (by decide) rfl (by decide) rfl hl.1 rfl (Nat.le_of_ble_eq_true rfl) dM_init_22 ⟨Nat.le_of_ble_eq_true rfl, Nat.le_of_ble_eq_true rfl⟩ (fun H locs hP hD hS => ?_)
  have hP : va_P D vwCl (wM Y (fun i => [h0, q1].getD i 0) n (fA_fill 96 (fun _ => 0) (-1))) H := hP
  have hD : va_D A (wM Y (fun i => [h0, q1].getD i 0) n (fA_fill 96 (fun _ => 0) (-1))) := hD
  exact zMc_ret (S := vM) (w := fun h S => wM Y h n S) (hh := (fun i => [h0, q1].getD i 0)) (u := (fA_fill 96 (fun _ => 0) (-1))) rfl hx hb hr hlocks hK hP hD hS dM_init_25
abbrev rmK_init : Room := { frames := 5, cells := 14, slots := 925, locals := 113 }
set_option maxHeartbeats 4000000 in
set_option maxRecDepth 100000 in
theorem kK_init (l : Launch) (D : va_G) (Y : Nat → ClassId) (h0 : Nat) (a1 : Int32) (n : Nat) (hn : n ≤ 24) (en : fJ_max 1 (fJ_min a1 24) = nI n) (sz : Nat) : Met l yK_init wsK_init rmK_init (va_Pc [.ref h0, .int a1] (zPreM D vwCl (tysK Y) ([(h0, .inr (0, [.null, .null, .int 0, .null, .null, .null]))]) sz)) (va_Qv (fun u : (Nat → Nat) × vK => u.1 0 = h0 ∧ u.2 = (fK_init n)) (zAt D vwCl (tysK Y) (va_A ([(h0, .inr (0, [.null, .null, .int 0, .null, .null, .null]))]) sz) (fun u => wK Y u.1 n u.2)) (va_A ([(h0, .inr (0, [.null, .null, .int 0, .null, .null, .null]))]) sz)) 14 925 (va_A ([(h0, .inr (0, [.null, .null, .int 0, .null, .null, .null]))]) sz) := by
  refine Met.ofW (cc := cK_init) (maxL := 2) (ret := none) (by decide) rfl ?_
  intro p e s m args below meth c s₁ B hml hv
  obtain ⟨rfl, hsz, hP, hK, hD0⟩ := hv
  have hx := B.exec
  have hb := B.bytes
  have hr := B.returns
  have hts : ∀ w ∈ uT, w.before _ s = true := fun w hw => atoms_spec (ws := wsK_init) B.pre w (List.mem_cons_of_mem _ hw)
  have hown : s.vm.findClass RK = some m.cls := findClass_of_methodNamed B.named
  have hlocks := B.notSynchronized
  have hin9 : meth.name = "<init>" := (name_of_methodNamed B.named B.method).1
  subst hsz
  have hD := hD0.self (sz := s.heap.size)
  generalize hAe : va_A ([(h0, .inr (0, [.null, .null, .int 0, .null, .null, .null]))]) s.heap.size = A at hD ⊢
  have hA : ∀ q : Nat, s.heap.size ≤ q → A q := fun q h => by rw [← hAe]; exact Or.inr h
  have hS : va_S A s.heap s.heap [] := va_S.rf
  have hl := lv_entry ([.ref h0, .int a1]) (n := 2) (Nat.le_of_ble_eq_true rfl)
  rw [lg_entry_eq]
  generalize (lg_sl ([.ref h0, .int a1]) ++ List.replicate (2 - (lg_sl ([.ref h0, .int a1])).length) Slot.unset).toArray = ls at hl ⊢
  have hl : lv_has ls 2 [(0, .ref h0), (1, .int a1)] := hl
  show W p l e rmK_init s m _ below meth c s.heap [] 0 0 (zMc (fun h S => wK Y h n S) D vwCl (tysK Y) A h0 below _ s 14 925 (fK_init n)) (F0 m 0 ls [])
  refine lv_aload_n hx hb dK_init_0 rfl (lv_at hl 0 rfl) ?_
  refine W.objInit hx hb hown (hts _ uw195) (hts _ uw190) (hts _ ucO_init) rfl (by rw [hml]; exact hl.1) rfl dK_init_1 (Nat.le_of_ble_eq_true rfl) (Nat.le_of_ble_eq_true rfl) ?_
  refine W.eq (g2 := F0 m 4 ls []) rfl ?_
  refine lv_aload_n hx hb dK_init_4 rfl (lv_at hl 0 rfl) ?_
  refine lv_bipush (v := 24) hx hb dK_init_5 (by decide) ?_
  refine q_newa (N' := 24) (a0 := (24, .inl (fun _ => 0))) .int hx hb (hts _ uw191) rfl hK 0 rfl (fun _ hh => hh) hP hD hS hA (fun _ => rfl) (by decide) (by decide) (by decide) (Nat.le_of_ble_eq_true rfl) (Nat.le_of_ble_eq_true rfl) dK_init_7 (fun q1 H hP hD hS => ?_)
  have hP : va_P D vwCl ([(h0, .inr (0, [.null, .null, .int 0, .null, .null, .null])), (q1, .inl (Y 0, 24, .inl (fun _ => 0)))]) H := hP
  have hD : va_D A ([(h0, .inr (0, [.null, .null, .int 0, .null, .null, .null])), (q1, .inl (Y 0, 24, .inl (fun _ => 0)))]) := hD
  refine va_putF (D := D) (ci := 0) (v := .ref q1) (ty := .array .int) (C := RK) (T := TK) (N := 6) hx hb hts hinK tyK tyK_ok nmK hown hK hP hD hS 0 rfl rfl 3 (by decide) (hts _ uw117) (fun _ h9 => h9) rfl hin9 rfl (by decide +kernel) rfl rfl (Nat.le_of_ble_eq_true rfl) dK_init_9 (fun H locs hP hD hS => ?_)
  have hP : va_P D vwCl ([(h0, .inr (0, [.null, .null, .int 0, .ref q1, .null, .null])), (q1, .inl (Y 0, 24, .inl (fun _ => 0)))]) H := hP
  have hD : va_D A ([(h0, .inr (0, [.null, .null, .int 0, .ref q1, .null, .null])), (q1, .inl (Y 0, 24, .inl (fun _ => 0)))]) := hD
  refine lv_aload_n hx hb dK_init_12 rfl (lv_at hl 0 rfl) ?_
  refine lv_bipush (v := 24) hx hb dK_init_13 (by decide) ?_
  refine q_newa (N' := 24) (a0 := (24, .inl (fun _ => 0))) .int hx hb (hts _ uw191) rfl hK 0 rfl (fun _ hh => hh) hP hD hS hA (fun _ => rfl) (by decide) (by decide) (by decide) (Nat.le_of_ble_eq_true rfl) (Nat.le_of_ble_eq_true rfl) dK_init_15 (fun q2 H hP hD hS => ?_)
  have hP : va_P D vwCl ([(h0, .inr (0, [.null, .null, .int 0, .ref q1, .null, .null])), (q1, .inl (Y 0, 24, .inl (fun _ => 0))), (q2, .inl (Y 0, 24, .inl (fun _ => 0)))]) H := hP
  have hD : va_D A ([(h0, .inr (0, [.null, .null, .int 0, .ref q1, .null, .null])), (q1, .inl (Y 0, 24, .inl (fun _ => 0))), (q2, .inl (Y 0, 24, .inl (fun _ => 0)))]) := hD
  refine va_putF (D := D) (ci := 0) (v := .ref q2) (ty := .array .int) (C := RK) (T := TK) (N := 6) hx hb hts hinK tyK tyK_ok nmK hown hK hP hD hS 0 rfl rfl 4 (by decide) (hts _ uw118) (fun _ h9 => h9) rfl hin9 rfl (by decide +kernel) rfl rfl (Nat.le_of_ble_eq_true rfl) dK_init_17 (fun H locs hP hD hS => ?_)
  have hP : va_P D vwCl ([(h0, .inr (0, [.null, .null, .int 0, .ref q1, .ref q2, .null])), (q1, .inl (Y 0, 24, .inl (fun _ => 0))), (q2, .inl (Y 0, 24, .inl (fun _ => 0)))]) H := hP
  have hD : va_D A ([(h0, .inr (0, [.null, .null, .int 0, .ref q1, .ref q2, .null])), (q1, .inl (Y 0, 24, .inl (fun _ => 0))), (q2, .inl (Y 0, 24, .inl (fun _ => 0)))]) := hD
  refine lv_aload_n hx hb dK_init_20 rfl (lv_at hl 0 rfl) ?_
  refine lv_bipush (v := 24) hx hb dK_init_21 (by decide) ?_
  refine q_newa (N' := 24) (a0 := (24, .inl (fun _ => 0))) .boolean hx hb (hts _ uw196) rfl hK 2 rfl (fun _ hh => hh) hP hD hS hA (fun _ => rfl) (by decide) (by decide) (by decide) (Nat.le_of_ble_eq_true rfl) (Nat.le_of_ble_eq_true rfl) dK_init_23 (fun q3 H hP hD hS => ?_)
  have hP : va_P D vwCl ([(h0, .inr (0, [.null, .null, .int 0, .ref q1, .ref q2, .null])), (q1, .inl (Y 0, 24, .inl (fun _ => 0))), (q2, .inl (Y 0, 24, .inl (fun _ => 0))), (q3, .inl (Y 2, 24, .inl (fun _ => 0)))]) H := hP
  have hD : va_D A ([(h0, .inr (0, [.null, .null, .int 0, .ref q1, .ref q2, .null])), (q1, .inl (Y 0, 24, .inl (fun _ => 0))), (q2, .inl (Y 0, 24, .inl (fun _ => 0))), (q3, .inl (Y 2, 24, .inl (fun _ => 0)))]) := hD
  refine va_putF (D := D) (ci := 0) (v := .ref q3) (ty := .array .boolean) (C := RK) (T := TK) (N := 6) hx hb hts hinK tyK tyK_ok nmK hown hK hP hD hS 0 rfl rfl 5 (by decide) (hts _ uw131) (fun _ h9 => h9) rfl hin9 rfl (by decide +kernel) rfl rfl (Nat.le_of_ble_eq_true rfl) dK_init_25 (fun H locs hP hD hS => ?_)
  have hP : va_P D vwCl ([(h0, .inr (0, [.null, .null, .int 0, .ref q1, .ref q2, .ref q3])), (q1, .inl (Y 0, 24, .inl (fun _ => 0))), (q2, .inl (Y 0, 24, .inl (fun _ => 0))), (q3, .inl (Y 2, 24, .inl (fun _ => 0)))]) H := hP
  have hD : va_D A ([(h0, .inr (0, [.null, .null, .int 0, .ref q1, .ref q2, .ref q3])), (q1, .inl (Y 0, 24, .inl (fun _ => 0))), (q2, .inl (Y 0, 24, .inl (fun _ => 0))), (q3, .inl (Y 2, 24, .inl (fun _ => 0)))]) := hD
  refine lv_aload_n hx hb dK_init_28 rfl (lv_at hl 0 rfl) ?_
  refine lv_iconst (v := 1) hx hb dK_init_29 (by decide) ?_
  refine lv_iload_n hx hb dK_init_30 rfl (lv_at hl 1 rfl) ?_
  refine lv_bipush (v := 24) hx hb dK_init_31 (by decide) ?_
  refine q_min hx hb (hml.trans hl.1.symm) hown (hts _ uw197) (hts _ uw198) (hts _ uw64) (hts _ ucJ_min) (Nat.le_of_ble_eq_true rfl) (Nat.le_of_ble_eq_true rfl) (Nat.le_of_ble_eq_true rfl) (Nat.le_of_ble_eq_true rfl) dK_init_33 ?_
  refine q_max hx hb (hml.trans hl.1.symm) hown (hts _ uw199) (hts _ uw63) (hts _ uw64) (hts _ ucJ_max) (Nat.le_of_ble_eq_true rfl) (Nat.le_of_ble_eq_true rfl) (Nat.le_of_ble_eq_true rfl) (Nat.le_of_ble_eq_true rfl) dK_init_36 ?_
  rw [en]
  refine va_putF (D := D) (ci := 0) (v := .int (nI n)) (ty := .int) (C := RK) (T := TK) (N := 6) hx hb hts hinK tyK tyK_ok nmK hown hK hP hD hS 0 rfl rfl 2 (by decide) (hts _ uw112) (fun _ h9 => h9) rfl hin9 rfl (by decide +kernel) rfl rfl (Nat.le_of_ble_eq_true rfl) dK_init_39 (fun H locs hP hD hS => ?_)
  have hP : va_P D vwCl ([(h0, .inr (0, [.null, .null, .int (nI n), .ref q1, .ref q2, .ref q3])), (q1, .inl (Y 0, 24, .inl (fun _ => 0))), (q2, .inl (Y 0, 24, .inl (fun _ => 0))), (q3, .inl (Y 2, 24, .inl (fun _ => 0)))]) H := hP
  have hD : va_D A ([(h0, .inr (0, [.null, .null, .int (nI n), .ref q1, .ref q2, .ref q3])), (q1, .inl (Y 0, 24, .inl (fun _ => 0))), (q2, .inl (Y 0, 24, .inl (fun _ => 0))), (q3, .inl (Y 2, 24, .inl (fun _ => 0)))]) := hD
  refine lv_aload_n hx hb dK_init_42 rfl (lv_at hl 0 rfl) ?_
  refine va_new (ci := 1) (fs := [.int 0, .null, .null, .null, .null, .null, .null, .null, .null, .int 0]) (C := RP) (T := TP) (N := 10) hx hb hts hinP tyP tyP_ok hown (hts _ uw200) (hts _ uw201) (hts _ uw8) hK hP hD hS hA rfl (fun j hj => by rcases (show j = 0 ∨ j = 1 ∨ j = 2 ∨ j = 3 ∨ j = 4 ∨ j = 5 ∨ j = 6 ∨ j = 7 ∨ j = 8 ∨ j = 9 by omega) with rfl | rfl | rfl | rfl | rfl | rfl | rfl | rfl | rfl | rfl <;> rfl) (Nat.le_of_ble_eq_true rfl) (Nat.le_of_ble_eq_true rfl) dK_init_43 (fun q4 H hP hD hS => ?_)
  have hP : va_P D vwCl ([(h0, .inr (0, [.null, .null, .int (nI n), .ref q1, .ref q2, .ref q3])), (q1, .inl (Y 0, 24, .inl (fun _ => 0))), (q2, .inl (Y 0, 24, .inl (fun _ => 0))), (q3, .inl (Y 2, 24, .inl (fun _ => 0))), (q4, .inr (1, [.int 0, .null, .null, .null, .null, .null, .null, .null, .null, .int 0]))]) H := hP
  have hD : va_D A ([(h0, .inr (0, [.null, .null, .int (nI n), .ref q1, .ref q2, .ref q3])), (q1, .inl (Y 0, 24, .inl (fun _ => 0))), (q2, .inl (Y 0, 24, .inl (fun _ => 0))), (q3, .inl (Y 2, 24, .inl (fun _ => 0))), (q4, .inr (1, [.int 0, .null, .null, .null, .null, .null, .null, .null, .null, .int 0]))]) := hD
  refine lv_dup hx hb dK_init_46 rfl ?_
  refine lv_aload_n hx hb dK_init_47 rfl (lv_at hl 0 rfl) ?_
  refine va_get (D := D) (ci := 0) (v := .int (nI n)) (C := RK) (T := TK) (N := 6) hx hb hts hinK hown hK hP 0 rfl rfl 2 (by decide) (hts _ uw112) (fun _ h9 => h9) rfl dK_init_48 ?_
  refine qMIc (w := fun h S => wP Y h n S) (b := q4) (As := [.int (nI n)]) (mc := 8) (ms := 745) (ws := [(h0, .inr (0, [.null, .null, .int (nI n), .ref q1, .ref q2, .ref q3])), (q1, .inl (Y 0, 24, .inl (fun _ => 0))), (q2, .inl (Y 0, 24, .inl (fun _ => 0))), (q3, .inl (Y 2, 24, .inl (fun _ => 0))), (q4, .inr (1, [.int 0, .null, .null, .null, .null, .null, .null, .null, .null, .int 0]))]) (wc := [(q4, .inr (1, [.int 0, .null, .null, .null, .null, .null, .null, .null, .null, .int 0]))]) (wr := [(h0, .inr (0, [.null, .null, .int (nI n), .ref q1, .ref q2, .ref q3])), (q1, .inl (Y 0, 24, .inl (fun _ => 0))), (q2, .inl (Y 0, 24, .inl (fun _ => 0))), (q3, .inl (Y 2, 24, .inl (fun _ => 0)))]) (rest := [.ref q4, .ref h0]) ⟨hx, hb, hml, hown, hts⟩ (kP_init l D Y q4 n hn _) (cwI 1 hts (gI ucP_init) rfl rfl rfl (hts _ uw8) (hts _ uw202) (hts _ uw203) rfl hsP_init ⟨Nat.le_of_ble_eq_true rfl, Nat.le_of_ble_eq_true rfl⟩) hK hP hD hS hA [4] [0, 1, 2, 3] rfl rfl (by decide) (by decide) (by decide) rfl hl.1 rfl (Nat.le_of_ble_eq_true rfl) dK_init_51 ⟨Nat.le_of_ble_eq_true rfl, Nat.le_of_ble_eq_true rfl⟩ (fun h_q4 e_h_q4 H locs hP2 hD2 hS2 => ?_)
  have e_h_q4 : q4 = h_q4 0 := e_h_q4.symm
  clear hP hD hS
  subst e_h_q4
  have hP := hP2
  have hD := hD2
  have hS := hS2
  have hP : va_P D vwCl (([(h0, .inr (0, [.null, .null, .int (nI n), .ref q1, .ref q2, .ref q3])), (q1, .inl (Y 0, 24, .inl (fun _ => 0))), (q2, .inl (Y 0, 24, .inl (fun _ => 0))), (q3, .inl (Y 2, 24, .inl (fun _ => 0)))] : va_W) ++ (wP Y h_q4 n (fP_init n))) H := hP
  have hD : va_D A (([(h0, .inr (0, [.null, .null, .int (nI n), .ref q1, .ref q2, .ref q3])), (q1, .inl (Y 0, 24, .inl (fun _ => 0))), (q2, .inl (Y 0, 24, .inl (fun _ => 0))), (q3, .inl (Y 2, 24, .inl (fun _ => 0)))] : va_W) ++ (wP Y h_q4 n (fP_init n))) := hD
  refine va_putF (D := D) (ci := 0) (v := .ref (h_q4 0)) (ty := .object "KinNumbers$Pedigree") (C := RK) (T := TK) (N := 6) hx hb hts hinK tyK tyK_ok nmK hown hK hP hD hS 0 rfl rfl 0 (by decide) (hts _ uw122) (fun _ h9 => h9) rfl hin9 rfl (by decide +kernel) rfl rfl (Nat.le_of_ble_eq_true rfl) dK_init_54 (fun H locs hP hD hS => ?_)
  have hP : va_P D vwCl (([(h0, .inr (0, [.ref (h_q4 0), .null, .int (nI n), .ref q1, .ref q2, .ref q3])), (q1, .inl (Y 0, 24, .inl (fun _ => 0))), (q2, .inl (Y 0, 24, .inl (fun _ => 0))), (q3, .inl (Y 2, 24, .inl (fun _ => 0)))] : va_W) ++ (wP Y h_q4 n (fP_init n))) H := hP
  have hD : va_D A (([(h0, .inr (0, [.ref (h_q4 0), .null, .int (nI n), .ref q1, .ref q2, .ref q3])), (q1, .inl (Y 0, 24, .inl (fun _ => 0))), (q2, .inl (Y 0, 24, .inl (fun _ => 0))), (q3, .inl (Y 2, 24, .inl (fun _ => 0)))] : va_W) ++ (wP Y h_q4 n (fP_init n))) := hD
  refine lv_aload_n hx hb dK_init_57 rfl (lv_at hl 0 rfl) ?_
  refine va_new (ci := 2) (fs := [.int 0, .null]) (C := RM) (T := TM) (N := 2) hx hb hts hinM tyM tyM_ok hown (hts _ uw204) (hts _ uw205) (hts _ uw84) hK hP hD hS hA rfl (fun j hj => by rcases (show j = 0 ∨ j = 1 by omega) with rfl | rfl <;> rfl) (Nat.le_of_ble_eq_true rfl) (Nat.le_of_ble_eq_true rfl) dK_init_58 (fun q5 H hP hD hS => ?_)
  have hP : va_P D vwCl (([(h0, .inr (0, [.ref (h_q4 0), .null, .int (nI n), .ref q1, .ref q2, .ref q3])), (q1, .inl (Y 0, 24, .inl (fun _ => 0))), (q2, .inl (Y 0, 24, .inl (fun _ => 0))), (q3, .inl (Y 2, 24, .inl (fun _ => 0)))] : va_W) ++ (wP Y h_q4 n (fP_init n)) ++ ([(q5, .inr (2, [.int 0, .null]))] : va_W)) H := hP
  have hD : va_D A (([(h0, .inr (0, [.ref (h_q4 0), .null, .int (nI n), .ref q1, .ref q2, .ref q3])), (q1, .inl (Y 0, 24, .inl (fun _ => 0))), (q2, .inl (Y 0, 24, .inl (fun _ => 0))), (q3, .inl (Y 2, 24, .inl (fun _ => 0)))] : va_W) ++ (wP Y h_q4 n (fP_init n)) ++ ([(q5, .inr (2, [.int 0, .null]))] : va_W)) := hD
  refine lv_dup hx hb dK_init_61 rfl ?_
  refine lv_aload_n hx hb dK_init_62 rfl (lv_at hl 0 rfl) ?_
  refine va_get (D := D) (ci := 0) (v := .int (nI n)) (C := RK) (T := TK) (N := 6) hx hb hts hinK hown hK hP 0 rfl rfl 2 (by decide) (hts _ uw112) (fun _ h9 => h9) rfl dK_init_63 ?_
  refine qMIc (w := fun h S => wM Y h n S) (b := q5) (As := [.int (nI n)]) (mc := 1) (ms := 96) (ws := ([(h0, .inr (0, [.ref (h_q4 0), .null, .int (nI n), .ref q1, .ref q2, .ref q3])), (q1, .inl (Y 0, 24, .inl (fun _ => 0))), (q2, .inl (Y 0, 24, .inl (fun _ => 0))), (q3, .inl (Y 2, 24, .inl (fun _ => 0)))] : va_W) ++ (wP Y h_q4 n (fP_init n)) ++ ([(q5, .inr (2, [.int 0, .null]))] : va_W)) (wc := [(q5, .inr (2, [.int 0, .null]))]) (wr := ([(h0, .inr (0, [.ref (h_q4 0), .null, .int (nI n), .ref q1, .ref q2, .ref q3])), (q1, .inl (Y 0, 24, .inl (fun _ => 0))), (q2, .inl (Y 0, 24, .inl (fun _ => 0))), (q3, .inl (Y 2, 24, .inl (fun _ => 0)))] : va_W) ++ (wP Y h_q4 n (fP_init n))) (rest := [.ref q5, .ref h0]) ⟨hx, hb, hml, hown, hts⟩ (kM_init l D Y q5 n hn _) (cwI 1 hts (gI ucM_init) rfl rfl rfl (hts _ uw84) (hts _ uw206) (hts _ uw207) rfl hsM_init ⟨Nat.le_of_ble_eq_true rfl, Nat.le_of_ble_eq_true rfl⟩) hK hP hD hS hA [13] [0, 1, 2, 3, 4, 5, 6, 7, 8, 9, 10, 11, 12] rfl rfl (by decide) (by decide) (by decide) rfl hl.1 rfl (Nat.le_of_ble_eq_true rfl) dK_init_66 ⟨Nat.le_of_ble_eq_true rfl, Nat.le_of_ble_eq_true rfl⟩ (fun h_q5 e_h_q5 H locs hP2 hD2 hS2 => ?_)
  have e_h_q5 : q5 = h_q5 0 := e_h_q5.symm
  clear hP hD hS
  subst e_h_q5
  have hP := hP2
  have hD := hD2
  have hS := hS2
  have hP : va_P D vwCl (([(h0, .inr (0, [.ref (h_q4 0), .null, .int (nI n), .ref q1, .ref q2, .ref q3])), (q1, .inl (Y 0, 24, .inl (fun _ => 0))), (q2, .inl (Y 0, 24, .inl (fun _ => 0))), (q3, .inl (Y 2, 24, .inl (fun _ => 0)))] : va_W) ++ (wP Y h_q4 n (fP_init n)) ++ (wM Y h_q5 n (fM_init n))) H := hP
  have hD : va_D A (([(h0, .inr (0, [.ref (h_q4 0), .null, .int (nI n), .ref q1, .ref q2, .ref q3])), (q1, .inl (Y 0, 24, .inl (fun _ => 0))), (q2, .inl (Y 0, 24, .inl (fun _ => 0))), (q3, .inl (Y 2, 24, .inl (fun _ => 0)))] : va_W) ++ (wP Y h_q4 n (fP_init n)) ++ (wM Y h_q5 n (fM_init n))) := hD
  refine va_putF (D := D) (ci := 0) (v := .ref (h_q5 0)) (ty := .object "KinNumbers$Marks") (C := RK) (T := TK) (N := 6) hx hb hts hinK tyK tyK_ok nmK hown hK hP hD hS 0 rfl rfl 1 (by decide) (hts _ uw169) (fun _ h9 => h9) rfl hin9 rfl (by decide +kernel) rfl rfl (Nat.le_of_ble_eq_true rfl) dK_init_69 (fun H locs hP hD hS => ?_)
  have hP : va_P D vwCl (([(h0, .inr (0, [.ref (h_q4 0), .ref (h_q5 0), .int (nI n), .ref q1, .ref q2, .ref q3])), (q1, .inl (Y 0, 24, .inl (fun _ => 0))), (q2, .inl (Y 0, 24, .inl (fun _ => 0))), (q3, .inl (Y 2, 24, .inl (fun _ => 0)))] : va_W) ++ (wP Y h_q4 n (fP_init n)) ++ (wM Y h_q5 n (fM_init n))) H := hP
  have hD : va_D A (([(h0, .inr (0, [.ref (h_q4 0), .ref (h_q5 0), .int (nI n), .ref q1, .ref q2, .ref q3])), (q1, .inl (Y 0, 24, .inl (fun _ => 0))), (q2, .inl (Y 0, 24, .inl (fun _ => 0))), (q3, .inl (Y 2, 24, .inl (fun _ => 0)))] : va_W) ++ (wP Y h_q4 n (fP_init n)) ++ (wM Y h_q5 n (fM_init n))) := hD
  refine lv_aload_n hx hb dK_init_72 rfl (lv_at hl 0 rfl) ?_
  refine va_get (D := D) (ci := 0) (v := .ref q2) (C := RK) (T := TK) (N := 6) hx hb hts hinK hown hK hP 0 rfl rfl 4 (by decide) (hts _ uw118) (fun _ h9 => h9) rfl dK_init_73 ?_
  refine lv_iconst (v := (-1)) hx hb dK_init_76 (by decide) ?_
  refine qMSv (ws := ([(h0, .inr (0, [.ref (h_q4 0), .ref (h_q5 0), .int (nI n), .ref q1, .ref q2, .ref q3])), (q1, .inl (Y 0, 24, .inl (fun _ => 0))), (q2, .inl (Y 0, 24, .inl (fun _ => 0))), (q3, .inl (Y 2, 24, .inl (fun _ => 0)))] : va_W) ++ (wP Y h_q4 n (fP_init n)) ++ (wM Y h_q5 n (fM_init n))) (wc := wA Y (fun _ => q2) 24 (fun _ => 0)) (wr := (([(h0, .inr (0, [.ref (h_q4 0), .ref (h_q5 0), .int (nI n), .ref q1, .ref q2, .ref q3])), (q1, .inl (Y 0, 24, .inl (fun _ => 0))), (q2, .inl (Y 0, 24, .inl (fun _ => 0))), (q3, .inl (Y 2, 24, .inl (fun _ => 0)))] : va_W) ++ (wP Y h_q4 n (fP_init n)) ++ (wM Y h_q5 n (fM_init n))).eraseIdx 2) (w := wA Y (fun _ => q2) 24) (ws' := ([(h0, .inr (0, [.ref (h_q4 0), .ref (h_q5 0), .int (nI n), .ref q1, .ref q2, .ref q3])), (q1, .inl (Y 0, 24, .inl (fun _ => 0))), (q2, .inl (Y 0, 24, .inl (fA_fill 24 (fun _ => 0) (-1)))), (q3, .inl (Y 2, 24, .inl (fun _ => 0)))] : va_W) ++ (wP Y h_q4 n (fP_init n)) ++ (wM Y h_q5 n (fM_init n))) (rest := []) ⟨hx, hb, hml, hown, hts⟩ (kA_fill l D Y (fun _ => q2) 24 (by decide) (fun _ => 0) (-1) _) (va_cwS 2 hts (gS uw208 uw57 uw58 ucA_fill) rfl rfl rfl hsA_fill ⟨Nat.le_of_ble_eq_true rfl, Nat.le_of_ble_eq_true rfl⟩) hK hP hD hS hA [2] [0, 1, 3, 4, 5, 6, 7, 8, 9, 10, 11, 12, 13, 14] [0, 1, 14, 2, 3, 4, 5, 6, 7, 8, 9, 10, 11, 12, 13] rfl rfl (by decide) (by decide) (by decide) rfl (by decide) rfl hl.1 rfl (Nat.le_of_ble_eq_true rfl) dK_init_77 ⟨Nat.le_of_ble_eq_true rfl, Nat.le_of_ble_eq_true rfl⟩ (fun H locs hP hD hS => ?_)
  have hP : va_P D vwCl (wK Y (fun i => [h0, q1, q2, q3, h_q4 0, h_q4 1, h_q4 2, h_q4 3, h_q4 4, h_q4 5, h_q4 6, h_q4 7, h_q4 8, h_q5 0, h_q5 1].getD i 0) n ((fun _ => 0), (fA_fill 24 (fun _ => 0) (-1)), (fun _ => 0), fP_init n, fM_init n)) H := hP
  have hD : va_D A (wK Y (fun i => [h0, q1, q2, q3, h_q4 0, h_q4 1, h_q4 2, h_q4 3, h_q4 4, h_q4 5, h_q4 6, h_q4 7, h_q4 8, h_q5 0, h_q5 1].getD i 0) n ((fun _ => 0), (fA_fill 24 (fun _ => 0) (-1)), (fun _ => 0), fP_init n, fM_init n)) := hD
  exact zMc_ret (S := vK) (w := fun h S => wK Y h n S) (hh := (fun i => [h0, q1, q2, q3, h_q4 0, h_q4 1, h_q4 2, h_q4 3, h_q4 4, h_q4 5, h_q4 6, h_q4 7, h_q4 8, h_q5 0, h_q5 1].getD i 0)) (u := ((fun _ => 0), (fA_fill 24 (fun _ => 0) (-1)), (fun _ => 0), fP_init n, fM_init n)) rfl hx hb hr hlocks hK hP hD hS dK_init_80
