abbrev rmK_parents : Room := { frames := 5, cells := 0, slots := 0, locals := 115 }
set_option maxHeartbeats 4000000 in
set_option maxRecDepth 100000 in
theorem kK_parents (l : Launch) (D : va_G) (Y : Nat → ClassId) (h : Nat → Nat) (n : Nat) (hn : n ≤ 24) (S : vK) (a1 : Int32) (a2 : Int32) (a3 : Int32) (sz : Nat) : Met l yK_parents wsK_parents rmK_parents (va_Pc [.ref (h 0), .int a1, .int a2, .int a3] (zPreM D vwCl (tysK Y) (wK Y h n S) sz)) (va_Qi (fun r u => (r, u) = (fK_parents n S a1 a2 a3)) (zAt D vwCl (tysK Y) (va_A (wK Y h n S) sz) (wK Y h n)) (va_A (wK Y h n S) sz)) 0 0 (va_A (wK Y h n S) sz) := by
  refine Met.ofW (cc := cK_parents) (maxL := 4) (ret := (some .boolean)) (by decide) rfl ?_
  intro p e s m args below meth c s₁ B hml hv
  obtain ⟨rfl, hsz, hP, hK, hD0⟩ := hv
  have hx := B.exec
  have hb := B.bytes
  have hr := B.returns
  have hts : ∀ w ∈ uT, w.before _ s = true := fun w hw => atoms_spec (ws := wsK_parents) B.pre w (List.mem_cons_of_mem _ hw)
  have hown : s.vm.findClass RK = some m.cls := findClass_of_methodNamed B.named
  have hlocks := B.notSynchronized
  subst hsz
  have hD := hD0.self (sz := s.heap.size)
  generalize hAe : va_A (wK Y h n S) s.heap.size = A at hD ⊢
  have hA : ∀ q : Nat, s.heap.size ≤ q → A q := fun q h => by rw [← hAe]; exact Or.inr h
  have hS : va_S A s.heap s.heap [] := va_S.rf
  have hl := lv_entry ([.ref (h 0), .int a1, .int a2, .int a3]) (n := 4) (Nat.le_of_ble_eq_true rfl)
  rw [lg_entry_eq]
  generalize (lg_sl ([.ref (h 0), .int a1, .int a2, .int a3]) ++ List.replicate (4 - (lg_sl ([.ref (h 0), .int a1, .int a2, .int a3])).length) Slot.unset).toArray = ls at hl ⊢
  have hl : lv_has ls 4 [(0, .ref (h 0)), (1, .int a1), (2, .int a2), (3, .int a3)] := hl
  show W p l e rmK_parents s m _ below meth c s.heap [] 0 0 (zMi D vwCl (tysK Y) A (wK Y h n) below _ s 0 0 (fK_parents n S a1 a2 a3)) _
  unfold fK_parents
  show W p l e rmK_parents s m _ below meth c s.heap [] 0 0 (zMi D vwCl (tysK Y) A (wK Y h n) below _ s 0 0 _) (F0 m 0 ls [])
  refine lv_aload_n hx hb dK_parents_0 rfl (lv_at hl 0 rfl) ?_
  refine va_get (D := D) (ci := 0) (v := .ref (h 4)) (C := RK) (T := TK) (N := 6) hx hb hts hinK hown hK hP 0 rfl rfl 0 (by decide) (hts _ uw122) (fun _ h9 => h9) rfl dK_parents_1 ?_
  refine qMVv (ws := wK Y h n S) (wc := wP Y (fun i => h (i + 4)) n (g_P S)) (wr := wKo Y h n S ++ wM Y (fun i => h (i + 13)) n (g_M S)) (ws' := wK Y h n (s_P S (fP_forgetRing n (g_P S)))) (rest := []) ⟨hx, hb, hml, hown, hts⟩ (kP_forgetRing l D Y (fun i => h (i + 4)) n hn (g_P S) _) (cwV 0 hts (gV uw134 uw135 uw136 uw8 ucP_forgetRing) rfl rfl rfl hvP_forgetRing ⟨Nat.le_of_ble_eq_true rfl, Nat.le_of_ble_eq_true rfl⟩) hK hP hD hS hA [4, 5, 6, 7, 8, 9, 10, 11, 12] [0, 1, 2, 3, 13, 14] [0, 1, 2, 3, 6, 7, 8, 9, 10, 11, 12, 13, 14, 4, 5] rfl rfl (by decide) (by decide) (by decide) rfl (by decide) (va_recv hK (kP_sub hP) (ci := 1) (q0 := 0) rfl rfl) rfl hl.1 rfl (Nat.le_of_ble_eq_true rfl) dK_parents_4 ⟨Nat.le_of_ble_eq_true rfl, Nat.le_of_ble_eq_true rfl⟩ (fun H locs hP hD hS => ?_)
  refine lv_aload_n hx hb dK_parents_7 rfl (lv_at hl 0 rfl) ?_
  refine lv_iload_n hx hb dK_parents_8 rfl (lv_at hl 1 rfl) ?_
  refine qVi (rest := []) ⟨hx, hb, hml, hown, hts⟩ (kK_isAnimal l D Y h n hn (s_P S (fP_forgetRing n (g_P S))) a1) (cwV 1 hts (gV uw113 uw114 uw115 uw116 ucK_isAnimal) rfl rfl rfl hvK_isAnimal ⟨Nat.le_of_ble_eq_true rfl, Nat.le_of_ble_eq_true rfl⟩) hK hP (va_recv hK hP (ci := 0) (q0 := 0) rfl rfl) rfl hl.1 rfl (Nat.le_of_ble_eq_true rfl) dK_parents_9 ⟨Nat.le_of_ble_eq_true rfl, Nat.le_of_ble_eq_true rfl⟩ ?_
  refine zif (C := (fK_isAnimal n a1) = 0) (fun c12 => ?_) (fun c12 => ?_)
  · skip
    refine lv_if_eq (tgt := 31) hx hb dK_parents_12 (by decide) (fun _ => ?_) (fun z => absurd c12 z)
    refine lv_iconst (v := 0) hx hb dK_parents_31 (by decide) ?_
    exact zMb_ret (u := (s_P S (fP_forgetRing n (g_P S)))) hx hb hr hlocks hK hP hD hS (Or.inl rfl) dK_parents_32
  · skip
    refine lv_if_eq (tgt := 31) hx hb dK_parents_12 (by decide) (fun z => absurd z c12) (fun _ => ?_)
    refine lv_aload_n hx hb dK_parents_15 rfl (lv_at hl 0 rfl) ?_
    refine lv_iload_n hx hb dK_parents_16 rfl (lv_at hl 2 rfl) ?_
    refine qVi (rest := []) ⟨hx, hb, hml, hown, hts⟩ (kK_isAnimalOrNone l D Y h n hn (s_P S (fP_forgetRing n (g_P S))) a2) (cwV 1 hts (gV uw137 uw138 uw139 uw116 ucK_isAnimalOrNone) rfl rfl rfl hvK_isAnimalOrNone ⟨Nat.le_of_ble_eq_true rfl, Nat.le_of_ble_eq_true rfl⟩) hK hP (va_recv hK hP (ci := 0) (q0 := 0) rfl rfl) rfl hl.1 rfl (Nat.le_of_ble_eq_true rfl) dK_parents_17 ⟨Nat.le_of_ble_eq_true rfl, Nat.le_of_ble_eq_true rfl⟩ ?_
    refine zif (C := (fK_isAnimalOrNone n a2) = 0) (fun c20 => ?_) (fun c20 => ?_)
    · skip
      refine lv_if_eq (tgt := 31) hx hb dK_parents_20 (by decide) (fun _ => ?_) (fun z => absurd c20 z)
      refine lv_iconst (v := 0) hx hb dK_parents_31 (by decide) ?_
      exact zMb_ret (u := (s_P S (fP_forgetRing n (g_P S)))) hx hb hr hlocks hK hP hD hS (Or.inl rfl) dK_parents_32
    · skip
      refine lv_if_eq (tgt := 31) hx hb dK_parents_20 (by decide) (fun z => absurd z c20) (fun _ => ?_)
      refine lv_aload_n hx hb dK_parents_23 rfl (lv_at hl 0 rfl) ?_
      refine lv_iload_n hx hb dK_parents_24 rfl (lv_at hl 3 rfl) ?_
      refine qVi (rest := []) ⟨hx, hb, hml, hown, hts⟩ (kK_isAnimalOrNone l D Y h n hn (s_P S (fP_forgetRing n (g_P S))) a3) (cwV 1 hts (gV uw137 uw138 uw139 uw116 ucK_isAnimalOrNone) rfl rfl rfl hvK_isAnimalOrNone ⟨Nat.le_of_ble_eq_true rfl, Nat.le_of_ble_eq_true rfl⟩) hK hP (va_recv hK hP (ci := 0) (q0 := 0) rfl rfl) rfl hl.1 rfl (Nat.le_of_ble_eq_true rfl) dK_parents_25 ⟨Nat.le_of_ble_eq_true rfl, Nat.le_of_ble_eq_true rfl⟩ ?_
      refine zif (C := (fK_isAnimalOrNone n a3) = 0) (fun c28 => ?_) (fun c28 => ?_)
      · skip
        refine lv_if_ne (tgt := 33) hx hb dK_parents_28 (by decide) (fun z => absurd c28 z) (fun _ => ?_)
        refine lv_iconst (v := 0) hx hb dK_parents_31 (by decide) ?_
        exact zMb_ret (u := (s_P S (fP_forgetRing n (g_P S)))) hx hb hr hlocks hK hP hD hS (Or.inl rfl) dK_parents_32
      · skip
        refine lv_if_ne (tgt := 33) hx hb dK_parents_28 (by decide) (fun _ => ?_) (fun z => absurd z c28)
        refine lv_iload_n hx hb dK_parents_33 rfl (lv_at hl 2 rfl) ?_
        refine lv_iload_n hx hb dK_parents_34 rfl (lv_at hl 3 rfl) ?_
        refine zif (C := a2 = a3) (fun c35 => ?_) (fun c35 => ?_)
        · skip
          refine lv_icmp_ne (tgt := 45) hx hb dK_parents_35 (by decide) (fun z => absurd c35 z) (fun _ => ?_)
          refine lv_iload_n hx hb dK_parents_38 rfl (lv_at hl 2 rfl) ?_
          refine lv_iconst (v := (-1)) hx hb dK_parents_39 (by decide) ?_
          refine zif (C := a2 = (-1)) (fun c40 => ?_) (fun c40 => ?_)
          · skip
            refine lv_icmp_eq (tgt := 45) hx hb dK_parents_40 (by decide) (fun _ => ?_) (fun z => absurd c40 z)
            refine lv_aload_n hx hb dK_parents_45 rfl (lv_at hl 0 rfl) ?_
            refine va_get (D := D) (ci := 0) (v := .ref (h 4)) (C := RK) (T := TK) (N := 6) hx hb hts hinK hown hK hP 0 rfl rfl 0 (by decide) (hts _ uw122) (fun _ h9 => h9) rfl dK_parents_46 ?_
            refine lv_iload_n hx hb dK_parents_49 rfl (lv_at hl 1 rfl) ?_
            refine lv_iload_n hx hb dK_parents_50 rfl (lv_at hl 2 rfl) ?_
            refine lv_iload_n hx hb dK_parents_51 rfl (lv_at hl 3 rfl) ?_
            refine qVi (rest := []) ⟨hx, hb, hml, hown, hts⟩ (kP_wouldClose l D Y (fun i => h (i + 4)) n hn (g_P (s_P S (fP_forgetRing n (g_P S)))) a1 a2 a3) (cwV 3 hts (gV uw140 uw141 uw142 uw8 ucP_wouldClose) rfl rfl rfl hvP_wouldClose ⟨Nat.le_of_ble_eq_true rfl, Nat.le_of_ble_eq_true rfl⟩) hK (kP_sub hP) (va_recv hK (kP_sub hP) (ci := 1) (q0 := 0) rfl rfl) rfl hl.1 rfl (Nat.le_of_ble_eq_true rfl) dK_parents_52 ⟨Nat.le_of_ble_eq_true rfl, Nat.le_of_ble_eq_true rfl⟩ ?_
            refine zif (C := (fP_wouldClose n (g_P (s_P S (fP_forgetRing n (g_P S)))) a1 a2 a3) = 0) (fun c55 => ?_) (fun c55 => ?_)
            · skip
              refine lv_if_eq (tgt := 70) hx hb dK_parents_55 (by decide) (fun _ => ?_) (fun z => absurd c55 z)
              refine lv_aload_n hx hb dK_parents_70 rfl (lv_at hl 0 rfl) ?_
              refine lv_iload_n hx hb dK_parents_71 rfl (lv_at hl 1 rfl) ?_
              refine lv_iload_n hx hb dK_parents_72 rfl (lv_at hl 2 rfl) ?_
              refine lv_iload_n hx hb dK_parents_73 rfl (lv_at hl 3 rfl) ?_
              refine qVi (rest := []) ⟨hx, hb, hml, hown, hts⟩ (kK_mayBeParents l D Y h n hn (s_P S (fP_forgetRing n (g_P S))) a1 a2 a3) (cwV 3 hts (gV uw125 uw126 uw127 uw116 ucK_mayBeParents) rfl rfl rfl hvK_mayBeParents ⟨Nat.le_of_ble_eq_true rfl, Nat.le_of_ble_eq_true rfl⟩) hK hP (va_recv hK hP (ci := 0) (q0 := 0) rfl rfl) rfl hl.1 rfl (Nat.le_of_ble_eq_true rfl) dK_parents_74 ⟨Nat.le_of_ble_eq_true rfl, Nat.le_of_ble_eq_true rfl⟩ ?_
              refine zif (C := (fK_mayBeParents n (s_P S (fP_forgetRing n (g_P S))) a1 a2 a3) = 0) (fun c77 => ?_) (fun c77 => ?_)
              · skip
                refine lv_if_ne (tgt := 82) hx hb dK_parents_77 (by decide) (fun z => absurd c77 z) (fun _ => ?_)
                refine lv_iconst (v := 0) hx hb dK_parents_80 (by decide) ?_
                exact zMb_ret (u := (s_P S (fP_forgetRing n (g_P S)))) hx hb hr hlocks hK hP hD hS (Or.inl rfl) dK_parents_81
              · skip
                refine lv_if_ne (tgt := 82) hx hb dK_parents_77 (by decide) (fun _ => ?_) (fun z => absurd z c77)
                refine lv_aload_n hx hb dK_parents_82 rfl (lv_at hl 0 rfl) ?_
                refine va_get (D := D) (ci := 0) (v := .ref (h 4)) (C := RK) (T := TK) (N := 6) hx hb hts hinK hown hK hP 0 rfl rfl 0 (by decide) (hts _ uw122) (fun _ h9 => h9) rfl dK_parents_83 ?_
                refine lv_iload_n hx hb dK_parents_86 rfl (lv_at hl 1 rfl) ?_
                refine lv_iload_n hx hb dK_parents_87 rfl (lv_at hl 2 rfl) ?_
                refine lv_iload_n hx hb dK_parents_88 rfl (lv_at hl 3 rfl) ?_
                refine qMVv (ws := wK Y h n (s_P S (fP_forgetRing n (g_P S)))) (wc := wP Y (fun i => h (i + 4)) n (g_P (s_P S (fP_forgetRing n (g_P S))))) (wr := wKo Y h n (s_P S (fP_forgetRing n (g_P S))) ++ wM Y (fun i => h (i + 13)) n (g_M (s_P S (fP_forgetRing n (g_P S))))) (ws' := wK Y h n (s_P (s_P S (fP_forgetRing n (g_P S))) (fP_setParents n (g_P (s_P S (fP_forgetRing n (g_P S)))) a1 a2 a3))) (rest := []) ⟨hx, hb, hml, hown, hts⟩ (kP_setParents l D Y (fun i => h (i + 4)) n hn (g_P (s_P S (fP_forgetRing n (g_P S)))) a1 a2 a3 _) (cwV 3 hts (gV uw143 uw144 uw145 uw8 ucP_setParents) rfl rfl rfl hvP_setParents ⟨Nat.le_of_ble_eq_true rfl, Nat.le_of_ble_eq_true rfl⟩) hK hP hD hS hA [4, 5, 6, 7, 8, 9, 10, 11, 12] [0, 1, 2, 3, 13, 14] [0, 1, 2, 3, 6, 7, 8, 9, 10, 11, 12, 13, 14, 4, 5] rfl rfl (by decide) (by decide) (by decide) rfl (by decide) (va_recv hK (kP_sub hP) (ci := 1) (q0 := 0) rfl rfl) rfl hl.1 rfl (Nat.le_of_ble_eq_true rfl) dK_parents_89 ⟨Nat.le_of_ble_eq_true rfl, Nat.le_of_ble_eq_true rfl⟩ (fun H locs hP hD hS => ?_)
                refine lv_iconst (v := 1) hx hb dK_parents_92 (by decide) ?_
                exact zMb_ret (u := (s_P (s_P S (fP_forgetRing n (g_P S))) (fP_setParents n (g_P (s_P S (fP_forgetRing n (g_P S)))) a1 a2 a3))) hx hb hr hlocks hK hP hD hS (Or.inr rfl) dK_parents_93
            · skip
              refine lv_if_eq (tgt := 70) hx hb dK_parents_55 (by decide) (fun z => absurd z c55) (fun _ => ?_)
              refine lv_aload_n hx hb dK_parents_58 rfl (lv_at hl 0 rfl) ?_
              refine va_get (D := D) (ci := 0) (v := .ref (h 4)) (C := RK) (T := TK) (N := 6) hx hb hts hinK hown hK hP 0 rfl rfl 0 (by decide) (hts _ uw122) (fun _ h9 => h9) rfl dK_parents_59 ?_
              refine lv_iload_n hx hb dK_parents_62 rfl (lv_at hl 1 rfl) ?_
              refine lv_iload_n hx hb dK_parents_63 rfl (lv_at hl 2 rfl) ?_
              refine lv_iload_n hx hb dK_parents_64 rfl (lv_at hl 3 rfl) ?_
              refine qMVv (ws := wK Y h n (s_P S (fP_forgetRing n (g_P S)))) (wc := wP Y (fun i => h (i + 4)) n (g_P (s_P S (fP_forgetRing n (g_P S))))) (wr := wKo Y h n (s_P S (fP_forgetRing n (g_P S))) ++ wM Y (fun i => h (i + 13)) n (g_M (s_P S (fP_forgetRing n (g_P S))))) (ws' := wK Y h n (s_P (s_P S (fP_forgetRing n (g_P S))) (fP_keepRing n (g_P (s_P S (fP_forgetRing n (g_P S)))) a1 a2 a3))) (rest := []) ⟨hx, hb, hml, hown, hts⟩ (kP_keepRing l D Y (fun i => h (i + 4)) n hn (g_P (s_P S (fP_forgetRing n (g_P S)))) a1 a2 a3 _) (cwV 3 hts (gV uw146 uw147 uw148 uw8 ucP_keepRing) rfl rfl rfl hvP_keepRing ⟨Nat.le_of_ble_eq_true rfl, Nat.le_of_ble_eq_true rfl⟩) hK hP hD hS hA [4, 5, 6, 7, 8, 9, 10, 11, 12] [0, 1, 2, 3, 13, 14] [0, 1, 2, 3, 6, 7, 8, 9, 10, 11, 12, 13, 14, 4, 5] rfl rfl (by decide) (by decide) (by decide) rfl (by decide) (va_recv hK (kP_sub hP) (ci := 1) (q0 := 0) rfl rfl) rfl hl.1 rfl (Nat.le_of_ble_eq_true rfl) dK_parents_65 ⟨Nat.le_of_ble_eq_true rfl, Nat.le_of_ble_eq_true rfl⟩ (fun H locs hP hD hS => ?_)
              refine lv_iconst (v := 0) hx hb dK_parents_68 (by decide) ?_
              exact zMb_ret (u := (s_P (s_P S (fP_forgetRing n (g_P S))) (fP_keepRing n (g_P (s_P S (fP_forgetRing n (g_P S)))) a1 a2 a3))) hx hb hr hlocks hK hP hD hS (Or.inl rfl) dK_parents_69
          · skip
            refine lv_icmp_eq (tgt := 45) hx hb dK_parents_40 (by decide) (fun z => absurd z c40) (fun _ => ?_)
            refine lv_iconst (v := 0) hx hb dK_parents_43 (by decide) ?_
            exact zMb_ret (u := (s_P S (fP_forgetRing n (g_P S)))) hx hb hr hlocks hK hP hD hS (Or.inl rfl) dK_parents_44
        · skip
          refine lv_icmp_ne (tgt := 45) hx hb dK_parents_35 (by decide) (fun _ => ?_) (fun z => absurd z c35)
          refine lv_aload_n hx hb dK_parents_45 rfl (lv_at hl 0 rfl) ?_
          refine va_get (D := D) (ci := 0) (v := .ref (h 4)) (C := RK) (T := TK) (N := 6) hx hb hts hinK hown hK hP 0 rfl rfl 0 (by decide) (hts _ uw122) (fun _ h9 => h9) rfl dK_parents_46 ?_
          refine lv_iload_n hx hb dK_parents_49 rfl (lv_at hl 1 rfl) ?_
          refine lv_iload_n hx hb dK_parents_50 rfl (lv_at hl 2 rfl) ?_
          refine lv_iload_n hx hb dK_parents_51 rfl (lv_at hl 3 rfl) ?_
          refine qVi (rest := []) ⟨hx, hb, hml, hown, hts⟩ (kP_wouldClose l D Y (fun i => h (i + 4)) n hn (g_P (s_P S (fP_forgetRing n (g_P S)))) a1 a2 a3) (cwV 3 hts (gV uw140 uw141 uw142 uw8 ucP_wouldClose) rfl rfl rfl hvP_wouldClose ⟨Nat.le_of_ble_eq_true rfl, Nat.le_of_ble_eq_true rfl⟩) hK (kP_sub hP) (va_recv hK (kP_sub hP) (ci := 1) (q0 := 0) rfl rfl) rfl hl.1 rfl (Nat.le_of_ble_eq_true rfl) dK_parents_52 ⟨Nat.le_of_ble_eq_true rfl, Nat.le_of_ble_eq_true rfl⟩ ?_
          refine zif (C := (fP_wouldClose n (g_P (s_P S (fP_forgetRing n (g_P S)))) a1 a2 a3) = 0) (fun c55 => ?_) (fun c55 => ?_)
          · skip
            refine lv_if_eq (tgt := 70) hx hb dK_parents_55 (by decide) (fun _ => ?_) (fun z => absurd c55 z)
            refine lv_aload_n hx hb dK_parents_70 rfl (lv_at hl 0 rfl) ?_
            refine lv_iload_n hx hb dK_parents_71 rfl (lv_at hl 1 rfl) ?_
            refine lv_iload_n hx hb dK_parents_72 rfl (lv_at hl 2 rfl) ?_
            refine lv_iload_n hx hb dK_parents_73 rfl (lv_at hl 3 rfl) ?_
            refine qVi (rest := []) ⟨hx, hb, hml, hown, hts⟩ (kK_mayBeParents l D Y h n hn (s_P S (fP_forgetRing n (g_P S))) a1 a2 a3) (cwV 3 hts (gV uw125 uw126 uw127 uw116 ucK_mayBeParents) rfl rfl rfl hvK_mayBeParents ⟨Nat.le_of_ble_eq_true rfl, Nat.le_of_ble_eq_true rfl⟩) hK hP (va_recv hK hP (ci := 0) (q0 := 0) rfl rfl) rfl hl.1 rfl (Nat.le_of_ble_eq_true rfl) dK_parents_74 ⟨Nat.le_of_ble_eq_true rfl, Nat.le_of_ble_eq_true rfl⟩ ?_
            refine zif (C := (fK_mayBeParents n (s_P S (fP_forgetRing n (g_P S))) a1 a2 a3) = 0) (fun c77 => ?_) (fun c77 => ?_)
            · skip
              refine lv_if_ne (tgt := 82) hx hb dK_parents_77 (by decide) (fun z => absurd c77 z) (fun _ => ?_)
              refine lv_iconst (v := 0) hx hb dK_parents_80 (by decide) ?_
              exact zMb_ret (u := (s_P S (fP_forgetRing n (g_P S)))) hx hb hr hlocks hK hP hD hS (Or.inl rfl) dK_parents_81
            · skip
              refine lv_if_ne (tgt := 82) hx hb dK_parents_77 (by decide) (fun _ => ?_) (fun z => absurd z c77)
              refine lv_aload_n hx hb dK_parents_82 rfl (lv_at hl 0 rfl) ?_
              refine va_get (D := D) (ci := 0) (v := .ref (h 4)) (C := RK) (T := TK) (N := 6) hx hb hts hinK hown hK hP 0 rfl rfl 0 (by decide) (hts _ uw122) (fun _ h9 => h9) rfl dK_parents_83 ?_
              refine lv_iload_n hx hb dK_parents_86 rfl (lv_at hl 1 rfl) ?_
              refine lv_iload_n hx hb dK_parents_87 rfl (lv_at hl 2 rfl) ?_
              refine lv_iload_n hx hb dK_parents_88 rfl (lv_at hl 3 rfl) ?_
              refine qMVv (ws := wK Y h n (s_P S (fP_forgetRing n (g_P S)))) (wc := wP Y (fun i => h (i + 4)) n (g_P (s_P S (fP_forgetRing n (g_P S))))) (wr := wKo Y h n (s_P S (fP_forgetRing n (g_P S))) ++ wM Y (fun i => h (i + 13)) n (g_M (s_P S (fP_forgetRing n (g_P S))))) (ws' := wK Y h n (s_P (s_P S (fP_forgetRing n (g_P S))) (fP_setParents n (g_P (s_P S (fP_forgetRing n (g_P S)))) a1 a2 a3))) (rest := []) ⟨hx, hb, hml, hown, hts⟩ (kP_setParents l D Y (fun i => h (i + 4)) n hn (g_P (s_P S (fP_forgetRing n (g_P S)))) a1 a2 a3 _) (cwV 3 hts (gV uw143 uw144 uw145 uw8 ucP_setParents) rfl rfl rfl hvP_setParents ⟨Nat.le_of_ble_eq_true rfl, Nat.le_of_ble_eq_true rfl⟩) hK hP hD hS hA [4, 5, 6, 7, 8, 9, 10, 11, 12] [0, 1, 2, 3, 13, 14] [0, 1, 2, 3, 6, 7, 8, 9, 10, 11, 12, 13, 14, 4, 5] rfl rfl (by decide) (by decide) (by decide) rfl (by decide) (va_recv hK (kP_sub hP) (ci := 1) (q0 := 0) rfl rfl) rfl hl.1 rfl (Nat.le_of_ble_eq_true rfl) dK_parents_89 ⟨Nat.le_of_ble_eq_true rfl, Nat.le_of_ble_eq_true rfl⟩ (fun H locs hP hD hS => ?_)
              refine lv_iconst (v := 1) hx hb dK_parents_92 (by decide) ?_
              exact zMb_ret (u := (s_P (s_P S (fP_forgetRing n (g_P S))) (fP_setParents n (g_P (s_P S (fP_forgetRing n (g_P S)))) a1 a2 a3))) hx hb hr hlocks hK hP hD hS (Or.inr rfl) dK_parents_93
          · skip
            refine lv_if_eq (tgt := 70) hx hb dK_parents_55 (by decide) (fun z => absurd z c55) (fun _ => ?_)
            refine lv_aload_n hx hb dK_parents_58 rfl (lv_at hl 0 rfl) ?_
            refine va_get (D := D) (ci := 0) (v := .ref (h 4)) (C := RK) (T := TK) (N := 6) hx hb hts hinK hown hK hP 0 rfl rfl 0 (by decide) (hts _ uw122) (fun _ h9 => h9) rfl dK_parents_59 ?_
            refine lv_iload_n hx hb dK_parents_62 rfl (lv_at hl 1 rfl) ?_
            refine lv_iload_n hx hb dK_parents_63 rfl (lv_at hl 2 rfl) ?_
            refine lv_iload_n hx hb dK_parents_64 rfl (lv_at hl 3 rfl) ?_
            refine qMVv (ws := wK Y h n (s_P S (fP_forgetRing n (g_P S)))) (wc := wP Y (fun i => h (i + 4)) n (g_P (s_P S (fP_forgetRing n (g_P S))))) (wr := wKo Y h n (s_P S (fP_forgetRing n (g_P S))) ++ wM Y (fun i => h (i + 13)) n (g_M (s_P S (fP_forgetRing n (g_P S))))) (ws' := wK Y h n (s_P (s_P S (fP_forgetRing n (g_P S))) (fP_keepRing n (g_P (s_P S (fP_forgetRing n (g_P S)))) a1 a2 a3))) (rest := []) ⟨hx, hb, hml, hown, hts⟩ (kP_keepRing l D Y (fun i => h (i + 4)) n hn (g_P (s_P S (fP_forgetRing n (g_P S)))) a1 a2 a3 _) (cwV 3 hts (gV uw146 uw147 uw148 uw8 ucP_keepRing) rfl rfl rfl hvP_keepRing ⟨Nat.le_of_ble_eq_true rfl, Nat.le_of_ble_eq_true rfl⟩) hK hP hD hS hA [4, 5, 6, 7, 8, 9, 10, 11, 12] [0, 1, 2, 3, 13, 14] [0, 1, 2, 3, 6, 7, 8, 9, 10, 11, 12, 13, 14, 4, 5] rfl rfl (by decide) (by decide) (by decide) rfl (by decide) (va_recv hK (kP_sub hP) (ci := 1) (q0 := 0) rfl rfl) rfl hl.1 rfl (Nat.le_of_ble_eq_true rfl) dK_parents_65 ⟨Nat.le_of_ble_eq_true rfl, Nat.le_of_ble_eq_true rfl⟩ (fun H locs hP hD hS => ?_)
            refine lv_iconst (v := 0) hx hb dK_parents_68 (by decide) ?_
            exact zMb_ret (u := (s_P (s_P S (fP_forgetRing n (g_P S))) (fP_keepRing n (g_P (s_P S (fP_forgetRing n (g_P S)))) a1 a2 a3))) hx hb hr hlocks hK hP hD hS (Or.inl rfl) dK_parents_69
abbrev rmK_ring : Room := { frames := 1, cells := 0, slots := 0, locals := 21 }
set_option maxHeartbeats 4000000 in
set_option maxRecDepth 100000 in
theorem kK_ring (l : Launch) (D : va_G) (Y : Nat → ClassId) (h : Nat → Nat) (n : Nat) (hn : n ≤ 24) (S : vK) (a1 : Int32) : Met l yK_ring wsK_ring rmK_ring (va_Pc [.ref (h 0), .int a1] (zPre D vwCl (tysK Y) (wK Y h n S))) (vp_Si (fun r => r = (fK_ring n S a1))) 0 0 (fun _ => False) := by
  refine Met.ofW (cc := cK_ring) (maxL := 2) (ret := (some .int)) (by decide) rfl ?_
  intro p e s m args below meth c s₁ B hml hv
  obtain ⟨rfl, hP, hK⟩ := hv
  have hx := B.exec
  have hb := B.bytes
  have hr := B.returns
  have hts : ∀ w ∈ uT, w.before _ s = true := fun w hw => atoms_spec (ws := wsK_ring) B.pre w (List.mem_cons_of_mem _ hw)
  have hown : s.vm.findClass RK = some m.cls := findClass_of_methodNamed B.named
  have hlocks := B.notSynchronized
  have hl := lv_entry ([.ref (h 0), .int a1]) (n := 2) (Nat.le_of_ble_eq_true rfl)
  rw [lg_entry_eq]
  generalize (lg_sl ([.ref (h 0), .int a1]) ++ List.replicate (2 - (lg_sl ([.ref (h 0), .int a1])).length) Slot.unset).toArray = ls at hl ⊢
  have hl : lv_has ls 2 [(0, .ref (h 0)), (1, .int a1)] := hl
  show W p l e rmK_ring s m _ below meth c s.heap [] 0 0 (zI below _ s (fK_ring n S a1)) _
  unfold fK_ring
  show W p l e rmK_ring s m _ below meth c s.heap [] 0 0 (zI below _ s _) (F0 m 0 ls [])
  refine lv_aload_n hx hb dK_ring_0 rfl (lv_at hl 0 rfl) ?_
  refine va_get (D := D) (ci := 0) (v := .ref (h 4)) (C := RK) (T := TK) (N := 6) hx hb hts hinK hown hK hP 0 rfl rfl 0 (by decide) (hts _ uw122) (fun _ h9 => h9) rfl dK_ring_1 ?_
  refine lv_iload_n hx hb dK_ring_4 rfl (lv_at hl 1 rfl) ?_
  refine qVi (rest := []) ⟨hx, hb, hml, hown, hts⟩ (kP_ringAt l D Y (fun i => h (i + 4)) n hn (g_P S) a1) (cwV 1 hts (gV uw149 uw150 uw151 uw8 ucP_ringAt) rfl rfl rfl hvP_ringAt ⟨Nat.le_of_ble_eq_true rfl, Nat.le_of_ble_eq_true rfl⟩) hK (kP_sub hP) (va_recv hK (kP_sub hP) (ci := 1) (q0 := 0) rfl rfl) rfl hl.1 rfl (Nat.le_of_ble_eq_true rfl) dK_ring_5 ⟨Nat.le_of_ble_eq_true rfl, Nat.le_of_ble_eq_true rfl⟩ ?_
  exact zI_ret hx hb hr hlocks dK_ring_8
abbrev rmK_told : Room := { frames := 4, cells := 0, slots := 0, locals := 88 }
set_option maxHeartbeats 4000000 in
set_option maxRecDepth 100000 in
theorem kK_told (l : Launch) (D : va_G) (Y : Nat → ClassId) (h : Nat → Nat) (n : Nat) (hn : n ≤ 24) (S : vK) (a1 : Int32) (a2 : Int32) (a3 : Int32) (sz : Nat) : Met l yK_told wsK_told rmK_told (va_Pc [.ref (h 0), .int a1, .int a2, .int a3] (zPreM D vwCl (tysK Y) (wK Y h n S) sz)) (va_Qi (fun r u => (r, u) = (fK_told n S a1 a2 a3)) (zAt D vwCl (tysK Y) (va_A (wK Y h n S) sz) (wK Y h n)) (va_A (wK Y h n S) sz)) 0 0 (va_A (wK Y h n S) sz) := by
  refine Met.ofW (cc := cK_told) (maxL := 6) (ret := (some .boolean)) (by decide) rfl ?_
  intro p e s m args below meth c s₁ B hml hv
  obtain ⟨rfl, hsz, hP, hK, hD0⟩ := hv
  have hx := B.exec
  have hb := B.bytes
  have hr := B.returns
  have hts : ∀ w ∈ uT, w.before _ s = true := fun w hw => atoms_spec (ws := wsK_told) B.pre w (List.mem_cons_of_mem _ hw)
  have hown : s.vm.findClass RK = some m.cls := findClass_of_methodNamed B.named
  have hlocks := B.notSynchronized
  subst hsz
  have hD := hD0.self (sz := s.heap.size)
  generalize hAe : va_A (wK Y h n S) s.heap.size = A at hD ⊢
  have hA : ∀ q : Nat, s.heap.size ≤ q → A q := fun q h => by rw [← hAe]; exact Or.inr h
  have hS : va_S A s.heap s.heap [] := va_S.rf
  have hl := lv_entry ([.ref (h 0), .int a1, .int a2, .int a3]) (n := 6) (Nat.le_of_ble_eq_true rfl)
  rw [lg_entry_eq]
  generalize (lg_sl ([.ref (h 0), .int a1, .int a2, .int a3]) ++ List.replicate (6 - (lg_sl ([.ref (h 0), .int a1, .int a2, .int a3])).length) Slot.unset).toArray = ls at hl ⊢
  have hl : lv_has ls 6 [(0, .ref (h 0)), (1, .int a1), (2, .int a2), (3, .int a3)] := hl
  show W p l e rmK_told s m _ below meth c s.heap [] 0 0 (zMi D vwCl (tysK Y) A (wK Y h n) below _ s 0 0 (fK_told n S a1 a2 a3)) _
  unfold fK_told
  show W p l e rmK_told s m _ below meth c s.heap [] 0 0 (zMi D vwCl (tysK Y) A (wK Y h n) below _ s 0 0 _) (F0 m 0 ls [])
  refine lv_aload_n hx hb dK_told_0 rfl (lv_at hl 0 rfl) ?_
  refine lv_iload_n hx hb dK_told_1 rfl (lv_at hl 1 rfl) ?_
  refine qVi (rest := []) ⟨hx, hb, hml, hown, hts⟩ (kK_isAnimal l D Y h n hn S a1) (cwV 1 hts (gV uw113 uw114 uw115 uw116 ucK_isAnimal) rfl rfl rfl hvK_isAnimal ⟨Nat.le_of_ble_eq_true rfl, Nat.le_of_ble_eq_true rfl⟩) hK hP (va_recv hK hP (ci := 0) (q0 := 0) rfl rfl) rfl hl.1 rfl (Nat.le_of_ble_eq_true rfl) dK_told_2 ⟨Nat.le_of_ble_eq_true rfl, Nat.le_of_ble_eq_true rfl⟩ ?_
  refine zif (C := (fK_isAnimal n a1) = 0) (fun c5 => ?_) (fun c5 => ?_)
  · skip
    refine lv_if_eq (tgt := 28) hx hb dK_told_5 (by decide) (fun _ => ?_) (fun z => absurd c5 z)
    refine lv_iconst (v := 0) hx hb dK_told_28 (by decide) ?_
    exact zMb_ret (u := S) hx hb hr hlocks hK hP hD hS (Or.inl rfl) dK_told_29
  · skip
    refine lv_if_eq (tgt := 28) hx hb dK_told_5 (by decide) (fun z => absurd z c5) (fun _ => ?_)
    refine lv_iload_n hx hb dK_told_8 rfl (lv_at hl 2 rfl) ?_
    refine zif (C := a2 < 0) (fun c9 => ?_) (fun c9 => ?_)
    · skip
      refine lv_if_lt (tgt := 28) hx hb dK_told_9 (by decide) (fun _ => ?_) (fun z => absurd c9 z)
      refine lv_iconst (v := 0) hx hb dK_told_28 (by decide) ?_
      exact zMb_ret (u := S) hx hb hr hlocks hK hP hD hS (Or.inl rfl) dK_told_29
    · skip
      refine lv_if_lt (tgt := 28) hx hb dK_told_9 (by decide) (fun z => absurd z c9) (fun _ => ?_)
      refine lv_iload_n hx hb dK_told_12 rfl (lv_at hl 2 rfl) ?_
      refine lv_iconst (v := 2) hx hb dK_told_13 (by decide) ?_
      refine zif (C := 2 < a2) (fun c14 => ?_) (fun c14 => ?_)
      · skip
        refine lv_icmp_gt (tgt := 28) hx hb dK_told_14 (by decide) (fun _ => ?_) (fun z => absurd c14 z)
        refine lv_iconst (v := 0) hx hb dK_told_28 (by decide) ?_
        exact zMb_ret (u := S) hx hb hr hlocks hK hP hD hS (Or.inl rfl) dK_told_29
      · skip
        refine lv_icmp_gt (tgt := 28) hx hb dK_told_14 (by decide) (fun z => absurd z c14) (fun _ => ?_)
        refine lv_iload_n hx hb dK_told_17 rfl (lv_at hl 3 rfl) ?_
        refine lv_iconst (v := (-1)) hx hb dK_told_18 (by decide) ?_
        refine zif (C := a3 < (-1)) (fun c19 => ?_) (fun c19 => ?_)
        · skip
          refine lv_icmp_lt (tgt := 28) hx hb dK_told_19 (by decide) (fun _ => ?_) (fun z => absurd c19 z)
          refine lv_iconst (v := 0) hx hb dK_told_28 (by decide) ?_
          exact zMb_ret (u := S) hx hb hr hlocks hK hP hD hS (Or.inl rfl) dK_told_29
        · skip
          refine lv_icmp_lt (tgt := 28) hx hb dK_told_19 (by decide) (fun z => absurd z c19) (fun _ => ?_)
          refine lv_iload_n hx hb dK_told_22 rfl (lv_at hl 3 rfl) ?_
          refine lv_ldc (v := 99999) hx hb hown (hts _ uw152) dK_told_23 ?_
          refine zif (C := a3 ≤ 99999) (fun c25 => ?_) (fun c25 => ?_)
          · skip
            refine lv_icmp_le (tgt := 30) hx hb dK_told_25 (by decide) (fun _ => ?_) (fun z => absurd c25 z)
            refine lv_aload_n hx hb dK_told_30 rfl (lv_at hl 0 rfl) ?_
            refine va_get (D := D) (ci := 0) (v := .ref (h 1)) (C := RK) (T := TK) (N := 6) hx hb hts hinK hown hK hP 0 rfl rfl 3 (by decide) (hts _ uw117) (fun _ h9 => h9) rfl dK_told_31 ?_
            refine lv_iload_n hx hb dK_told_34 rfl (lv_at hl 1 rfl) ?_
            refine va_iald hx hb hK hP 1 0 rfl rfl (ani_in hn c5) dK_told_35 ?_
            refine lv_istore (lv' := [(4, .int ((g_sx S) (a1 : Int32).toNatClampNeg)), (0, .ref (h 0)), (1, .int a1), (2, .int a2), (3, .int a3)]) hx hb dK_told_36 hl (by decide) rfl (fun ls hl => ?_)
            refine lv_aload_n hx hb dK_told_38 rfl (lv_at hl 1 rfl) ?_
            refine va_get (D := D) (ci := 0) (v := .ref (h 2)) (C := RK) (T := TK) (N := 6) hx hb hts hinK hown hK hP 0 rfl rfl 4 (by decide) (hts _ uw118) (fun _ h9 => h9) rfl dK_told_39 ?_
            refine lv_iload_n hx hb dK_told_42 rfl (lv_at hl 2 rfl) ?_
            refine va_iald hx hb hK hP 2 0 rfl rfl (ani_in hn c5) dK_told_43 ?_
            refine lv_istore (lv' := [(5, .int ((g_dy S) (a1 : Int32).toNatClampNeg)), (4, .int ((g_sx S) (a1 : Int32).toNatClampNeg)), (0, .ref (h 0)), (1, .int a1), (2, .int a2), (3, .int a3)]) hx hb dK_told_44 hl (by decide) rfl (fun ls hl => ?_)
            refine lv_aload_n hx hb dK_told_46 rfl (lv_at hl 2 rfl) ?_
            refine va_get (D := D) (ci := 0) (v := .ref (h 1)) (C := RK) (T := TK) (N := 6) hx hb hts hinK hown hK hP 0 rfl rfl 3 (by decide) (hts _ uw117) (fun _ h9 => h9) rfl dK_told_47 ?_
            refine lv_iload_n hx hb dK_told_50 rfl (lv_at hl 3 rfl) ?_
            refine lv_iload_n hx hb dK_told_51 rfl (lv_at hl 4 rfl) ?_
            refine va_iast hx hb hK hP hD hS 1 0 rfl rfl (ani_in hn c5) dK_told_52 (fun H locs hP hD hS => ?_)
            have hP : va_P D vwCl (wK Y h n (s_sx S (upd (g_sx S) (a1 : Int32).toNatClampNeg a2))) H := hP
            have hD : va_D A (wK Y h n (s_sx S (upd (g_sx S) (a1 : Int32).toNatClampNeg a2))) := hD
            refine lv_aload_n hx hb dK_told_53 rfl (lv_at hl 2 rfl) ?_
            refine va_get (D := D) (ci := 0) (v := .ref (h 2)) (C := RK) (T := TK) (N := 6) hx hb hts hinK hown hK hP 0 rfl rfl 4 (by decide) (hts _ uw118) (fun _ h9 => h9) rfl dK_told_54 ?_
            refine lv_iload_n hx hb dK_told_57 rfl (lv_at hl 3 rfl) ?_
            refine lv_iload_n hx hb dK_told_58 rfl (lv_at hl 5 rfl) ?_
            refine va_iast hx hb hK hP hD hS 2 0 rfl rfl (ani_in hn c5) dK_told_59 (fun H locs hP hD hS => ?_)
            have hP : va_P D vwCl (wK Y h n (s_dy (s_sx S (upd (g_sx S) (a1 : Int32).toNatClampNeg a2)) (upd (g_dy (s_sx S (upd (g_sx S) (a1 : Int32).toNatClampNeg a2))) (a1 : Int32).toNatClampNeg a3))) H := hP
            have hD : va_D A (wK Y h n (s_dy (s_sx S (upd (g_sx S) (a1 : Int32).toNatClampNeg a2)) (upd (g_dy (s_sx S (upd (g_sx S) (a1 : Int32).toNatClampNeg a2))) (a1 : Int32).toNatClampNeg a3))) := hD
            refine lv_aload_n hx hb dK_told_60 rfl (lv_at hl 2 rfl) ?_
            refine qVi (rest := []) ⟨hx, hb, hml, hown, hts⟩ (kK_areSexesAndDaysRight l D Y h n hn (s_dy (s_sx S (upd (g_sx S) (a1 : Int32).toNatClampNeg a2)) (upd (g_dy (s_sx S (upd (g_sx S) (a1 : Int32).toNatClampNeg a2))) (a1 : Int32).toNatClampNeg a3))) (cwV 0 hts (gV uw153 uw154 uw155 uw116 ucK_areSexesAndDaysRight) rfl rfl rfl hvK_areSexesAndDaysRight ⟨Nat.le_of_ble_eq_true rfl, Nat.le_of_ble_eq_true rfl⟩) hK hP (va_recv hK hP (ci := 0) (q0 := 0) rfl rfl) rfl hl.1 rfl (Nat.le_of_ble_eq_true rfl) dK_told_61 ⟨Nat.le_of_ble_eq_true rfl, Nat.le_of_ble_eq_true rfl⟩ ?_
            refine zif (C := (fK_areSexesAndDaysRight n (s_dy (s_sx S (upd (g_sx S) (a1 : Int32).toNatClampNeg a2)) (upd (g_dy (s_sx S (upd (g_sx S) (a1 : Int32).toNatClampNeg a2))) (a1 : Int32).toNatClampNeg a3))) = 0) (fun c64 => ?_) (fun c64 => ?_)
            · skip
              refine lv_if_eq (tgt := 69) hx hb dK_told_64 (by decide) (fun _ => ?_) (fun z => absurd c64 z)
              refine lv_aload_n hx hb dK_told_69 rfl (lv_at hl 2 rfl) ?_
              refine va_get (D := D) (ci := 0) (v := .ref (h 1)) (C := RK) (T := TK) (N := 6) hx hb hts hinK hown hK hP 0 rfl rfl 3 (by decide) (hts _ uw117) (fun _ h9 => h9) rfl dK_told_70 ?_
              refine lv_iload_n hx hb dK_told_73 rfl (lv_at hl 3 rfl) ?_
              refine lv_iload hx hb dK_told_74 (lv_at hl 1 rfl) ?_
              refine va_iast hx hb hK hP hD hS 1 0 rfl rfl (ani_in hn c5) dK_told_76 (fun H locs hP hD hS => ?_)
              have hP : va_P D vwCl (wK Y h n (s_sx (s_dy (s_sx S (upd (g_sx S) (a1 : Int32).toNatClampNeg a2)) (upd (g_dy (s_sx S (upd (g_sx S) (a1 : Int32).toNatClampNeg a2))) (a1 : Int32).toNatClampNeg a3)) (upd (g_sx (s_dy (s_sx S (upd (g_sx S) (a1 : Int32).toNatClampNeg a2)) (upd (g_dy (s_sx S (upd (g_sx S) (a1 : Int32).toNatClampNeg a2))) (a1 : Int32).toNatClampNeg a3))) (a1 : Int32).toNatClampNeg ((g_sx S) (a1 : Int32).toNatClampNeg)))) H := hP
              have hD : va_D A (wK Y h n (s_sx (s_dy (s_sx S (upd (g_sx S) (a1 : Int32).toNatClampNeg a2)) (upd (g_dy (s_sx S (upd (g_sx S) (a1 : Int32).toNatClampNeg a2))) (a1 : Int32).toNatClampNeg a3)) (upd (g_sx (s_dy (s_sx S (upd (g_sx S) (a1 : Int32).toNatClampNeg a2)) (upd (g_dy (s_sx S (upd (g_sx S) (a1 : Int32).toNatClampNeg a2))) (a1 : Int32).toNatClampNeg a3))) (a1 : Int32).toNatClampNeg ((g_sx S) (a1 : Int32).toNatClampNeg)))) := hD
              refine lv_aload_n hx hb dK_told_77 rfl (lv_at hl 2 rfl) ?_
              refine va_get (D := D) (ci := 0) (v := .ref (h 2)) (C := RK) (T := TK) (N := 6) hx hb hts hinK hown hK hP 0 rfl rfl 4 (by decide) (hts _ uw118) (fun _ h9 => h9) rfl dK_told_78 ?_
              refine lv_iload_n hx hb dK_told_81 rfl (lv_at hl 3 rfl) ?_
              refine lv_iload hx hb dK_told_82 (lv_at hl 0 rfl) ?_
              refine va_iast hx hb hK hP hD hS 2 0 rfl rfl (ani_in hn c5) dK_told_84 (fun H locs hP hD hS => ?_)
              have hP : va_P D vwCl (wK Y h n (s_dy (s_sx (s_dy (s_sx S (upd (g_sx S) (a1 : Int32).toNatClampNeg a2)) (upd (g_dy (s_sx S (upd (g_sx S) (a1 : Int32).toNatClampNeg a2))) (a1 : Int32).toNatClampNeg a3)) (upd (g_sx (s_dy (s_sx S (upd (g_sx S) (a1 : Int32).toNatClampNeg a2)) (upd (g_dy (s_sx S (upd (g_sx S) (a1 : Int32).toNatClampNeg a2))) (a1 : Int32).toNatClampNeg a3))) (a1 : Int32).toNatClampNeg ((g_sx S) (a1 : Int32).toNatClampNeg))) (upd (g_dy (s_sx (s_dy (s_sx S (upd (g_sx S) (a1 : Int32).toNatClampNeg a2)) (upd (g_dy (s_sx S (upd (g_sx S) (a1 : Int32).toNatClampNeg a2))) (a1 : Int32).toNatClampNeg a3)) (upd (g_sx (s_dy (s_sx S (upd (g_sx S) (a1 : Int32).toNatClampNeg a2)) (upd (g_dy (s_sx S (upd (g_sx S) (a1 : Int32).toNatClampNeg a2))) (a1 : Int32).toNatClampNeg a3))) (a1 : Int32).toNatClampNeg ((g_sx S) (a1 : Int32).toNatClampNeg)))) (a1 : Int32).toNatClampNeg ((g_dy S) (a1 : Int32).toNatClampNeg)))) H := hP
              have hD : va_D A (wK Y h n (s_dy (s_sx (s_dy (s_sx S (upd (g_sx S) (a1 : Int32).toNatClampNeg a2)) (upd (g_dy (s_sx S (upd (g_sx S) (a1 : Int32).toNatClampNeg a2))) (a1 : Int32).toNatClampNeg a3)) (upd (g_sx (s_dy (s_sx S (upd (g_sx S) (a1 : Int32).toNatClampNeg a2)) (upd (g_dy (s_sx S (upd (g_sx S) (a1 : Int32).toNatClampNeg a2))) (a1 : Int32).toNatClampNeg a3))) (a1 : Int32).toNatClampNeg ((g_sx S) (a1 : Int32).toNatClampNeg))) (upd (g_dy (s_sx (s_dy (s_sx S (upd (g_sx S) (a1 : Int32).toNatClampNeg a2)) (upd (g_dy (s_sx S (upd (g_sx S) (a1 : Int32).toNatClampNeg a2))) (a1 : Int32).toNatClampNeg a3)) (upd (g_sx (s_dy (s_sx S (upd (g_sx S) (a1 : Int32).toNatClampNeg a2)) (upd (g_dy (s_sx S (upd (g_sx S) (a1 : Int32).toNatClampNeg a2))) (a1 : Int32).toNatClampNeg a3))) (a1 : Int32).toNatClampNeg ((g_sx S) (a1 : Int32).toNatClampNeg)))) (a1 : Int32).toNatClampNeg ((g_dy S) (a1 : Int32).toNatClampNeg)))) := hD
              refine lv_iconst (v := 0) hx hb dK_told_85 (by decide) ?_
              exact zMb_ret (u := (s_dy (s_sx (s_dy (s_sx S (upd (g_sx S) (a1 : Int32).toNatClampNeg a2)) (upd (g_dy (s_sx S (upd (g_sx S) (a1 : Int32).toNatClampNeg a2))) (a1 : Int32).toNatClampNeg a3)) (upd (g_sx (s_dy (s_sx S (upd (g_sx S) (a1 : Int32).toNatClampNeg a2)) (upd (g_dy (s_sx S (upd (g_sx S) (a1 : Int32).toNatClampNeg a2))) (a1 : Int32).toNatClampNeg a3))) (a1 : Int32).toNatClampNeg ((g_sx S) (a1 : Int32).toNatClampNeg))) (upd (g_dy (s_sx (s_dy (s_sx S (upd (g_sx S) (a1 : Int32).toNatClampNeg a2)) (upd (g_dy (s_sx S (upd (g_sx S) (a1 : Int32).toNatClampNeg a2))) (a1 : Int32).toNatClampNeg a3)) (upd (g_sx (s_dy (s_sx S (upd (g_sx S) (a1 : Int32).toNatClampNeg a2)) (upd (g_dy (s_sx S (upd (g_sx S) (a1 : Int32).toNatClampNeg a2))) (a1 : Int32).toNatClampNeg a3))) (a1 : Int32).toNatClampNeg ((g_sx S) (a1 : Int32).toNatClampNeg)))) (a1 : Int32).toNatClampNeg ((g_dy S) (a1 : Int32).toNatClampNeg)))) hx hb hr hlocks hK hP hD hS (Or.inl rfl) dK_told_86
            · skip
              refine lv_if_eq (tgt := 69) hx hb dK_told_64 (by decide) (fun z => absurd z c64) (fun _ => ?_)
              refine lv_iconst (v := 1) hx hb dK_told_67 (by decide) ?_
              exact zMb_ret (u := (s_dy (s_sx S (upd (g_sx S) (a1 : Int32).toNatClampNeg a2)) (upd (g_dy (s_sx S (upd (g_sx S) (a1 : Int32).toNatClampNeg a2))) (a1 : Int32).toNatClampNeg a3))) hx hb hr hlocks hK hP hD hS (Or.inr rfl) dK_told_68
          · skip
            refine lv_icmp_le (tgt := 30) hx hb dK_told_25 (by decide) (fun z => absurd z c25) (fun _ => ?_)
            refine lv_iconst (v := 0) hx hb dK_told_28 (by decide) ?_
            exact zMb_ret (u := S) hx hb hr hlocks hK hP hD hS (Or.inl rfl) dK_told_29
abbrev rmK_lives : Room := { frames := 1, cells := 0, slots := 0, locals := 21 }
set_option maxHeartbeats 4000000 in
set_option maxRecDepth 100000 in
theorem kK_lives (l : Launch) (D : va_G) (Y : Nat → ClassId) (h : Nat → Nat) (n : Nat) (hn : n ≤ 24) (S : vK) (a1 : Int32) (a2 : Int32) (sz : Nat) : Met l yK_lives wsK_lives rmK_lives (va_Pc [.ref (h 0), .int a1, .int a2] (zPreM D vwCl (tysK Y) (wK Y h n S) sz)) (va_Qi (fun r u => (r, u) = (fK_lives n S a1 a2)) (zAt D vwCl (tysK Y) (va_A (wK Y h n S) sz) (wK Y h n)) (va_A (wK Y h n S) sz)) 0 0 (va_A (wK Y h n S) sz) := by
  refine Met.ofW (cc := cK_lives) (maxL := 3) (ret := (some .boolean)) (by decide) rfl ?_
  intro p e s m args below meth c s₁ B hml hv
  obtain ⟨rfl, hsz, hP, hK, hD0⟩ := hv
  have hx := B.exec
  have hb := B.bytes
  have hr := B.returns
  have hts : ∀ w ∈ uT, w.before _ s = true := fun w hw => atoms_spec (ws := wsK_lives) B.pre w (List.mem_cons_of_mem _ hw)
  have hown : s.vm.findClass RK = some m.cls := findClass_of_methodNamed B.named
  have hlocks := B.notSynchronized
  subst hsz
  have hD := hD0.self (sz := s.heap.size)
  generalize hAe : va_A (wK Y h n S) s.heap.size = A at hD ⊢
  have hA : ∀ q : Nat, s.heap.size ≤ q → A q := fun q h => by rw [← hAe]; exact Or.inr h
  have hS : va_S A s.heap s.heap [] := va_S.rf
  have hl := lv_entry ([.ref (h 0), .int a1, .int a2]) (n := 3) (Nat.le_of_ble_eq_true rfl)
  rw [lg_entry_eq]
  generalize (lg_sl ([.ref (h 0), .int a1, .int a2]) ++ List.replicate (3 - (lg_sl ([.ref (h 0), .int a1, .int a2])).length) Slot.unset).toArray = ls at hl ⊢
  have hl : lv_has ls 3 [(0, .ref (h 0)), (1, .int a1), (2, .int a2)] := hl
  show W p l e rmK_lives s m _ below meth c s.heap [] 0 0 (zMi D vwCl (tysK Y) A (wK Y h n) below _ s 0 0 (fK_lives n S a1 a2)) _
  unfold fK_lives
  show W p l e rmK_lives s m _ below meth c s.heap [] 0 0 (zMi D vwCl (tysK Y) A (wK Y h n) below _ s 0 0 _) (F0 m 0 ls [])
  refine lv_aload_n hx hb dK_lives_0 rfl (lv_at hl 0 rfl) ?_
  refine lv_iload_n hx hb dK_lives_1 rfl (lv_at hl 1 rfl) ?_
  refine qVi (rest := []) ⟨hx, hb, hml, hown, hts⟩ (kK_isAnimal l D Y h n hn S a1) (cwV 1 hts (gV uw113 uw114 uw115 uw116 ucK_isAnimal) rfl rfl rfl hvK_isAnimal ⟨Nat.le_of_ble_eq_true rfl, Nat.le_of_ble_eq_true rfl⟩) hK hP (va_recv hK hP (ci := 0) (q0 := 0) rfl rfl) rfl hl.1 rfl (Nat.le_of_ble_eq_true rfl) dK_lives_2 ⟨Nat.le_of_ble_eq_true rfl, Nat.le_of_ble_eq_true rfl⟩ ?_
  refine zif (C := (fK_isAnimal n a1) = 0) (fun c5 => ?_) (fun c5 => ?_)
  · skip
    refine lv_if_ne (tgt := 10) hx hb dK_lives_5 (by decide) (fun z => absurd c5 z) (fun _ => ?_)
    refine lv_iconst (v := 0) hx hb dK_lives_8 (by decide) ?_
    exact zMb_ret (u := S) hx hb hr hlocks hK hP hD hS (Or.inl rfl) dK_lives_9
  · skip
    refine lv_if_ne (tgt := 10) hx hb dK_lives_5 (by decide) (fun _ => ?_) (fun z => absurd z c5)
    refine lv_aload_n hx hb dK_lives_10 rfl (lv_at hl 0 rfl) ?_
    refine va_get (D := D) (ci := 0) (v := .ref (h 3)) (C := RK) (T := TK) (N := 6) hx hb hts hinK hown hK hP 0 rfl rfl 5 (by decide) (hts _ uw131) (fun _ h9 => h9) rfl dK_lives_11 ?_
    refine lv_iload_n hx hb dK_lives_14 rfl (lv_at hl 1 rfl) ?_
    refine lv_iload_n hx hb dK_lives_15 rfl (lv_at hl 2 rfl) ?_
    refine zif (C := a2 = 0) (fun c16 => ?_) (fun c16 => ?_)
    · skip
      refine lv_if_ne (tgt := 23) hx hb dK_lives_16 (by decide) (fun z => absurd c16 z) (fun _ => ?_)
      refine lv_iconst (v := 1) hx hb dK_lives_19 (by decide) ?_
      refine lv_goto (tgt := 24) hx hb dK_lives_20 (by decide) ?_
      refine va_zast hx hb hK hP hD hS 3 2 rfl rfl (ani_in hn c5) dK_lives_24 (fun H locs hP hD hS => ?_)
      have hP : va_P D vwCl (wK Y h n (s_dd S (upd (g_dd S) (a1 : Int32).toNatClampNeg (vp_nar .boolean 1)))) H := hP
      have hD : va_D A (wK Y h n (s_dd S (upd (g_dd S) (a1 : Int32).toNatClampNeg (vp_nar .boolean 1)))) := hD
      refine lv_iconst (v := 1) hx hb dK_lives_25 (by decide) ?_
      exact zMb_ret (u := (s_dd S (upd (g_dd S) (a1 : Int32).toNatClampNeg (vp_nar .boolean 1)))) hx hb hr hlocks hK hP hD hS (Or.inr rfl) dK_lives_26
    · skip
      refine lv_if_ne (tgt := 23) hx hb dK_lives_16 (by decide) (fun _ => ?_) (fun z => absurd z c16)
      refine lv_iconst (v := 0) hx hb dK_lives_23 (by decide) ?_
      refine va_zast hx hb hK hP hD hS 3 2 rfl rfl (ani_in hn c5) dK_lives_24 (fun H locs hP hD hS => ?_)
      have hP : va_P D vwCl (wK Y h n (s_dd S (upd (g_dd S) (a1 : Int32).toNatClampNeg (vp_nar .boolean 0)))) H := hP
      have hD : va_D A (wK Y h n (s_dd S (upd (g_dd S) (a1 : Int32).toNatClampNeg (vp_nar .boolean 0)))) := hD
      refine lv_iconst (v := 1) hx hb dK_lives_25 (by decide) ?_
      exact zMb_ret (u := (s_dd S (upd (g_dd S) (a1 : Int32).toNatClampNeg (vp_nar .boolean 0)))) hx hb hr hlocks hK hP hD hS (Or.inr rfl) dK_lives_26
abbrev rmK_kin : Room := { frames := 2, cells := 0, slots := 0, locals := 56 }
set_option maxHeartbeats 4000000 in
set_option maxRecDepth 100000 in
theorem kK_kin (l : Launch) (D : va_G) (Y : Nat → ClassId) (h : Nat → Nat) (n : Nat) (hn : n ≤ 24) (S : vK) (a1 : Int32) (a2 : Int32) (a3 : Int32) : Met l yK_kin wsK_kin rmK_kin (va_Pc [.ref (h 0), .int a1, .int a2, .int a3] (zPre D vwCl (tysK Y) (wK Y h n S))) (vp_Sl (fun r => r = (fK_kin n S a1 a2 a3))) 0 0 (fun _ => False) := by
  refine Met.ofW (cc := cK_kin) (maxL := 4) (ret := (some .long)) (by decide) rfl ?_
  intro p e s m args below meth c s₁ B hml hv
  obtain ⟨rfl, hP, hK⟩ := hv
  have hx := B.exec
  have hb := B.bytes
  have hr := B.returns
  have hts : ∀ w ∈ uT, w.before _ s = true := fun w hw => atoms_spec (ws := wsK_kin) B.pre w (List.mem_cons_of_mem _ hw)
  have hown : s.vm.findClass RK = some m.cls := findClass_of_methodNamed B.named
  have hlocks := B.notSynchronized
  have hl := lv_entry ([.ref (h 0), .int a1, .int a2, .int a3]) (n := 4) (Nat.le_of_ble_eq_true rfl)
  rw [lg_entry_eq]
  generalize (lg_sl ([.ref (h 0), .int a1, .int a2, .int a3]) ++ List.replicate (4 - (lg_sl ([.ref (h 0), .int a1, .int a2, .int a3])).length) Slot.unset).toArray = ls at hl ⊢
  have hl : lv_has ls 4 [(0, .ref (h 0)), (1, .int a1), (2, .int a2), (3, .int a3)] := hl
  show W p l e rmK_kin s m _ below meth c s.heap [] 0 0 (zL below _ s (fK_kin n S a1 a2 a3)) _
  unfold fK_kin
  show W p l e rmK_kin s m _ below meth c s.heap [] 0 0 (zL below _ s _) (F0 m 0 ls [])
  refine lv_aload_n hx hb dK_kin_0 rfl (lv_at hl 0 rfl) ?_
  refine lv_iload_n hx hb dK_kin_1 rfl (lv_at hl 1 rfl) ?_
  refine qVi (rest := []) ⟨hx, hb, hml, hown, hts⟩ (kK_isAnimal l D Y h n hn S a1) (cwV 1 hts (gV uw113 uw114 uw115 uw116 ucK_isAnimal) rfl rfl rfl hvK_isAnimal ⟨Nat.le_of_ble_eq_true rfl, Nat.le_of_ble_eq_true rfl⟩) hK hP (va_recv hK hP (ci := 0) (q0 := 0) rfl rfl) rfl hl.1 rfl (Nat.le_of_ble_eq_true rfl) dK_kin_2 ⟨Nat.le_of_ble_eq_true rfl, Nat.le_of_ble_eq_true rfl⟩ ?_
  refine zif (C := (fK_isAnimal n a1) = 0) (fun c5 => ?_) (fun c5 => ?_)
  · skip
    refine lv_if_eq (tgt := 23) hx hb dK_kin_5 (by decide) (fun _ => ?_) (fun z => absurd c5 z)
    refine lv_ldc2 (v := (-1)) hx hb hown (hts _ uw156) dK_kin_23 ?_
    exact zL_ret hx hb hr hlocks dK_kin_26
  · skip
    refine lv_if_eq (tgt := 23) hx hb dK_kin_5 (by decide) (fun z => absurd z c5) (fun _ => ?_)
    refine lv_aload_n hx hb dK_kin_8 rfl (lv_at hl 0 rfl) ?_
    refine lv_iload_n hx hb dK_kin_9 rfl (lv_at hl 2 rfl) ?_
    refine qVi (rest := []) ⟨hx, hb, hml, hown, hts⟩ (kK_isAnimal l D Y h n hn S a2) (cwV 1 hts (gV uw113 uw114 uw115 uw116 ucK_isAnimal) rfl rfl rfl hvK_isAnimal ⟨Nat.le_of_ble_eq_true rfl, Nat.le_of_ble_eq_true rfl⟩) hK hP (va_recv hK hP (ci := 0) (q0 := 0) rfl rfl) rfl hl.1 rfl (Nat.le_of_ble_eq_true rfl) dK_kin_10 ⟨Nat.le_of_ble_eq_true rfl, Nat.le_of_ble_eq_true rfl⟩ ?_
    refine zif (C := (fK_isAnimal n a2) = 0) (fun c13 => ?_) (fun c13 => ?_)
    · skip
      refine lv_if_eq (tgt := 23) hx hb dK_kin_13 (by decide) (fun _ => ?_) (fun z => absurd c13 z)
      refine lv_ldc2 (v := (-1)) hx hb hown (hts _ uw156) dK_kin_23 ?_
      exact zL_ret hx hb hr hlocks dK_kin_26
    · skip
      refine lv_if_eq (tgt := 23) hx hb dK_kin_13 (by decide) (fun z => absurd z c13) (fun _ => ?_)
      refine lv_iload_n hx hb dK_kin_16 rfl (lv_at hl 3 rfl) ?_
      refine qSi (rest := []) ⟨hx, hb, hml, hown, hts⟩ (kF_isPart l D Y a3) (va_cwS 1 hts (gS uw157 uw158 uw2 ucF_isPart) rfl rfl rfl hsF_isPart ⟨Nat.le_of_ble_eq_true rfl, Nat.le_of_ble_eq_true rfl⟩) hK (zsub [] hP rfl) rfl hl.1 rfl (Nat.le_of_ble_eq_true rfl) dK_kin_17 ⟨Nat.le_of_ble_eq_true rfl, Nat.le_of_ble_eq_true rfl⟩ ?_
      refine zif (C := (fF_isPart a3) = 0) (fun c20 => ?_) (fun c20 => ?_)
      · skip
        refine lv_if_ne (tgt := 27) hx hb dK_kin_20 (by decide) (fun z => absurd c20 z) (fun _ => ?_)
        refine lv_ldc2 (v := (-1)) hx hb hown (hts _ uw156) dK_kin_23 ?_
        exact zL_ret hx hb hr hlocks dK_kin_26
      · skip
        refine lv_if_ne (tgt := 27) hx hb dK_kin_20 (by decide) (fun _ => ?_) (fun z => absurd z c20)
        refine lv_aload_n hx hb dK_kin_27 rfl (lv_at hl 0 rfl) ?_
        refine va_get (D := D) (ci := 0) (v := .ref (h 4)) (C := RK) (T := TK) (N := 6) hx hb hts hinK hown hK hP 0 rfl rfl 0 (by decide) (hts _ uw122) (fun _ h9 => h9) rfl dK_kin_28 ?_
        refine lv_iload_n hx hb dK_kin_31 rfl (lv_at hl 1 rfl) ?_
        refine lv_iload_n hx hb dK_kin_32 rfl (lv_at hl 2 rfl) ?_
        refine qVl (rest := []) ⟨hx, hb, hml, hown, hts⟩ (kP_kinOf l D Y (fun i => h (i + 4)) n hn (g_P S) a1 a2) (cwV 2 hts (gV uw133 uw24 uw25 uw8 ucP_kinOf) rfl rfl rfl hvP_kinOf ⟨Nat.le_of_ble_eq_true rfl, Nat.le_of_ble_eq_true rfl⟩) hK (kP_sub hP) (va_recv hK (kP_sub hP) (ci := 1) (q0 := 0) rfl rfl) rfl hl.1 rfl (Nat.le_of_ble_eq_true rfl) dK_kin_33 ⟨Nat.le_of_ble_eq_true rfl, Nat.le_of_ble_eq_true rfl⟩ ?_
        refine lv_ldc2 (v := 1073741824) hx hb hown (hts _ uw159) dK_kin_36 ?_
        refine lv_iload_n hx hb dK_kin_39 rfl (lv_at hl 3 rfl) ?_
        refine qSl (rest := []) ⟨hx, hb, hml, hown, hts⟩ (kF_lowest l D Y (fP_kinOf n (g_P S) a1 a2) 1073741824 a3) (va_cwS 3 hts (gS uw160 uw100 uw2 ucF_lowest) rfl rfl rfl hsF_lowest ⟨Nat.le_of_ble_eq_true rfl, Nat.le_of_ble_eq_true rfl⟩) hK (zsub [] hP rfl) rfl hl.1 rfl (Nat.le_of_ble_eq_true rfl) dK_kin_40 ⟨Nat.le_of_ble_eq_true rfl, Nat.le_of_ble_eq_true rfl⟩ ?_
        exact zL_ret hx hb hr hlocks dK_kin_43
abbrev rmK_inbred : Room := { frames := 3, cells := 0, slots := 0, locals := 64 }
set_option maxHeartbeats 4000000 in
set_option maxRecDepth 100000 in
theorem kK_inbred (l : Launch) (D : va_G) (Y : Nat → ClassId) (h : Nat → Nat) (n : Nat) (hn : n ≤ 24) (S : vK) (a1 : Int32) (a2 : Int32) : Met l yK_inbred wsK_inbred rmK_inbred (va_Pc [.ref (h 0), .int a1, .int a2] (zPre D vwCl (tysK Y) (wK Y h n S))) (vp_Sl (fun r => r = (fK_inbred n S a1 a2))) 0 0 (fun _ => False) := by
  refine Met.ofW (cc := cK_inbred) (maxL := 3) (ret := (some .long)) (by decide) rfl ?_
  intro p e s m args below meth c s₁ B hml hv
  obtain ⟨rfl, hP, hK⟩ := hv
  have hx := B.exec
  have hb := B.bytes
  have hr := B.returns
  have hts : ∀ w ∈ uT, w.before _ s = true := fun w hw => atoms_spec (ws := wsK_inbred) B.pre w (List.mem_cons_of_mem _ hw)
  have hown : s.vm.findClass RK = some m.cls := findClass_of_methodNamed B.named
  have hlocks := B.notSynchronized
  have hl := lv_entry ([.ref (h 0), .int a1, .int a2]) (n := 3) (Nat.le_of_ble_eq_true rfl)
  rw [lg_entry_eq]
  generalize (lg_sl ([.ref (h 0), .int a1, .int a2]) ++ List.replicate (3 - (lg_sl ([.ref (h 0), .int a1, .int a2])).length) Slot.unset).toArray = ls at hl ⊢
  have hl : lv_has ls 3 [(0, .ref (h 0)), (1, .int a1), (2, .int a2)] := hl
  show W p l e rmK_inbred s m _ below meth c s.heap [] 0 0 (zL below _ s (fK_inbred n S a1 a2)) _
  unfold fK_inbred
  show W p l e rmK_inbred s m _ below meth c s.heap [] 0 0 (zL below _ s _) (F0 m 0 ls [])
  refine lv_aload_n hx hb dK_inbred_0 rfl (lv_at hl 0 rfl) ?_
  refine lv_iload_n hx hb dK_inbred_1 rfl (lv_at hl 1 rfl) ?_
  refine qVi (rest := []) ⟨hx, hb, hml, hown, hts⟩ (kK_isAnimal l D Y h n hn S a1) (cwV 1 hts (gV uw113 uw114 uw115 uw116 ucK_isAnimal) rfl rfl rfl hvK_isAnimal ⟨Nat.le_of_ble_eq_true rfl, Nat.le_of_ble_eq_true rfl⟩) hK hP (va_recv hK hP (ci := 0) (q0 := 0) rfl rfl) rfl hl.1 rfl (Nat.le_of_ble_eq_true rfl) dK_inbred_2 ⟨Nat.le_of_ble_eq_true rfl, Nat.le_of_ble_eq_true rfl⟩ ?_
  refine zif (C := (fK_isAnimal n a1) = 0) (fun c5 => ?_) (fun c5 => ?_)
  · skip
    refine lv_if_eq (tgt := 15) hx hb dK_inbred_5 (by decide) (fun _ => ?_) (fun z => absurd c5 z)
    refine lv_ldc2 (v := (-1)) hx hb hown (hts _ uw156) dK_inbred_15 ?_
    exact zL_ret hx hb hr hlocks dK_inbred_18
  · skip
    refine lv_if_eq (tgt := 15) hx hb dK_inbred_5 (by decide) (fun z => absurd z c5) (fun _ => ?_)
    refine lv_iload_n hx hb dK_inbred_8 rfl (lv_at hl 2 rfl) ?_
    refine qSi (rest := []) ⟨hx, hb, hml, hown, hts⟩ (kF_isPart l D Y a2) (va_cwS 1 hts (gS uw157 uw158 uw2 ucF_isPart) rfl rfl rfl hsF_isPart ⟨Nat.le_of_ble_eq_true rfl, Nat.le_of_ble_eq_true rfl⟩) hK (zsub [] hP rfl) rfl hl.1 rfl (Nat.le_of_ble_eq_true rfl) dK_inbred_9 ⟨Nat.le_of_ble_eq_true rfl, Nat.le_of_ble_eq_true rfl⟩ ?_
    refine zif (C := (fF_isPart a2) = 0) (fun c12 => ?_) (fun c12 => ?_)
    · skip
      refine lv_if_ne (tgt := 19) hx hb dK_inbred_12 (by decide) (fun z => absurd c12 z) (fun _ => ?_)
      refine lv_ldc2 (v := (-1)) hx hb hown (hts _ uw156) dK_inbred_15 ?_
      exact zL_ret hx hb hr hlocks dK_inbred_18
    · skip
      refine lv_if_ne (tgt := 19) hx hb dK_inbred_12 (by decide) (fun _ => ?_) (fun z => absurd z c12)
      refine lv_aload_n hx hb dK_inbred_19 rfl (lv_at hl 0 rfl) ?_
      refine va_get (D := D) (ci := 0) (v := .ref (h 4)) (C := RK) (T := TK) (N := 6) hx hb hts hinK hown hK hP 0 rfl rfl 0 (by decide) (hts _ uw122) (fun _ h9 => h9) rfl dK_inbred_20 ?_
      refine lv_iload_n hx hb dK_inbred_23 rfl (lv_at hl 1 rfl) ?_
      refine qVl (rest := []) ⟨hx, hb, hml, hown, hts⟩ (kP_inbreedingOf l D Y (fun i => h (i + 4)) n hn (g_P S) a1) (cwV 1 hts (gV uw161 uw28 uw29 uw8 ucP_inbreedingOf) rfl rfl rfl hvP_inbreedingOf ⟨Nat.le_of_ble_eq_true rfl, Nat.le_of_ble_eq_true rfl⟩) hK (kP_sub hP) (va_recv hK (kP_sub hP) (ci := 1) (q0 := 0) rfl rfl) rfl hl.1 rfl (Nat.le_of_ble_eq_true rfl) dK_inbred_24 ⟨Nat.le_of_ble_eq_true rfl, Nat.le_of_ble_eq_true rfl⟩ ?_
      refine lv_ldc2 (v := 1073741824) hx hb hown (hts _ uw159) dK_inbred_27 ?_
      refine lv_iload_n hx hb dK_inbred_30 rfl (lv_at hl 2 rfl) ?_
      refine qSl (rest := []) ⟨hx, hb, hml, hown, hts⟩ (kF_lowest l D Y (fP_inbreedingOf n (g_P S) a1) 1073741824 a2) (va_cwS 3 hts (gS uw160 uw100 uw2 ucF_lowest) rfl rfl rfl hsF_lowest ⟨Nat.le_of_ble_eq_true rfl, Nat.le_of_ble_eq_true rfl⟩) hK (zsub [] hP rfl) rfl hl.1 rfl (Nat.le_of_ble_eq_true rfl) dK_inbred_31 ⟨Nat.le_of_ble_eq_true rfl, Nat.le_of_ble_eq_true rfl⟩ ?_
      exact zL_ret hx hb hr hlocks dK_inbred_34
abbrev rmK_chance : Room := { frames := 5, cells := 0, slots := 0, locals := 106 }
set_option maxHeartbeats 4000000 in
set_option maxRecDepth 100000 in
theorem kK_chance (l : Launch) (D : va_G) (Y : Nat → ClassId) (h : Nat → Nat) (n : Nat) (hn : n ≤ 24) (S : vK) (a1 : Int32) (a2 : Int32) : Met l yK_chance wsK_chance rmK_chance (va_Pc [.ref (h 0), .int a1, .int a2] (zPre D vwCl (tysK Y) (wK Y h n S))) (vp_Sl (fun r => r = (fK_chance n S a1 a2))) 0 0 (fun _ => False) := by
  refine Met.ofW (cc := cK_chance) (maxL := 3) (ret := (some .long)) (by decide) rfl ?_
  intro p e s m args below meth c s₁ B hml hv
  obtain ⟨rfl, hP, hK⟩ := hv
  have hx := B.exec
  have hb := B.bytes
  have hr := B.returns
  have hts : ∀ w ∈ uT, w.before _ s = true := fun w hw => atoms_spec (ws := wsK_chance) B.pre w (List.mem_cons_of_mem _ hw)
  have hown : s.vm.findClass RK = some m.cls := findClass_of_methodNamed B.named
  have hlocks := B.notSynchronized
  have hl := lv_entry ([.ref (h 0), .int a1, .int a2]) (n := 3) (Nat.le_of_ble_eq_true rfl)
  rw [lg_entry_eq]
  generalize (lg_sl ([.ref (h 0), .int a1, .int a2]) ++ List.replicate (3 - (lg_sl ([.ref (h 0), .int a1, .int a2])).length) Slot.unset).toArray = ls at hl ⊢
  have hl : lv_has ls 3 [(0, .ref (h 0)), (1, .int a1), (2, .int a2)] := hl
  show W p l e rmK_chance s m _ below meth c s.heap [] 0 0 (zL below _ s (fK_chance n S a1 a2)) _
  unfold fK_chance
  show W p l e rmK_chance s m _ below meth c s.heap [] 0 0 (zL below _ s _) (F0 m 0 ls [])
  refine lv_aload_n hx hb dK_chance_0 rfl (lv_at hl 0 rfl) ?_
  refine lv_iload_n hx hb dK_chance_1 rfl (lv_at hl 1 rfl) ?_
  refine qVi (rest := []) ⟨hx, hb, hml, hown, hts⟩ (kK_isAnimal l D Y h n hn S a1) (cwV 1 hts (gV uw113 uw114 uw115 uw116 ucK_isAnimal) rfl rfl rfl hvK_isAnimal ⟨Nat.le_of_ble_eq_true rfl, Nat.le_of_ble_eq_true rfl⟩) hK hP (va_recv hK hP (ci := 0) (q0 := 0) rfl rfl) rfl hl.1 rfl (Nat.le_of_ble_eq_true rfl) dK_chance_2 ⟨Nat.le_of_ble_eq_true rfl, Nat.le_of_ble_eq_true rfl⟩ ?_
  refine zif (C := (fK_isAnimal n a1) = 0) (fun c5 => ?_) (fun c5 => ?_)
  · skip
    refine lv_if_eq (tgt := 15) hx hb dK_chance_5 (by decide) (fun _ => ?_) (fun z => absurd c5 z)
    refine lv_ldc2 (v := (-1)) hx hb hown (hts _ uw156) dK_chance_15 ?_
    exact zL_ret hx hb hr hlocks dK_chance_18
  · skip
    refine lv_if_eq (tgt := 15) hx hb dK_chance_5 (by decide) (fun z => absurd z c5) (fun _ => ?_)
    refine lv_iload_n hx hb dK_chance_8 rfl (lv_at hl 2 rfl) ?_
    refine qSi (rest := []) ⟨hx, hb, hml, hown, hts⟩ (kF_isPart l D Y a2) (va_cwS 1 hts (gS uw157 uw158 uw2 ucF_isPart) rfl rfl rfl hsF_isPart ⟨Nat.le_of_ble_eq_true rfl, Nat.le_of_ble_eq_true rfl⟩) hK (zsub [] hP rfl) rfl hl.1 rfl (Nat.le_of_ble_eq_true rfl) dK_chance_9 ⟨Nat.le_of_ble_eq_true rfl, Nat.le_of_ble_eq_true rfl⟩ ?_
    refine zif (C := (fF_isPart a2) = 0) (fun c12 => ?_) (fun c12 => ?_)
    · skip
      refine lv_if_ne (tgt := 19) hx hb dK_chance_12 (by decide) (fun z => absurd c12 z) (fun _ => ?_)
      refine lv_ldc2 (v := (-1)) hx hb hown (hts _ uw156) dK_chance_15 ?_
      exact zL_ret hx hb hr hlocks dK_chance_18
    · skip
      refine lv_if_ne (tgt := 19) hx hb dK_chance_12 (by decide) (fun _ => ?_) (fun z => absurd z c12)
      refine lv_aload_n hx hb dK_chance_19 rfl (lv_at hl 0 rfl) ?_
      refine va_get (D := D) (ci := 0) (v := .ref (h 4)) (C := RK) (T := TK) (N := 6) hx hb hts hinK hown hK hP 0 rfl rfl 0 (by decide) (hts _ uw122) (fun _ h9 => h9) rfl dK_chance_20 ?_
      refine lv_iload_n hx hb dK_chance_23 rfl (lv_at hl 1 rfl) ?_
      refine qVl (rest := []) ⟨hx, hb, hml, hown, hts⟩ (kP_chanceOf l D Y (fun i => h (i + 4)) n hn (g_P S) a1) (cwV 1 hts (gV uw162 uw163 uw164 uw8 ucP_chanceOf) rfl rfl rfl hvP_chanceOf ⟨Nat.le_of_ble_eq_true rfl, Nat.le_of_ble_eq_true rfl⟩) hK (kP_sub hP) (va_recv hK (kP_sub hP) (ci := 1) (q0 := 0) rfl rfl) rfl hl.1 rfl (Nat.le_of_ble_eq_true rfl) dK_chance_24 ⟨Nat.le_of_ble_eq_true rfl, Nat.le_of_ble_eq_true rfl⟩ ?_
      refine lv_ldc2 (v := 1073741824) hx hb hown (hts _ uw159) dK_chance_27 ?_
      refine lv_iload_n hx hb dK_chance_30 rfl (lv_at hl 2 rfl) ?_
      refine qSl (rest := []) ⟨hx, hb, hml, hown, hts⟩ (kF_lowest l D Y (fP_chanceOf n (g_P S) a1) 1073741824 a2) (va_cwS 3 hts (gS uw160 uw100 uw2 ucF_lowest) rfl rfl rfl hsF_lowest ⟨Nat.le_of_ble_eq_true rfl, Nat.le_of_ble_eq_true rfl⟩) hK (zsub [] hP rfl) rfl hl.1 rfl (Nat.le_of_ble_eq_true rfl) dK_chance_31 ⟨Nat.le_of_ble_eq_true rfl, Nat.le_of_ble_eq_true rfl⟩ ?_
      exact zL_ret hx hb hr hlocks dK_chance_34
abbrev rmK_share : Room := { frames := 3, cells := 0, slots := 0, locals := 66 }
set_option maxHeartbeats 4000000 in
set_option maxRecDepth 100000 in
theorem kK_share (l : Launch) (D : va_G) (Y : Nat → ClassId) (h : Nat → Nat) (n : Nat) (hn : n ≤ 24) (S : vK) (a1 : Int32) (a2 : Int32) (a3 : Int32) (sz : Nat) : Met l yK_share wsK_share rmK_share (va_Pc [.ref (h 0), .int a1, .int a2, .int a3] (zPreM D vwCl (tysK Y) (wK Y h n S) sz)) (va_Ql (fun r u => (r, u) = (fK_share n S a1 a2 a3)) (zAt D vwCl (tysK Y) (va_A (wK Y h n S) sz) (wK Y h n)) (va_A (wK Y h n S) sz)) 0 0 (va_A (wK Y h n S) sz) := by
  refine Met.ofW (cc := cK_share) (maxL := 4) (ret := (some .long)) (by decide) rfl ?_
  intro p e s m args below meth c s₁ B hml hv
  obtain ⟨rfl, hsz, hP, hK, hD0⟩ := hv
  have hx := B.exec
  have hb := B.bytes
  have hr := B.returns
  have hts : ∀ w ∈ uT, w.before _ s = true := fun w hw => atoms_spec (ws := wsK_share) B.pre w (List.mem_cons_of_mem _ hw)
  have hown : s.vm.findClass RK = some m.cls := findClass_of_methodNamed B.named
  have hlocks := B.notSynchronized
  subst hsz
  have hD := hD0.self (sz := s.heap.size)
  generalize hAe : va_A (wK Y h n S) s.heap.size = A at hD ⊢
  have hA : ∀ q : Nat, s.heap.size ≤ q → A q := fun q h => by rw [← hAe]; exact Or.inr h
  have hS : va_S A s.heap s.heap [] := va_S.rf
  have hl := lv_entry ([.ref (h 0), .int a1, .int a2, .int a3]) (n := 4) (Nat.le_of_ble_eq_true rfl)
  rw [lg_entry_eq]
  generalize (lg_sl ([.ref (h 0), .int a1, .int a2, .int a3]) ++ List.replicate (4 - (lg_sl ([.ref (h 0), .int a1, .int a2, .int a3])).length) Slot.unset).toArray = ls at hl ⊢
  have hl : lv_has ls 4 [(0, .ref (h 0)), (1, .int a1), (2, .int a2), (3, .int a3)] := hl
  show W p l e rmK_share s m _ below meth c s.heap [] 0 0 (zMl D vwCl (tysK Y) A (wK Y h n) below _ s 0 0 (fK_share n S a1 a2 a3)) _
  unfold fK_share
  show W p l e rmK_share s m _ below meth c s.heap [] 0 0 (zMl D vwCl (tysK Y) A (wK Y h n) below _ s 0 0 _) (F0 m 0 ls [])
  refine lv_aload_n hx hb dK_share_0 rfl (lv_at hl 0 rfl) ?_
  refine lv_iload_n hx hb dK_share_1 rfl (lv_at hl 1 rfl) ?_
  refine qVi (rest := []) ⟨hx, hb, hml, hown, hts⟩ (kK_isAnimal l D Y h n hn S a1) (cwV 1 hts (gV uw113 uw114 uw115 uw116 ucK_isAnimal) rfl rfl rfl hvK_isAnimal ⟨Nat.le_of_ble_eq_true rfl, Nat.le_of_ble_eq_true rfl⟩) hK hP (va_recv hK hP (ci := 0) (q0 := 0) rfl rfl) rfl hl.1 rfl (Nat.le_of_ble_eq_true rfl) dK_share_2 ⟨Nat.le_of_ble_eq_true rfl, Nat.le_of_ble_eq_true rfl⟩ ?_
  refine zif (C := (fK_isAnimal n a1) = 0) (fun c5 => ?_) (fun c5 => ?_)
  · skip
    refine lv_if_eq (tgt := 26) hx hb dK_share_5 (by decide) (fun _ => ?_) (fun z => absurd c5 z)
    refine lv_ldc2 (v := (-1)) hx hb hown (hts _ uw156) dK_share_26 ?_
    exact zMl_ret (u := S) hx hb hr hlocks hK hP hD hS dK_share_29
  · skip
    refine lv_if_eq (tgt := 26) hx hb dK_share_5 (by decide) (fun z => absurd z c5) (fun _ => ?_)
    refine lv_aload_n hx hb dK_share_8 rfl (lv_at hl 0 rfl) ?_
    refine va_get (D := D) (ci := 0) (v := .ref (h 4)) (C := RK) (T := TK) (N := 6) hx hb hts hinK hown hK hP 0 rfl rfl 0 (by decide) (hts _ uw122) (fun _ h9 => h9) rfl dK_share_9 ?_
    refine lv_iload_n hx hb dK_share_12 rfl (lv_at hl 2 rfl) ?_
    refine qVi (rest := []) ⟨hx, hb, hml, hown, hts⟩ (kP_isFounder l D Y (fun i => h (i + 4)) n hn (g_P S) a2) (cwV 1 hts (gV uw128 uw129 uw130 uw8 ucP_isFounder) rfl rfl rfl hvP_isFounder ⟨Nat.le_of_ble_eq_true rfl, Nat.le_of_ble_eq_true rfl⟩) hK (kP_sub hP) (va_recv hK (kP_sub hP) (ci := 1) (q0 := 0) rfl rfl) rfl hl.1 rfl (Nat.le_of_ble_eq_true rfl) dK_share_13 ⟨Nat.le_of_ble_eq_true rfl, Nat.le_of_ble_eq_true rfl⟩ ?_
    refine zif (C := (fP_isFounder n (g_P S) a2) = 0) (fun c16 => ?_) (fun c16 => ?_)
    · skip
      refine lv_if_eq (tgt := 26) hx hb dK_share_16 (by decide) (fun _ => ?_) (fun z => absurd c16 z)
      refine lv_ldc2 (v := (-1)) hx hb hown (hts _ uw156) dK_share_26 ?_
      exact zMl_ret (u := S) hx hb hr hlocks hK hP hD hS dK_share_29
    · skip
      refine lv_if_eq (tgt := 26) hx hb dK_share_16 (by decide) (fun z => absurd z c16) (fun _ => ?_)
      refine lv_iload_n hx hb dK_share_19 rfl (lv_at hl 3 rfl) ?_
      refine qSi (rest := []) ⟨hx, hb, hml, hown, hts⟩ (kF_isPart l D Y a3) (va_cwS 1 hts (gS uw157 uw158 uw2 ucF_isPart) rfl rfl rfl hsF_isPart ⟨Nat.le_of_ble_eq_true rfl, Nat.le_of_ble_eq_true rfl⟩) hK (zsub [] hP rfl) rfl hl.1 rfl (Nat.le_of_ble_eq_true rfl) dK_share_20 ⟨Nat.le_of_ble_eq_true rfl, Nat.le_of_ble_eq_true rfl⟩ ?_
      refine zif (C := (fF_isPart a3) = 0) (fun c23 => ?_) (fun c23 => ?_)
      · skip
        refine lv_if_ne (tgt := 30) hx hb dK_share_23 (by decide) (fun z => absurd c23 z) (fun _ => ?_)
        refine lv_ldc2 (v := (-1)) hx hb hown (hts _ uw156) dK_share_26 ?_
        exact zMl_ret (u := S) hx hb hr hlocks hK hP hD hS dK_share_29
      · skip
        refine lv_if_ne (tgt := 30) hx hb dK_share_23 (by decide) (fun _ => ?_) (fun z => absurd z c23)
        refine lv_aload_n hx hb dK_share_30 rfl (lv_at hl 0 rfl) ?_
        refine va_get (D := D) (ci := 0) (v := .ref (h 4)) (C := RK) (T := TK) (N := 6) hx hb hts hinK hown hK hP 0 rfl rfl 0 (by decide) (hts _ uw122) (fun _ h9 => h9) rfl dK_share_31 ?_
        refine lv_iload_n hx hb dK_share_34 rfl (lv_at hl 1 rfl) ?_
        refine lv_iload_n hx hb dK_share_35 rfl (lv_at hl 2 rfl) ?_
        refine qMVl (ws := wK Y h n S) (wc := wP Y (fun i => h (i + 4)) n (g_P S)) (wr := wKo Y h n S ++ wM Y (fun i => h (i + 13)) n (g_M S)) (ws' := wK Y h n (s_P S ((fP_shareOf n (g_P S) a1 a2).2))) (rest := []) ⟨hx, hb, hml, hown, hts⟩ (kP_shareOf l D Y (fun i => h (i + 4)) n hn (g_P S) a1 a2 _) (cwV 2 hts (gV uw165 uw166 uw167 uw8 ucP_shareOf) rfl rfl rfl hvP_shareOf ⟨Nat.le_of_ble_eq_true rfl, Nat.le_of_ble_eq_true rfl⟩) hK hP hD hS hA [4, 5, 6, 7, 8, 9, 10, 11, 12] [0, 1, 2, 3, 13, 14] [0, 1, 2, 3, 6, 7, 8, 9, 10, 11, 12, 13, 14, 4, 5] rfl rfl (by decide) (by decide) (by decide) rfl (by decide) (va_recv hK (kP_sub hP) (ci := 1) (q0 := 0) rfl rfl) rfl hl.1 rfl (Nat.le_of_ble_eq_true rfl) dK_share_36 ⟨Nat.le_of_ble_eq_true rfl, Nat.le_of_ble_eq_true rfl⟩ (fun H locs hP hD hS => ?_)
        refine lv_ldc2 (v := 1073741824) hx hb hown (hts _ uw159) dK_share_39 ?_
        refine lv_iload_n hx hb dK_share_42 rfl (lv_at hl 3 rfl) ?_
        refine qSl (rest := []) ⟨hx, hb, hml, hown, hts⟩ (kF_lowest l D Y ((fP_shareOf n (g_P S) a1 a2).1) 1073741824 a3) (va_cwS 3 hts (gS uw160 uw100 uw2 ucF_lowest) rfl rfl rfl hsF_lowest ⟨Nat.le_of_ble_eq_true rfl, Nat.le_of_ble_eq_true rfl⟩) hK (zsub [] hP rfl) rfl hl.1 rfl (Nat.le_of_ble_eq_true rfl) dK_share_43 ⟨Nat.le_of_ble_eq_true rfl, Nat.le_of_ble_eq_true rfl⟩ ?_
        exact zMl_ret (u := (s_P S ((fP_shareOf n (g_P S) a1 a2).2))) hx hb hr hlocks hK hP hD hS dK_share_46
abbrev rmK_isForbear : Room := { frames := 2, cells := 0, slots := 0, locals := 43 }
set_option maxHeartbeats 4000000 in
set_option maxRecDepth 100000 in
theorem kK_isForbear (l : Launch) (D : va_G) (Y : Nat → ClassId) (h : Nat → Nat) (n : Nat) (hn : n ≤ 24) (S : vK) (a1 : Int32) (a2 : Int32) : Met l yK_isForbear wsK_isForbear rmK_isForbear (va_Pc [.ref (h 0), .int a1, .int a2] (zPre D vwCl (tysK Y) (wK Y h n S))) (vp_Si (fun r => r = (fK_isForbear n S a1 a2))) 0 0 (fun _ => False) := by
  refine Met.ofW (cc := cK_isForbear) (maxL := 3) (ret := (some .boolean)) (by decide) rfl ?_
  intro p e s m args below meth c s₁ B hml hv
  obtain ⟨rfl, hP, hK⟩ := hv
  have hx := B.exec
  have hb := B.bytes
  have hr := B.returns
  have hts : ∀ w ∈ uT, w.before _ s = true := fun w hw => atoms_spec (ws := wsK_isForbear) B.pre w (List.mem_cons_of_mem _ hw)
  have hown : s.vm.findClass RK = some m.cls := findClass_of_methodNamed B.named
  have hlocks := B.notSynchronized
  have hl := lv_entry ([.ref (h 0), .int a1, .int a2]) (n := 3) (Nat.le_of_ble_eq_true rfl)
  rw [lg_entry_eq]
  generalize (lg_sl ([.ref (h 0), .int a1, .int a2]) ++ List.replicate (3 - (lg_sl ([.ref (h 0), .int a1, .int a2])).length) Slot.unset).toArray = ls at hl ⊢
  have hl : lv_has ls 3 [(0, .ref (h 0)), (1, .int a1), (2, .int a2)] := hl
  show W p l e rmK_isForbear s m _ below meth c s.heap [] 0 0 (zI below _ s (fK_isForbear n S a1 a2)) _
  unfold fK_isForbear
  show W p l e rmK_isForbear s m _ below meth c s.heap [] 0 0 (zI below _ s _) (F0 m 0 ls [])
  refine lv_aload_n hx hb dK_isForbear_0 rfl (lv_at hl 0 rfl) ?_
  refine va_get (D := D) (ci := 0) (v := .ref (h 4)) (C := RK) (T := TK) (N := 6) hx hb hts hinK hown hK hP 0 rfl rfl 0 (by decide) (hts _ uw122) (fun _ h9 => h9) rfl dK_isForbear_1 ?_
  refine lv_iload_n hx hb dK_isForbear_4 rfl (lv_at hl 2 rfl) ?_
  refine lv_iload_n hx hb dK_isForbear_5 rfl (lv_at hl 1 rfl) ?_
  refine qVi (rest := []) ⟨hx, hb, hml, hown, hts⟩ (kP_hasForbear l D Y (fun i => h (i + 4)) n hn (g_P S) a2 a1) (cwV 2 hts (gV uw132 uw36 uw37 uw8 ucP_hasForbear) rfl rfl rfl hvP_hasForbear ⟨Nat.le_of_ble_eq_true rfl, Nat.le_of_ble_eq_true rfl⟩) hK (kP_sub hP) (va_recv hK (kP_sub hP) (ci := 1) (q0 := 0) rfl rfl) rfl hl.1 rfl (Nat.le_of_ble_eq_true rfl) dK_isForbear_6 ⟨Nat.le_of_ble_eq_true rfl, Nat.le_of_ble_eq_true rfl⟩ ?_
  exact zB_ret hx hb hr hlocks (fP_hasForbear_01 ) dK_isForbear_9
abbrev rmK_order : Room := { frames := 2, cells := 0, slots := 0, locals := 42 }
set_option maxHeartbeats 4000000 in
set_option maxRecDepth 100000 in
theorem kK_order (l : Launch) (D : va_G) (Y : Nat → ClassId) (h : Nat → Nat) (n : Nat) (hn : n ≤ 24) (S : vK) (a1 : Int32) : Met l yK_order wsK_order rmK_order (va_Pc [.ref (h 0), .int a1] (zPre D vwCl (tysK Y) (wK Y h n S))) (vp_Si (fun r => r = (fK_order n S a1))) 0 0 (fun _ => False) := by
  refine Met.ofW (cc := cK_order) (maxL := 2) (ret := (some .int)) (by decide) rfl ?_
  intro p e s m args below meth c s₁ B hml hv
  obtain ⟨rfl, hP, hK⟩ := hv
  have hx := B.exec
  have hb := B.bytes
  have hr := B.returns
  have hts : ∀ w ∈ uT, w.before _ s = true := fun w hw => atoms_spec (ws := wsK_order) B.pre w (List.mem_cons_of_mem _ hw)
  have hown : s.vm.findClass RK = some m.cls := findClass_of_methodNamed B.named
  have hlocks := B.notSynchronized
  have hl := lv_entry ([.ref (h 0), .int a1]) (n := 2) (Nat.le_of_ble_eq_true rfl)
  rw [lg_entry_eq]
  generalize (lg_sl ([.ref (h 0), .int a1]) ++ List.replicate (2 - (lg_sl ([.ref (h 0), .int a1])).length) Slot.unset).toArray = ls at hl ⊢
  have hl : lv_has ls 2 [(0, .ref (h 0)), (1, .int a1)] := hl
  show W p l e rmK_order s m _ below meth c s.heap [] 0 0 (zI below _ s (fK_order n S a1)) _
  unfold fK_order
  show W p l e rmK_order s m _ below meth c s.heap [] 0 0 (zI below _ s _) (F0 m 0 ls [])
  refine lv_aload_n hx hb dK_order_0 rfl (lv_at hl 0 rfl) ?_
  refine va_get (D := D) (ci := 0) (v := .ref (h 4)) (C := RK) (T := TK) (N := 6) hx hb hts hinK hown hK hP 0 rfl rfl 0 (by decide) (hts _ uw122) (fun _ h9 => h9) rfl dK_order_1 ?_
  refine lv_iload_n hx hb dK_order_4 rfl (lv_at hl 1 rfl) ?_
  refine qVi (rest := []) ⟨hx, hb, hml, hown, hts⟩ (kP_inOrder l D Y (fun i => h (i + 4)) n hn (g_P S) a1) (cwV 1 hts (gV uw168 uw47 uw48 uw8 ucP_inOrder) rfl rfl rfl hvP_inOrder ⟨Nat.le_of_ble_eq_true rfl, Nat.le_of_ble_eq_true rfl⟩) hK (kP_sub hP) (va_recv hK (kP_sub hP) (ci := 1) (q0 := 0) rfl rfl) rfl hl.1 rfl (Nat.le_of_ble_eq_true rfl) dK_order_5 ⟨Nat.le_of_ble_eq_true rfl, Nat.le_of_ble_eq_true rfl⟩ ?_
  exact zI_ret hx hb hr hlocks dK_order_8
abbrev rmK_mark : Room := { frames := 2, cells := 0, slots := 0, locals := 45 }
set_option maxHeartbeats 4000000 in
set_option maxRecDepth 100000 in
theorem kK_mark (l : Launch) (D : va_G) (Y : Nat → ClassId) (h : Nat → Nat) (n : Nat) (hn : n ≤ 24) (S : vK) (a1 : Int32) (a2 : Int32) (a3 : Int32) (sz : Nat) : Met l yK_mark wsK_mark rmK_mark (va_Pc [.ref (h 0), .int a1, .int a2, .int a3] (zPreM D vwCl (tysK Y) (wK Y h n S) sz)) (va_Qi (fun r u => (r, u) = (fK_mark n S a1 a2 a3)) (zAt D vwCl (tysK Y) (va_A (wK Y h n S) sz) (wK Y h n)) (va_A (wK Y h n S) sz)) 0 0 (va_A (wK Y h n S) sz) := by
  refine Met.ofW (cc := cK_mark) (maxL := 4) (ret := (some .boolean)) (by decide) rfl ?_
  intro p e s m args below meth c s₁ B hml hv
  obtain ⟨rfl, hsz, hP, hK, hD0⟩ := hv
  have hx := B.exec
  have hb := B.bytes
  have hr := B.returns
  have hts : ∀ w ∈ uT, w.before _ s = true := fun w hw => atoms_spec (ws := wsK_mark) B.pre w (List.mem_cons_of_mem _ hw)
  have hown : s.vm.findClass RK = some m.cls := findClass_of_methodNamed B.named
  have hlocks := B.notSynchronized
  subst hsz
  have hD := hD0.self (sz := s.heap.size)
  generalize hAe : va_A (wK Y h n S) s.heap.size = A at hD ⊢
  have hA : ∀ q : Nat, s.heap.size ≤ q → A q := fun q h => by rw [← hAe]; exact Or.inr h
  have hS : va_S A s.heap s.heap [] := va_S.rf
  have hl := lv_entry ([.ref (h 0), .int a1, .int a2, .int a3]) (n := 4) (Nat.le_of_ble_eq_true rfl)
  rw [lg_entry_eq]
  generalize (lg_sl ([.ref (h 0), .int a1, .int a2, .int a3]) ++ List.replicate (4 - (lg_sl ([.ref (h 0), .int a1, .int a2, .int a3])).length) Slot.unset).toArray = ls at hl ⊢
  have hl : lv_has ls 4 [(0, .ref (h 0)), (1, .int a1), (2, .int a2), (3, .int a3)] := hl
  show W p l e rmK_mark s m _ below meth c s.heap [] 0 0 (zMi D vwCl (tysK Y) A (wK Y h n) below _ s 0 0 (fK_mark n S a1 a2 a3)) _
  unfold fK_mark
  show W p l e rmK_mark s m _ below meth c s.heap [] 0 0 (zMi D vwCl (tysK Y) A (wK Y h n) below _ s 0 0 _) (F0 m 0 ls [])
  refine lv_aload_n hx hb dK_mark_0 rfl (lv_at hl 0 rfl) ?_
  refine va_get (D := D) (ci := 0) (v := .ref (h 13)) (C := RK) (T := TK) (N := 6) hx hb hts hinK hown hK hP 0 rfl rfl 1 (by decide) (hts _ uw169) (fun _ h9 => h9) rfl dK_mark_1 ?_
  refine lv_iload_n hx hb dK_mark_4 rfl (lv_at hl 1 rfl) ?_
  refine lv_iload_n hx hb dK_mark_5 rfl (lv_at hl 2 rfl) ?_
  refine lv_iload_n hx hb dK_mark_6 rfl (lv_at hl 3 rfl) ?_
  refine qMVi (ws := wK Y h n S) (wc := wM Y (fun i => h (i + 13)) n (g_M S)) (wr := wKo Y h n S ++ wP Y (fun i => h (i + 4)) n (g_P S)) (ws' := wK Y h n (s_M S ((fM_setForm n (g_M S) a1 a2 a3).2))) (rest := []) ⟨hx, hb, hml, hown, hts⟩ (kM_setForm l D Y (fun i => h (i + 13)) n hn (g_M S) a1 a2 a3 _) (cwV 3 hts (gV uw170 uw171 uw172 uw84 ucM_setForm) rfl rfl rfl hvM_setForm ⟨Nat.le_of_ble_eq_true rfl, Nat.le_of_ble_eq_true rfl⟩) hK hP hD hS hA [13, 14] [0, 1, 2, 3, 4, 5, 6, 7, 8, 9, 10, 11, 12] [0, 1, 2, 3, 4, 5, 6, 7, 8, 9, 10, 11, 12, 13, 14] rfl rfl (by decide) (by decide) (by decide) rfl (by decide) (va_recv hK (kM_sub hP) (ci := 2) (q0 := 0) rfl rfl) rfl hl.1 rfl (Nat.le_of_ble_eq_true rfl) dK_mark_7 ⟨Nat.le_of_ble_eq_true rfl, Nat.le_of_ble_eq_true rfl⟩ (fun H locs hP hD hS => ?_)
  exact zMb_ret (u := (s_M S ((fM_setForm n (g_M S) a1 a2 a3).2))) hx hb hr hlocks hK hP hD hS (fM_setForm_01 ) dK_mark_10
abbrev rmK_left : Room := { frames := 4, cells := 0, slots := 0, locals := 90 }
set_option maxHeartbeats 4000000 in
set_option maxRecDepth 100000 in
theorem tK_left_37 {p : Program} {l : Launch} {e : Env} {s : State} {m : MethodId} {args : Array Value} {below : List Frame} {meth : Method} {c : Code} {D : va_G} {Y : Nat → ClassId} {h : Nat → Nat} {n : Nat} (hn : n ≤ 24) {S : vK} (CF : CallFix p m c cK_left 6 s args uT RK) (hr : meth.sig.returnType = (some .int)) (hlocks : meth.locks = false) (hK : va_K D vwCl (tysK Y) s) (hP : va_P D vwCl (wK Y h n S) s.heap) : ∀ (k i : Nat) (x1 : Int32) (x2 : Int32) (x3 : Int32) (x4 : Int32), i + k = n → ∀ ls : Array Slot, lv_has ls 6 [(0, .ref (h 0)), (1, .int x1), (2, .int x2), (3, .int x3), (4, .int x4), (5, .int (nI i))] → W p l e rmK_left s m args below meth c s.heap [] 0 0 (zI below args s (fK_left_37 n S k i x1 x2 x3 x4)) (F0 m 37 ls []) := by
  obtain ⟨hx, hb, hml, hown, hts⟩ := CF
  intro k
  induction k with
  | zero =>
    intro i x1 x2 x3 x4 hi  ls hl
    rw [fK_left_37]
    refine lv_iload hx hb dK_left_37 (lv_at hl 5 rfl) ?_
    refine lv_aload_n hx hb dK_left_39 rfl (lv_at hl 0 rfl) ?_
    refine va_get (D := D) (ci := 0) (v := .int (nI n)) (C := RK) (T := TK) (N := 6) hx hb hts hinK hown hK hP 0 rfl rfl 2 (by decide) (hts _ uw112) (fun _ h9 => h9) rfl dK_left_40 ?_
    refine lv_icmp_ge (tgt := 85) hx hb dK_left_43 (by decide) (fun _ => ?_) (fun z => absurd (lp_ge (n := n) hi) z)
    refine lv_iload hx hb dK_left_85 (lv_at hl 4 rfl) ?_
    exact zI_ret hx hb hr hlocks dK_left_87
  | succ k ih =>
    intro i x1 x2 x3 x4 hi  ls hl
    rw [fK_left_37]
    refine lv_iload hx hb dK_left_37 (lv_at hl 5 rfl) ?_
    refine lv_aload_n hx hb dK_left_39 rfl (lv_at hl 0 rfl) ?_
    refine va_get (D := D) (ci := 0) (v := .int (nI n)) (C := RK) (T := TK) (N := 6) hx hb hts hinK hown hK hP 0 rfl rfl 2 (by decide) (hts _ uw112) (fun _ h9 => h9) rfl dK_left_40 ?_
    refine lv_icmp_ge (tgt := 85) hx hb dK_left_43 (by decide) (fun z => absurd z (lp_lt (n := n) hi (by omega))) (fun _ => ?_)
    refine lv_iload hx hb dK_left_46 (lv_at hl 5 rfl) ?_
    refine lv_iload_n hx hb dK_left_48 rfl (lv_at hl 1 rfl) ?_
    refine zif (C := (nI i) = x1) (fun c49 => ?_) (fun c49 => ?_)
    · skip
      refine lv_icmp_eq (tgt := 79) hx hb dK_left_49 (by decide) (fun _ => ?_) (fun z => absurd c49 z)
      refine lv_iinc (v := (nI (i + 1))) (lv' := [(5, .int (nI (i + 1))), (0, .ref (h 0)), (1, .int x1), (2, .int x2), (3, .int x3), (4, .int x4)]) hx hb dK_left_79 hl (k := 5) rfl (nI_1 _) (by decide) rfl (fun ls hl => ?_)
      refine lv_goto (tgt := 37) hx hb dK_left_82 (by decide) ?_
      exact ih (i + 1) x1 x2 x3 x4 (by omega) ls (lv_sub hl [1, 2, 3, 4, 5, 0] rfl)
    · skip
      refine lv_icmp_eq (tgt := 79) hx hb dK_left_49 (by decide) (fun z => absurd z c49) (fun _ => ?_)
      refine lv_aload_n hx hb dK_left_52 rfl (lv_at hl 0 rfl) ?_
      refine va_get (D := D) (ci := 0) (v := .ref (h 1)) (C := RK) (T := TK) (N := 6) hx hb hts hinK hown hK hP 0 rfl rfl 3 (by decide) (hts _ uw117) (fun _ h9 => h9) rfl dK_left_53 ?_
      refine lv_iload hx hb dK_left_56 (lv_at hl 5 rfl) ?_
      refine va_iald hx hb hK hP 1 0 rfl rfl (vp_in_nI (n := i) (by omega) (by omega)) dK_left_58 ?_
      refine lv_iload_n hx hb dK_left_59 rfl (lv_at hl 3 rfl) ?_
      refine zif (C := ((g_sx S) ((nI i) : Int32).toNatClampNeg) = x3) (fun c60 => ?_) (fun c60 => ?_)
      · skip
        refine lv_icmp_eq (tgt := 79) hx hb dK_left_60 (by decide) (fun _ => ?_) (fun z => absurd c60 z)
        refine lv_iinc (v := (nI (i + 1))) (lv' := [(5, .int (nI (i + 1))), (0, .ref (h 0)), (1, .int x1), (2, .int x2), (3, .int x3), (4, .int x4)]) hx hb dK_left_79 hl (k := 5) rfl (nI_1 _) (by decide) rfl (fun ls hl => ?_)
        refine lv_goto (tgt := 37) hx hb dK_left_82 (by decide) ?_
        exact ih (i + 1) x1 x2 x3 x4 (by omega) ls (lv_sub hl [1, 2, 3, 4, 5, 0] rfl)
      · skip
        refine lv_icmp_eq (tgt := 79) hx hb dK_left_60 (by decide) (fun z => absurd z c60) (fun _ => ?_)
        refine lv_aload_n hx hb dK_left_63 rfl (lv_at hl 0 rfl) ?_
        refine va_get (D := D) (ci := 0) (v := .ref (h 13)) (C := RK) (T := TK) (N := 6) hx hb hts hinK hown hK hP 0 rfl rfl 1 (by decide) (hts _ uw169) (fun _ h9 => h9) rfl dK_left_64 ?_
        refine lv_iload_n hx hb dK_left_67 rfl (lv_at hl 1 rfl) ?_
        refine lv_iload hx hb dK_left_68 (lv_at hl 5 rfl) ?_
        refine qVi (rest := []) ⟨hx, hb, hml, hown, hts⟩ (kM_isLeftOut l D Y (fun i => h (i + 13)) n hn (g_M S) x1 (nI i)) (cwV 2 hts (gV uw173 uw174 uw175 uw84 ucM_isLeftOut) rfl rfl rfl hvM_isLeftOut ⟨Nat.le_of_ble_eq_true rfl, Nat.le_of_ble_eq_true rfl⟩) hK (kM_sub hP) (va_recv hK (kM_sub hP) (ci := 2) (q0 := 0) rfl rfl) rfl hl.1 rfl (Nat.le_of_ble_eq_true rfl) dK_left_70 ⟨Nat.le_of_ble_eq_true rfl, Nat.le_of_ble_eq_true rfl⟩ ?_
        refine zif (C := (fM_isLeftOut n (g_M S) x1 (nI i)) = 0) (fun c73 => ?_) (fun c73 => ?_)
        · skip
          refine lv_if_ne (tgt := 79) hx hb dK_left_73 (by decide) (fun z => absurd c73 z) (fun _ => ?_)
          refine lv_iinc (v := (x4 + 1)) (lv' := [(4, .int (x4 + 1)), (0, .ref (h 0)), (1, .int x1), (2, .int x2), (3, .int x3), (5, .int (nI i))]) hx hb dK_left_76 hl (k := 4) rfl (rfl) (by decide) rfl (fun ls hl => ?_)
          refine lv_iinc (v := (nI (i + 1))) (lv' := [(5, .int (nI (i + 1))), (4, .int (x4 + 1)), (0, .ref (h 0)), (1, .int x1), (2, .int x2), (3, .int x3)]) hx hb dK_left_79 hl (k := 5) rfl (nI_1 _) (by decide) rfl (fun ls hl => ?_)
          refine lv_goto (tgt := 37) hx hb dK_left_82 (by decide) ?_
          exact ih (i + 1) x1 x2 x3 (x4 + 1) (by omega) ls (lv_sub hl [2, 3, 4, 5, 1, 0] rfl)
        · skip
          refine lv_if_ne (tgt := 79) hx hb dK_left_73 (by decide) (fun _ => ?_) (fun z => absurd z c73)
          refine lv_iinc (v := (nI (i + 1))) (lv' := [(5, .int (nI (i + 1))), (0, .ref (h 0)), (1, .int x1), (2, .int x2), (3, .int x3), (4, .int x4)]) hx hb dK_left_79 hl (k := 5) rfl (nI_1 _) (by decide) rfl (fun ls hl => ?_)
          refine lv_goto (tgt := 37) hx hb dK_left_82 (by decide) ?_
          exact ih (i + 1) x1 x2 x3 x4 (by omega) ls (lv_sub hl [1, 2, 3, 4, 5, 0] rfl)
set_option maxHeartbeats 4000000 in
set_option maxRecDepth 100000 in
theorem kK_left (l : Launch) (D : va_G) (Y : Nat → ClassId) (h : Nat → Nat) (n : Nat) (hn : n ≤ 24) (S : vK) (a1 : Int32) (a2 : Int32) : Met l yK_left wsK_left rmK_left (va_Pc [.ref (h 0), .int a1, .int a2] (zPre D vwCl (tysK Y) (wK Y h n S))) (vp_Si (fun r => r = (fK_left n S a1 a2))) 0 0 (fun _ => False) := by
  refine Met.ofW (cc := cK_left) (maxL := 6) (ret := (some .int)) (by decide) rfl ?_
  intro p e s m args below meth c s₁ B hml hv
  obtain ⟨rfl, hP, hK⟩ := hv
  have hx := B.exec
  have hb := B.bytes
  have hr := B.returns
  have hts : ∀ w ∈ uT, w.before _ s = true := fun w hw => atoms_spec (ws := wsK_left) B.pre w (List.mem_cons_of_mem _ hw)
  have hown : s.vm.findClass RK = some m.cls := findClass_of_methodNamed B.named
  have hlocks := B.notSynchronized
  have hl := lv_entry ([.ref (h 0), .int a1, .int a2]) (n := 6) (Nat.le_of_ble_eq_true rfl)
  rw [lg_entry_eq]
  generalize (lg_sl ([.ref (h 0), .int a1, .int a2]) ++ List.replicate (6 - (lg_sl ([.ref (h 0), .int a1, .int a2])).length) Slot.unset).toArray = ls at hl ⊢
  have hl : lv_has ls 6 [(0, .ref (h 0)), (1, .int a1), (2, .int a2)] := hl
  show W p l e rmK_left s m _ below meth c s.heap [] 0 0 (zI below _ s (fK_left n S a1 a2)) _
  unfold fK_left
  show W p l e rmK_left s m _ below meth c s.heap [] 0 0 (zI below _ s _) (F0 m 0 ls [])
  refine lv_aload_n hx hb dK_left_0 rfl (lv_at hl 0 rfl) ?_
  refine lv_iload_n hx hb dK_left_1 rfl (lv_at hl 1 rfl) ?_
  refine qVi (rest := []) ⟨hx, hb, hml, hown, hts⟩ (kK_isAnimal l D Y h n hn S a1) (cwV 1 hts (gV uw113 uw114 uw115 uw116 ucK_isAnimal) rfl rfl rfl hvK_isAnimal ⟨Nat.le_of_ble_eq_true rfl, Nat.le_of_ble_eq_true rfl⟩) hK hP (va_recv hK hP (ci := 0) (q0 := 0) rfl rfl) rfl hl.1 rfl (Nat.le_of_ble_eq_true rfl) dK_left_2 ⟨Nat.le_of_ble_eq_true rfl, Nat.le_of_ble_eq_true rfl⟩ ?_
  refine zif (C := (fK_isAnimal n a1) = 0) (fun c5 => ?_) (fun c5 => ?_)
  · skip
    refine lv_if_eq (tgt := 18) hx hb dK_left_5 (by decide) (fun _ => ?_) (fun z => absurd c5 z)
    refine lv_iconst (v := (-1)) hx hb dK_left_18 (by decide) ?_
    exact zI_ret hx hb hr hlocks dK_left_19
  · skip
    refine lv_if_eq (tgt := 18) hx hb dK_left_5 (by decide) (fun z => absurd z c5) (fun _ => ?_)
    refine lv_iload_n hx hb dK_left_8 rfl (lv_at hl 2 rfl) ?_
    refine lv_iconst (v := 1) hx hb dK_left_9 (by decide) ?_
    refine zif (C := a2 = 1) (fun c10 => ?_) (fun c10 => ?_)
    · skip
      refine lv_icmp_eq (tgt := 20) hx hb dK_left_10 (by decide) (fun _ => ?_) (fun z => absurd c10 z)
      refine lv_iload_n hx hb dK_left_20 rfl (lv_at hl 2 rfl) ?_
      refine lv_iconst (v := 1) hx hb dK_left_21 (by decide) ?_
      refine lv_icmp_ne (tgt := 29) hx hb dK_left_22 (by decide) (fun z => absurd c10 z) (fun _ => ?_)
      refine lv_iconst (v := 2) hx hb dK_left_25 (by decide) ?_
      refine lv_goto (tgt := 30) hx hb dK_left_26 (by decide) ?_
      refine lv_istore_n (lv' := [(3, .int 2), (0, .ref (h 0)), (1, .int a1), (2, .int a2)]) hx hb dK_left_30 rfl hl (by decide) rfl (fun ls hl => ?_)
      refine lv_iconst (v := 0) hx hb dK_left_31 (by decide) ?_
      refine lv_istore (lv' := [(4, .int 0), (3, .int 2), (0, .ref (h 0)), (1, .int a1), (2, .int a2)]) hx hb dK_left_32 hl (by decide) rfl (fun ls hl => ?_)
      refine lv_iconst (v := 0) hx hb dK_left_34 (by decide) ?_
      refine lv_istore (lv' := [(5, .int 0), (4, .int 0), (3, .int 2), (0, .ref (h 0)), (1, .int a1), (2, .int a2)]) hx hb dK_left_35 hl (by decide) rfl (fun ls hl => ?_)
      exact tK_left_37 hn ⟨hx, hb, hml, hown, hts⟩ hr hlocks hK hP n 0 a1 a2 2 0 (by omega) ls (lv_sub hl [3, 4, 5, 2, 1, 0] rfl)
    · skip
      refine lv_icmp_eq (tgt := 20) hx hb dK_left_10 (by decide) (fun z => absurd z c10) (fun _ => ?_)
      refine lv_iload_n hx hb dK_left_13 rfl (lv_at hl 2 rfl) ?_
      refine lv_iconst (v := 2) hx hb dK_left_14 (by decide) ?_
      refine zif (C := a2 = 2) (fun c15 => ?_) (fun c15 => ?_)
      · skip
        refine lv_icmp_eq (tgt := 20) hx hb dK_left_15 (by decide) (fun _ => ?_) (fun z => absurd c15 z)
        refine lv_iload_n hx hb dK_left_20 rfl (lv_at hl 2 rfl) ?_
        refine lv_iconst (v := 1) hx hb dK_left_21 (by decide) ?_
        refine lv_icmp_ne (tgt := 29) hx hb dK_left_22 (by decide) (fun _ => ?_) (fun z => absurd z c10)
        refine lv_iconst (v := 1) hx hb dK_left_29 (by decide) ?_
        refine lv_istore_n (lv' := [(3, .int 1), (0, .ref (h 0)), (1, .int a1), (2, .int a2)]) hx hb dK_left_30 rfl hl (by decide) rfl (fun ls hl => ?_)
        refine lv_iconst (v := 0) hx hb dK_left_31 (by decide) ?_
        refine lv_istore (lv' := [(4, .int 0), (3, .int 1), (0, .ref (h 0)), (1, .int a1), (2, .int a2)]) hx hb dK_left_32 hl (by decide) rfl (fun ls hl => ?_)
        refine lv_iconst (v := 0) hx hb dK_left_34 (by decide) ?_
        refine lv_istore (lv' := [(5, .int 0), (4, .int 0), (3, .int 1), (0, .ref (h 0)), (1, .int a1), (2, .int a2)]) hx hb dK_left_35 hl (by decide) rfl (fun ls hl => ?_)
        exact tK_left_37 hn ⟨hx, hb, hml, hown, hts⟩ hr hlocks hK hP n 0 a1 a2 1 0 (by omega) ls (lv_sub hl [3, 4, 5, 2, 1, 0] rfl)
      · skip
        refine lv_icmp_eq (tgt := 20) hx hb dK_left_15 (by decide) (fun z => absurd z c15) (fun _ => ?_)
        refine lv_iconst (v := (-1)) hx hb dK_left_18 (by decide) ?_
        exact zI_ret hx hb hr hlocks dK_left_19
abbrev rmK_odds : Room := { frames := 4, cells := 0, slots := 0, locals := 100 }
set_option maxHeartbeats 4000000 in
set_option maxRecDepth 100000 in
theorem kK_odds (l : Launch) (D : va_G) (Y : Nat → ClassId) (h : Nat → Nat) (n : Nat) (hn : n ≤ 24) (S : vK) (a1 : Int32) (a2 : Int32) (a3 : Int32) : Met l yK_odds wsK_odds rmK_odds (va_Pc [.ref (h 0), .int a1, .int a2, .int a3] (zPre D vwCl (tysK Y) (wK Y h n S))) (vp_Sl (fun r => r = (fK_odds n S a1 a2 a3))) 0 0 (fun _ => False) := by
  refine Met.ofW (cc := cK_odds) (maxL := 4) (ret := (some .long)) (by decide) rfl ?_
  intro p e s m args below meth c s₁ B hml hv
  obtain ⟨rfl, hP, hK⟩ := hv
  have hx := B.exec
  have hb := B.bytes
  have hr := B.returns
  have hts : ∀ w ∈ uT, w.before _ s = true := fun w hw => atoms_spec (ws := wsK_odds) B.pre w (List.mem_cons_of_mem _ hw)
  have hown : s.vm.findClass RK = some m.cls := findClass_of_methodNamed B.named
  have hlocks := B.notSynchronized
  have hl := lv_entry ([.ref (h 0), .int a1, .int a2, .int a3]) (n := 4) (Nat.le_of_ble_eq_true rfl)
  rw [lg_entry_eq]
  generalize (lg_sl ([.ref (h 0), .int a1, .int a2, .int a3]) ++ List.replicate (4 - (lg_sl ([.ref (h 0), .int a1, .int a2, .int a3])).length) Slot.unset).toArray = ls at hl ⊢
  have hl : lv_has ls 4 [(0, .ref (h 0)), (1, .int a1), (2, .int a2), (3, .int a3)] := hl
  show W p l e rmK_odds s m _ below meth c s.heap [] 0 0 (zL below _ s (fK_odds n S a1 a2 a3)) _
  unfold fK_odds
  show W p l e rmK_odds s m _ below meth c s.heap [] 0 0 (zL below _ s _) (F0 m 0 ls [])
  refine lv_aload_n hx hb dK_odds_0 rfl (lv_at hl 0 rfl) ?_
  refine lv_iload_n hx hb dK_odds_1 rfl (lv_at hl 1 rfl) ?_
  refine qVi (rest := []) ⟨hx, hb, hml, hown, hts⟩ (kK_isAnimal l D Y h n hn S a1) (cwV 1 hts (gV uw113 uw114 uw115 uw116 ucK_isAnimal) rfl rfl rfl hvK_isAnimal ⟨Nat.le_of_ble_eq_true rfl, Nat.le_of_ble_eq_true rfl⟩) hK hP (va_recv hK hP (ci := 0) (q0 := 0) rfl rfl) rfl hl.1 rfl (Nat.le_of_ble_eq_true rfl) dK_odds_2 ⟨Nat.le_of_ble_eq_true rfl, Nat.le_of_ble_eq_true rfl⟩ ?_
  refine zif (C := (fK_isAnimal n a1) = 0) (fun c5 => ?_) (fun c5 => ?_)
  · skip
    refine lv_if_eq (tgt := 28) hx hb dK_odds_5 (by decide) (fun _ => ?_) (fun z => absurd c5 z)
    refine lv_ldc2 (v := (-1)) hx hb hown (hts _ uw156) dK_odds_28 ?_
    exact zL_ret hx hb hr hlocks dK_odds_31
  · skip
    refine lv_if_eq (tgt := 28) hx hb dK_odds_5 (by decide) (fun z => absurd z c5) (fun _ => ?_)
    refine lv_aload_n hx hb dK_odds_8 rfl (lv_at hl 0 rfl) ?_
    refine lv_iload_n hx hb dK_odds_9 rfl (lv_at hl 2 rfl) ?_
    refine qVi (rest := []) ⟨hx, hb, hml, hown, hts⟩ (kK_isAnimal l D Y h n hn S a2) (cwV 1 hts (gV uw113 uw114 uw115 uw116 ucK_isAnimal) rfl rfl rfl hvK_isAnimal ⟨Nat.le_of_ble_eq_true rfl, Nat.le_of_ble_eq_true rfl⟩) hK hP (va_recv hK hP (ci := 0) (q0 := 0) rfl rfl) rfl hl.1 rfl (Nat.le_of_ble_eq_true rfl) dK_odds_10 ⟨Nat.le_of_ble_eq_true rfl, Nat.le_of_ble_eq_true rfl⟩ ?_
    refine zif (C := (fK_isAnimal n a2) = 0) (fun c13 => ?_) (fun c13 => ?_)
    · skip
      refine lv_if_eq (tgt := 28) hx hb dK_odds_13 (by decide) (fun _ => ?_) (fun z => absurd c13 z)
      refine lv_ldc2 (v := (-1)) hx hb hown (hts _ uw156) dK_odds_28 ?_
      exact zL_ret hx hb hr hlocks dK_odds_31
    · skip
      refine lv_if_eq (tgt := 28) hx hb dK_odds_13 (by decide) (fun z => absurd z c13) (fun _ => ?_)
      refine lv_iload_n hx hb dK_odds_16 rfl (lv_at hl 1 rfl) ?_
      refine lv_iload_n hx hb dK_odds_17 rfl (lv_at hl 2 rfl) ?_
      refine zif (C := a1 = a2) (fun c18 => ?_) (fun c18 => ?_)
      · skip
        refine lv_icmp_eq (tgt := 28) hx hb dK_odds_18 (by decide) (fun _ => ?_) (fun z => absurd c18 z)
        refine lv_ldc2 (v := (-1)) hx hb hown (hts _ uw156) dK_odds_28 ?_
        exact zL_ret hx hb hr hlocks dK_odds_31
      · skip
        refine lv_icmp_eq (tgt := 28) hx hb dK_odds_18 (by decide) (fun z => absurd z c18) (fun _ => ?_)
        refine lv_iload_n hx hb dK_odds_21 rfl (lv_at hl 3 rfl) ?_
        refine qSi (rest := []) ⟨hx, hb, hml, hown, hts⟩ (kF_isPart l D Y a3) (va_cwS 1 hts (gS uw157 uw158 uw2 ucF_isPart) rfl rfl rfl hsF_isPart ⟨Nat.le_of_ble_eq_true rfl, Nat.le_of_ble_eq_true rfl⟩) hK (zsub [] hP rfl) rfl hl.1 rfl (Nat.le_of_ble_eq_true rfl) dK_odds_22 ⟨Nat.le_of_ble_eq_true rfl, Nat.le_of_ble_eq_true rfl⟩ ?_
        refine zif (C := (fF_isPart a3) = 0) (fun c25 => ?_) (fun c25 => ?_)
        · skip
          refine lv_if_ne (tgt := 32) hx hb dK_odds_25 (by decide) (fun z => absurd c25 z) (fun _ => ?_)
          refine lv_ldc2 (v := (-1)) hx hb hown (hts _ uw156) dK_odds_28 ?_
          exact zL_ret hx hb hr hlocks dK_odds_31
        · skip
          refine lv_if_ne (tgt := 32) hx hb dK_odds_25 (by decide) (fun _ => ?_) (fun z => absurd z c25)
          refine lv_aload_n hx hb dK_odds_32 rfl (lv_at hl 0 rfl) ?_
          refine va_get (D := D) (ci := 0) (v := .ref (h 13)) (C := RK) (T := TK) (N := 6) hx hb hts hinK hown hK hP 0 rfl rfl 1 (by decide) (hts _ uw169) (fun _ h9 => h9) rfl dK_odds_33 ?_
          refine lv_iload_n hx hb dK_odds_36 rfl (lv_at hl 1 rfl) ?_
          refine lv_iload_n hx hb dK_odds_37 rfl (lv_at hl 2 rfl) ?_
          refine lv_iload_n hx hb dK_odds_38 rfl (lv_at hl 3 rfl) ?_
          refine qVl (rest := []) ⟨hx, hb, hml, hown, hts⟩ (kM_oddsOf l D Y (fun i => h (i + 13)) n hn (g_M S) a1 a2 a3) (cwV 3 hts (gV uw176 uw177 uw178 uw84 ucM_oddsOf) rfl rfl rfl hvM_oddsOf ⟨Nat.le_of_ble_eq_true rfl, Nat.le_of_ble_eq_true rfl⟩) hK (kM_sub hP) (va_recv hK (kM_sub hP) (ci := 2) (q0 := 0) rfl rfl) rfl hl.1 rfl (Nat.le_of_ble_eq_true rfl) dK_odds_39 ⟨Nat.le_of_ble_eq_true rfl, Nat.le_of_ble_eq_true rfl⟩ ?_
          exact zL_ret hx hb hr hlocks dK_odds_42
abbrev rmK_like : Room := { frames := 4, cells := 0, slots := 0, locals := 95 }
set_option maxHeartbeats 4000000 in
set_option maxRecDepth 100000 in
theorem kK_like (l : Launch) (D : va_G) (Y : Nat → ClassId) (h : Nat → Nat) (n : Nat) (hn : n ≤ 24) (S : vK) (a1 : Int32) (a2 : Int32) (a3 : Int32) : Met l yK_like wsK_like rmK_like (va_Pc [.ref (h 0), .int a1, .int a2, .int a3] (zPre D vwCl (tysK Y) (wK Y h n S))) (vp_Sl (fun r => r = (fK_like n S a1 a2 a3))) 0 0 (fun _ => False) := by
  refine Met.ofW (cc := cK_like) (maxL := 4) (ret := (some .long)) (by decide) rfl ?_
  intro p e s m args below meth c s₁ B hml hv
  obtain ⟨rfl, hP, hK⟩ := hv
  have hx := B.exec
  have hb := B.bytes
  have hr := B.returns
  have hts : ∀ w ∈ uT, w.before _ s = true := fun w hw => atoms_spec (ws := wsK_like) B.pre w (List.mem_cons_of_mem _ hw)
  have hown : s.vm.findClass RK = some m.cls := findClass_of_methodNamed B.named
  have hlocks := B.notSynchronized
  have hl := lv_entry ([.ref (h 0), .int a1, .int a2, .int a3]) (n := 4) (Nat.le_of_ble_eq_true rfl)
  rw [lg_entry_eq]
  generalize (lg_sl ([.ref (h 0), .int a1, .int a2, .int a3]) ++ List.replicate (4 - (lg_sl ([.ref (h 0), .int a1, .int a2, .int a3])).length) Slot.unset).toArray = ls at hl ⊢
  have hl : lv_has ls 4 [(0, .ref (h 0)), (1, .int a1), (2, .int a2), (3, .int a3)] := hl
  show W p l e rmK_like s m _ below meth c s.heap [] 0 0 (zL below _ s (fK_like n S a1 a2 a3)) _
  unfold fK_like
  show W p l e rmK_like s m _ below meth c s.heap [] 0 0 (zL below _ s _) (F0 m 0 ls [])
  refine lv_aload_n hx hb dK_like_0 rfl (lv_at hl 0 rfl) ?_
  refine lv_iload_n hx hb dK_like_1 rfl (lv_at hl 1 rfl) ?_
  refine qVi (rest := []) ⟨hx, hb, hml, hown, hts⟩ (kK_isAnimal l D Y h n hn S a1) (cwV 1 hts (gV uw113 uw114 uw115 uw116 ucK_isAnimal) rfl rfl rfl hvK_isAnimal ⟨Nat.le_of_ble_eq_true rfl, Nat.le_of_ble_eq_true rfl⟩) hK hP (va_recv hK hP (ci := 0) (q0 := 0) rfl rfl) rfl hl.1 rfl (Nat.le_of_ble_eq_true rfl) dK_like_2 ⟨Nat.le_of_ble_eq_true rfl, Nat.le_of_ble_eq_true rfl⟩ ?_
  refine zif (C := (fK_isAnimal n a1) = 0) (fun c5 => ?_) (fun c5 => ?_)
  · skip
    refine lv_if_eq (tgt := 23) hx hb dK_like_5 (by decide) (fun _ => ?_) (fun z => absurd c5 z)
    refine lv_ldc2 (v := (-1)) hx hb hown (hts _ uw156) dK_like_23 ?_
    exact zL_ret hx hb hr hlocks dK_like_26
  · skip
    refine lv_if_eq (tgt := 23) hx hb dK_like_5 (by decide) (fun z => absurd z c5) (fun _ => ?_)
    refine lv_aload_n hx hb dK_like_8 rfl (lv_at hl 0 rfl) ?_
    refine lv_iload_n hx hb dK_like_9 rfl (lv_at hl 2 rfl) ?_
    refine qVi (rest := []) ⟨hx, hb, hml, hown, hts⟩ (kK_isAnimal l D Y h n hn S a2) (cwV 1 hts (gV uw113 uw114 uw115 uw116 ucK_isAnimal) rfl rfl rfl hvK_isAnimal ⟨Nat.le_of_ble_eq_true rfl, Nat.le_of_ble_eq_true rfl⟩) hK hP (va_recv hK hP (ci := 0) (q0 := 0) rfl rfl) rfl hl.1 rfl (Nat.le_of_ble_eq_true rfl) dK_like_10 ⟨Nat.le_of_ble_eq_true rfl, Nat.le_of_ble_eq_true rfl⟩ ?_
    refine zif (C := (fK_isAnimal n a2) = 0) (fun c13 => ?_) (fun c13 => ?_)
    · skip
      refine lv_if_eq (tgt := 23) hx hb dK_like_13 (by decide) (fun _ => ?_) (fun z => absurd c13 z)
      refine lv_ldc2 (v := (-1)) hx hb hown (hts _ uw156) dK_like_23 ?_
      exact zL_ret hx hb hr hlocks dK_like_26
    · skip
      refine lv_if_eq (tgt := 23) hx hb dK_like_13 (by decide) (fun z => absurd z c13) (fun _ => ?_)
      refine lv_iload_n hx hb dK_like_16 rfl (lv_at hl 3 rfl) ?_
      refine qSi (rest := []) ⟨hx, hb, hml, hown, hts⟩ (kF_isPart l D Y a3) (va_cwS 1 hts (gS uw157 uw158 uw2 ucF_isPart) rfl rfl rfl hsF_isPart ⟨Nat.le_of_ble_eq_true rfl, Nat.le_of_ble_eq_true rfl⟩) hK (zsub [] hP rfl) rfl hl.1 rfl (Nat.le_of_ble_eq_true rfl) dK_like_17 ⟨Nat.le_of_ble_eq_true rfl, Nat.le_of_ble_eq_true rfl⟩ ?_
      refine zif (C := (fF_isPart a3) = 0) (fun c20 => ?_) (fun c20 => ?_)
      · skip
        refine lv_if_ne (tgt := 27) hx hb dK_like_20 (by decide) (fun z => absurd c20 z) (fun _ => ?_)
        refine lv_ldc2 (v := (-1)) hx hb hown (hts _ uw156) dK_like_23 ?_
        exact zL_ret hx hb hr hlocks dK_like_26
      · skip
        refine lv_if_ne (tgt := 27) hx hb dK_like_20 (by decide) (fun _ => ?_) (fun z => absurd z c20)
        refine lv_aload_n hx hb dK_like_27 rfl (lv_at hl 0 rfl) ?_
        refine va_get (D := D) (ci := 0) (v := .ref (h 13)) (C := RK) (T := TK) (N := 6) hx hb hts hinK hown hK hP 0 rfl rfl 1 (by decide) (hts _ uw169) (fun _ h9 => h9) rfl dK_like_28 ?_
        refine lv_iload_n hx hb dK_like_31 rfl (lv_at hl 1 rfl) ?_
        refine lv_iload_n hx hb dK_like_32 rfl (lv_at hl 2 rfl) ?_
        refine lv_iload_n hx hb dK_like_33 rfl (lv_at hl 3 rfl) ?_
        refine qVl (rest := []) ⟨hx, hb, hml, hown, hts⟩ (kM_likenessOf l D Y (fun i => h (i + 13)) n hn (g_M S) a1 a2 a3) (cwV 3 hts (gV uw179 uw180 uw181 uw84 ucM_likenessOf) rfl rfl rfl hvM_likenessOf ⟨Nat.le_of_ble_eq_true rfl, Nat.le_of_ble_eq_true rfl⟩) hK (kM_sub hP) (va_recv hK (kM_sub hP) (ci := 2) (q0 := 0) rfl rfl) rfl hl.1 rfl (Nat.le_of_ble_eq_true rfl) dK_like_34 ⟨Nat.le_of_ble_eq_true rfl, Nat.le_of_ble_eq_true rfl⟩ ?_
        exact zL_ret hx hb hr hlocks dK_like_37
abbrev rmK_lost : Room := { frames := 3, cells := 0, slots := 0, locals := 65 }
set_option maxHeartbeats 4000000 in
set_option maxRecDepth 100000 in
theorem tK_lost_4 {p : Program} {l : Launch} {e : Env} {s : State} {m : MethodId} {args : Array Value} {below : List Frame} {meth : Method} {c : Code} {D : va_G} {Y : Nat → ClassId} {h : Nat → Nat} {n : Nat} (hn : n ≤ 24) {S : vK} (CF : CallFix p m c cK_lost 4 s args uT RK) (hr : meth.sig.returnType = (some .int)) (hlocks : meth.locks = false) (hK : va_K D vwCl (tysK Y) s) (hP : va_P D vwCl (wK Y h n S) s.heap) : ∀ (k i : Nat) (x1 : Int32) (x2 : Int32), i + k = n → ∀ ls : Array Slot, lv_has ls 4 [(0, .ref (h 0)), (1, .int x1), (2, .int x2), (3, .int (nI i))] → W p l e rmK_lost s m args below meth c s.heap [] 0 0 (zI below args s (fK_lost_4 n S k i x1 x2)) (F0 m 4 ls []) := by
  obtain ⟨hx, hb, hml, hown, hts⟩ := CF
  intro k
  induction k with
  | zero =>
    intro i x1 x2 hi  ls hl
    rw [fK_lost_4]
    refine lv_iload_n hx hb dK_lost_4 rfl (lv_at hl 3 rfl) ?_
    refine lv_aload_n hx hb dK_lost_5 rfl (lv_at hl 0 rfl) ?_
    refine va_get (D := D) (ci := 0) (v := .int (nI n)) (C := RK) (T := TK) (N := 6) hx hb hts hinK hown hK hP 0 rfl rfl 2 (by decide) (hts _ uw112) (fun _ h9 => h9) rfl dK_lost_6 ?_
    refine lv_icmp_ge (tgt := 36) hx hb dK_lost_9 (by decide) (fun _ => ?_) (fun z => absurd (lp_ge (n := n) hi) z)
    refine lv_iconst (v := (-1)) hx hb dK_lost_36 (by decide) ?_
    exact zI_ret hx hb hr hlocks dK_lost_37
  | succ k ih =>
    intro i x1 x2 hi  ls hl
    rw [fK_lost_4]
    refine lv_iload_n hx hb dK_lost_4 rfl (lv_at hl 3 rfl) ?_
    refine lv_aload_n hx hb dK_lost_5 rfl (lv_at hl 0 rfl) ?_
    refine va_get (D := D) (ci := 0) (v := .int (nI n)) (C := RK) (T := TK) (N := 6) hx hb hts hinK hown hK hP 0 rfl rfl 2 (by decide) (hts _ uw112) (fun _ h9 => h9) rfl dK_lost_6 ?_
    refine lv_icmp_ge (tgt := 36) hx hb dK_lost_9 (by decide) (fun z => absurd z (lp_lt (n := n) hi (by omega))) (fun _ => ?_)
    refine lv_aload_n hx hb dK_lost_12 rfl (lv_at hl 0 rfl) ?_
    refine lv_iload_n hx hb dK_lost_13 rfl (lv_at hl 3 rfl) ?_
    refine qVi (rest := []) ⟨hx, hb, hml, hown, hts⟩ (kK_isLost l D Y h n hn S (nI i)) (cwV 1 hts (gV uw182 uw183 uw184 uw116 ucK_isLost) rfl rfl rfl hvK_isLost ⟨Nat.le_of_ble_eq_true rfl, Nat.le_of_ble_eq_true rfl⟩) hK hP (va_recv hK hP (ci := 0) (q0 := 0) rfl rfl) rfl hl.1 rfl (Nat.le_of_ble_eq_true rfl) dK_lost_14 ⟨Nat.le_of_ble_eq_true rfl, Nat.le_of_ble_eq_true rfl⟩ ?_
    refine zif (C := (fK_isLost n S (nI i)) = 0) (fun c17 => ?_) (fun c17 => ?_)
    · skip
      refine lv_if_eq (tgt := 30) hx hb dK_lost_17 (by decide) (fun _ => ?_) (fun z => absurd c17 z)
      refine lv_iinc (v := (nI (i + 1))) (lv' := [(3, .int (nI (i + 1))), (0, .ref (h 0)), (1, .int x1), (2, .int x2)]) hx hb dK_lost_30 hl (k := 3) rfl (nI_1 _) (by decide) rfl (fun ls hl => ?_)
      refine lv_goto (tgt := 4) hx hb dK_lost_33 (by decide) ?_
      exact ih (i + 1) x1 x2 (by omega) ls (lv_sub hl [1, 2, 3, 0] rfl)
    · skip
      refine lv_if_eq (tgt := 30) hx hb dK_lost_17 (by decide) (fun z => absurd z c17) (fun _ => ?_)
      refine lv_iload_n hx hb dK_lost_20 rfl (lv_at hl 2 rfl) ?_
      refine lv_iload_n hx hb dK_lost_21 rfl (lv_at hl 1 rfl) ?_
      refine zif (C := x2 = x1) (fun c22 => ?_) (fun c22 => ?_)
      · skip
        refine lv_icmp_ne (tgt := 27) hx hb dK_lost_22 (by decide) (fun z => absurd c22 z) (fun _ => ?_)
        refine lv_iload_n hx hb dK_lost_25 rfl (lv_at hl 3 rfl) ?_
        exact zI_ret hx hb hr hlocks dK_lost_26
      · skip
        refine lv_icmp_ne (tgt := 27) hx hb dK_lost_22 (by decide) (fun _ => ?_) (fun z => absurd z c22)
        refine lv_iinc (v := (x2 + 1)) (lv' := [(2, .int (x2 + 1)), (0, .ref (h 0)), (1, .int x1), (3, .int (nI i))]) hx hb dK_lost_27 hl (k := 2) rfl (rfl) (by decide) rfl (fun ls hl => ?_)
        refine lv_iinc (v := (nI (i + 1))) (lv' := [(3, .int (nI (i + 1))), (2, .int (x2 + 1)), (0, .ref (h 0)), (1, .int x1)]) hx hb dK_lost_30 hl (k := 3) rfl (nI_1 _) (by decide) rfl (fun ls hl => ?_)
        refine lv_goto (tgt := 4) hx hb dK_lost_33 (by decide) ?_
        exact ih (i + 1) x1 (x2 + 1) (by omega) ls (lv_sub hl [2, 3, 1, 0] rfl)
set_option maxHeartbeats 4000000 in
set_option maxRecDepth 100000 in
theorem kK_lost (l : Launch) (D : va_G) (Y : Nat → ClassId) (h : Nat → Nat) (n : Nat) (hn : n ≤ 24) (S : vK) (a1 : Int32) : Met l yK_lost wsK_lost rmK_lost (va_Pc [.ref (h 0), .int a1] (zPre D vwCl (tysK Y) (wK Y h n S))) (vp_Si (fun r => r = (fK_lost n S a1))) 0 0 (fun _ => False) := by
  refine Met.ofW (cc := cK_lost) (maxL := 4) (ret := (some .int)) (by decide) rfl ?_
  intro p e s m args below meth c s₁ B hml hv
  obtain ⟨rfl, hP, hK⟩ := hv
  have hx := B.exec
  have hb := B.bytes
  have hr := B.returns
  have hts : ∀ w ∈ uT, w.before _ s = true := fun w hw => atoms_spec (ws := wsK_lost) B.pre w (List.mem_cons_of_mem _ hw)
  have hown : s.vm.findClass RK = some m.cls := findClass_of_methodNamed B.named
  have hlocks := B.notSynchronized
  have hl := lv_entry ([.ref (h 0), .int a1]) (n := 4) (Nat.le_of_ble_eq_true rfl)
  rw [lg_entry_eq]
  generalize (lg_sl ([.ref (h 0), .int a1]) ++ List.replicate (4 - (lg_sl ([.ref (h 0), .int a1])).length) Slot.unset).toArray = ls at hl ⊢
  have hl : lv_has ls 4 [(0, .ref (h 0)), (1, .int a1)] := hl
  show W p l e rmK_lost s m _ below meth c s.heap [] 0 0 (zI below _ s (fK_lost n S a1)) _
  unfold fK_lost
  show W p l e rmK_lost s m _ below meth c s.heap [] 0 0 (zI below _ s _) (F0 m 0 ls [])
  refine lv_iconst (v := 0) hx hb dK_lost_0 (by decide) ?_
  refine lv_istore_n (lv' := [(2, .int 0), (0, .ref (h 0)), (1, .int a1)]) hx hb dK_lost_1 rfl hl (by decide) rfl (fun ls hl => ?_)
  refine lv_iconst (v := 0) hx hb dK_lost_2 (by decide) ?_
  refine lv_istore_n (lv' := [(3, .int 0), (2, .int 0), (0, .ref (h 0)), (1, .int a1)]) hx hb dK_lost_3 rfl hl (by decide) rfl (fun ls hl => ?_)
  exact tK_lost_4 hn ⟨hx, hb, hml, hown, hts⟩ hr hlocks hK hP n 0 a1 0 (by omega) ls (lv_sub hl [2, 3, 1, 0] rfl)
