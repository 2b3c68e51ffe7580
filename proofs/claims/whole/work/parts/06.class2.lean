abbrev rmP_keepRing : Room := { frames := 3, cells := 0, slots := 0, locals := 65 }
set_option maxHeartbeats 4000000 in
set_option maxRecDepth 100000 in
theorem tP_keepRing_31 {p : Program} {l : Launch} {e : Env} {s : State} {m : MethodId} {args : Array Value} {below : List Frame} {meth : Method} {c : Code} {D : va_G} {Y : Nat → ClassId} {h : Nat → Nat} {n : Nat} (hn : n ≤ 24) {A : Nat → Prop} (hA : ∀ q : Nat, s.heap.size ≤ q → A q) (CF : CallFix p m c cP_keepRing 6 s args uT RP) (hr : meth.sig.returnType = none) (hlocks : meth.locks = false) (hK : va_K D vwCl (tysK Y) s) : ∀ (k i : Nat) (x1 : Int32) (x2 : Int32) (x3 : Int32) (x4 : Int32) (S : vP), i + k = 25 → ∀ (H : Heap) (locs : List Loc), va_P D vwCl (wP Y h n S) H → va_D A (wP Y h n S) → va_S A s.heap H locs → ∀ ls : Array Slot, lv_has ls 6 [(0, .ref (h 0)), (1, .int x1), (2, .int x2), (3, .int x3), (4, .int x4), (5, .int (nI i))] → W p l e rmP_keepRing s m args below meth c H locs 0 0 (zMv D vwCl (tysK Y) A (wP Y h n) below args s 0 0 (fP_keepRing_31 n k i x1 x2 x3 x4 S)) (F0 m 31 ls []) := by
  obtain ⟨hx, hb, hml, hown, hts⟩ := CF
  intro k
  induction k with
  | zero =>
    intro i x1 x2 x3 x4 S hi  H locs hP hD hS ls hl
    rw [fP_keepRing_31]
    refine lv_iload hx hb dP_keepRing_31 (lv_at hl 5 rfl) ?_
    refine lv_aload_n hx hb dP_keepRing_33 rfl (lv_at hl 0 rfl) ?_
    refine va_get (D := D) (ci := 1) (v := .ref (h 8)) (C := RP) (T := TP) (N := 10) hx hb hts hinP hown hK hP 0 rfl rfl 8 (by decide) (hts _ uw42) (fun _ h9 => h9) rfl dP_keepRing_34 ?_
    refine va_alen (v := 25) hx hb hK hP 8 0 rfl rfl rfl dP_keepRing_37 ?_
    refine lv_icmp_ge (tgt := 114) hx hb dP_keepRing_38 (by decide) (fun _ => ?_) (fun z => absurd (lp_ge (n := 25) hi) z)
    exact zMv_ret (u := S) hx hb hr hlocks hK hP hD hS dP_keepRing_114
  | succ k ih =>
    intro i x1 x2 x3 x4 S hi  H locs hP hD hS ls hl
    rw [fP_keepRing_31]
    refine lv_iload hx hb dP_keepRing_31 (lv_at hl 5 rfl) ?_
    refine lv_aload_n hx hb dP_keepRing_33 rfl (lv_at hl 0 rfl) ?_
    refine va_get (D := D) (ci := 1) (v := .ref (h 8)) (C := RP) (T := TP) (N := 10) hx hb hts hinP hown hK hP 0 rfl rfl 8 (by decide) (hts _ uw42) (fun _ h9 => h9) rfl dP_keepRing_34 ?_
    refine va_alen (v := 25) hx hb hK hP 8 0 rfl rfl rfl dP_keepRing_37 ?_
    refine lv_icmp_ge (tgt := 114) hx hb dP_keepRing_38 (by decide) (fun z => absurd z (lp_lt (n := 25) hi (by omega))) (fun _ => ?_)
    refine lv_aload_n hx hb dP_keepRing_41 rfl (lv_at hl 0 rfl) ?_
    refine lv_iload hx hb dP_keepRing_42 (lv_at hl 4 rfl) ?_
    refine qVi (rest := []) ⟨hx, hb, hml, hown, hts⟩ (kP_has l D Y h n hn S x4) (cwV 1 hts (gV uw5 uw6 uw7 uw8 ucP_has) rfl rfl rfl hvP_has ⟨Nat.le_of_ble_eq_true rfl, Nat.le_of_ble_eq_true rfl⟩) hK hP (va_recv hK hP (ci := 1) (q0 := 0) rfl rfl) rfl hl.1 rfl (Nat.le_of_ble_eq_true rfl) dP_keepRing_44 ⟨Nat.le_of_ble_eq_true rfl, Nat.le_of_ble_eq_true rfl⟩ ?_
    refine zif (C := (fP_has n x4) = 0) (fun c47 => ?_) (fun c47 => ?_)
    · skip
      refine lv_if_eq (tgt := 114) hx hb dP_keepRing_47 (by decide) (fun _ => ?_) (fun z => absurd c47 z)
      exact zMv_ret (u := S) hx hb hr hlocks hK hP hD hS dP_keepRing_114
    · skip
      refine lv_if_eq (tgt := 114) hx hb dP_keepRing_47 (by decide) (fun z => absurd z c47) (fun _ => ?_)
      refine lv_aload_n hx hb dP_keepRing_50 rfl (lv_at hl 0 rfl) ?_
      refine va_get (D := D) (ci := 1) (v := .ref (h 8)) (C := RP) (T := TP) (N := 10) hx hb hts hinP hown hK hP 0 rfl rfl 8 (by decide) (hts _ uw42) (fun _ h9 => h9) rfl dP_keepRing_51 ?_
      refine lv_iload hx hb dP_keepRing_54 (lv_at hl 5 rfl) ?_
      refine lv_iload hx hb dP_keepRing_56 (lv_at hl 4 rfl) ?_
      refine va_iast hx hb hK hP hD hS 8 0 rfl rfl (vp_in_nI (n := i) (by omega) (by omega)) dP_keepRing_58 (fun H locs hP hD hS => ?_)
      have hP : va_P D vwCl (wP Y h n (p_rr S (upd (g_rr S) ((nI i) : Int32).toNatClampNeg x4))) H := hP
      have hD : va_D A (wP Y h n (p_rr S (upd (g_rr S) ((nI i) : Int32).toNatClampNeg x4))) := hD
      refine lv_aload_n hx hb dP_keepRing_59 rfl (lv_at hl 0 rfl) ?_
      refine lv_iload hx hb dP_keepRing_60 (lv_at hl 5 rfl) ?_
      refine lv_iconst (v := 1) hx hb dP_keepRing_62 (by decide) ?_
      refine lv_iadd hx hb dP_keepRing_63 ?_
      refine va_put (D := D) (ci := 1) (v := .int ((nI i) + 1)) (ty := .int) (C := RP) (T := TP) (N := 10) hx hb hts hinP tyP tyP_ok nmP hown hK hP hD hS 0 rfl rfl 9 (by decide) (hts _ uw41) (fun _ h9 => h9) rfl (by decide +kernel) rfl rfl (Nat.le_of_ble_eq_true rfl) dP_keepRing_64 (fun H locs hP hD hS => ?_)
      have hP : va_P D vwCl (wP Y h n (p_rl (p_rr S (upd (g_rr S) ((nI i) : Int32).toNatClampNeg x4)) (((nI i) + 1)))) H := hP
      have hD : va_D A (wP Y h n (p_rl (p_rr S (upd (g_rr S) ((nI i) : Int32).toNatClampNeg x4)) (((nI i) + 1)))) := hD
      refine lv_iload hx hb dP_keepRing_67 (lv_at hl 4 rfl) ?_
      refine lv_iload_n hx hb dP_keepRing_69 rfl (lv_at hl 1 rfl) ?_
      refine zif (C := x4 = x1) (fun c70 => ?_) (fun c70 => ?_)
      · skip
        refine lv_icmp_ne (tgt := 74) hx hb dP_keepRing_70 (by decide) (fun z => absurd c70 z) (fun _ => ?_)
        exact zMv_ret (u := (p_rl (p_rr S (upd (g_rr S) ((nI i) : Int32).toNatClampNeg x4)) (((nI i) + 1)))) hx hb hr hlocks hK hP hD hS dP_keepRing_73
      · skip
        refine lv_icmp_ne (tgt := 74) hx hb dP_keepRing_70 (by decide) (fun _ => ?_) (fun z => absurd z c70)
        refine lv_aload_n hx hb dP_keepRing_74 rfl (lv_at hl 0 rfl) ?_
        refine lv_aload_n hx hb dP_keepRing_75 rfl (lv_at hl 0 rfl) ?_
        refine va_get (D := D) (ci := 1) (v := .ref (h 1)) (C := RP) (T := TP) (N := 10) hx hb hts hinP hown hK hP 0 rfl rfl 1 (by decide) (hts _ uw9) (fun _ h9 => h9) rfl dP_keepRing_76 ?_
        refine lv_iload hx hb dP_keepRing_79 (lv_at hl 4 rfl) ?_
        refine va_iald hx hb hK hP 1 0 rfl rfl (has_in hn c47) dP_keepRing_81 ?_
        refine lv_iload_n hx hb dP_keepRing_82 rfl (lv_at hl 1 rfl) ?_
        refine qVi (rest := []) ⟨hx, hb, hml, hown, hts⟩ (kP_leadsTo l D Y h n hn (p_rl (p_rr S (upd (g_rr S) ((nI i) : Int32).toNatClampNeg x4)) (((nI i) + 1))) ((g_mo (p_rl (p_rr S (upd (g_rr S) ((nI i) : Int32).toNatClampNeg x4)) (((nI i) + 1)))) (x4 : Int32).toNatClampNeg) x1) (cwV 2 hts (gV uw38 uw39 uw40 uw8 ucP_leadsTo) rfl rfl rfl hvP_leadsTo ⟨Nat.le_of_ble_eq_true rfl, Nat.le_of_ble_eq_true rfl⟩) hK hP (va_recv hK hP (ci := 1) (q0 := 0) rfl rfl) rfl hl.1 rfl (Nat.le_of_ble_eq_true rfl) dP_keepRing_83 ⟨Nat.le_of_ble_eq_true rfl, Nat.le_of_ble_eq_true rfl⟩ ?_
        refine zif (C := (fP_leadsTo n (p_rl (p_rr S (upd (g_rr S) ((nI i) : Int32).toNatClampNeg x4)) (((nI i) + 1))) ((g_mo (p_rl (p_rr S (upd (g_rr S) ((nI i) : Int32).toNatClampNeg x4)) (((nI i) + 1)))) (x4 : Int32).toNatClampNeg) x1) = 0) (fun c86 => ?_) (fun c86 => ?_)
        · skip
          refine lv_if_eq (tgt := 99) hx hb dP_keepRing_86 (by decide) (fun _ => ?_) (fun z => absurd c86 z)
          refine lv_aload_n hx hb dP_keepRing_99 rfl (lv_at hl 0 rfl) ?_
          refine va_get (D := D) (ci := 1) (v := .ref (h 2)) (C := RP) (T := TP) (N := 10) hx hb hts hinP hown hK hP 0 rfl rfl 2 (by decide) (hts _ uw10) (fun _ h9 => h9) rfl dP_keepRing_100 ?_
          refine lv_iload hx hb dP_keepRing_103 (lv_at hl 4 rfl) ?_
          refine va_iald hx hb hK hP 2 0 rfl rfl (has_in hn c47) dP_keepRing_105 ?_
          refine lv_istore (lv' := [(4, .int ((g_fa (p_rl (p_rr S (upd (g_rr S) ((nI i) : Int32).toNatClampNeg x4)) (((nI i) + 1)))) (x4 : Int32).toNatClampNeg)), (0, .ref (h 0)), (1, .int x1), (2, .int x2), (3, .int x3), (5, .int (nI i))]) hx hb dP_keepRing_106 hl (by decide) rfl (fun ls hl => ?_)
          refine lv_iinc (v := (nI (i + 1))) (lv' := [(5, .int (nI (i + 1))), (4, .int ((g_fa (p_rl (p_rr S (upd (g_rr S) ((nI i) : Int32).toNatClampNeg x4)) (((nI i) + 1)))) (x4 : Int32).toNatClampNeg)), (0, .ref (h 0)), (1, .int x1), (2, .int x2), (3, .int x3)]) hx hb dP_keepRing_108 hl (k := 5) rfl (nI_1 _) (by decide) rfl (fun ls hl => ?_)
          refine lv_goto (tgt := 31) hx hb dP_keepRing_111 (by decide) ?_
          exact ih (i + 1) x1 x2 x3 ((g_fa (p_rl (p_rr S (upd (g_rr S) ((nI i) : Int32).toNatClampNeg x4)) (((nI i) + 1)))) (x4 : Int32).toNatClampNeg) (p_rl (p_rr S (upd (g_rr S) ((nI i) : Int32).toNatClampNeg x4)) (((nI i) + 1))) (by omega) _ _ hP hD hS ls (lv_sub hl [2, 3, 4, 5, 1, 0] rfl)
        · skip
          refine lv_if_eq (tgt := 99) hx hb dP_keepRing_86 (by decide) (fun z => absurd z c86) (fun _ => ?_)
          refine lv_aload_n hx hb dP_keepRing_89 rfl (lv_at hl 0 rfl) ?_
          refine va_get (D := D) (ci := 1) (v := .ref (h 1)) (C := RP) (T := TP) (N := 10) hx hb hts hinP hown hK hP 0 rfl rfl 1 (by decide) (hts _ uw9) (fun _ h9 => h9) rfl dP_keepRing_90 ?_
          refine lv_iload hx hb dP_keepRing_93 (lv_at hl 4 rfl) ?_
          refine va_iald hx hb hK hP 1 0 rfl rfl (has_in hn c47) dP_keepRing_95 ?_
          refine lv_goto (tgt := 106) hx hb dP_keepRing_96 (by decide) ?_
          refine lv_istore (lv' := [(4, .int ((g_mo (p_rl (p_rr S (upd (g_rr S) ((nI i) : Int32).toNatClampNeg x4)) (((nI i) + 1)))) (x4 : Int32).toNatClampNeg)), (0, .ref (h 0)), (1, .int x1), (2, .int x2), (3, .int x3), (5, .int (nI i))]) hx hb dP_keepRing_106 hl (by decide) rfl (fun ls hl => ?_)
          refine lv_iinc (v := (nI (i + 1))) (lv' := [(5, .int (nI (i + 1))), (4, .int ((g_mo (p_rl (p_rr S (upd (g_rr S) ((nI i) : Int32).toNatClampNeg x4)) (((nI i) + 1)))) (x4 : Int32).toNatClampNeg)), (0, .ref (h 0)), (1, .int x1), (2, .int x2), (3, .int x3)]) hx hb dP_keepRing_108 hl (k := 5) rfl (nI_1 _) (by decide) rfl (fun ls hl => ?_)
          refine lv_goto (tgt := 31) hx hb dP_keepRing_111 (by decide) ?_
          exact ih (i + 1) x1 x2 x3 ((g_mo (p_rl (p_rr S (upd (g_rr S) ((nI i) : Int32).toNatClampNeg x4)) (((nI i) + 1)))) (x4 : Int32).toNatClampNeg) (p_rl (p_rr S (upd (g_rr S) ((nI i) : Int32).toNatClampNeg x4)) (((nI i) + 1))) (by omega) _ _ hP hD hS ls (lv_sub hl [2, 3, 4, 5, 1, 0] rfl)
set_option maxHeartbeats 4000000 in
set_option maxRecDepth 100000 in
theorem kP_keepRing (l : Launch) (D : va_G) (Y : Nat → ClassId) (h : Nat → Nat) (n : Nat) (hn : n ≤ 24) (S : vP) (a1 : Int32) (a2 : Int32) (a3 : Int32) (sz : Nat) : Met l yP_keepRing wsP_keepRing rmP_keepRing (va_Pc [.ref (h 0), .int a1, .int a2, .int a3] (zPreM D vwCl (tysK Y) (wP Y h n S) sz)) (va_Qv (fun u => u = (fP_keepRing n S a1 a2 a3)) (zAt D vwCl (tysK Y) (va_A (wP Y h n S) sz) (wP Y h n)) (va_A (wP Y h n S) sz)) 0 0 (va_A (wP Y h n S) sz) := by
  refine Met.ofW (cc := cP_keepRing) (maxL := 6) (ret := none) (by decide) rfl ?_
  intro p e s m args below meth c s₁ B hml hv
  obtain ⟨rfl, hsz, hP, hK, hD0⟩ := hv
  have hx := B.exec
  have hb := B.bytes
  have hr := B.returns
  have hts : ∀ w ∈ uT, w.before _ s = true := fun w hw => atoms_spec (ws := wsP_keepRing) B.pre w (List.mem_cons_of_mem _ hw)
  have hown : s.vm.findClass RP = some m.cls := findClass_of_methodNamed B.named
  have hlocks := B.notSynchronized
  subst hsz
  have hD := hD0.self (sz := s.heap.size)
  generalize hAe : va_A (wP Y h n S) s.heap.size = A at hD ⊢
  have hA : ∀ q : Nat, s.heap.size ≤ q → A q := fun q h => by rw [← hAe]; exact Or.inr h
  have hS : va_S A s.heap s.heap [] := va_S.rf
  have hl := lv_entry ([.ref (h 0), .int a1, .int a2, .int a3]) (n := 6) (Nat.le_of_ble_eq_true rfl)
  rw [lg_entry_eq]
  generalize (lg_sl ([.ref (h 0), .int a1, .int a2, .int a3]) ++ List.replicate (6 - (lg_sl ([.ref (h 0), .int a1, .int a2, .int a3])).length) Slot.unset).toArray = ls at hl ⊢
  have hl : lv_has ls 6 [(0, .ref (h 0)), (1, .int a1), (2, .int a2), (3, .int a3)] := hl
  show W p l e rmP_keepRing s m _ below meth c s.heap [] 0 0 (zMv D vwCl (tysK Y) A (wP Y h n) below _ s 0 0 (fP_keepRing n S a1 a2 a3)) _
  unfold fP_keepRing
  show W p l e rmP_keepRing s m _ below meth c s.heap [] 0 0 (zMv D vwCl (tysK Y) A (wP Y h n) below _ s 0 0 _) (F0 m 0 ls [])
  refine lv_aload_n hx hb dP_keepRing_0 rfl (lv_at hl 0 rfl) ?_
  refine va_get (D := D) (ci := 1) (v := .ref (h 8)) (C := RP) (T := TP) (N := 10) hx hb hts hinP hown hK hP 0 rfl rfl 8 (by decide) (hts _ uw42) (fun _ h9 => h9) rfl dP_keepRing_1 ?_
  refine lv_iconst (v := 0) hx hb dP_keepRing_4 (by decide) ?_
  refine lv_iload_n hx hb dP_keepRing_5 rfl (lv_at hl 1 rfl) ?_
  refine va_iast hx hb hK hP hD hS 8 0 rfl rfl (vp_in_nI (n := 0) (by omega) (by omega)) dP_keepRing_6 (fun H locs hP hD hS => ?_)
  have hP : va_P D vwCl (wP Y h n (p_rr S (upd (g_rr S) (0 : Int32).toNatClampNeg a1))) H := hP
  have hD : va_D A (wP Y h n (p_rr S (upd (g_rr S) (0 : Int32).toNatClampNeg a1))) := hD
  refine lv_aload_n hx hb dP_keepRing_7 rfl (lv_at hl 0 rfl) ?_
  refine lv_iconst (v := 1) hx hb dP_keepRing_8 (by decide) ?_
  refine va_put (D := D) (ci := 1) (v := .int 1) (ty := .int) (C := RP) (T := TP) (N := 10) hx hb hts hinP tyP tyP_ok nmP hown hK hP hD hS 0 rfl rfl 9 (by decide) (hts _ uw41) (fun _ h9 => h9) rfl (by decide +kernel) rfl rfl (Nat.le_of_ble_eq_true rfl) dP_keepRing_9 (fun H locs hP hD hS => ?_)
  have hP : va_P D vwCl (wP Y h n (p_rl (p_rr S (upd (g_rr S) (0 : Int32).toNatClampNeg a1)) (1))) H := hP
  have hD : va_D A (wP Y h n (p_rl (p_rr S (upd (g_rr S) (0 : Int32).toNatClampNeg a1)) (1))) := hD
  refine lv_aload_n hx hb dP_keepRing_12 rfl (lv_at hl 0 rfl) ?_
  refine lv_iload_n hx hb dP_keepRing_13 rfl (lv_at hl 2 rfl) ?_
  refine lv_iload_n hx hb dP_keepRing_14 rfl (lv_at hl 1 rfl) ?_
  refine qVi (rest := []) ⟨hx, hb, hml, hown, hts⟩ (kP_leadsTo l D Y h n hn (p_rl (p_rr S (upd (g_rr S) (0 : Int32).toNatClampNeg a1)) (1)) a2 a1) (cwV 2 hts (gV uw38 uw39 uw40 uw8 ucP_leadsTo) rfl rfl rfl hvP_leadsTo ⟨Nat.le_of_ble_eq_true rfl, Nat.le_of_ble_eq_true rfl⟩) hK hP (va_recv hK hP (ci := 1) (q0 := 0) rfl rfl) rfl hl.1 rfl (Nat.le_of_ble_eq_true rfl) dP_keepRing_15 ⟨Nat.le_of_ble_eq_true rfl, Nat.le_of_ble_eq_true rfl⟩ ?_
  refine zif (C := (fP_leadsTo n (p_rl (p_rr S (upd (g_rr S) (0 : Int32).toNatClampNeg a1)) (1)) a2 a1) = 0) (fun c18 => ?_) (fun c18 => ?_)
  · skip
    refine lv_if_eq (tgt := 25) hx hb dP_keepRing_18 (by decide) (fun _ => ?_) (fun z => absurd c18 z)
    refine lv_iload_n hx hb dP_keepRing_25 rfl (lv_at hl 3 rfl) ?_
    refine lv_istore (lv' := [(4, .int a3), (0, .ref (h 0)), (1, .int a1), (2, .int a2), (3, .int a3)]) hx hb dP_keepRing_26 hl (by decide) rfl (fun ls hl => ?_)
    refine lv_iconst (v := 1) hx hb dP_keepRing_28 (by decide) ?_
    refine lv_istore (lv' := [(5, .int 1), (4, .int a3), (0, .ref (h 0)), (1, .int a1), (2, .int a2), (3, .int a3)]) hx hb dP_keepRing_29 hl (by decide) rfl (fun ls hl => ?_)
    exact tP_keepRing_31 hn hA ⟨hx, hb, hml, hown, hts⟩ hr hlocks hK (25 - 1) 1 a1 a2 a3 a3 (p_rl (p_rr S (upd (g_rr S) (0 : Int32).toNatClampNeg a1)) (1)) (by omega) _ _ hP hD hS ls (lv_sub hl [2, 3, 4, 5, 1, 0] rfl)
  · skip
    refine lv_if_eq (tgt := 25) hx hb dP_keepRing_18 (by decide) (fun z => absurd z c18) (fun _ => ?_)
    refine lv_iload_n hx hb dP_keepRing_21 rfl (lv_at hl 2 rfl) ?_
    refine lv_goto (tgt := 26) hx hb dP_keepRing_22 (by decide) ?_
    refine lv_istore (lv' := [(4, .int a2), (0, .ref (h 0)), (1, .int a1), (2, .int a2), (3, .int a3)]) hx hb dP_keepRing_26 hl (by decide) rfl (fun ls hl => ?_)
    refine lv_iconst (v := 1) hx hb dP_keepRing_28 (by decide) ?_
    refine lv_istore (lv' := [(5, .int 1), (4, .int a2), (0, .ref (h 0)), (1, .int a1), (2, .int a2), (3, .int a3)]) hx hb dP_keepRing_29 hl (by decide) rfl (fun ls hl => ?_)
    exact tP_keepRing_31 hn hA ⟨hx, hb, hml, hown, hts⟩ hr hlocks hK (25 - 1) 1 a1 a2 a3 a2 (p_rl (p_rr S (upd (g_rr S) (0 : Int32).toNatClampNeg a1)) (1)) (by omega) _ _ hP hD hS ls (lv_sub hl [2, 3, 4, 5, 1, 0] rfl)
abbrev rmP_setKin : Room := { frames := 1, cells := 0, slots := 0, locals := 21 }
set_option maxHeartbeats 4000000 in
set_option maxRecDepth 100000 in
theorem kP_setKin (l : Launch) (D : va_G) (Y : Nat → ClassId) (h : Nat → Nat) (n : Nat) (hn : n ≤ 24) (S : vP) (a1 : Int32) (a2 : Int32) (a3 : Int64) (sz : Nat) : Met l yP_setKin wsP_setKin rmP_setKin (va_Pc [.ref (h 0), .int a1, .int a2, .long a3] (zPreM D vwCl (tysK Y) (wP Y h n S) sz)) (va_Qv (fun u => u = (fP_setKin n S a1 a2 a3)) (zAt D vwCl (tysK Y) (va_A (wP Y h n S) sz) (wP Y h n)) (va_A (wP Y h n S) sz)) 0 0 (va_A (wP Y h n S) sz) := by
  refine Met.ofW (cc := cP_setKin) (maxL := 5) (ret := none) (by decide) rfl ?_
  intro p e s m args below meth c s₁ B hml hv
  obtain ⟨rfl, hsz, hP, hK, hD0⟩ := hv
  have hx := B.exec
  have hb := B.bytes
  have hr := B.returns
  have hts : ∀ w ∈ uT, w.before _ s = true := fun w hw => atoms_spec (ws := wsP_setKin) B.pre w (List.mem_cons_of_mem _ hw)
  have hown : s.vm.findClass RP = some m.cls := findClass_of_methodNamed B.named
  have hlocks := B.notSynchronized
  subst hsz
  have hD := hD0.self (sz := s.heap.size)
  generalize hAe : va_A (wP Y h n S) s.heap.size = A at hD ⊢
  have hA : ∀ q : Nat, s.heap.size ≤ q → A q := fun q h => by rw [← hAe]; exact Or.inr h
  have hS : va_S A s.heap s.heap [] := va_S.rf
  have hl := lv_entry ([.ref (h 0), .int a1, .int a2, .long a3]) (n := 5) (Nat.le_of_ble_eq_true rfl)
  rw [lg_entry_eq]
  generalize (lg_sl ([.ref (h 0), .int a1, .int a2, .long a3]) ++ List.replicate (5 - (lg_sl ([.ref (h 0), .int a1, .int a2, .long a3])).length) Slot.unset).toArray = ls at hl ⊢
  have hl : lv_has ls 5 [(0, .ref (h 0)), (1, .int a1), (2, .int a2), (3, .long a3)] := hl
  show W p l e rmP_setKin s m _ below meth c s.heap [] 0 0 (zMv D vwCl (tysK Y) A (wP Y h n) below _ s 0 0 (fP_setKin n S a1 a2 a3)) _
  unfold fP_setKin
  show W p l e rmP_setKin s m _ below meth c s.heap [] 0 0 (zMv D vwCl (tysK Y) A (wP Y h n) below _ s 0 0 _) (F0 m 0 ls [])
  refine lv_aload_n hx hb dP_setKin_0 rfl (lv_at hl 0 rfl) ?_
  refine lv_iload_n hx hb dP_setKin_1 rfl (lv_at hl 1 rfl) ?_
  refine qVi (rest := []) ⟨hx, hb, hml, hown, hts⟩ (kP_has l D Y h n hn S a1) (cwV 1 hts (gV uw5 uw6 uw7 uw8 ucP_has) rfl rfl rfl hvP_has ⟨Nat.le_of_ble_eq_true rfl, Nat.le_of_ble_eq_true rfl⟩) hK hP (va_recv hK hP (ci := 1) (q0 := 0) rfl rfl) rfl hl.1 rfl (Nat.le_of_ble_eq_true rfl) dP_setKin_2 ⟨Nat.le_of_ble_eq_true rfl, Nat.le_of_ble_eq_true rfl⟩ ?_
  refine zif (C := (fP_has n a1) = 0) (fun c5 => ?_) (fun c5 => ?_)
  · skip
    refine lv_if_eq (tgt := 40) hx hb dP_setKin_5 (by decide) (fun _ => ?_) (fun z => absurd c5 z)
    exact zMv_ret (u := S) hx hb hr hlocks hK hP hD hS dP_setKin_40
  · skip
    refine lv_if_eq (tgt := 40) hx hb dP_setKin_5 (by decide) (fun z => absurd z c5) (fun _ => ?_)
    refine lv_aload_n hx hb dP_setKin_8 rfl (lv_at hl 0 rfl) ?_
    refine lv_iload_n hx hb dP_setKin_9 rfl (lv_at hl 2 rfl) ?_
    refine qVi (rest := []) ⟨hx, hb, hml, hown, hts⟩ (kP_has l D Y h n hn S a2) (cwV 1 hts (gV uw5 uw6 uw7 uw8 ucP_has) rfl rfl rfl hvP_has ⟨Nat.le_of_ble_eq_true rfl, Nat.le_of_ble_eq_true rfl⟩) hK hP (va_recv hK hP (ci := 1) (q0 := 0) rfl rfl) rfl hl.1 rfl (Nat.le_of_ble_eq_true rfl) dP_setKin_10 ⟨Nat.le_of_ble_eq_true rfl, Nat.le_of_ble_eq_true rfl⟩ ?_
    refine zif (C := (fP_has n a2) = 0) (fun c13 => ?_) (fun c13 => ?_)
    · skip
      refine lv_if_eq (tgt := 40) hx hb dP_setKin_13 (by decide) (fun _ => ?_) (fun z => absurd c13 z)
      exact zMv_ret (u := S) hx hb hr hlocks hK hP hD hS dP_setKin_40
    · skip
      refine lv_if_eq (tgt := 40) hx hb dP_setKin_13 (by decide) (fun z => absurd z c13) (fun _ => ?_)
      refine lv_aload_n hx hb dP_setKin_16 rfl (lv_at hl 0 rfl) ?_
      refine va_get (D := D) (ci := 1) (v := .ref (h 6)) (C := RP) (T := TP) (N := 10) hx hb hts hinP hown hK hP 0 rfl rfl 6 (by decide) (hts _ uw16) (fun _ h9 => h9) rfl dP_setKin_17 ?_
      refine lv_iload_n hx hb dP_setKin_20 rfl (lv_at hl 1 rfl) ?_
      refine lv_bipush (v := 24) hx hb dP_setKin_21 (by decide) ?_
      refine lv_imul hx hb dP_setKin_23 ?_
      refine lv_iload_n hx hb dP_setKin_24 rfl (lv_at hl 2 rfl) ?_
      refine lv_iadd hx hb dP_setKin_25 ?_
      refine lv_lload_n hx hb dP_setKin_26 rfl (lv_at hl 3 rfl) ?_
      refine va_last hx hb hK hP hD hS 6 1 rfl rfl (kt_in hn c5 c13) dP_setKin_27 (fun H locs hP hD hS => ?_)
      have hP : va_P D vwCl (wP Y h n (p_kt S (vp_updL (g_kt S) (((a1 * 24) + a2) : Int32).toNatClampNeg a3))) H := hP
      have hD : va_D A (wP Y h n (p_kt S (vp_updL (g_kt S) (((a1 * 24) + a2) : Int32).toNatClampNeg a3))) := hD
      refine lv_aload_n hx hb dP_setKin_28 rfl (lv_at hl 0 rfl) ?_
      refine va_get (D := D) (ci := 1) (v := .ref (h 6)) (C := RP) (T := TP) (N := 10) hx hb hts hinP hown hK hP 0 rfl rfl 6 (by decide) (hts _ uw16) (fun _ h9 => h9) rfl dP_setKin_29 ?_
      refine lv_iload_n hx hb dP_setKin_32 rfl (lv_at hl 2 rfl) ?_
      refine lv_bipush (v := 24) hx hb dP_setKin_33 (by decide) ?_
      refine lv_imul hx hb dP_setKin_35 ?_
      refine lv_iload_n hx hb dP_setKin_36 rfl (lv_at hl 1 rfl) ?_
      refine lv_iadd hx hb dP_setKin_37 ?_
      refine lv_lload_n hx hb dP_setKin_38 rfl (lv_at hl 3 rfl) ?_
      refine va_last hx hb hK hP hD hS 6 1 rfl rfl (kt_in hn c13 c5) dP_setKin_39 (fun H locs hP hD hS => ?_)
      have hP : va_P D vwCl (wP Y h n (p_kt (p_kt S (vp_updL (g_kt S) (((a1 * 24) + a2) : Int32).toNatClampNeg a3)) (vp_updL (g_kt (p_kt S (vp_updL (g_kt S) (((a1 * 24) + a2) : Int32).toNatClampNeg a3))) (((a2 * 24) + a1) : Int32).toNatClampNeg a3))) H := hP
      have hD : va_D A (wP Y h n (p_kt (p_kt S (vp_updL (g_kt S) (((a1 * 24) + a2) : Int32).toNatClampNeg a3)) (vp_updL (g_kt (p_kt S (vp_updL (g_kt S) (((a1 * 24) + a2) : Int32).toNatClampNeg a3))) (((a2 * 24) + a1) : Int32).toNatClampNeg a3))) := hD
      exact zMv_ret (u := (p_kt (p_kt S (vp_updL (g_kt S) (((a1 * 24) + a2) : Int32).toNatClampNeg a3)) (vp_updL (g_kt (p_kt S (vp_updL (g_kt S) (((a1 * 24) + a2) : Int32).toNatClampNeg a3))) (((a2 * 24) + a1) : Int32).toNatClampNeg a3))) hx hb hr hlocks hK hP hD hS dP_setKin_40
abbrev rmP_reckonForbears : Room := { frames := 2, cells := 0, slots := 0, locals := 42 }
set_option maxHeartbeats 4000000 in
set_option maxRecDepth 100000 in
theorem kP_reckonForbears (l : Launch) (D : va_G) (Y : Nat → ClassId) (h : Nat → Nat) (n : Nat) (hn : n ≤ 24) (S : vP) (a1 : Int32) (sz : Nat) : Met l yP_reckonForbears wsP_reckonForbears rmP_reckonForbears (va_Pc [.ref (h 0), .int a1] (zPreM D vwCl (tysK Y) (wP Y h n S) sz)) (va_Qv (fun u => u = (fP_reckonForbears n S a1)) (zAt D vwCl (tysK Y) (va_A (wP Y h n S) sz) (wP Y h n)) (va_A (wP Y h n S) sz)) 0 0 (va_A (wP Y h n S) sz) := by
  refine Met.ofW (cc := cP_reckonForbears) (maxL := 2) (ret := none) (by decide) rfl ?_
  intro p e s m args below meth c s₁ B hml hv
  obtain ⟨rfl, hsz, hP, hK, hD0⟩ := hv
  have hx := B.exec
  have hb := B.bytes
  have hr := B.returns
  have hts : ∀ w ∈ uT, w.before _ s = true := fun w hw => atoms_spec (ws := wsP_reckonForbears) B.pre w (List.mem_cons_of_mem _ hw)
  have hown : s.vm.findClass RP = some m.cls := findClass_of_methodNamed B.named
  have hlocks := B.notSynchronized
  subst hsz
  have hD := hD0.self (sz := s.heap.size)
  generalize hAe : va_A (wP Y h n S) s.heap.size = A at hD ⊢
  have hA : ∀ q : Nat, s.heap.size ≤ q → A q := fun q h => by rw [← hAe]; exact Or.inr h
  have hS : va_S A s.heap s.heap [] := va_S.rf
  have hl := lv_entry ([.ref (h 0), .int a1]) (n := 2) (Nat.le_of_ble_eq_true rfl)
  rw [lg_entry_eq]
  generalize (lg_sl ([.ref (h 0), .int a1]) ++ List.replicate (2 - (lg_sl ([.ref (h 0), .int a1])).length) Slot.unset).toArray = ls at hl ⊢
  have hl : lv_has ls 2 [(0, .ref (h 0)), (1, .int a1)] := hl
  show W p l e rmP_reckonForbears s m _ below meth c s.heap [] 0 0 (zMv D vwCl (tysK Y) A (wP Y h n) below _ s 0 0 (fP_reckonForbears n S a1)) _
  unfold fP_reckonForbears
  show W p l e rmP_reckonForbears s m _ below meth c s.heap [] 0 0 (zMv D vwCl (tysK Y) A (wP Y h n) below _ s 0 0 _) (F0 m 0 ls [])
  refine lv_aload_n hx hb dP_reckonForbears_0 rfl (lv_at hl 0 rfl) ?_
  refine lv_iload_n hx hb dP_reckonForbears_1 rfl (lv_at hl 1 rfl) ?_
  refine qVi (rest := []) ⟨hx, hb, hml, hown, hts⟩ (kP_has l D Y h n hn S a1) (cwV 1 hts (gV uw5 uw6 uw7 uw8 ucP_has) rfl rfl rfl hvP_has ⟨Nat.le_of_ble_eq_true rfl, Nat.le_of_ble_eq_true rfl⟩) hK hP (va_recv hK hP (ci := 1) (q0 := 0) rfl rfl) rfl hl.1 rfl (Nat.le_of_ble_eq_true rfl) dP_reckonForbears_2 ⟨Nat.le_of_ble_eq_true rfl, Nat.le_of_ble_eq_true rfl⟩ ?_
  refine zif (C := (fP_has n a1) = 0) (fun c5 => ?_) (fun c5 => ?_)
  · skip
    refine lv_if_eq (tgt := 35) hx hb dP_reckonForbears_5 (by decide) (fun _ => ?_) (fun z => absurd c5 z)
    exact zMv_ret (u := S) hx hb hr hlocks hK hP hD hS dP_reckonForbears_35
  · skip
    refine lv_if_eq (tgt := 35) hx hb dP_reckonForbears_5 (by decide) (fun z => absurd z c5) (fun _ => ?_)
    refine lv_aload_n hx hb dP_reckonForbears_8 rfl (lv_at hl 0 rfl) ?_
    refine va_get (D := D) (ci := 1) (v := .ref (h 5)) (C := RP) (T := TP) (N := 10) hx hb hts hinP hown hK hP 0 rfl rfl 5 (by decide) (hts _ uw13) (fun _ h9 => h9) rfl dP_reckonForbears_9 ?_
    refine lv_iload_n hx hb dP_reckonForbears_12 rfl (lv_at hl 1 rfl) ?_
    refine lv_aload_n hx hb dP_reckonForbears_13 rfl (lv_at hl 0 rfl) ?_
    refine lv_aload_n hx hb dP_reckonForbears_14 rfl (lv_at hl 0 rfl) ?_
    refine va_get (D := D) (ci := 1) (v := .ref (h 1)) (C := RP) (T := TP) (N := 10) hx hb hts hinP hown hK hP 0 rfl rfl 1 (by decide) (hts _ uw9) (fun _ h9 => h9) rfl dP_reckonForbears_15 ?_
    refine lv_iload_n hx hb dP_reckonForbears_18 rfl (lv_at hl 1 rfl) ?_
    refine va_iald hx hb hK hP 1 0 rfl rfl (has_in hn c5) dP_reckonForbears_19 ?_
    refine qVi (rest := [.int a1, .ref (h 5)]) ⟨hx, hb, hml, hown, hts⟩ (kP_lineOf l D Y h n hn S ((g_mo S) (a1 : Int32).toNatClampNeg)) (cwV 1 hts (gV uw50 uw51 uw52 uw8 ucP_lineOf) rfl rfl rfl hvP_lineOf ⟨Nat.le_of_ble_eq_true rfl, Nat.le_of_ble_eq_true rfl⟩) hK hP (va_recv hK hP (ci := 1) (q0 := 0) rfl rfl) rfl hl.1 rfl (Nat.le_of_ble_eq_true rfl) dP_reckonForbears_20 ⟨Nat.le_of_ble_eq_true rfl, Nat.le_of_ble_eq_true rfl⟩ ?_
    refine lv_aload_n hx hb dP_reckonForbears_23 rfl (lv_at hl 0 rfl) ?_
    refine lv_aload_n hx hb dP_reckonForbears_24 rfl (lv_at hl 0 rfl) ?_
    refine va_get (D := D) (ci := 1) (v := .ref (h 2)) (C := RP) (T := TP) (N := 10) hx hb hts hinP hown hK hP 0 rfl rfl 2 (by decide) (hts _ uw10) (fun _ h9 => h9) rfl dP_reckonForbears_25 ?_
    refine lv_iload_n hx hb dP_reckonForbears_28 rfl (lv_at hl 1 rfl) ?_
    refine va_iald hx hb hK hP 2 0 rfl rfl (has_in hn c5) dP_reckonForbears_29 ?_
    refine qVi (rest := [.int (fP_lineOf n S ((g_mo S) (a1 : Int32).toNatClampNeg)), .int a1, .ref (h 5)]) ⟨hx, hb, hml, hown, hts⟩ (kP_lineOf l D Y h n hn S ((g_fa S) (a1 : Int32).toNatClampNeg)) (cwV 1 hts (gV uw50 uw51 uw52 uw8 ucP_lineOf) rfl rfl rfl hvP_lineOf ⟨Nat.le_of_ble_eq_true rfl, Nat.le_of_ble_eq_true rfl⟩) hK hP (va_recv hK hP (ci := 1) (q0 := 0) rfl rfl) rfl hl.1 rfl (Nat.le_of_ble_eq_true rfl) dP_reckonForbears_30 ⟨Nat.le_of_ble_eq_true rfl, Nat.le_of_ble_eq_true rfl⟩ ?_
    refine lv_ior hx hb dP_reckonForbears_33 ?_
    refine va_iast hx hb hK hP hD hS 5 0 rfl rfl (has_in hn c5) dP_reckonForbears_34 (fun H locs hP hD hS => ?_)
    have hP : va_P D vwCl (wP Y h n (p_fb S (upd (g_fb S) (a1 : Int32).toNatClampNeg ((fP_lineOf n S ((g_mo S) (a1 : Int32).toNatClampNeg)) ||| (fP_lineOf n S ((g_fa S) (a1 : Int32).toNatClampNeg)))))) H := hP
    have hD : va_D A (wP Y h n (p_fb S (upd (g_fb S) (a1 : Int32).toNatClampNeg ((fP_lineOf n S ((g_mo S) (a1 : Int32).toNatClampNeg)) ||| (fP_lineOf n S ((g_fa S) (a1 : Int32).toNatClampNeg)))))) := hD
    exact zMv_ret (u := (p_fb S (upd (g_fb S) (a1 : Int32).toNatClampNeg ((fP_lineOf n S ((g_mo S) (a1 : Int32).toNatClampNeg)) ||| (fP_lineOf n S ((g_fa S) (a1 : Int32).toNatClampNeg)))))) hx hb hr hlocks hK hP hD hS dP_reckonForbears_35
abbrev rmP_reckonKin : Room := { frames := 2, cells := 0, slots := 0, locals := 45 }
set_option maxHeartbeats 4000000 in
set_option maxRecDepth 100000 in
theorem tP_reckonKin_22 {p : Program} {l : Launch} {e : Env} {s : State} {m : MethodId} {args : Array Value} {below : List Frame} {meth : Method} {c : Code} {D : va_G} {Y : Nat → ClassId} {h : Nat → Nat} {n : Nat} (hn : n ≤ 24) {A : Nat → Prop} (hA : ∀ q : Nat, s.heap.size ≤ q → A q) (CF : CallFix p m c cP_reckonKin 7 s args uT RP) (hr : meth.sig.returnType = none) (hlocks : meth.locks = false) (hK : va_K D vwCl (tysK Y) s) : ∀ (k i : Nat) (x1 : Nat) (x2 : Int32) (x3 : Int32) (x4 : Int32) (S : vP), i + k = x1 → x1 ≤ 24 → ∀ (H : Heap) (locs : List Loc), va_P D vwCl (wP Y h n S) H → va_D A (wP Y h n S) → va_S A s.heap H locs → ∀ ls : Array Slot, lv_has ls 7 [(0, .ref (h 0)), (1, .int (nI x1)), (2, .int x2), (3, .int x3), (4, .int x4), (5, .int (nI i))] → W p l e rmP_reckonKin s m args below meth c H locs 0 0 (zMv D vwCl (tysK Y) A (wP Y h n) below args s 0 0 (fP_reckonKin_22 n k i x1 x2 x3 x4 S)) (F0 m 22 ls []) := by
  obtain ⟨hx, hb, hml, hown, hts⟩ := CF
  intro k
  induction k with
  | zero =>
    intro i x1 x2 x3 x4 S hi hx1 H locs hP hD hS ls hl
    rw [fP_reckonKin_22]
    refine lv_iload hx hb dP_reckonKin_22 (lv_at hl 5 rfl) ?_
    refine lv_iload_n hx hb dP_reckonKin_24 rfl (lv_at hl 1 rfl) ?_
    refine lv_icmp_ge (tgt := 69) hx hb dP_reckonKin_25 (by decide) (fun _ => ?_) (fun z => absurd (lp_ge (n := x1) hi) z)
    refine lv_aload_n hx hb dP_reckonKin_69 rfl (lv_at hl 0 rfl) ?_
    refine lv_iload_n hx hb dP_reckonKin_70 rfl (lv_at hl 2 rfl) ?_
    refine lv_iload_n hx hb dP_reckonKin_71 rfl (lv_at hl 2 rfl) ?_
    refine lv_ldc2 (v := 1073741824) hx hb hown (hts _ uw26) dP_reckonKin_72 ?_
    refine lv_aload_n hx hb dP_reckonKin_75 rfl (lv_at hl 0 rfl) ?_
    refine lv_iload_n hx hb dP_reckonKin_76 rfl (lv_at hl 3 rfl) ?_
    refine lv_iload hx hb dP_reckonKin_77 (lv_at hl 4 rfl) ?_
    refine qVl (rest := [.long 1073741824, .int x2, .int x2, .ref (h 0)]) ⟨hx, hb, hml, hown, hts⟩ (kP_kinOf l D Y h n hn S x3 x4) (cwV 2 hts (gV uw23 uw24 uw25 uw8 ucP_kinOf) rfl rfl rfl hvP_kinOf ⟨Nat.le_of_ble_eq_true rfl, Nat.le_of_ble_eq_true rfl⟩) hK hP (va_recv hK hP (ci := 1) (q0 := 0) rfl rfl) rfl hl.1 rfl (Nat.le_of_ble_eq_true rfl) dP_reckonKin_79 ⟨Nat.le_of_ble_eq_true rfl, Nat.le_of_ble_eq_true rfl⟩ ?_
    refine lv_ladd hx hb dP_reckonKin_82 ?_
    refine lv_ldc2 (v := 2) hx hb hown (hts _ uw49) dP_reckonKin_83 ?_
    refine lv_ldiv hx hb dP_reckonKin_86 (by decide) ?_
    refine qNVv (w := wP Y h n) (rest := []) ⟨hx, hb, hml, hown, hts⟩ (kP_setKin l D Y h n hn S x2 x2 ((1073741824 + (fP_kinOf n S x3 x4)) / 2) _) (cwV 3 hts (gV uw53 uw54 uw55 uw8 ucP_setKin) rfl rfl rfl hvP_setKin ⟨Nat.le_of_ble_eq_true rfl, Nat.le_of_ble_eq_true rfl⟩) hK hP hD hS hA (va_recv hK hP (ci := 1) (q0 := 0) rfl rfl) rfl hl.1 rfl (Nat.le_of_ble_eq_true rfl) dP_reckonKin_87 ⟨Nat.le_of_ble_eq_true rfl, Nat.le_of_ble_eq_true rfl⟩ (fun H locs hP hD hS => ?_)
    exact zMv_ret (u := (fP_setKin n S x2 x2 ((1073741824 + (fP_kinOf n S x3 x4)) / 2))) hx hb hr hlocks hK hP hD hS dP_reckonKin_90
  | succ k ih =>
    intro i x1 x2 x3 x4 S hi hx1 H locs hP hD hS ls hl
    rw [fP_reckonKin_22]
    refine lv_iload hx hb dP_reckonKin_22 (lv_at hl 5 rfl) ?_
    refine lv_iload_n hx hb dP_reckonKin_24 rfl (lv_at hl 1 rfl) ?_
    refine lv_icmp_ge (tgt := 69) hx hb dP_reckonKin_25 (by decide) (fun z => absurd z (lp_lt (n := x1) hi (by omega))) (fun _ => ?_)
    refine lv_aload_n hx hb dP_reckonKin_28 rfl (lv_at hl 0 rfl) ?_
    refine lv_iload hx hb dP_reckonKin_29 (lv_at hl 5 rfl) ?_
    refine qVi (rest := []) ⟨hx, hb, hml, hown, hts⟩ (kP_inOrder l D Y h n hn S (nI i)) (cwV 1 hts (gV uw46 uw47 uw48 uw8 ucP_inOrder) rfl rfl rfl hvP_inOrder ⟨Nat.le_of_ble_eq_true rfl, Nat.le_of_ble_eq_true rfl⟩) hK hP (va_recv hK hP (ci := 1) (q0 := 0) rfl rfl) rfl hl.1 rfl (Nat.le_of_ble_eq_true rfl) dP_reckonKin_31 ⟨Nat.le_of_ble_eq_true rfl, Nat.le_of_ble_eq_true rfl⟩ ?_
    refine lv_istore (lv' := [(6, .int (fP_inOrder n S (nI i))), (0, .ref (h 0)), (1, .int (nI x1)), (2, .int x2), (3, .int x3), (4, .int x4), (5, .int (nI i))]) hx hb dP_reckonKin_34 hl (by decide) rfl (fun ls hl => ?_)
    refine lv_aload_n hx hb dP_reckonKin_36 rfl (lv_at hl 1 rfl) ?_
    refine lv_iload_n hx hb dP_reckonKin_37 rfl (lv_at hl 3 rfl) ?_
    refine lv_iload hx hb dP_reckonKin_38 (lv_at hl 0 rfl) ?_
    refine lv_aload_n hx hb dP_reckonKin_40 rfl (lv_at hl 1 rfl) ?_
    refine lv_iload_n hx hb dP_reckonKin_41 rfl (lv_at hl 4 rfl) ?_
    refine lv_iload hx hb dP_reckonKin_42 (lv_at hl 0 rfl) ?_
    refine qVl (rest := [.int (fP_inOrder n S (nI i)), .int x2, .ref (h 0)]) ⟨hx, hb, hml, hown, hts⟩ (kP_kinOf l D Y h n hn S x3 (fP_inOrder n S (nI i))) (cwV 2 hts (gV uw23 uw24 uw25 uw8 ucP_kinOf) rfl rfl rfl hvP_kinOf ⟨Nat.le_of_ble_eq_true rfl, Nat.le_of_ble_eq_true rfl⟩) hK hP (va_recv hK hP (ci := 1) (q0 := 0) rfl rfl) rfl hl.1 rfl (Nat.le_of_ble_eq_true rfl) dP_reckonKin_44 ⟨Nat.le_of_ble_eq_true rfl, Nat.le_of_ble_eq_true rfl⟩ ?_
    refine lv_aload_n hx hb dP_reckonKin_47 rfl (lv_at hl 1 rfl) ?_
    refine lv_iload hx hb dP_reckonKin_48 (lv_at hl 5 rfl) ?_
    refine lv_iload hx hb dP_reckonKin_50 (lv_at hl 0 rfl) ?_
    refine qVl (rest := [.long (fP_kinOf n S x3 (fP_inOrder n S (nI i))), .int (fP_inOrder n S (nI i)), .int x2, .ref (h 0)]) ⟨hx, hb, hml, hown, hts⟩ (kP_kinOf l D Y h n hn S x4 (fP_inOrder n S (nI i))) (cwV 2 hts (gV uw23 uw24 uw25 uw8 ucP_kinOf) rfl rfl rfl hvP_kinOf ⟨Nat.le_of_ble_eq_true rfl, Nat.le_of_ble_eq_true rfl⟩) hK hP (va_recv hK hP (ci := 1) (q0 := 0) rfl rfl) rfl hl.1 rfl (Nat.le_of_ble_eq_true rfl) dP_reckonKin_52 ⟨Nat.le_of_ble_eq_true rfl, Nat.le_of_ble_eq_true rfl⟩ ?_
    refine lv_ladd hx hb dP_reckonKin_55 ?_
    refine lv_ldc2 (v := 2) hx hb hown (hts _ uw49) dP_reckonKin_56 ?_
    refine lv_ldiv hx hb dP_reckonKin_59 (by decide) ?_
    refine qNVv (w := wP Y h n) (rest := []) ⟨hx, hb, hml, hown, hts⟩ (kP_setKin l D Y h n hn S x2 (fP_inOrder n S (nI i)) (((fP_kinOf n S x3 (fP_inOrder n S (nI i))) + (fP_kinOf n S x4 (fP_inOrder n S (nI i)))) / 2) _) (cwV 3 hts (gV uw53 uw54 uw55 uw8 ucP_setKin) rfl rfl rfl hvP_setKin ⟨Nat.le_of_ble_eq_true rfl, Nat.le_of_ble_eq_true rfl⟩) hK hP hD hS hA (va_recv hK hP (ci := 1) (q0 := 0) rfl rfl) rfl hl.1 rfl (Nat.le_of_ble_eq_true rfl) dP_reckonKin_60 ⟨Nat.le_of_ble_eq_true rfl, Nat.le_of_ble_eq_true rfl⟩ (fun H locs hP hD hS => ?_)
    refine lv_iinc (v := (nI (i + 1))) (lv' := [(5, .int (nI (i + 1))), (6, .int (fP_inOrder n S (nI i))), (0, .ref (h 0)), (1, .int (nI x1)), (2, .int x2), (3, .int x3), (4, .int x4)]) hx hb dP_reckonKin_63 hl (k := 6) rfl (nI_1 _) (by decide) rfl (fun ls hl => ?_)
    refine lv_goto (tgt := 22) hx hb dP_reckonKin_66 (by decide) ?_
    exact ih (i + 1) x1 x2 x3 x4 (fP_setKin n S x2 (fP_inOrder n S (nI i)) (((fP_kinOf n S x3 (fP_inOrder n S (nI i))) + (fP_kinOf n S x4 (fP_inOrder n S (nI i)))) / 2)) (by omega) (hx1) _ _ hP hD hS ls (lv_sub hl [2, 3, 4, 5, 6, 0] rfl)
set_option maxHeartbeats 4000000 in
set_option maxRecDepth 100000 in
theorem kP_reckonKin (l : Launch) (D : va_G) (Y : Nat → ClassId) (h : Nat → Nat) (n : Nat) (hn : n ≤ 24) (S : vP) (a1 : Nat) (ha1 : a1 ≤ 24) (sz : Nat) : Met l yP_reckonKin wsP_reckonKin rmP_reckonKin (va_Pc [.ref (h 0), .int (nI a1)] (zPreM D vwCl (tysK Y) (wP Y h n S) sz)) (va_Qv (fun u => u = (fP_reckonKin n S a1)) (zAt D vwCl (tysK Y) (va_A (wP Y h n S) sz) (wP Y h n)) (va_A (wP Y h n S) sz)) 0 0 (va_A (wP Y h n S) sz) := by
  refine Met.ofW (cc := cP_reckonKin) (maxL := 7) (ret := none) (by decide) rfl ?_
  intro p e s m args below meth c s₁ B hml hv
  obtain ⟨rfl, hsz, hP, hK, hD0⟩ := hv
  have hx := B.exec
  have hb := B.bytes
  have hr := B.returns
  have hts : ∀ w ∈ uT, w.before _ s = true := fun w hw => atoms_spec (ws := wsP_reckonKin) B.pre w (List.mem_cons_of_mem _ hw)
  have hown : s.vm.findClass RP = some m.cls := findClass_of_methodNamed B.named
  have hlocks := B.notSynchronized
  subst hsz
  have hD := hD0.self (sz := s.heap.size)
  generalize hAe : va_A (wP Y h n S) s.heap.size = A at hD ⊢
  have hA : ∀ q : Nat, s.heap.size ≤ q → A q := fun q h => by rw [← hAe]; exact Or.inr h
  have hS : va_S A s.heap s.heap [] := va_S.rf
  have hl := lv_entry ([.ref (h 0), .int (nI a1)]) (n := 7) (Nat.le_of_ble_eq_true rfl)
  rw [lg_entry_eq]
  generalize (lg_sl ([.ref (h 0), .int (nI a1)]) ++ List.replicate (7 - (lg_sl ([.ref (h 0), .int (nI a1)])).length) Slot.unset).toArray = ls at hl ⊢
  have hl : lv_has ls 7 [(0, .ref (h 0)), (1, .int (nI a1))] := hl
  show W p l e rmP_reckonKin s m _ below meth c s.heap [] 0 0 (zMv D vwCl (tysK Y) A (wP Y h n) below _ s 0 0 (fP_reckonKin n S a1)) _
  unfold fP_reckonKin
  show W p l e rmP_reckonKin s m _ below meth c s.heap [] 0 0 (zMv D vwCl (tysK Y) A (wP Y h n) below _ s 0 0 _) (F0 m 0 ls [])
  refine lv_aload_n hx hb dP_reckonKin_0 rfl (lv_at hl 0 rfl) ?_
  refine lv_iload_n hx hb dP_reckonKin_1 rfl (lv_at hl 1 rfl) ?_
  refine qVi (rest := []) ⟨hx, hb, hml, hown, hts⟩ (kP_inOrder l D Y h n hn S (nI a1)) (cwV 1 hts (gV uw46 uw47 uw48 uw8 ucP_inOrder) rfl rfl rfl hvP_inOrder ⟨Nat.le_of_ble_eq_true rfl, Nat.le_of_ble_eq_true rfl⟩) hK hP (va_recv hK hP (ci := 1) (q0 := 0) rfl rfl) rfl hl.1 rfl (Nat.le_of_ble_eq_true rfl) dP_reckonKin_2 ⟨Nat.le_of_ble_eq_true rfl, Nat.le_of_ble_eq_true rfl⟩ ?_
  refine lv_istore_n (lv' := [(2, .int (fP_inOrder n S (nI a1))), (0, .ref (h 0)), (1, .int (nI a1))]) hx hb dP_reckonKin_5 rfl hl (by decide) rfl (fun ls hl => ?_)
  refine lv_aload_n hx hb dP_reckonKin_6 rfl (lv_at hl 1 rfl) ?_
  refine lv_iload_n hx hb dP_reckonKin_7 rfl (lv_at hl 0 rfl) ?_
  refine qVi (rest := []) ⟨hx, hb, hml, hown, hts⟩ (kP_motherOf l D Y h n hn S (fP_inOrder n S (nI a1))) (cwV 1 hts (gV uw17 uw18 uw19 uw8 ucP_motherOf) rfl rfl rfl hvP_motherOf ⟨Nat.le_of_ble_eq_true rfl, Nat.le_of_ble_eq_true rfl⟩) hK hP (va_recv hK hP (ci := 1) (q0 := 0) rfl rfl) rfl hl.1 rfl (Nat.le_of_ble_eq_true rfl) dP_reckonKin_8 ⟨Nat.le_of_ble_eq_true rfl, Nat.le_of_ble_eq_true rfl⟩ ?_
  refine lv_istore_n (lv' := [(3, .int (fP_motherOf n S (fP_inOrder n S (nI a1)))), (2, .int (fP_inOrder n S (nI a1))), (0, .ref (h 0)), (1, .int (nI a1))]) hx hb dP_reckonKin_11 rfl hl (by decide) rfl (fun ls hl => ?_)
  refine lv_aload_n hx hb dP_reckonKin_12 rfl (lv_at hl 2 rfl) ?_
  refine lv_iload_n hx hb dP_reckonKin_13 rfl (lv_at hl 1 rfl) ?_
  refine qVi (rest := []) ⟨hx, hb, hml, hown, hts⟩ (kP_fatherOf l D Y h n hn S (fP_inOrder n S (nI a1))) (cwV 1 hts (gV uw20 uw21 uw22 uw8 ucP_fatherOf) rfl rfl rfl hvP_fatherOf ⟨Nat.le_of_ble_eq_true rfl, Nat.le_of_ble_eq_true rfl⟩) hK hP (va_recv hK hP (ci := 1) (q0 := 0) rfl rfl) rfl hl.1 rfl (Nat.le_of_ble_eq_true rfl) dP_reckonKin_14 ⟨Nat.le_of_ble_eq_true rfl, Nat.le_of_ble_eq_true rfl⟩ ?_
  refine lv_istore (lv' := [(4, .int (fP_fatherOf n S (fP_inOrder n S (nI a1)))), (3, .int (fP_motherOf n S (fP_inOrder n S (nI a1)))), (2, .int (fP_inOrder n S (nI a1))), (0, .ref (h 0)), (1, .int (nI a1))]) hx hb dP_reckonKin_17 hl (by decide) rfl (fun ls hl => ?_)
  refine lv_iconst (v := 0) hx hb dP_reckonKin_19 (by decide) ?_
  refine lv_istore (lv' := [(5, .int 0), (4, .int (fP_fatherOf n S (fP_inOrder n S (nI a1)))), (3, .int (fP_motherOf n S (fP_inOrder n S (nI a1)))), (2, .int (fP_inOrder n S (nI a1))), (0, .ref (h 0)), (1, .int (nI a1))]) hx hb dP_reckonKin_20 hl (by decide) rfl (fun ls hl => ?_)
  exact tP_reckonKin_22 hn hA ⟨hx, hb, hml, hown, hts⟩ hr hlocks hK a1 0 a1 (fP_inOrder n S (nI a1)) (fP_motherOf n S (fP_inOrder n S (nI a1))) (fP_fatherOf n S (fP_inOrder n S (nI a1))) S (by omega) (ha1) _ _ hP hD hS ls (lv_sub hl [4, 5, 3, 2, 1, 0] rfl)
abbrev rmP_reckonOrder : Room := { frames := 0, cells := 0, slots := 0, locals := 0 }
set_option maxHeartbeats 4000000 in
set_option maxRecDepth 100000 in
theorem tP_reckonOrder_14 {p : Program} {l : Launch} {e : Env} {s : State} {m : MethodId} {args : Array Value} {below : List Frame} {meth : Method} {c : Code} {D : va_G} {Y : Nat → ClassId} {h : Nat → Nat} {n : Nat} (hn : n ≤ 24) {A : Nat → Prop} (hA : ∀ q : Nat, s.heap.size ≤ q → A q) (CF : CallFix p m c cP_reckonOrder 4 s args uT RP) (hr : meth.sig.returnType = none) (hlocks : meth.locks = false) (hK : va_K D vwCl (tysK Y) s) {Q : State → Prop} : ∀ (k i : Nat) (x1 : Nat) (x2 : Nat) (S : vP), i + k = n → x1 ≤ n → ∀ (H : Heap) (locs : List Loc), va_P D vwCl (wP Y h n S) H → va_D A (wP Y h n S) → va_S A s.heap H locs → ∀ ls : Array Slot, lv_has ls 4 [(0, .ref (h 0)), (1, .int (nI x1)), (2, .int (nI x2)), (3, .int (nI i))] → (∀ (H : Heap) (locs : List Loc), va_P D vwCl (wP Y h n ((fP_reckonOrder_14 n k i x1 x2 S).2)) H → va_D A (wP Y h n ((fP_reckonOrder_14 n k i x1 x2 S).2)) → va_S A s.heap H locs → ∀ ls : Array Slot, lv_has ls 4 [(0, .ref (h 0)), (1, .int (nI ((fP_reckonOrder_14 n k i x1 x2 S).1))), (2, .int (nI x2))] → W p l e rmP_reckonOrder s m args below meth c H locs 0 0 Q (F0 m 56 ls [])) → W p l e rmP_reckonOrder s m args below meth c H locs 0 0 Q (F0 m 14 ls []) := by
  obtain ⟨hx, hb, hml, hown, hts⟩ := CF
  intro k
  induction k with
  | zero =>
    intro i x1 x2 S hi hx1 H locs hP hD hS ls hl kk
    refine lv_iload_n hx hb dP_reckonOrder_14 rfl (lv_at hl 3 rfl) ?_
    refine lv_aload_n hx hb dP_reckonOrder_15 rfl (lv_at hl 0 rfl) ?_
    refine va_get (D := D) (ci := 1) (v := .int (nI n)) (C := RP) (T := TP) (N := 10) hx hb hts hinP hown hK hP 0 rfl rfl 0 (by decide) (hts _ uw4) (fun _ h9 => h9) rfl dP_reckonOrder_16 ?_
    refine lv_icmp_ge (tgt := 56) hx hb dP_reckonOrder_19 (by decide) (fun _ => ?_) (fun z => absurd (lp_ge (n := n) hi) z)
    exact kk _ _ hP hD hS ls (lv_sub hl [0, 1, 2] rfl)
  | succ k ih =>
    intro i x1 x2 S hi hx1 H locs hP hD hS ls hl kk
    rw [fP_reckonOrder_14] at kk
    refine lv_iload_n hx hb dP_reckonOrder_14 rfl (lv_at hl 3 rfl) ?_
    refine lv_aload_n hx hb dP_reckonOrder_15 rfl (lv_at hl 0 rfl) ?_
    refine va_get (D := D) (ci := 1) (v := .int (nI n)) (C := RP) (T := TP) (N := 10) hx hb hts hinP hown hK hP 0 rfl rfl 0 (by decide) (hts _ uw4) (fun _ h9 => h9) rfl dP_reckonOrder_16 ?_
    refine lv_icmp_ge (tgt := 56) hx hb dP_reckonOrder_19 (by decide) (fun z => absurd z (lp_lt (n := n) hi (by omega))) (fun _ => ?_)
    refine lv_aload_n hx hb dP_reckonOrder_22 rfl (lv_at hl 0 rfl) ?_
    refine va_get (D := D) (ci := 1) (v := .ref (h 3)) (C := RP) (T := TP) (N := 10) hx hb hts hinP hown hK hP 0 rfl rfl 3 (by decide) (hts _ uw11) (fun _ h9 => h9) rfl dP_reckonOrder_23 ?_
    refine lv_iload_n hx hb dP_reckonOrder_26 rfl (lv_at hl 3 rfl) ?_
    refine va_iald hx hb hK hP 3 0 rfl rfl (vp_in_nI (n := i) (by omega) (by omega)) dP_reckonOrder_27 ?_
    refine lv_iload_n hx hb dP_reckonOrder_28 rfl (lv_at hl 2 rfl) ?_
    by_cases c29 : ((g_st S) ((nI i) : Int32).toNatClampNeg) = (nI x2)
    · skip
      simp only [if_pos c29] at kk
      refine lv_icmp_ne (tgt := 50) hx hb dP_reckonOrder_29 (by decide) (fun z => absurd c29 z) (fun _ => ?_)
      refine lv_iload_n hx hb dP_reckonOrder_32 rfl (lv_at hl 1 rfl) ?_
      refine lv_aload_n hx hb dP_reckonOrder_33 rfl (lv_at hl 0 rfl) ?_
      refine va_get (D := D) (ci := 1) (v := .int (nI n)) (C := RP) (T := TP) (N := 10) hx hb hts hinP hown hK hP 0 rfl rfl 0 (by decide) (hts _ uw4) (fun _ h9 => h9) rfl dP_reckonOrder_34 ?_
      by_cases c37 : (nI n) ≤ (nI x1)
      · skip
        simp only [if_pos c37] at kk
        refine lv_icmp_ge (tgt := 50) hx hb dP_reckonOrder_37 (by decide) (fun _ => ?_) (fun z => absurd c37 z)
        refine lv_iinc (v := (nI (i + 1))) (lv' := [(3, .int (nI (i + 1))), (0, .ref (h 0)), (1, .int (nI x1)), (2, .int (nI x2))]) hx hb dP_reckonOrder_50 hl (k := 3) rfl (nI_1 _) (by decide) rfl (fun ls hl => ?_)
        refine lv_goto (tgt := 14) hx hb dP_reckonOrder_53 (by decide) ?_
        exact ih (i + 1) x1 x2 S (by omega) (hx1) _ _ hP hD hS ls (lv_sub hl [1, 2, 3, 0] rfl) kk
      · skip
        simp only [if_neg c37] at kk
        refine lv_icmp_ge (tgt := 50) hx hb dP_reckonOrder_37 (by decide) (fun z => absurd z c37) (fun _ => ?_)
        refine lv_aload_n hx hb dP_reckonOrder_40 rfl (lv_at hl 0 rfl) ?_
        refine va_get (D := D) (ci := 1) (v := .ref (h 4)) (C := RP) (T := TP) (N := 10) hx hb hts hinP hown hK hP 0 rfl rfl 4 (by decide) (hts _ uw12) (fun _ h9 => h9) rfl dP_reckonOrder_41 ?_
        refine lv_iload_n hx hb dP_reckonOrder_44 rfl (lv_at hl 1 rfl) ?_
        refine lv_iload_n hx hb dP_reckonOrder_45 rfl (lv_at hl 3 rfl) ?_
        refine va_iast hx hb hK hP hD hS 4 0 rfl rfl (vp_in_nI (Nat.lt_of_lt_of_le (ord_lt hx1 hn c37) hn) (by decide)) dP_reckonOrder_46 (fun H locs hP hD hS => ?_)
        have hP : va_P D vwCl (wP Y h n (p_sq S (upd (g_sq S) ((nI x1) : Int32).toNatClampNeg (nI i)))) H := hP
        have hD : va_D A (wP Y h n (p_sq S (upd (g_sq S) ((nI x1) : Int32).toNatClampNeg (nI i)))) := hD
        refine lv_iinc (v := (nI (x1 + 1))) (lv' := [(1, .int (nI (x1 + 1))), (0, .ref (h 0)), (2, .int (nI x2)), (3, .int (nI i))]) hx hb dP_reckonOrder_47 hl (k := 1) rfl (nI_1 _) (by decide) rfl (fun ls hl => ?_)
        refine lv_iinc (v := (nI (i + 1))) (lv' := [(3, .int (nI (i + 1))), (1, .int (nI (x1 + 1))), (0, .ref (h 0)), (2, .int (nI x2))]) hx hb dP_reckonOrder_50 hl (k := 3) rfl (nI_1 _) (by decide) rfl (fun ls hl => ?_)
        refine lv_goto (tgt := 14) hx hb dP_reckonOrder_53 (by decide) ?_
        exact ih (i + 1) (x1 + 1) x2 (p_sq S (upd (g_sq S) ((nI x1) : Int32).toNatClampNeg (nI i))) (by omega) (ord_lt hx1 hn c37) _ _ hP hD hS ls (lv_sub hl [2, 1, 3, 0] rfl) kk
    · skip
      simp only [if_neg c29] at kk
      refine lv_icmp_ne (tgt := 50) hx hb dP_reckonOrder_29 (by decide) (fun _ => ?_) (fun z => absurd z c29)
      refine lv_iinc (v := (nI (i + 1))) (lv' := [(3, .int (nI (i + 1))), (0, .ref (h 0)), (1, .int (nI x1)), (2, .int (nI x2))]) hx hb dP_reckonOrder_50 hl (k := 3) rfl (nI_1 _) (by decide) rfl (fun ls hl => ?_)
      refine lv_goto (tgt := 14) hx hb dP_reckonOrder_53 (by decide) ?_
      exact ih (i + 1) x1 x2 S (by omega) (hx1) _ _ hP hD hS ls (lv_sub hl [1, 2, 3, 0] rfl) kk
set_option maxHeartbeats 4000000 in
set_option maxRecDepth 100000 in
theorem tP_reckonOrder_4 {p : Program} {l : Launch} {e : Env} {s : State} {m : MethodId} {args : Array Value} {below : List Frame} {meth : Method} {c : Code} {D : va_G} {Y : Nat → ClassId} {h : Nat → Nat} {n : Nat} (hn : n ≤ 24) {A : Nat → Prop} (hA : ∀ q : Nat, s.heap.size ≤ q → A q) (CF : CallFix p m c cP_reckonOrder 4 s args uT RP) (hr : meth.sig.returnType = none) (hlocks : meth.locks = false) (hK : va_K D vwCl (tysK Y) s) : ∀ (k i : Nat) (x1 : Nat) (S : vP), i + k = n → x1 ≤ n → ∀ (H : Heap) (locs : List Loc), va_P D vwCl (wP Y h n S) H → va_D A (wP Y h n S) → va_S A s.heap H locs → ∀ ls : Array Slot, lv_has ls 4 [(0, .ref (h 0)), (1, .int (nI x1)), (2, .int (nI i))] → W p l e rmP_reckonOrder s m args below meth c H locs 0 0 (zMv D vwCl (tysK Y) A (wP Y h n) below args s 0 0 (fP_reckonOrder_4 n k i x1 S)) (F0 m 4 ls []) := by
  obtain ⟨hx, hb, hml, hown, hts⟩ := CF
  intro k
  induction k with
  | zero =>
    intro i x1 S hi hx1 H locs hP hD hS ls hl
    rw [fP_reckonOrder_4]
    refine lv_iload_n hx hb dP_reckonOrder_4 rfl (lv_at hl 2 rfl) ?_
    refine lv_aload_n hx hb dP_reckonOrder_5 rfl (lv_at hl 0 rfl) ?_
    refine va_get (D := D) (ci := 1) (v := .int (nI n)) (C := RP) (T := TP) (N := 10) hx hb hts hinP hown hK hP 0 rfl rfl 0 (by decide) (hts _ uw4) (fun _ h9 => h9) rfl dP_reckonOrder_6 ?_
    refine lv_icmp_ge (tgt := 62) hx hb dP_reckonOrder_9 (by decide) (fun _ => ?_) (fun z => absurd (lp_ge (n := n) hi) z)
    exact zMv_ret (u := S) hx hb hr hlocks hK hP hD hS dP_reckonOrder_62
  | succ k ih =>
    intro i x1 S hi hx1 H locs hP hD hS ls hl
    rw [fP_reckonOrder_4]
    refine lv_iload_n hx hb dP_reckonOrder_4 rfl (lv_at hl 2 rfl) ?_
    refine lv_aload_n hx hb dP_reckonOrder_5 rfl (lv_at hl 0 rfl) ?_
    refine va_get (D := D) (ci := 1) (v := .int (nI n)) (C := RP) (T := TP) (N := 10) hx hb hts hinP hown hK hP 0 rfl rfl 0 (by decide) (hts _ uw4) (fun _ h9 => h9) rfl dP_reckonOrder_6 ?_
    refine lv_icmp_ge (tgt := 62) hx hb dP_reckonOrder_9 (by decide) (fun z => absurd z (lp_lt (n := n) hi (by omega))) (fun _ => ?_)
    refine lv_iconst (v := 0) hx hb dP_reckonOrder_12 (by decide) ?_
    refine lv_istore_n (lv' := [(3, .int 0), (0, .ref (h 0)), (1, .int (nI x1)), (2, .int (nI i))]) hx hb dP_reckonOrder_13 rfl hl (by decide) rfl (fun ls hl => ?_)
    refine tP_reckonOrder_14 hn hA ⟨hx, hb, hml, hown, hts⟩ hr hlocks hK n 0 x1 i S (by omega) (hx1) _ _ hP hD hS ls (lv_sub hl [1, 2, 3, 0] rfl) (fun H locs hP hD hS ls hl => ?_)
    refine lv_iinc (v := (nI (i + 1))) (lv' := [(2, .int (nI (i + 1))), (0, .ref (h 0)), (1, .int (nI ((fP_reckonOrder_14 n n 0 x1 i S).1)))]) hx hb dP_reckonOrder_56 hl (k := 2) rfl (nI_1 _) (by decide) rfl (fun ls hl => ?_)
    refine lv_goto (tgt := 4) hx hb dP_reckonOrder_59 (by decide) ?_
    exact ih (i + 1) ((fP_reckonOrder_14 n n 0 x1 i S).1) ((fP_reckonOrder_14 n n 0 x1 i S).2) (by omega) (fP_reckonOrder_14_le hn hx1) _ _ hP hD hS ls (lv_sub hl [1, 2, 0] rfl)
set_option maxHeartbeats 4000000 in
set_option maxRecDepth 100000 in
theorem kP_reckonOrder (l : Launch) (D : va_G) (Y : Nat → ClassId) (h : Nat → Nat) (n : Nat) (hn : n ≤ 24) (S : vP) (sz : Nat) : Met l yP_reckonOrder wsP_reckonOrder rmP_reckonOrder (va_Pc [.ref (h 0)] (zPreM D vwCl (tysK Y) (wP Y h n S) sz)) (va_Qv (fun u => u = (fP_reckonOrder n S)) (zAt D vwCl (tysK Y) (va_A (wP Y h n S) sz) (wP Y h n)) (va_A (wP Y h n S) sz)) 0 0 (va_A (wP Y h n S) sz) := by
  refine Met.ofW (cc := cP_reckonOrder) (maxL := 4) (ret := none) (by decide) rfl ?_
  intro p e s m args below meth c s₁ B hml hv
  obtain ⟨rfl, hsz, hP, hK, hD0⟩ := hv
  have hx := B.exec
  have hb := B.bytes
  have hr := B.returns
  have hts : ∀ w ∈ uT, w.before _ s = true := fun w hw => atoms_spec (ws := wsP_reckonOrder) B.pre w (List.mem_cons_of_mem _ hw)
  have hown : s.vm.findClass RP = some m.cls := findClass_of_methodNamed B.named
  have hlocks := B.notSynchronized
  subst hsz
  have hD := hD0.self (sz := s.heap.size)
  generalize hAe : va_A (wP Y h n S) s.heap.size = A at hD ⊢
  have hA : ∀ q : Nat, s.heap.size ≤ q → A q := fun q h => by rw [← hAe]; exact Or.inr h
  have hS : va_S A s.heap s.heap [] := va_S.rf
  have hl := lv_entry ([.ref (h 0)]) (n := 4) (Nat.le_of_ble_eq_true rfl)
  rw [lg_entry_eq]
  generalize (lg_sl ([.ref (h 0)]) ++ List.replicate (4 - (lg_sl ([.ref (h 0)])).length) Slot.unset).toArray = ls at hl ⊢
  have hl : lv_has ls 4 [(0, .ref (h 0))] := hl
  show W p l e rmP_reckonOrder s m _ below meth c s.heap [] 0 0 (zMv D vwCl (tysK Y) A (wP Y h n) below _ s 0 0 (fP_reckonOrder n S)) _
  unfold fP_reckonOrder
  show W p l e rmP_reckonOrder s m _ below meth c s.heap [] 0 0 (zMv D vwCl (tysK Y) A (wP Y h n) below _ s 0 0 _) (F0 m 0 ls [])
  refine lv_iconst (v := 0) hx hb dP_reckonOrder_0 (by decide) ?_
  refine lv_istore_n (lv' := [(1, .int 0), (0, .ref (h 0))]) hx hb dP_reckonOrder_1 rfl hl (by decide) rfl (fun ls hl => ?_)
  refine lv_iconst (v := 0) hx hb dP_reckonOrder_2 (by decide) ?_
  refine lv_istore_n (lv' := [(2, .int 0), (1, .int 0), (0, .ref (h 0))]) hx hb dP_reckonOrder_3 rfl hl (by decide) rfl (fun ls hl => ?_)
  exact tP_reckonOrder_4 hn hA ⟨hx, hb, hml, hown, hts⟩ hr hlocks hK n 0 0 S (by omega) (Nat.zero_le _) _ _ hP hD hS ls (lv_sub hl [2, 1, 0] rfl)
abbrev rmP_reckonSteps : Room := { frames := 2, cells := 0, slots := 0, locals := 42 }
set_option maxHeartbeats 4000000 in
set_option maxRecDepth 100000 in
theorem tP_reckonSteps_28 {p : Program} {l : Launch} {e : Env} {s : State} {m : MethodId} {args : Array Value} {below : List Frame} {meth : Method} {c : Code} {D : va_G} {Y : Nat → ClassId} {h : Nat → Nat} {n : Nat} (hn : n ≤ 24) {A : Nat → Prop} (hA : ∀ q : Nat, s.heap.size ≤ q → A q) (CF : CallFix p m c cP_reckonSteps 5 s args uT RP) (hr : meth.sig.returnType = none) (hlocks : meth.locks = false) (hK : va_K D vwCl (tysK Y) s) {Q : State → Prop} : ∀ (k i : Nat) (x1 : Int32) (x2 : Nat) (S : vP), i + k = n → ∀ (H : Heap) (locs : List Loc), va_P D vwCl (wP Y h n S) H → va_D A (wP Y h n S) → va_S A s.heap H locs → ∀ ls : Array Slot, lv_has ls 5 [(0, .ref (h 0)), (1, .int x1), (2, .int (nI x2)), (3, .int (nI i))] → (∀ (H : Heap) (locs : List Loc), va_P D vwCl (wP Y h n ((fP_reckonSteps_28 n k i x1 x2 S).2)) H → va_D A (wP Y h n ((fP_reckonSteps_28 n k i x1 x2 S).2)) → va_S A s.heap H locs → ∀ ls : Array Slot, lv_has ls 5 [(0, .ref (h 0)), (1, .int ((fP_reckonSteps_28 n k i x1 x2 S).1)), (2, .int (nI x2))] → W p l e rmP_reckonSteps s m args below meth c H locs 0 0 Q (F0 m 98 ls [])) → W p l e rmP_reckonSteps s m args below meth c H locs 0 0 Q (F0 m 28 ls []) := by
  obtain ⟨hx, hb, hml, hown, hts⟩ := CF
  intro k
  induction k with
  | zero =>
    intro i x1 x2 S hi  H locs hP hD hS ls hl kk
    refine lv_iload_n hx hb dP_reckonSteps_28 rfl (lv_at hl 3 rfl) ?_
    refine lv_aload_n hx hb dP_reckonSteps_29 rfl (lv_at hl 0 rfl) ?_
    refine va_get (D := D) (ci := 1) (v := .int (nI n)) (C := RP) (T := TP) (N := 10) hx hb hts hinP hown hK hP 0 rfl rfl 0 (by decide) (hts _ uw4) (fun _ h9 => h9) rfl dP_reckonSteps_30 ?_
    refine lv_icmp_ge (tgt := 98) hx hb dP_reckonSteps_33 (by decide) (fun _ => ?_) (fun z => absurd (lp_ge (n := n) hi) z)
    exact kk _ _ hP hD hS ls (lv_sub hl [0, 1, 2] rfl)
  | succ k ih =>
    intro i x1 x2 S hi  H locs hP hD hS ls hl kk
    rw [fP_reckonSteps_28] at kk
    refine lv_iload_n hx hb dP_reckonSteps_28 rfl (lv_at hl 3 rfl) ?_
    refine lv_aload_n hx hb dP_reckonSteps_29 rfl (lv_at hl 0 rfl) ?_
    refine va_get (D := D) (ci := 1) (v := .int (nI n)) (C := RP) (T := TP) (N := 10) hx hb hts hinP hown hK hP 0 rfl rfl 0 (by decide) (hts _ uw4) (fun _ h9 => h9) rfl dP_reckonSteps_30 ?_
    refine lv_icmp_ge (tgt := 98) hx hb dP_reckonSteps_33 (by decide) (fun z => absurd z (lp_lt (n := n) hi (by omega))) (fun _ => ?_)
    refine lv_aload_n hx hb dP_reckonSteps_36 rfl (lv_at hl 0 rfl) ?_
    refine lv_aload_n hx hb dP_reckonSteps_37 rfl (lv_at hl 0 rfl) ?_
    refine va_get (D := D) (ci := 1) (v := .ref (h 1)) (C := RP) (T := TP) (N := 10) hx hb hts hinP hown hK hP 0 rfl rfl 1 (by decide) (hts _ uw9) (fun _ h9 => h9) rfl dP_reckonSteps_38 ?_
    refine lv_iload_n hx hb dP_reckonSteps_41 rfl (lv_at hl 3 rfl) ?_
    refine va_iald hx hb hK hP 1 0 rfl rfl (vp_in_nI (n := i) (by omega) (by omega)) dP_reckonSteps_42 ?_
    refine qVi (rest := []) ⟨hx, hb, hml, hown, hts⟩ (kP_stepsOf l D Y h n hn S ((g_mo S) ((nI i) : Int32).toNatClampNeg)) (cwV 1 hts (gV uw59 uw60 uw61 uw8 ucP_stepsOf) rfl rfl rfl hvP_stepsOf ⟨Nat.le_of_ble_eq_true rfl, Nat.le_of_ble_eq_true rfl⟩) hK hP (va_recv hK hP (ci := 1) (q0 := 0) rfl rfl) rfl hl.1 rfl (Nat.le_of_ble_eq_true rfl) dP_reckonSteps_43 ⟨Nat.le_of_ble_eq_true rfl, Nat.le_of_ble_eq_true rfl⟩ ?_
    refine lv_aload_n hx hb dP_reckonSteps_46 rfl (lv_at hl 0 rfl) ?_
    refine lv_aload_n hx hb dP_reckonSteps_47 rfl (lv_at hl 0 rfl) ?_
    refine va_get (D := D) (ci := 1) (v := .ref (h 2)) (C := RP) (T := TP) (N := 10) hx hb hts hinP hown hK hP 0 rfl rfl 2 (by decide) (hts _ uw10) (fun _ h9 => h9) rfl dP_reckonSteps_48 ?_
    refine lv_iload_n hx hb dP_reckonSteps_51 rfl (lv_at hl 3 rfl) ?_
    refine va_iald hx hb hK hP 2 0 rfl rfl (vp_in_nI (n := i) (by omega) (by omega)) dP_reckonSteps_52 ?_
    refine qVi (rest := [.int (fP_stepsOf n S ((g_mo S) ((nI i) : Int32).toNatClampNeg))]) ⟨hx, hb, hml, hown, hts⟩ (kP_stepsOf l D Y h n hn S ((g_fa S) ((nI i) : Int32).toNatClampNeg)) (cwV 1 hts (gV uw59 uw60 uw61 uw8 ucP_stepsOf) rfl rfl rfl hvP_stepsOf ⟨Nat.le_of_ble_eq_true rfl, Nat.le_of_ble_eq_true rfl⟩) hK hP (va_recv hK hP (ci := 1) (q0 := 0) rfl rfl) rfl hl.1 rfl (Nat.le_of_ble_eq_true rfl) dP_reckonSteps_53 ⟨Nat.le_of_ble_eq_true rfl, Nat.le_of_ble_eq_true rfl⟩ ?_
    refine q_max hx hb (hml.trans hl.1.symm) hown (hts _ uw62) (hts _ uw63) (hts _ uw64) (hts _ ucJ_max) (Nat.le_of_ble_eq_true rfl) (Nat.le_of_ble_eq_true rfl) (Nat.le_of_ble_eq_true rfl) (Nat.le_of_ble_eq_true rfl) dP_reckonSteps_56 ?_
    refine lv_iconst (v := 1) hx hb dP_reckonSteps_59 (by decide) ?_
    refine lv_iadd hx hb dP_reckonSteps_60 ?_
    refine lv_istore (lv' := [(4, .int ((fJ_max (fP_stepsOf n S ((g_mo S) ((nI i) : Int32).toNatClampNeg)) (fP_stepsOf n S ((g_fa S) ((nI i) : Int32).toNatClampNeg))) + 1)), (0, .ref (h 0)), (1, .int x1), (2, .int (nI x2)), (3, .int (nI i))]) hx hb dP_reckonSteps_61 hl (by decide) rfl (fun ls hl => ?_)
    refine lv_iload_n hx hb dP_reckonSteps_63 rfl (lv_at hl 2 rfl) ?_
    by_cases c64 : x1 = 0
    · skip
      simp only [if_pos c64] at kk
      refine lv_if_ne (tgt := 78) hx hb dP_reckonSteps_64 (by decide) (fun z => absurd c64 z) (fun _ => ?_)
      refine lv_iload hx hb dP_reckonSteps_67 (lv_at hl 0 rfl) ?_
      refine lv_aload_n hx hb dP_reckonSteps_69 rfl (lv_at hl 1 rfl) ?_
      refine va_get (D := D) (ci := 1) (v := .ref (h 3)) (C := RP) (T := TP) (N := 10) hx hb hts hinP hown hK hP 0 rfl rfl 3 (by decide) (hts _ uw11) (fun _ h9 => h9) rfl dP_reckonSteps_70 ?_
      refine lv_iload_n hx hb dP_reckonSteps_73 rfl (lv_at hl 4 rfl) ?_
      refine va_iald hx hb hK hP 3 0 rfl rfl (vp_in_nI (n := i) (by omega) (by omega)) dP_reckonSteps_74 ?_
      by_cases c75 : ((fJ_max (fP_stepsOf n S ((g_mo S) ((nI i) : Int32).toNatClampNeg)) (fP_stepsOf n S ((g_fa S) ((nI i) : Int32).toNatClampNeg))) + 1) = ((g_st S) ((nI i) : Int32).toNatClampNeg)
      · skip
        simp only [if_pos c75] at kk
        refine lv_icmp_eq (tgt := 82) hx hb dP_reckonSteps_75 (by decide) (fun _ => ?_) (fun z => absurd c75 z)
        refine lv_iconst (v := 0) hx hb dP_reckonSteps_82 (by decide) ?_
        refine lv_istore_n (lv' := [(1, .int 0), (4, .int ((fJ_max (fP_stepsOf n S ((g_mo S) ((nI i) : Int32).toNatClampNeg)) (fP_stepsOf n S ((g_fa S) ((nI i) : Int32).toNatClampNeg))) + 1)), (0, .ref (h 0)), (2, .int (nI x2)), (3, .int (nI i))]) hx hb dP_reckonSteps_83 rfl hl (by decide) rfl (fun ls hl => ?_)
        refine lv_aload_n hx hb dP_reckonSteps_84 rfl (lv_at hl 2 rfl) ?_
        refine va_get (D := D) (ci := 1) (v := .ref (h 3)) (C := RP) (T := TP) (N := 10) hx hb hts hinP hown hK hP 0 rfl rfl 3 (by decide) (hts _ uw11) (fun _ h9 => h9) rfl dP_reckonSteps_85 ?_
        refine lv_iload_n hx hb dP_reckonSteps_88 rfl (lv_at hl 4 rfl) ?_
        refine lv_iload hx hb dP_reckonSteps_89 (lv_at hl 1 rfl) ?_
        refine va_iast hx hb hK hP hD hS 3 0 rfl rfl (vp_in_nI (n := i) (by omega) (by omega)) dP_reckonSteps_91 (fun H locs hP hD hS => ?_)
        have hP : va_P D vwCl (wP Y h n (p_st S (upd (g_st S) ((nI i) : Int32).toNatClampNeg ((fJ_max (fP_stepsOf n S ((g_mo S) ((nI i) : Int32).toNatClampNeg)) (fP_stepsOf n S ((g_fa S) ((nI i) : Int32).toNatClampNeg))) + 1)))) H := hP
        have hD : va_D A (wP Y h n (p_st S (upd (g_st S) ((nI i) : Int32).toNatClampNeg ((fJ_max (fP_stepsOf n S ((g_mo S) ((nI i) : Int32).toNatClampNeg)) (fP_stepsOf n S ((g_fa S) ((nI i) : Int32).toNatClampNeg))) + 1)))) := hD
        refine lv_iinc (v := (nI (i + 1))) (lv' := [(3, .int (nI (i + 1))), (1, .int 0), (4, .int ((fJ_max (fP_stepsOf n S ((g_mo S) ((nI i) : Int32).toNatClampNeg)) (fP_stepsOf n S ((g_fa S) ((nI i) : Int32).toNatClampNeg))) + 1)), (0, .ref (h 0)), (2, .int (nI x2))]) hx hb dP_reckonSteps_92 hl (k := 4) rfl (nI_1 _) (by decide) rfl (fun ls hl => ?_)
        refine lv_goto (tgt := 28) hx hb dP_reckonSteps_95 (by decide) ?_
        exact ih (i + 1) 0 x2 (p_st S (upd (g_st S) ((nI i) : Int32).toNatClampNeg ((fJ_max (fP_stepsOf n S ((g_mo S) ((nI i) : Int32).toNatClampNeg)) (fP_stepsOf n S ((g_fa S) ((nI i) : Int32).toNatClampNeg))) + 1))) (by omega) _ _ hP hD hS ls (lv_sub hl [3, 1, 4, 0] rfl) kk
      · skip
        simp only [if_neg c75] at kk
        refine lv_icmp_eq (tgt := 82) hx hb dP_reckonSteps_75 (by decide) (fun z => absurd z c75) (fun _ => ?_)
        refine lv_iconst (v := 1) hx hb dP_reckonSteps_78 (by decide) ?_
        refine lv_goto (tgt := 83) hx hb dP_reckonSteps_79 (by decide) ?_
        refine lv_istore_n (lv' := [(1, .int 1), (4, .int ((fJ_max (fP_stepsOf n S ((g_mo S) ((nI i) : Int32).toNatClampNeg)) (fP_stepsOf n S ((g_fa S) ((nI i) : Int32).toNatClampNeg))) + 1)), (0, .ref (h 0)), (2, .int (nI x2)), (3, .int (nI i))]) hx hb dP_reckonSteps_83 rfl hl (by decide) rfl (fun ls hl => ?_)
        refine lv_aload_n hx hb dP_reckonSteps_84 rfl (lv_at hl 2 rfl) ?_
        refine va_get (D := D) (ci := 1) (v := .ref (h 3)) (C := RP) (T := TP) (N := 10) hx hb hts hinP hown hK hP 0 rfl rfl 3 (by decide) (hts _ uw11) (fun _ h9 => h9) rfl dP_reckonSteps_85 ?_
        refine lv_iload_n hx hb dP_reckonSteps_88 rfl (lv_at hl 4 rfl) ?_
        refine lv_iload hx hb dP_reckonSteps_89 (lv_at hl 1 rfl) ?_
        refine va_iast hx hb hK hP hD hS 3 0 rfl rfl (vp_in_nI (n := i) (by omega) (by omega)) dP_reckonSteps_91 (fun H locs hP hD hS => ?_)
        have hP : va_P D vwCl (wP Y h n (p_st S (upd (g_st S) ((nI i) : Int32).toNatClampNeg ((fJ_max (fP_stepsOf n S ((g_mo S) ((nI i) : Int32).toNatClampNeg)) (fP_stepsOf n S ((g_fa S) ((nI i) : Int32).toNatClampNeg))) + 1)))) H := hP
        have hD : va_D A (wP Y h n (p_st S (upd (g_st S) ((nI i) : Int32).toNatClampNeg ((fJ_max (fP_stepsOf n S ((g_mo S) ((nI i) : Int32).toNatClampNeg)) (fP_stepsOf n S ((g_fa S) ((nI i) : Int32).toNatClampNeg))) + 1)))) := hD
        refine lv_iinc (v := (nI (i + 1))) (lv' := [(3, .int (nI (i + 1))), (1, .int 1), (4, .int ((fJ_max (fP_stepsOf n S ((g_mo S) ((nI i) : Int32).toNatClampNeg)) (fP_stepsOf n S ((g_fa S) ((nI i) : Int32).toNatClampNeg))) + 1)), (0, .ref (h 0)), (2, .int (nI x2))]) hx hb dP_reckonSteps_92 hl (k := 4) rfl (nI_1 _) (by decide) rfl (fun ls hl => ?_)
        refine lv_goto (tgt := 28) hx hb dP_reckonSteps_95 (by decide) ?_
        exact ih (i + 1) 1 x2 (p_st S (upd (g_st S) ((nI i) : Int32).toNatClampNeg ((fJ_max (fP_stepsOf n S ((g_mo S) ((nI i) : Int32).toNatClampNeg)) (fP_stepsOf n S ((g_fa S) ((nI i) : Int32).toNatClampNeg))) + 1))) (by omega) _ _ hP hD hS ls (lv_sub hl [3, 1, 4, 0] rfl) kk
    · skip
      simp only [if_neg c64] at kk
      refine lv_if_ne (tgt := 78) hx hb dP_reckonSteps_64 (by decide) (fun _ => ?_) (fun z => absurd z c64)
      refine lv_iconst (v := 1) hx hb dP_reckonSteps_78 (by decide) ?_
      refine lv_goto (tgt := 83) hx hb dP_reckonSteps_79 (by decide) ?_
      refine lv_istore_n (lv' := [(1, .int 1), (4, .int ((fJ_max (fP_stepsOf n S ((g_mo S) ((nI i) : Int32).toNatClampNeg)) (fP_stepsOf n S ((g_fa S) ((nI i) : Int32).toNatClampNeg))) + 1)), (0, .ref (h 0)), (2, .int (nI x2)), (3, .int (nI i))]) hx hb dP_reckonSteps_83 rfl hl (by decide) rfl (fun ls hl => ?_)
      refine lv_aload_n hx hb dP_reckonSteps_84 rfl (lv_at hl 2 rfl) ?_
      refine va_get (D := D) (ci := 1) (v := .ref (h 3)) (C := RP) (T := TP) (N := 10) hx hb hts hinP hown hK hP 0 rfl rfl 3 (by decide) (hts _ uw11) (fun _ h9 => h9) rfl dP_reckonSteps_85 ?_
      refine lv_iload_n hx hb dP_reckonSteps_88 rfl (lv_at hl 4 rfl) ?_
      refine lv_iload hx hb dP_reckonSteps_89 (lv_at hl 1 rfl) ?_
      refine va_iast hx hb hK hP hD hS 3 0 rfl rfl (vp_in_nI (n := i) (by omega) (by omega)) dP_reckonSteps_91 (fun H locs hP hD hS => ?_)
      have hP : va_P D vwCl (wP Y h n (p_st S (upd (g_st S) ((nI i) : Int32).toNatClampNeg ((fJ_max (fP_stepsOf n S ((g_mo S) ((nI i) : Int32).toNatClampNeg)) (fP_stepsOf n S ((g_fa S) ((nI i) : Int32).toNatClampNeg))) + 1)))) H := hP
      have hD : va_D A (wP Y h n (p_st S (upd (g_st S) ((nI i) : Int32).toNatClampNeg ((fJ_max (fP_stepsOf n S ((g_mo S) ((nI i) : Int32).toNatClampNeg)) (fP_stepsOf n S ((g_fa S) ((nI i) : Int32).toNatClampNeg))) + 1)))) := hD
      refine lv_iinc (v := (nI (i + 1))) (lv' := [(3, .int (nI (i + 1))), (1, .int 1), (4, .int ((fJ_max (fP_stepsOf n S ((g_mo S) ((nI i) : Int32).toNatClampNeg)) (fP_stepsOf n S ((g_fa S) ((nI i) : Int32).toNatClampNeg))) + 1)), (0, .ref (h 0)), (2, .int (nI x2))]) hx hb dP_reckonSteps_92 hl (k := 4) rfl (nI_1 _) (by decide) rfl (fun ls hl => ?_)
      refine lv_goto (tgt := 28) hx hb dP_reckonSteps_95 (by decide) ?_
      exact ih (i + 1) 1 x2 (p_st S (upd (g_st S) ((nI i) : Int32).toNatClampNeg ((fJ_max (fP_stepsOf n S ((g_mo S) ((nI i) : Int32).toNatClampNeg)) (fP_stepsOf n S ((g_fa S) ((nI i) : Int32).toNatClampNeg))) + 1))) (by omega) _ _ hP hD hS ls (lv_sub hl [3, 1, 4, 0] rfl) kk
set_option maxHeartbeats 4000000 in
set_option maxRecDepth 100000 in
theorem tP_reckonSteps_12 {p : Program} {l : Launch} {e : Env} {s : State} {m : MethodId} {args : Array Value} {below : List Frame} {meth : Method} {c : Code} {D : va_G} {Y : Nat → ClassId} {h : Nat → Nat} {n : Nat} (hn : n ≤ 24) {A : Nat → Prop} (hA : ∀ q : Nat, s.heap.size ≤ q → A q) (CF : CallFix p m c cP_reckonSteps 5 s args uT RP) (hr : meth.sig.returnType = none) (hlocks : meth.locks = false) (hK : va_K D vwCl (tysK Y) s) : ∀ (k i : Nat) (x1 : Int32) (S : vP), i + k = n → ∀ (H : Heap) (locs : List Loc), va_P D vwCl (wP Y h n S) H → va_D A (wP Y h n S) → va_S A s.heap H locs → ∀ ls : Array Slot, lv_has ls 5 [(0, .ref (h 0)), (1, .int x1), (2, .int (nI i))] → W p l e rmP_reckonSteps s m args below meth c H locs 0 0 (zMv D vwCl (tysK Y) A (wP Y h n) below args s 0 0 (fP_reckonSteps_12 n k i x1 S)) (F0 m 12 ls []) := by
  obtain ⟨hx, hb, hml, hown, hts⟩ := CF
  intro k
  induction k with
  | zero =>
    intro i x1 S hi  H locs hP hD hS ls hl
    rw [fP_reckonSteps_12]
    refine lv_iload_n hx hb dP_reckonSteps_12 rfl (lv_at hl 2 rfl) ?_
    refine lv_aload_n hx hb dP_reckonSteps_13 rfl (lv_at hl 0 rfl) ?_
    refine va_get (D := D) (ci := 1) (v := .int (nI n)) (C := RP) (T := TP) (N := 10) hx hb hts hinP hown hK hP 0 rfl rfl 0 (by decide) (hts _ uw4) (fun _ h9 => h9) rfl dP_reckonSteps_14 ?_
    refine lv_icmp_ge (tgt := 104) hx hb dP_reckonSteps_17 (by decide) (fun _ => ?_) (fun z => absurd (lp_ge (n := n) hi) z)
    exact zMv_ret (u := S) hx hb hr hlocks hK hP hD hS dP_reckonSteps_104
  | succ k ih =>
    intro i x1 S hi  H locs hP hD hS ls hl
    rw [fP_reckonSteps_12]
    refine lv_iload_n hx hb dP_reckonSteps_12 rfl (lv_at hl 2 rfl) ?_
    refine lv_aload_n hx hb dP_reckonSteps_13 rfl (lv_at hl 0 rfl) ?_
    refine va_get (D := D) (ci := 1) (v := .int (nI n)) (C := RP) (T := TP) (N := 10) hx hb hts hinP hown hK hP 0 rfl rfl 0 (by decide) (hts _ uw4) (fun _ h9 => h9) rfl dP_reckonSteps_14 ?_
    refine lv_icmp_ge (tgt := 104) hx hb dP_reckonSteps_17 (by decide) (fun z => absurd z (lp_lt (n := n) hi (by omega))) (fun _ => ?_)
    refine lv_iload_n hx hb dP_reckonSteps_20 rfl (lv_at hl 1 rfl) ?_
    refine zif (C := x1 = 0) (fun c21 => ?_) (fun c21 => ?_)
    · skip
      refine lv_if_eq (tgt := 104) hx hb dP_reckonSteps_21 (by decide) (fun _ => ?_) (fun z => absurd c21 z)
      exact zMv_ret (u := S) hx hb hr hlocks hK hP hD hS dP_reckonSteps_104
    · skip
      refine lv_if_eq (tgt := 104) hx hb dP_reckonSteps_21 (by decide) (fun z => absurd z c21) (fun _ => ?_)
      refine lv_iconst (v := 0) hx hb dP_reckonSteps_24 (by decide) ?_
      refine lv_istore_n (lv' := [(1, .int 0), (0, .ref (h 0)), (2, .int (nI i))]) hx hb dP_reckonSteps_25 rfl hl (by decide) rfl (fun ls hl => ?_)
      refine lv_iconst (v := 0) hx hb dP_reckonSteps_26 (by decide) ?_
      refine lv_istore_n (lv' := [(3, .int 0), (1, .int 0), (0, .ref (h 0)), (2, .int (nI i))]) hx hb dP_reckonSteps_27 rfl hl (by decide) rfl (fun ls hl => ?_)
      refine tP_reckonSteps_28 hn hA ⟨hx, hb, hml, hown, hts⟩ hr hlocks hK n 0 0 i S (by omega) _ _ hP hD hS ls (lv_sub hl [2, 1, 3, 0] rfl) (fun H locs hP hD hS ls hl => ?_)
      refine lv_iinc (v := (nI (i + 1))) (lv' := [(2, .int (nI (i + 1))), (0, .ref (h 0)), (1, .int ((fP_reckonSteps_28 n n 0 0 i S).1))]) hx hb dP_reckonSteps_98 hl (k := 2) rfl (nI_1 _) (by decide) rfl (fun ls hl => ?_)
      refine lv_goto (tgt := 12) hx hb dP_reckonSteps_101 (by decide) ?_
      exact ih (i + 1) ((fP_reckonSteps_28 n n 0 0 i S).1) ((fP_reckonSteps_28 n n 0 0 i S).2) (by omega) _ _ hP hD hS ls (lv_sub hl [1, 2, 0] rfl)
set_option maxHeartbeats 4000000 in
set_option maxRecDepth 100000 in
theorem kP_reckonSteps (l : Launch) (D : va_G) (Y : Nat → ClassId) (h : Nat → Nat) (n : Nat) (hn : n ≤ 24) (S : vP) (sz : Nat) : Met l yP_reckonSteps wsP_reckonSteps rmP_reckonSteps (va_Pc [.ref (h 0)] (zPreM D vwCl (tysK Y) (wP Y h n S) sz)) (va_Qv (fun u => u = (fP_reckonSteps n S)) (zAt D vwCl (tysK Y) (va_A (wP Y h n S) sz) (wP Y h n)) (va_A (wP Y h n S) sz)) 0 0 (va_A (wP Y h n S) sz) := by
  refine Met.ofW (cc := cP_reckonSteps) (maxL := 5) (ret := none) (by decide) rfl ?_
  intro p e s m args below meth c s₁ B hml hv
  obtain ⟨rfl, hsz, hP, hK, hD0⟩ := hv
  have hx := B.exec
  have hb := B.bytes
  have hr := B.returns
  have hts : ∀ w ∈ uT, w.before _ s = true := fun w hw => atoms_spec (ws := wsP_reckonSteps) B.pre w (List.mem_cons_of_mem _ hw)
  have hown : s.vm.findClass RP = some m.cls := findClass_of_methodNamed B.named
  have hlocks := B.notSynchronized
  subst hsz
  have hD := hD0.self (sz := s.heap.size)
  generalize hAe : va_A (wP Y h n S) s.heap.size = A at hD ⊢
  have hA : ∀ q : Nat, s.heap.size ≤ q → A q := fun q h => by rw [← hAe]; exact Or.inr h
  have hS : va_S A s.heap s.heap [] := va_S.rf
  have hl := lv_entry ([.ref (h 0)]) (n := 5) (Nat.le_of_ble_eq_true rfl)
  rw [lg_entry_eq]
  generalize (lg_sl ([.ref (h 0)]) ++ List.replicate (5 - (lg_sl ([.ref (h 0)])).length) Slot.unset).toArray = ls at hl ⊢
  have hl : lv_has ls 5 [(0, .ref (h 0))] := hl
  show W p l e rmP_reckonSteps s m _ below meth c s.heap [] 0 0 (zMv D vwCl (tysK Y) A (wP Y h n) below _ s 0 0 (fP_reckonSteps n S)) _
  unfold fP_reckonSteps
  show W p l e rmP_reckonSteps s m _ below meth c s.heap [] 0 0 (zMv D vwCl (tysK Y) A (wP Y h n) below _ s 0 0 _) (F0 m 0 ls [])
  refine lv_aload_n hx hb dP_reckonSteps_0 rfl (lv_at hl 0 rfl) ?_
  refine va_get (D := D) (ci := 1) (v := .ref (h 3)) (C := RP) (T := TP) (N := 10) hx hb hts hinP hown hK hP 0 rfl rfl 3 (by decide) (hts _ uw11) (fun _ h9 => h9) rfl dP_reckonSteps_1 ?_
  refine lv_iconst (v := 0) hx hb dP_reckonSteps_4 (by decide) ?_
  refine qMSv (ws := wP Y h n S) (wc := wA Y (fun _ => (h 3)) 24 (g_st S)) (wr := (wP Y h n S).eraseIdx 3) (w := wA Y (fun _ => (h 3)) 24) (ws' := wP Y h n (p_st S (fA_fill 24 (g_st S) 0))) (rest := []) ⟨hx, hb, hml, hown, hts⟩ (kA_fill l D Y (fun _ => (h 3)) 24 (by decide) (g_st S) 0 _) (va_cwS 2 hts (gS uw56 uw57 uw58 ucA_fill) rfl rfl rfl hsA_fill ⟨Nat.le_of_ble_eq_true rfl, Nat.le_of_ble_eq_true rfl⟩) hK hP hD hS hA [3] [0, 1, 2, 4, 5, 6, 7, 8] [0, 1, 2, 8, 3, 4, 5, 6, 7] rfl rfl (by decide) (by decide) (by decide) rfl (by decide) rfl hl.1 rfl (Nat.le_of_ble_eq_true rfl) dP_reckonSteps_5 ⟨Nat.le_of_ble_eq_true rfl, Nat.le_of_ble_eq_true rfl⟩ (fun H locs hP hD hS => ?_)
  refine lv_iconst (v := 1) hx hb dP_reckonSteps_8 (by decide) ?_
  refine lv_istore_n (lv' := [(1, .int 1), (0, .ref (h 0))]) hx hb dP_reckonSteps_9 rfl hl (by decide) rfl (fun ls hl => ?_)
  refine lv_iconst (v := 0) hx hb dP_reckonSteps_10 (by decide) ?_
  refine lv_istore_n (lv' := [(2, .int 0), (1, .int 1), (0, .ref (h 0))]) hx hb dP_reckonSteps_11 rfl hl (by decide) rfl (fun ls hl => ?_)
  exact tP_reckonSteps_12 hn hA ⟨hx, hb, hml, hown, hts⟩ hr hlocks hK n 0 1 (p_st S (fA_fill 24 (g_st S) 0)) (by omega) _ _ hP hD hS ls (lv_sub hl [2, 1, 0] rfl)
abbrev rmP_reckon : Room := { frames := 3, cells := 0, slots := 0, locals := 71 }
set_option maxHeartbeats 4000000 in
set_option maxRecDepth 100000 in
theorem tP_reckon_10 {p : Program} {l : Launch} {e : Env} {s : State} {m : MethodId} {args : Array Value} {below : List Frame} {meth : Method} {c : Code} {D : va_G} {Y : Nat → ClassId} {h : Nat → Nat} {n : Nat} (hn : n ≤ 24) {A : Nat → Prop} (hA : ∀ q : Nat, s.heap.size ≤ q → A q) (CF : CallFix p m c cP_reckon 2 s args uT RP) (hr : meth.sig.returnType = none) (hlocks : meth.locks = false) (hK : va_K D vwCl (tysK Y) s) : ∀ (k i : Nat) (S : vP), i + k = n → ∀ (H : Heap) (locs : List Loc), va_P D vwCl (wP Y h n S) H → va_D A (wP Y h n S) → va_S A s.heap H locs → ∀ ls : Array Slot, lv_has ls 2 [(0, .ref (h 0)), (1, .int (nI i))] → W p l e rmP_reckon s m args below meth c H locs 0 0 (zMv D vwCl (tysK Y) A (wP Y h n) below args s 0 0 (fP_reckon_10 n k i S)) (F0 m 10 ls []) := by
  obtain ⟨hx, hb, hml, hown, hts⟩ := CF
  intro k
  induction k with
  | zero =>
    intro i  S hi  H locs hP hD hS ls hl
    rw [fP_reckon_10]
    refine lv_iload_n hx hb dP_reckon_10 rfl (lv_at hl 1 rfl) ?_
    refine lv_aload_n hx hb dP_reckon_11 rfl (lv_at hl 0 rfl) ?_
    refine va_get (D := D) (ci := 1) (v := .int (nI n)) (C := RP) (T := TP) (N := 10) hx hb hts hinP hown hK hP 0 rfl rfl 0 (by decide) (hts _ uw4) (fun _ h9 => h9) rfl dP_reckon_12 ?_
    refine lv_icmp_ge (tgt := 38) hx hb dP_reckon_15 (by decide) (fun _ => ?_) (fun z => absurd (lp_ge (n := n) hi) z)
    exact zMv_ret (u := S) hx hb hr hlocks hK hP hD hS dP_reckon_38
  | succ k ih =>
    intro i  S hi  H locs hP hD hS ls hl
    rw [fP_reckon_10]
    refine lv_iload_n hx hb dP_reckon_10 rfl (lv_at hl 1 rfl) ?_
    refine lv_aload_n hx hb dP_reckon_11 rfl (lv_at hl 0 rfl) ?_
    refine va_get (D := D) (ci := 1) (v := .int (nI n)) (C := RP) (T := TP) (N := 10) hx hb hts hinP hown hK hP 0 rfl rfl 0 (by decide) (hts _ uw4) (fun _ h9 => h9) rfl dP_reckon_12 ?_
    refine lv_icmp_ge (tgt := 38) hx hb dP_reckon_15 (by decide) (fun z => absurd z (lp_lt (n := n) hi (by omega))) (fun _ => ?_)
    refine lv_aload_n hx hb dP_reckon_18 rfl (lv_at hl 0 rfl) ?_
    refine lv_aload_n hx hb dP_reckon_19 rfl (lv_at hl 0 rfl) ?_
    refine lv_iload_n hx hb dP_reckon_20 rfl (lv_at hl 1 rfl) ?_
    refine qVi (rest := [.ref (h 0)]) ⟨hx, hb, hml, hown, hts⟩ (kP_inOrder l D Y h n hn S (nI i)) (cwV 1 hts (gV uw46 uw47 uw48 uw8 ucP_inOrder) rfl rfl rfl hvP_inOrder ⟨Nat.le_of_ble_eq_true rfl, Nat.le_of_ble_eq_true rfl⟩) hK hP (va_recv hK hP (ci := 1) (q0 := 0) rfl rfl) rfl hl.1 rfl (Nat.le_of_ble_eq_true rfl) dP_reckon_21 ⟨Nat.le_of_ble_eq_true rfl, Nat.le_of_ble_eq_true rfl⟩ ?_
    refine qNVv (w := wP Y h n) (rest := []) ⟨hx, hb, hml, hown, hts⟩ (kP_reckonForbears l D Y h n hn S (fP_inOrder n S (nI i)) _) (cwV 1 hts (gV uw71 uw72 uw73 uw8 ucP_reckonForbears) rfl rfl rfl hvP_reckonForbears ⟨Nat.le_of_ble_eq_true rfl, Nat.le_of_ble_eq_true rfl⟩) hK hP hD hS hA (va_recv hK hP (ci := 1) (q0 := 0) rfl rfl) rfl hl.1 rfl (Nat.le_of_ble_eq_true rfl) dP_reckon_24 ⟨Nat.le_of_ble_eq_true rfl, Nat.le_of_ble_eq_true rfl⟩ (fun H locs hP hD hS => ?_)
    refine lv_aload_n hx hb dP_reckon_27 rfl (lv_at hl 0 rfl) ?_
    refine lv_iload_n hx hb dP_reckon_28 rfl (lv_at hl 1 rfl) ?_
    refine qNVv (w := wP Y h n) (rest := []) ⟨hx, hb, hml, hown, hts⟩ (kP_reckonKin l D Y h n hn (fP_reckonForbears n S (fP_inOrder n S (nI i))) i (by omega) _) (cwV 1 hts (gV uw74 uw75 uw76 uw8 ucP_reckonKin) rfl rfl rfl hvP_reckonKin ⟨Nat.le_of_ble_eq_true rfl, Nat.le_of_ble_eq_true rfl⟩) hK hP hD hS hA (va_recv hK hP (ci := 1) (q0 := 0) rfl rfl) rfl hl.1 rfl (Nat.le_of_ble_eq_true rfl) dP_reckon_29 ⟨Nat.le_of_ble_eq_true rfl, Nat.le_of_ble_eq_true rfl⟩ (fun H locs hP hD hS => ?_)
    refine lv_iinc (v := (nI (i + 1))) (lv' := [(1, .int (nI (i + 1))), (0, .ref (h 0))]) hx hb dP_reckon_32 hl (k := 1) rfl (nI_1 _) (by decide) rfl (fun ls hl => ?_)
    refine lv_goto (tgt := 10) hx hb dP_reckon_35 (by decide) ?_
    exact ih (i + 1) (fP_reckonKin n (fP_reckonForbears n S (fP_inOrder n S (nI i))) i) (by omega) _ _ hP hD hS ls (lv_sub hl [1, 0] rfl)
set_option maxHeartbeats 4000000 in
set_option maxRecDepth 100000 in
theorem kP_reckon (l : Launch) (D : va_G) (Y : Nat → ClassId) (h : Nat → Nat) (n : Nat) (hn : n ≤ 24) (S : vP) (sz : Nat) : Met l yP_reckon wsP_reckon rmP_reckon (va_Pc [.ref (h 0)] (zPreM D vwCl (tysK Y) (wP Y h n S) sz)) (va_Qv (fun u => u = (fP_reckon n S)) (zAt D vwCl (tysK Y) (va_A (wP Y h n S) sz) (wP Y h n)) (va_A (wP Y h n S) sz)) 0 0 (va_A (wP Y h n S) sz) := by
  refine Met.ofW (cc := cP_reckon) (maxL := 2) (ret := none) (by decide) rfl ?_
  intro p e s m args below meth c s₁ B hml hv
  obtain ⟨rfl, hsz, hP, hK, hD0⟩ := hv
  have hx := B.exec
  have hb := B.bytes
  have hr := B.returns
  have hts : ∀ w ∈ uT, w.before _ s = true := fun w hw => atoms_spec (ws := wsP_reckon) B.pre w (List.mem_cons_of_mem _ hw)
  have hown : s.vm.findClass RP = some m.cls := findClass_of_methodNamed B.named
  have hlocks := B.notSynchronized
  subst hsz
  have hD := hD0.self (sz := s.heap.size)
  generalize hAe : va_A (wP Y h n S) s.heap.size = A at hD ⊢
  have hA : ∀ q : Nat, s.heap.size ≤ q → A q := fun q h => by rw [← hAe]; exact Or.inr h
  have hS : va_S A s.heap s.heap [] := va_S.rf
  have hl := lv_entry ([.ref (h 0)]) (n := 2) (Nat.le_of_ble_eq_true rfl)
  rw [lg_entry_eq]
  generalize (lg_sl ([.ref (h 0)]) ++ List.replicate (2 - (lg_sl ([.ref (h 0)])).length) Slot.unset).toArray = ls at hl ⊢
  have hl : lv_has ls 2 [(0, .ref (h 0))] := hl
  show W p l e rmP_reckon s m _ below meth c s.heap [] 0 0 (zMv D vwCl (tysK Y) A (wP Y h n) below _ s 0 0 (fP_reckon n S)) _
  unfold fP_reckon
  show W p l e rmP_reckon s m _ below meth c s.heap [] 0 0 (zMv D vwCl (tysK Y) A (wP Y h n) below _ s 0 0 _) (F0 m 0 ls [])
  refine lv_aload_n hx hb dP_reckon_0 rfl (lv_at hl 0 rfl) ?_
  refine qNVv (w := wP Y h n) (rest := []) ⟨hx, hb, hml, hown, hts⟩ (kP_reckonSteps l D Y h n hn S _) (cwV 0 hts (gV uw65 uw66 uw67 uw8 ucP_reckonSteps) rfl rfl rfl hvP_reckonSteps ⟨Nat.le_of_ble_eq_true rfl, Nat.le_of_ble_eq_true rfl⟩) hK hP hD hS hA (va_recv hK hP (ci := 1) (q0 := 0) rfl rfl) rfl hl.1 rfl (Nat.le_of_ble_eq_true rfl) dP_reckon_1 ⟨Nat.le_of_ble_eq_true rfl, Nat.le_of_ble_eq_true rfl⟩ (fun H locs hP hD hS => ?_)
  refine lv_aload_n hx hb dP_reckon_4 rfl (lv_at hl 0 rfl) ?_
  refine qNVv (w := wP Y h n) (rest := []) ⟨hx, hb, hml, hown, hts⟩ (kP_reckonOrder l D Y h n hn (fP_reckonSteps n S) _) (cwV 0 hts (gV uw68 uw69 uw70 uw8 ucP_reckonOrder) rfl rfl rfl hvP_reckonOrder ⟨Nat.le_of_ble_eq_true rfl, Nat.le_of_ble_eq_true rfl⟩) hK hP hD hS hA (va_recv hK hP (ci := 1) (q0 := 0) rfl rfl) rfl hl.1 rfl (Nat.le_of_ble_eq_true rfl) dP_reckon_5 ⟨Nat.le_of_ble_eq_true rfl, Nat.le_of_ble_eq_true rfl⟩ (fun H locs hP hD hS => ?_)
  refine lv_iconst (v := 0) hx hb dP_reckon_8 (by decide) ?_
  refine lv_istore_n (lv' := [(1, .int 0), (0, .ref (h 0))]) hx hb dP_reckon_9 rfl hl (by decide) rfl (fun ls hl => ?_)
  exact tP_reckon_10 hn hA ⟨hx, hb, hml, hown, hts⟩ hr hlocks hK n 0 (fP_reckonOrder n (fP_reckonSteps n S)) (by omega) _ _ hP hD hS ls (lv_sub hl [1, 0] rfl)
abbrev rmP_setParents : Room := { frames := 4, cells := 0, slots := 0, locals := 92 }
set_option maxHeartbeats 4000000 in
set_option maxRecDepth 100000 in
theorem kP_setParents (l : Launch) (D : va_G) (Y : Nat → ClassId) (h : Nat → Nat) (n : Nat) (hn : n ≤ 24) (S : vP) (a1 : Int32) (a2 : Int32) (a3 : Int32) (sz : Nat) : Met l yP_setParents wsP_setParents rmP_setParents (va_Pc [.ref (h 0), .int a1, .int a2, .int a3] (zPreM D vwCl (tysK Y) (wP Y h n S) sz)) (va_Qv (fun u => u = (fP_setParents n S a1 a2 a3)) (zAt D vwCl (tysK Y) (va_A (wP Y h n S) sz) (wP Y h n)) (va_A (wP Y h n S) sz)) 0 0 (va_A (wP Y h n S) sz) := by
  refine Met.ofW (cc := cP_setParents) (maxL := 4) (ret := none) (by decide) rfl ?_
  intro p e s m args below meth c s₁ B hml hv
  obtain ⟨rfl, hsz, hP, hK, hD0⟩ := hv
  have hx := B.exec
  have hb := B.bytes
  have hr := B.returns
  have hts : ∀ w ∈ uT, w.before _ s = true := fun w hw => atoms_spec (ws := wsP_setParents) B.pre w (List.mem_cons_of_mem _ hw)
  have hown : s.vm.findClass RP = some m.cls := findClass_of_methodNamed B.named
  have hlocks := B.notSynchronized
  subst hsz
  have hD := hD0.self (sz := s.heap.size)
  generalize hAe : va_A (wP Y h n S) s.heap.size = A at hD ⊢
  have hA : ∀ q : Nat, s.heap.size ≤ q → A q := fun q h => by rw [← hAe]; exact Or.inr h
  have hS : va_S A s.heap s.heap [] := va_S.rf
  have hl := lv_entry ([.ref (h 0), .int a1, .int a2, .int a3]) (n := 4) (Nat.le_of_ble_eq_true rfl)
  rw [lg_entry_eq]
  generalize (lg_sl ([.ref (h 0), .int a1, .int a2, .int a3]) ++ List.replicate (4 - (lg_sl ([.ref (h 0), .int a1, .int a2, .int a3])).length) Slot.unset).toArray = ls at hl ⊢
  have hl : lv_has ls 4 [(0, .ref (h 0)), (1, .int a1), (2, .int a2), (3, .int a3)] := hl
  show W p l e rmP_setParents s m _ below meth c s.heap [] 0 0 (zMv D vwCl (tysK Y) A (wP Y h n) below _ s 0 0 (fP_setParents n S a1 a2 a3)) _
  unfold fP_setParents
  show W p l e rmP_setParents s m _ below meth c s.heap [] 0 0 (zMv D vwCl (tysK Y) A (wP Y h n) below _ s 0 0 _) (F0 m 0 ls [])
  refine lv_aload_n hx hb dP_setParents_0 rfl (lv_at hl 0 rfl) ?_
  refine lv_iload_n hx hb dP_setParents_1 rfl (lv_at hl 1 rfl) ?_
  refine qVi (rest := []) ⟨hx, hb, hml, hown, hts⟩ (kP_has l D Y h n hn S a1) (cwV 1 hts (gV uw5 uw6 uw7 uw8 ucP_has) rfl rfl rfl hvP_has ⟨Nat.le_of_ble_eq_true rfl, Nat.le_of_ble_eq_true rfl⟩) hK hP (va_recv hK hP (ci := 1) (q0 := 0) rfl rfl) rfl hl.1 rfl (Nat.le_of_ble_eq_true rfl) dP_setParents_2 ⟨Nat.le_of_ble_eq_true rfl, Nat.le_of_ble_eq_true rfl⟩ ?_
  refine zif (C := (fP_has n a1) = 0) (fun c5 => ?_) (fun c5 => ?_)
  · skip
    refine lv_if_ne (tgt := 9) hx hb dP_setParents_5 (by decide) (fun z => absurd c5 z) (fun _ => ?_)
    exact zMv_ret (u := S) hx hb hr hlocks hK hP hD hS dP_setParents_8
  · skip
    refine lv_if_ne (tgt := 9) hx hb dP_setParents_5 (by decide) (fun _ => ?_) (fun z => absurd z c5)
    refine lv_aload_n hx hb dP_setParents_9 rfl (lv_at hl 0 rfl) ?_
    refine va_get (D := D) (ci := 1) (v := .ref (h 1)) (C := RP) (T := TP) (N := 10) hx hb hts hinP hown hK hP 0 rfl rfl 1 (by decide) (hts _ uw9) (fun _ h9 => h9) rfl dP_setParents_10 ?_
    refine lv_iload_n hx hb dP_setParents_13 rfl (lv_at hl 1 rfl) ?_
    refine lv_iload_n hx hb dP_setParents_14 rfl (lv_at hl 2 rfl) ?_
    refine va_iast hx hb hK hP hD hS 1 0 rfl rfl (has_in hn c5) dP_setParents_15 (fun H locs hP hD hS => ?_)
    have hP : va_P D vwCl (wP Y h n (p_mo S (upd (g_mo S) (a1 : Int32).toNatClampNeg a2))) H := hP
    have hD : va_D A (wP Y h n (p_mo S (upd (g_mo S) (a1 : Int32).toNatClampNeg a2))) := hD
    refine lv_aload_n hx hb dP_setParents_16 rfl (lv_at hl 0 rfl) ?_
    refine va_get (D := D) (ci := 1) (v := .ref (h 2)) (C := RP) (T := TP) (N := 10) hx hb hts hinP hown hK hP 0 rfl rfl 2 (by decide) (hts _ uw10) (fun _ h9 => h9) rfl dP_setParents_17 ?_
    refine lv_iload_n hx hb dP_setParents_20 rfl (lv_at hl 1 rfl) ?_
    refine lv_iload_n hx hb dP_setParents_21 rfl (lv_at hl 3 rfl) ?_
    refine va_iast hx hb hK hP hD hS 2 0 rfl rfl (has_in hn c5) dP_setParents_22 (fun H locs hP hD hS => ?_)
    have hP : va_P D vwCl (wP Y h n (p_fa (p_mo S (upd (g_mo S) (a1 : Int32).toNatClampNeg a2)) (upd (g_fa (p_mo S (upd (g_mo S) (a1 : Int32).toNatClampNeg a2))) (a1 : Int32).toNatClampNeg a3))) H := hP
    have hD : va_D A (wP Y h n (p_fa (p_mo S (upd (g_mo S) (a1 : Int32).toNatClampNeg a2)) (upd (g_fa (p_mo S (upd (g_mo S) (a1 : Int32).toNatClampNeg a2))) (a1 : Int32).toNatClampNeg a3))) := hD
    refine lv_aload_n hx hb dP_setParents_23 rfl (lv_at hl 0 rfl) ?_
    refine qNVv (w := wP Y h n) (rest := []) ⟨hx, hb, hml, hown, hts⟩ (kP_reckon l D Y h n hn (p_fa (p_mo S (upd (g_mo S) (a1 : Int32).toNatClampNeg a2)) (upd (g_fa (p_mo S (upd (g_mo S) (a1 : Int32).toNatClampNeg a2))) (a1 : Int32).toNatClampNeg a3)) _) (cwV 0 hts (gV uw77 uw78 uw79 uw8 ucP_reckon) rfl rfl rfl hvP_reckon ⟨Nat.le_of_ble_eq_true rfl, Nat.le_of_ble_eq_true rfl⟩) hK hP hD hS hA (va_recv hK hP (ci := 1) (q0 := 0) rfl rfl) rfl hl.1 rfl (Nat.le_of_ble_eq_true rfl) dP_setParents_24 ⟨Nat.le_of_ble_eq_true rfl, Nat.le_of_ble_eq_true rfl⟩ (fun H locs hP hD hS => ?_)
    exact zMv_ret (u := (fP_reckon n (p_fa (p_mo S (upd (g_mo S) (a1 : Int32).toNatClampNeg a2)) (upd (g_fa (p_mo S (upd (g_mo S) (a1 : Int32).toNatClampNeg a2))) (a1 : Int32).toNatClampNeg a3)))) hx hb hr hlocks hK hP hD hS dP_setParents_27
abbrev rmM_has : Room := { frames := 0, cells := 0, slots := 0, locals := 0 }
set_option maxHeartbeats 4000000 in
set_option maxRecDepth 100000 in
theorem kM_has (l : Launch) (D : va_G) (Y : Nat → ClassId) (h : Nat → Nat) (n : Nat) (hn : n ≤ 24) (S : vM) (a1 : Int32) (a2 : Int32) : Met l yM_has wsM_has rmM_has (va_Pc [.ref (h 0), .int a1, .int a2] (zPre D vwCl (tysK Y) (wM Y h n S))) (vp_Si (fun r => r = (fM_has n a1 a2))) 0 0 (fun _ => False) := by
  refine Met.ofW (cc := cM_has) (maxL := 3) (ret := (some .boolean)) (by decide) rfl ?_
  intro p e s m args below meth c s₁ B hml hv
  obtain ⟨rfl, hP, hK⟩ := hv
  have hx := B.exec
  have hb := B.bytes
  have hr := B.returns
  have hts : ∀ w ∈ uT, w.before _ s = true := fun w hw => atoms_spec (ws := wsM_has) B.pre w (List.mem_cons_of_mem _ hw)
  have hown : s.vm.findClass RM = some m.cls := findClass_of_methodNamed B.named
  have hlocks := B.notSynchronized
  have hl := lv_entry ([.ref (h 0), .int a1, .int a2]) (n := 3) (Nat.le_of_ble_eq_true rfl)
  rw [lg_entry_eq]
  generalize (lg_sl ([.ref (h 0), .int a1, .int a2]) ++ List.replicate (3 - (lg_sl ([.ref (h 0), .int a1, .int a2])).length) Slot.unset).toArray = ls at hl ⊢
  have hl : lv_has ls 3 [(0, .ref (h 0)), (1, .int a1), (2, .int a2)] := hl
  show W p l e rmM_has s m _ below meth c s.heap [] 0 0 (zI below _ s (fM_has n a1 a2)) _
  unfold fM_has
  show W p l e rmM_has s m _ below meth c s.heap [] 0 0 (zI below _ s _) (F0 m 0 ls [])
  refine lv_iload_n hx hb dM_has_0 rfl (lv_at hl 1 rfl) ?_
  refine zif (C := a1 < 0) (fun c1 => ?_) (fun c1 => ?_)
  · skip
    refine lv_if_lt (tgt := 25) hx hb dM_has_1 (by decide) (fun _ => ?_) (fun z => absurd c1 z)
    refine lv_iconst (v := 0) hx hb dM_has_25 (by decide) ?_
    exact zB_ret hx hb hr hlocks (Or.inl rfl) dM_has_26
  · skip
    refine lv_if_lt (tgt := 25) hx hb dM_has_1 (by decide) (fun z => absurd z c1) (fun _ => ?_)
    refine lv_iload_n hx hb dM_has_4 rfl (lv_at hl 1 rfl) ?_
    refine lv_aload_n hx hb dM_has_5 rfl (lv_at hl 0 rfl) ?_
    refine va_get (D := D) (ci := 2) (v := .int (nI n)) (C := RM) (T := TM) (N := 2) hx hb hts hinM hown hK hP 0 rfl rfl 0 (by decide) (hts _ uw80) (fun _ h9 => h9) rfl dM_has_6 ?_
    refine zif (C := (nI n) ≤ a1) (fun c9 => ?_) (fun c9 => ?_)
    · skip
      refine lv_icmp_ge (tgt := 25) hx hb dM_has_9 (by decide) (fun _ => ?_) (fun z => absurd c9 z)
      refine lv_iconst (v := 0) hx hb dM_has_25 (by decide) ?_
      exact zB_ret hx hb hr hlocks (Or.inl rfl) dM_has_26
    · skip
      refine lv_icmp_ge (tgt := 25) hx hb dM_has_9 (by decide) (fun z => absurd z c9) (fun _ => ?_)
      refine lv_iload_n hx hb dM_has_12 rfl (lv_at hl 2 rfl) ?_
      refine zif (C := a2 < 0) (fun c13 => ?_) (fun c13 => ?_)
      · skip
        refine lv_if_lt (tgt := 25) hx hb dM_has_13 (by decide) (fun _ => ?_) (fun z => absurd c13 z)
        refine lv_iconst (v := 0) hx hb dM_has_25 (by decide) ?_
        exact zB_ret hx hb hr hlocks (Or.inl rfl) dM_has_26
      · skip
        refine lv_if_lt (tgt := 25) hx hb dM_has_13 (by decide) (fun z => absurd z c13) (fun _ => ?_)
        refine lv_iload_n hx hb dM_has_16 rfl (lv_at hl 2 rfl) ?_
        refine lv_iconst (v := 4) hx hb dM_has_17 (by decide) ?_
        refine zif (C := 4 ≤ a2) (fun c18 => ?_) (fun c18 => ?_)
        · skip
          refine lv_icmp_ge (tgt := 25) hx hb dM_has_18 (by decide) (fun _ => ?_) (fun z => absurd c18 z)
          refine lv_iconst (v := 0) hx hb dM_has_25 (by decide) ?_
          exact zB_ret hx hb hr hlocks (Or.inl rfl) dM_has_26
        · skip
          refine lv_icmp_ge (tgt := 25) hx hb dM_has_18 (by decide) (fun z => absurd z c18) (fun _ => ?_)
          refine lv_iconst (v := 1) hx hb dM_has_21 (by decide) ?_
          refine lv_goto (tgt := 26) hx hb dM_has_22 (by decide) ?_
          exact zB_ret hx hb hr hlocks (Or.inr rfl) dM_has_26
abbrev rmM_formOf : Room := { frames := 1, cells := 0, slots := 0, locals := 22 }
set_option maxHeartbeats 4000000 in
set_option maxRecDepth 100000 in
theorem kM_formOf (l : Launch) (D : va_G) (Y : Nat → ClassId) (h : Nat → Nat) (n : Nat) (hn : n ≤ 24) (S : vM) (a1 : Int32) (a2 : Int32) : Met l yM_formOf wsM_formOf rmM_formOf (va_Pc [.ref (h 0), .int a1, .int a2] (zPre D vwCl (tysK Y) (wM Y h n S))) (vp_Si (fun r => r = (fM_formOf n S a1 a2))) 0 0 (fun _ => False) := by
  refine Met.ofW (cc := cM_formOf) (maxL := 3) (ret := (some .int)) (by decide) rfl ?_
  intro p e s m args below meth c s₁ B hml hv
  obtain ⟨rfl, hP, hK⟩ := hv
  have hx := B.exec
  have hb := B.bytes
  have hr := B.returns
  have hts : ∀ w ∈ uT, w.before _ s = true := fun w hw => atoms_spec (ws := wsM_formOf) B.pre w (List.mem_cons_of_mem _ hw)
  have hown : s.vm.findClass RM = some m.cls := findClass_of_methodNamed B.named
  have hlocks := B.notSynchronized
  have hl := lv_entry ([.ref (h 0), .int a1, .int a2]) (n := 3) (Nat.le_of_ble_eq_true rfl)
  rw [lg_entry_eq]
  generalize (lg_sl ([.ref (h 0), .int a1, .int a2]) ++ List.replicate (3 - (lg_sl ([.ref (h 0), .int a1, .int a2])).length) Slot.unset).toArray = ls at hl ⊢
  have hl : lv_has ls 3 [(0, .ref (h 0)), (1, .int a1), (2, .int a2)] := hl
  show W p l e rmM_formOf s m _ below meth c s.heap [] 0 0 (zI below _ s (fM_formOf n S a1 a2)) _
  unfold fM_formOf
  show W p l e rmM_formOf s m _ below meth c s.heap [] 0 0 (zI below _ s _) (F0 m 0 ls [])
  refine lv_aload_n hx hb dM_formOf_0 rfl (lv_at hl 0 rfl) ?_
  refine lv_iload_n hx hb dM_formOf_1 rfl (lv_at hl 1 rfl) ?_
  refine lv_iload_n hx hb dM_formOf_2 rfl (lv_at hl 2 rfl) ?_
  refine qVi (rest := []) ⟨hx, hb, hml, hown, hts⟩ (kM_has l D Y h n hn S a1 a2) (cwV 2 hts (gV uw81 uw82 uw83 uw84 ucM_has) rfl rfl rfl hvM_has ⟨Nat.le_of_ble_eq_true rfl, Nat.le_of_ble_eq_true rfl⟩) hK hP (va_recv hK hP (ci := 2) (q0 := 0) rfl rfl) rfl hl.1 rfl (Nat.le_of_ble_eq_true rfl) dM_formOf_3 ⟨Nat.le_of_ble_eq_true rfl, Nat.le_of_ble_eq_true rfl⟩ ?_
  refine zif (C := (fM_has n a1 a2) = 0) (fun c6 => ?_) (fun c6 => ?_)
  · skip
    refine lv_if_eq (tgt := 22) hx hb dM_formOf_6 (by decide) (fun _ => ?_) (fun z => absurd c6 z)
    refine lv_iconst (v := (-1)) hx hb dM_formOf_22 (by decide) ?_
    exact zI_ret hx hb hr hlocks dM_formOf_23
  · skip
    refine lv_if_eq (tgt := 22) hx hb dM_formOf_6 (by decide) (fun z => absurd z c6) (fun _ => ?_)
    refine lv_aload_n hx hb dM_formOf_9 rfl (lv_at hl 0 rfl) ?_
    refine va_get (D := D) (ci := 2) (v := .ref (h 1)) (C := RM) (T := TM) (N := 2) hx hb hts hinM hown hK hP 0 rfl rfl 1 (by decide) (hts _ uw85) (fun _ h9 => h9) rfl dM_formOf_10 ?_
    refine lv_iload_n hx hb dM_formOf_13 rfl (lv_at hl 1 rfl) ?_
    refine lv_iconst (v := 4) hx hb dM_formOf_14 (by decide) ?_
    refine lv_imul hx hb dM_formOf_15 ?_
    refine lv_iload_n hx hb dM_formOf_16 rfl (lv_at hl 2 rfl) ?_
    refine lv_iadd hx hb dM_formOf_17 ?_
    refine va_iald hx hb hK hP 1 0 rfl rfl (fm_in hn c6) dM_formOf_18 ?_
    refine lv_goto (tgt := 23) hx hb dM_formOf_19 (by decide) ?_
    exact zI_ret hx hb hr hlocks dM_formOf_23
abbrev rmM_isKnownOfBoth : Room := { frames := 2, cells := 0, slots := 0, locals := 44 }
set_option maxHeartbeats 4000000 in
set_option maxRecDepth 100000 in
theorem kM_isKnownOfBoth (l : Launch) (D : va_G) (Y : Nat → ClassId) (h : Nat → Nat) (n : Nat) (hn : n ≤ 24) (S : vM) (a1 : Int32) (a2 : Int32) (a3 : Int32) : Met l yM_isKnownOfBoth wsM_isKnownOfBoth rmM_isKnownOfBoth (va_Pc [.ref (h 0), .int a1, .int a2, .int a3] (zPre D vwCl (tysK Y) (wM Y h n S))) (vp_Si (fun r => r = (fM_isKnownOfBoth n S a1 a2 a3))) 0 0 (fun _ => False) := by
  refine Met.ofW (cc := cM_isKnownOfBoth) (maxL := 4) (ret := (some .boolean)) (by decide) rfl ?_
  intro p e s m args below meth c s₁ B hml hv
  obtain ⟨rfl, hP, hK⟩ := hv
  have hx := B.exec
  have hb := B.bytes
  have hr := B.returns
  have hts : ∀ w ∈ uT, w.before _ s = true := fun w hw => atoms_spec (ws := wsM_isKnownOfBoth) B.pre w (List.mem_cons_of_mem _ hw)
  have hown : s.vm.findClass RM = some m.cls := findClass_of_methodNamed B.named
  have hlocks := B.notSynchronized
  have hl := lv_entry ([.ref (h 0), .int a1, .int a2, .int a3]) (n := 4) (Nat.le_of_ble_eq_true rfl)
  rw [lg_entry_eq]
  generalize (lg_sl ([.ref (h 0), .int a1, .int a2, .int a3]) ++ List.replicate (4 - (lg_sl ([.ref (h 0), .int a1, .int a2, .int a3])).length) Slot.unset).toArray = ls at hl ⊢
  have hl : lv_has ls 4 [(0, .ref (h 0)), (1, .int a1), (2, .int a2), (3, .int a3)] := hl
  show W p l e rmM_isKnownOfBoth s m _ below meth c s.heap [] 0 0 (zI below _ s (fM_isKnownOfBoth n S a1 a2 a3)) _
  unfold fM_isKnownOfBoth
  show W p l e rmM_isKnownOfBoth s m _ below meth c s.heap [] 0 0 (zI below _ s _) (F0 m 0 ls [])
  refine lv_aload_n hx hb dM_isKnownOfBoth_0 rfl (lv_at hl 0 rfl) ?_
  refine lv_iload_n hx hb dM_isKnownOfBoth_1 rfl (lv_at hl 1 rfl) ?_
  refine lv_iload_n hx hb dM_isKnownOfBoth_2 rfl (lv_at hl 3 rfl) ?_
  refine qVi (rest := []) ⟨hx, hb, hml, hown, hts⟩ (kM_formOf l D Y h n hn S a1 a3) (cwV 2 hts (gV uw86 uw87 uw88 uw84 ucM_formOf) rfl rfl rfl hvM_formOf ⟨Nat.le_of_ble_eq_true rfl, Nat.le_of_ble_eq_true rfl⟩) hK hP (va_recv hK hP (ci := 2) (q0 := 0) rfl rfl) rfl hl.1 rfl (Nat.le_of_ble_eq_true rfl) dM_isKnownOfBoth_3 ⟨Nat.le_of_ble_eq_true rfl, Nat.le_of_ble_eq_true rfl⟩ ?_
  refine lv_iconst (v := (-1)) hx hb dM_isKnownOfBoth_6 (by decide) ?_
  refine zif (C := (fM_formOf n S a1 a3) = (-1)) (fun c7 => ?_) (fun c7 => ?_)
  · skip
    refine lv_icmp_eq (tgt := 24) hx hb dM_isKnownOfBoth_7 (by decide) (fun _ => ?_) (fun z => absurd c7 z)
    refine lv_iconst (v := 0) hx hb dM_isKnownOfBoth_24 (by decide) ?_
    exact zB_ret hx hb hr hlocks (Or.inl rfl) dM_isKnownOfBoth_25
  · skip
    refine lv_icmp_eq (tgt := 24) hx hb dM_isKnownOfBoth_7 (by decide) (fun z => absurd z c7) (fun _ => ?_)
    refine lv_aload_n hx hb dM_isKnownOfBoth_10 rfl (lv_at hl 0 rfl) ?_
    refine lv_iload_n hx hb dM_isKnownOfBoth_11 rfl (lv_at hl 2 rfl) ?_
    refine lv_iload_n hx hb dM_isKnownOfBoth_12 rfl (lv_at hl 3 rfl) ?_
    refine qVi (rest := []) ⟨hx, hb, hml, hown, hts⟩ (kM_formOf l D Y h n hn S a2 a3) (cwV 2 hts (gV uw86 uw87 uw88 uw84 ucM_formOf) rfl rfl rfl hvM_formOf ⟨Nat.le_of_ble_eq_true rfl, Nat.le_of_ble_eq_true rfl⟩) hK hP (va_recv hK hP (ci := 2) (q0 := 0) rfl rfl) rfl hl.1 rfl (Nat.le_of_ble_eq_true rfl) dM_isKnownOfBoth_13 ⟨Nat.le_of_ble_eq_true rfl, Nat.le_of_ble_eq_true rfl⟩ ?_
    refine lv_iconst (v := (-1)) hx hb dM_isKnownOfBoth_16 (by decide) ?_
    refine zif (C := (fM_formOf n S a2 a3) = (-1)) (fun c17 => ?_) (fun c17 => ?_)
    · skip
      refine lv_icmp_eq (tgt := 24) hx hb dM_isKnownOfBoth_17 (by decide) (fun _ => ?_) (fun z => absurd c17 z)
      refine lv_iconst (v := 0) hx hb dM_isKnownOfBoth_24 (by decide) ?_
      exact zB_ret hx hb hr hlocks (Or.inl rfl) dM_isKnownOfBoth_25
    · skip
      refine lv_icmp_eq (tgt := 24) hx hb dM_isKnownOfBoth_17 (by decide) (fun z => absurd z c17) (fun _ => ?_)
      refine lv_iconst (v := 1) hx hb dM_isKnownOfBoth_20 (by decide) ?_
      refine lv_goto (tgt := 25) hx hb dM_isKnownOfBoth_21 (by decide) ?_
      exact zB_ret hx hb hr hlocks (Or.inr rfl) dM_isKnownOfBoth_25
abbrev rmM_difference : Room := { frames := 2, cells := 0, slots := 0, locals := 44 }
set_option maxHeartbeats 4000000 in
set_option maxRecDepth 100000 in
theorem kM_difference (l : Launch) (D : va_G) (Y : Nat → ClassId) (h : Nat → Nat) (n : Nat) (hn : n ≤ 24) (S : vM) (a1 : Int32) (a2 : Int32) (a3 : Int32) : Met l yM_difference wsM_difference rmM_difference (va_Pc [.ref (h 0), .int a1, .int a2, .int a3] (zPre D vwCl (tysK Y) (wM Y h n S))) (vp_Si (fun r => r = (fM_difference n S a1 a2 a3))) 0 0 (fun _ => False) := by
  refine Met.ofW (cc := cM_difference) (maxL := 4) (ret := (some .int)) (by decide) rfl ?_
  intro p e s m args below meth c s₁ B hml hv
  obtain ⟨rfl, hP, hK⟩ := hv
  have hx := B.exec
  have hb := B.bytes
  have hr := B.returns
  have hts : ∀ w ∈ uT, w.before _ s = true := fun w hw => atoms_spec (ws := wsM_difference) B.pre w (List.mem_cons_of_mem _ hw)
  have hown : s.vm.findClass RM = some m.cls := findClass_of_methodNamed B.named
  have hlocks := B.notSynchronized
  have hl := lv_entry ([.ref (h 0), .int a1, .int a2, .int a3]) (n := 4) (Nat.le_of_ble_eq_true rfl)
  rw [lg_entry_eq]
  generalize (lg_sl ([.ref (h 0), .int a1, .int a2, .int a3]) ++ List.replicate (4 - (lg_sl ([.ref (h 0), .int a1, .int a2, .int a3])).length) Slot.unset).toArray = ls at hl ⊢
  have hl : lv_has ls 4 [(0, .ref (h 0)), (1, .int a1), (2, .int a2), (3, .int a3)] := hl
  show W p l e rmM_difference s m _ below meth c s.heap [] 0 0 (zI below _ s (fM_difference n S a1 a2 a3)) _
  unfold fM_difference
  show W p l e rmM_difference s m _ below meth c s.heap [] 0 0 (zI below _ s _) (F0 m 0 ls [])
  refine lv_aload_n hx hb dM_difference_0 rfl (lv_at hl 0 rfl) ?_
  refine lv_iload_n hx hb dM_difference_1 rfl (lv_at hl 1 rfl) ?_
  refine lv_iload_n hx hb dM_difference_2 rfl (lv_at hl 3 rfl) ?_
  refine qVi (rest := []) ⟨hx, hb, hml, hown, hts⟩ (kM_formOf l D Y h n hn S a1 a3) (cwV 2 hts (gV uw86 uw87 uw88 uw84 ucM_formOf) rfl rfl rfl hvM_formOf ⟨Nat.le_of_ble_eq_true rfl, Nat.le_of_ble_eq_true rfl⟩) hK hP (va_recv hK hP (ci := 2) (q0 := 0) rfl rfl) rfl hl.1 rfl (Nat.le_of_ble_eq_true rfl) dM_difference_3 ⟨Nat.le_of_ble_eq_true rfl, Nat.le_of_ble_eq_true rfl⟩ ?_
  refine lv_aload_n hx hb dM_difference_6 rfl (lv_at hl 0 rfl) ?_
  refine lv_iload_n hx hb dM_difference_7 rfl (lv_at hl 2 rfl) ?_
  refine lv_iload_n hx hb dM_difference_8 rfl (lv_at hl 3 rfl) ?_
  refine qVi (rest := [.int (fM_formOf n S a1 a3)]) ⟨hx, hb, hml, hown, hts⟩ (kM_formOf l D Y h n hn S a2 a3) (cwV 2 hts (gV uw86 uw87 uw88 uw84 ucM_formOf) rfl rfl rfl hvM_formOf ⟨Nat.le_of_ble_eq_true rfl, Nat.le_of_ble_eq_true rfl⟩) hK hP (va_recv hK hP (ci := 2) (q0 := 0) rfl rfl) rfl hl.1 rfl (Nat.le_of_ble_eq_true rfl) dM_difference_9 ⟨Nat.le_of_ble_eq_true rfl, Nat.le_of_ble_eq_true rfl⟩ ?_
  refine lv_isub hx hb dM_difference_12 ?_
  refine q_abs hx hb (hml.trans hl.1.symm) hown (hts _ uw89) (hts _ uw90) (hts _ uw64) (hts _ ucJ_abs) (Nat.le_of_ble_eq_true rfl) (Nat.le_of_ble_eq_true rfl) (Nat.le_of_ble_eq_true rfl) (Nat.le_of_ble_eq_true rfl) dM_difference_13 ?_
  exact zI_ret hx hb hr hlocks dM_difference_16
abbrev rmM_knownForms : Room := { frames := 2, cells := 0, slots := 0, locals := 44 }
set_option maxHeartbeats 4000000 in
set_option maxRecDepth 100000 in
theorem tM_knownForms_4 {p : Program} {l : Launch} {e : Env} {s : State} {m : MethodId} {args : Array Value} {below : List Frame} {meth : Method} {c : Code} {D : va_G} {Y : Nat → ClassId} {h : Nat → Nat} {n : Nat} (hn : n ≤ 24) {S : vM} (CF : CallFix p m c cM_knownForms 4 s args uT RM) (hr : meth.sig.returnType = (some .int)) (hlocks : meth.locks = false) (hK : va_K D vwCl (tysK Y) s) (hP : va_P D vwCl (wM Y h n S) s.heap) : ∀ (k i : Nat) (x1 : Int32) (x2 : Int32), i + k = n → ∀ ls : Array Slot, lv_has ls 4 [(0, .ref (h 0)), (1, .int x1), (2, .int x2), (3, .int (nI i))] → W p l e rmM_knownForms s m args below meth c s.heap [] 0 0 (zI below args s (fM_knownForms_4 n S k i x1 x2)) (F0 m 4 ls []) := by
  obtain ⟨hx, hb, hml, hown, hts⟩ := CF
  intro k
  induction k with
  | zero =>
    intro i x1 x2 hi  ls hl
    rw [fM_knownForms_4]
    refine lv_iload_n hx hb dM_knownForms_4 rfl (lv_at hl 3 rfl) ?_
    refine lv_aload_n hx hb dM_knownForms_5 rfl (lv_at hl 0 rfl) ?_
    refine va_get (D := D) (ci := 2) (v := .int (nI n)) (C := RM) (T := TM) (N := 2) hx hb hts hinM hown hK hP 0 rfl rfl 0 (by decide) (hts _ uw80) (fun _ h9 => h9) rfl dM_knownForms_6 ?_
    refine lv_icmp_ge (tgt := 31) hx hb dM_knownForms_9 (by decide) (fun _ => ?_) (fun z => absurd (lp_ge (n := n) hi) z)
    refine lv_iload_n hx hb dM_knownForms_31 rfl (lv_at hl 2 rfl) ?_
    exact zI_ret hx hb hr hlocks dM_knownForms_32
  | succ k ih =>
    intro i x1 x2 hi  ls hl
    rw [fM_knownForms_4]
    refine lv_iload_n hx hb dM_knownForms_4 rfl (lv_at hl 3 rfl) ?_
    refine lv_aload_n hx hb dM_knownForms_5 rfl (lv_at hl 0 rfl) ?_
    refine va_get (D := D) (ci := 2) (v := .int (nI n)) (C := RM) (T := TM) (N := 2) hx hb hts hinM hown hK hP 0 rfl rfl 0 (by decide) (hts _ uw80) (fun _ h9 => h9) rfl dM_knownForms_6 ?_
    refine lv_icmp_ge (tgt := 31) hx hb dM_knownForms_9 (by decide) (fun z => absurd z (lp_lt (n := n) hi (by omega))) (fun _ => ?_)
    refine lv_aload_n hx hb dM_knownForms_12 rfl (lv_at hl 0 rfl) ?_
    refine lv_iload_n hx hb dM_knownForms_13 rfl (lv_at hl 3 rfl) ?_
    refine lv_iload_n hx hb dM_knownForms_14 rfl (lv_at hl 1 rfl) ?_
    refine qVi (rest := []) ⟨hx, hb, hml, hown, hts⟩ (kM_formOf l D Y h n hn S (nI i) x1) (cwV 2 hts (gV uw86 uw87 uw88 uw84 ucM_formOf) rfl rfl rfl hvM_formOf ⟨Nat.le_of_ble_eq_true rfl, Nat.le_of_ble_eq_true rfl⟩) hK hP (va_recv hK hP (ci := 2) (q0 := 0) rfl rfl) rfl hl.1 rfl (Nat.le_of_ble_eq_true rfl) dM_knownForms_15 ⟨Nat.le_of_ble_eq_true rfl, Nat.le_of_ble_eq_true rfl⟩ ?_
    refine lv_iconst (v := (-1)) hx hb dM_knownForms_18 (by decide) ?_
    refine zif (C := (fM_formOf n S (nI i) x1) = (-1)) (fun c19 => ?_) (fun c19 => ?_)
    · skip
      refine lv_icmp_eq (tgt := 25) hx hb dM_knownForms_19 (by decide) (fun _ => ?_) (fun z => absurd c19 z)
      refine lv_iinc (v := (nI (i + 1))) (lv' := [(3, .int (nI (i + 1))), (0, .ref (h 0)), (1, .int x1), (2, .int x2)]) hx hb dM_knownForms_25 hl (k := 3) rfl (nI_1 _) (by decide) rfl (fun ls hl => ?_)
      refine lv_goto (tgt := 4) hx hb dM_knownForms_28 (by decide) ?_
      exact ih (i + 1) x1 x2 (by omega) ls (lv_sub hl [1, 2, 3, 0] rfl)
    · skip
      refine lv_icmp_eq (tgt := 25) hx hb dM_knownForms_19 (by decide) (fun z => absurd z c19) (fun _ => ?_)
      refine lv_iinc (v := (x2 + 1)) (lv' := [(2, .int (x2 + 1)), (0, .ref (h 0)), (1, .int x1), (3, .int (nI i))]) hx hb dM_knownForms_22 hl (k := 2) rfl (rfl) (by decide) rfl (fun ls hl => ?_)
      refine lv_iinc (v := (nI (i + 1))) (lv' := [(3, .int (nI (i + 1))), (2, .int (x2 + 1)), (0, .ref (h 0)), (1, .int x1)]) hx hb dM_knownForms_25 hl (k := 3) rfl (nI_1 _) (by decide) rfl (fun ls hl => ?_)
      refine lv_goto (tgt := 4) hx hb dM_knownForms_28 (by decide) ?_
      exact ih (i + 1) x1 (x2 + 1) (by omega) ls (lv_sub hl [2, 3, 1, 0] rfl)
set_option maxHeartbeats 4000000 in
set_option maxRecDepth 100000 in
theorem kM_knownForms (l : Launch) (D : va_G) (Y : Nat → ClassId) (h : Nat → Nat) (n : Nat) (hn : n ≤ 24) (S : vM) (a1 : Int32) : Met l yM_knownForms wsM_knownForms rmM_knownForms (va_Pc [.ref (h 0), .int a1] (zPre D vwCl (tysK Y) (wM Y h n S))) (vp_Si (fun r => r = (fM_knownForms n S a1))) 0 0 (fun _ => False) := by
  refine Met.ofW (cc := cM_knownForms) (maxL := 4) (ret := (some .int)) (by decide) rfl ?_
  intro p e s m args below meth c s₁ B hml hv
  obtain ⟨rfl, hP, hK⟩ := hv
  have hx := B.exec
  have hb := B.bytes
  have hr := B.returns
  have hts : ∀ w ∈ uT, w.before _ s = true := fun w hw => atoms_spec (ws := wsM_knownForms) B.pre w (List.mem_cons_of_mem _ hw)
  have hown : s.vm.findClass RM = some m.cls := findClass_of_methodNamed B.named
  have hlocks := B.notSynchronized
  have hl := lv_entry ([.ref (h 0), .int a1]) (n := 4) (Nat.le_of_ble_eq_true rfl)
  rw [lg_entry_eq]
  generalize (lg_sl ([.ref (h 0), .int a1]) ++ List.replicate (4 - (lg_sl ([.ref (h 0), .int a1])).length) Slot.unset).toArray = ls at hl ⊢
  have hl : lv_has ls 4 [(0, .ref (h 0)), (1, .int a1)] := hl
  show W p l e rmM_knownForms s m _ below meth c s.heap [] 0 0 (zI below _ s (fM_knownForms n S a1)) _
  unfold fM_knownForms
  show W p l e rmM_knownForms s m _ below meth c s.heap [] 0 0 (zI below _ s _) (F0 m 0 ls [])
  refine lv_iconst (v := 0) hx hb dM_knownForms_0 (by decide) ?_
  refine lv_istore_n (lv' := [(2, .int 0), (0, .ref (h 0)), (1, .int a1)]) hx hb dM_knownForms_1 rfl hl (by decide) rfl (fun ls hl => ?_)
  refine lv_iconst (v := 0) hx hb dM_knownForms_2 (by decide) ?_
  refine lv_istore_n (lv' := [(3, .int 0), (2, .int 0), (0, .ref (h 0)), (1, .int a1)]) hx hb dM_knownForms_3 rfl hl (by decide) rfl (fun ls hl => ?_)
  exact tM_knownForms_4 hn ⟨hx, hb, hml, hown, hts⟩ hr hlocks hK hP n 0 a1 0 (by omega) ls (lv_sub hl [2, 3, 1, 0] rfl)
