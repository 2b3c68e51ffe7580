abbrev rmA_fill : Room := { frames := 0, cells := 0, slots := 0, locals := 0 }
set_option maxHeartbeats 4000000 in
set_option maxRecDepth 100000 in
theorem tA_fill_5 {p : Program} {l : Launch} {e : Env} {s : State} {m : MethodId} {args : Array Value} {below : List Frame} {meth : Method} {c : Code} {D : va_G} {Y : Nat → ClassId} {h : Nat → Nat} {n : Nat} (hn : n ≤ 600) {A : Nat → Prop} (hA : ∀ q : Nat, s.heap.size ≤ q → A q) (CF : CallFix p m c cA_fill 4 s args uT RA) (hr : meth.sig.returnType = none) (hlocks : meth.locks = false) (hK : va_K D vwCl (tysK Y) s) : ∀ (k i : Nat) (x1 : Int32) (x3 : Nat) (S : (Nat → Int32)), i + k = x3 → x3 = n → ∀ (H : Heap) (locs : List Loc), va_P D vwCl (wA Y h n S) H → va_D A (wA Y h n S) → va_S A s.heap H locs → ∀ ls : Array Slot, lv_has ls 4 [(0, .ref (h 0)), (1, .int x1), (3, .int (nI x3)), (2, .int (nI i))] → W p l e rmA_fill s m args below meth c H locs 0 0 (zMv D vwCl (tysK Y) A (wA Y h n) below args s 0 0 (fA_fill_5 n k i x1 x3 S)) (F0 m 5 ls []) := by
  obtain ⟨hx, hb, hml, hown, hts⟩ := CF
  intro k
  induction k with
  | zero =>
    intro i x1 x3 S hi hx3 H locs hP hD hS ls hl
    rw [fA_fill_5]
    refine lv_iload_n hx hb dA_fill_5 rfl (lv_at hl 3 rfl) ?_
    refine lv_iload_n hx hb dA_fill_6 rfl (lv_at hl 2 rfl) ?_
    refine lv_icmp_ge (tgt := 20) hx hb dA_fill_7 (by decide) (fun _ => ?_) (fun z => absurd (lp_ge (n := x3) hi) z)
    exact zMv_ret (u := S) hx hb hr hlocks hK hP hD hS dA_fill_20
  | succ k ih =>
    intro i x1 x3 S hi hx3 H locs hP hD hS ls hl
    rw [fA_fill_5]
    refine lv_iload_n hx hb dA_fill_5 rfl (lv_at hl 3 rfl) ?_
    refine lv_iload_n hx hb dA_fill_6 rfl (lv_at hl 2 rfl) ?_
    refine lv_icmp_ge (tgt := 20) hx hb dA_fill_7 (by decide) (fun z => absurd z (lp_lt (n := x3) hi (by omega))) (fun _ => ?_)
    refine lv_aload_n hx hb dA_fill_10 rfl (lv_at hl 0 rfl) ?_
    refine lv_iload_n hx hb dA_fill_11 rfl (lv_at hl 3 rfl) ?_
    refine lv_iload_n hx hb dA_fill_12 rfl (lv_at hl 1 rfl) ?_
    refine va_iast hx hb hK hP hD hS 0 0 rfl rfl (vp_in_nI (n := i) (by omega) (by omega)) dA_fill_13 (fun H locs hP hD hS => ?_)
    have hP : va_P D vwCl (wA Y h n (upd S ((nI i) : Int32).toNatClampNeg x1)) H := hP
    have hD : va_D A (wA Y h n (upd S ((nI i) : Int32).toNatClampNeg x1)) := hD
    refine lv_iinc (v := (nI (i + 1))) (lv' := [(2, .int (nI (i + 1))), (0, .ref (h 0)), (1, .int x1), (3, .int (nI x3))]) hx hb dA_fill_14 hl (k := 3) rfl (nI_1 _) (by decide) rfl (fun ls hl => ?_)
    refine lv_goto (tgt := 5) hx hb dA_fill_17 (by decide) ?_
    exact ih (i + 1) x1 x3 (upd S ((nI i) : Int32).toNatClampNeg x1) (by omega) (hx3) _ _ hP hD hS ls (lv_sub hl [1, 2, 3, 0] rfl)
set_option maxHeartbeats 4000000 in
set_option maxRecDepth 100000 in
theorem kA_fill (l : Launch) (D : va_G) (Y : Nat → ClassId) (h : Nat → Nat) (n : Nat) (hn : n ≤ 600) (S : (Nat → Int32)) (a1 : Int32) (sz : Nat) : Met l yA_fill wsA_fill rmA_fill (va_Pc [.ref (h 0), .int a1] (zPreM D vwCl (tysK Y) (wA Y h n S) sz)) (va_Qv (fun u => u = (fA_fill n S a1)) (zAt D vwCl (tysK Y) (va_A (wA Y h n S) sz) (wA Y h n)) (va_A (wA Y h n S) sz)) 0 0 (va_A (wA Y h n S) sz) := by
  refine Met.ofW (cc := cA_fill) (maxL := 4) (ret := none) (by decide) rfl ?_
  intro p e s m args below meth c s₁ B hml hv
  obtain ⟨rfl, hsz, hP, hK, hD0⟩ := hv
  have hx := B.exec
  have hb := B.bytes
  have hr := B.returns
  have hts : ∀ w ∈ uT, w.before _ s = true := fun w hw => atoms_spec (ws := wsA_fill) B.pre w (List.mem_cons_of_mem _ hw)
  have hown : s.vm.findClass RA = some m.cls := findClass_of_methodNamed B.named
  have hlocks := B.notSynchronized
  subst hsz
  have hD := hD0.self (sz := s.heap.size)
  generalize hAe : va_A (wA Y h n S) s.heap.size = A at hD ⊢
  have hA : ∀ q : Nat, s.heap.size ≤ q → A q := fun q h => by rw [← hAe]; exact Or.inr h
  have hS : va_S A s.heap s.heap [] := va_S.rf
  have hl := lv_entry ([.ref (h 0), .int a1]) (n := 4) (Nat.le_of_ble_eq_true rfl)
  rw [lg_entry_eq]
  generalize (lg_sl ([.ref (h 0), .int a1]) ++ List.replicate (4 - (lg_sl ([.ref (h 0), .int a1])).length) Slot.unset).toArray = ls at hl ⊢
  have hl : lv_has ls 4 [(0, .ref (h 0)), (1, .int a1)] := hl
  show W p l e rmA_fill s m _ below meth c s.heap [] 0 0 (zMv D vwCl (tysK Y) A (wA Y h n) below _ s 0 0 (fA_fill n S a1)) _
  unfold fA_fill
  show W p l e rmA_fill s m _ below meth c s.heap [] 0 0 (zMv D vwCl (tysK Y) A (wA Y h n) below _ s 0 0 _) (F0 m 0 ls [])
  refine lv_iconst (v := 0) hx hb dA_fill_0 (by decide) ?_
  refine lv_istore_n (lv' := [(2, .int 0), (0, .ref (h 0)), (1, .int a1)]) hx hb dA_fill_1 rfl hl (by decide) rfl (fun ls hl => ?_)
  refine lv_aload_n hx hb dA_fill_2 rfl (lv_at hl 1 rfl) ?_
  refine va_alen (v := (nI n)) hx hb hK hP 0 0 rfl rfl rfl dA_fill_3 ?_
  refine lv_istore_n (lv' := [(3, .int (nI n)), (2, .int 0), (0, .ref (h 0)), (1, .int a1)]) hx hb dA_fill_4 rfl hl (by decide) rfl (fun ls hl => ?_)
  exact tA_fill_5 hn hA ⟨hx, hb, hml, hown, hts⟩ hr hlocks hK n 0 a1 n S (by omega) (rfl) _ _ hP hD hS ls (lv_sub hl [2, 3, 0, 1] rfl)
abbrev rmF_isPart : Room := { frames := 0, cells := 0, slots := 0, locals := 0 }
set_option maxHeartbeats 4000000 in
set_option maxRecDepth 100000 in
theorem kF_isPart (l : Launch) (D : va_G) (Y : Nat → ClassId) (a1 : Int32) : Met l yF_isPart wsF_isPart rmF_isPart (va_Pc [.int a1] (zPre D vwCl (tysK Y) ([]))) (vp_Si (fun r => r = (fF_isPart a1))) 0 0 (fun _ => False) := by
  refine Met.ofW (cc := cF_isPart) (maxL := 1) (ret := (some .boolean)) (by decide) rfl ?_
  intro p e s m args below meth c s₁ B hml hv
  obtain ⟨rfl, hP, hK⟩ := hv
  have hx := B.exec
  have hb := B.bytes
  have hr := B.returns
  have hts : ∀ w ∈ uT, w.before _ s = true := fun w hw => atoms_spec (ws := wsF_isPart) B.pre w (List.mem_cons_of_mem _ hw)
  have hown : s.vm.findClass RF = some m.cls := findClass_of_methodNamed B.named
  have hlocks := B.notSynchronized
  have hl := lv_entry ([.int a1]) (n := 1) (Nat.le_of_ble_eq_true rfl)
  rw [lg_entry_eq]
  generalize (lg_sl ([.int a1]) ++ List.replicate (1 - (lg_sl ([.int a1])).length) Slot.unset).toArray = ls at hl ⊢
  have hl : lv_has ls 1 [(0, .int a1)] := hl
  show W p l e rmF_isPart s m _ below meth c s.heap [] 0 0 (zI below _ s (fF_isPart a1)) _
  unfold fF_isPart
  show W p l e rmF_isPart s m _ below meth c s.heap [] 0 0 (zI below _ s _) (F0 m 0 ls [])
  refine lv_iload_n hx hb dF_isPart_0 rfl (lv_at hl 0 rfl) ?_
  refine zif (C := a1 = 0) (fun c1 => ?_) (fun c1 => ?_)
  · skip
    refine lv_if_eq (tgt := 9) hx hb dF_isPart_1 (by decide) (fun _ => ?_) (fun z => absurd c1 z)
    refine lv_iconst (v := 1) hx hb dF_isPart_9 (by decide) ?_
    refine lv_goto (tgt := 14) hx hb dF_isPart_10 (by decide) ?_
    exact zB_ret hx hb hr hlocks (Or.inr rfl) dF_isPart_14
  · skip
    refine lv_if_eq (tgt := 9) hx hb dF_isPart_1 (by decide) (fun z => absurd z c1) (fun _ => ?_)
    refine lv_iload_n hx hb dF_isPart_4 rfl (lv_at hl 0 rfl) ?_
    refine lv_iconst (v := 1) hx hb dF_isPart_5 (by decide) ?_
    refine zif (C := a1 = 1) (fun c6 => ?_) (fun c6 => ?_)
    · skip
      refine lv_icmp_ne (tgt := 13) hx hb dF_isPart_6 (by decide) (fun z => absurd c6 z) (fun _ => ?_)
      refine lv_iconst (v := 1) hx hb dF_isPart_9 (by decide) ?_
      refine lv_goto (tgt := 14) hx hb dF_isPart_10 (by decide) ?_
      exact zB_ret hx hb hr hlocks (Or.inr rfl) dF_isPart_14
    · skip
      refine lv_icmp_ne (tgt := 13) hx hb dF_isPart_6 (by decide) (fun _ => ?_) (fun z => absurd z c6)
      refine lv_iconst (v := 0) hx hb dF_isPart_13 (by decide) ?_
      exact zB_ret hx hb hr hlocks (Or.inl rfl) dF_isPart_14
abbrev rmF_commonDivisor : Room := { frames := 0, cells := 0, slots := 0, locals := 0 }
set_option maxHeartbeats 4000000 in
set_option maxRecDepth 100000 in
theorem tF_commonDivisor_9 {p : Program} {l : Launch} {e : Env} {s : State} {m : MethodId} {args : Array Value} {below : List Frame} {meth : Method} {c : Code} {D : va_G} {Y : Nat → ClassId} (CF : CallFix p m c cF_commonDivisor 11 s args uT RF) (hr : meth.sig.returnType = (some .long)) (hlocks : meth.locks = false) (hK : va_K D vwCl (tysK Y) s) (hP : va_P D vwCl ([]) s.heap) : ∀ (k i : Nat) (x0 : Int64) (x2 : Int64) (x4 : Int64) (x6 : Int64), i + k = 100 → ∀ ls : Array Slot, lv_has ls 11 [(0, .long x0), (2, .long x2), (4, .long x4), (6, .long x6), (8, .int (nI i))] → W p l e rmF_commonDivisor s m args below meth c s.heap [] 0 0 (zL below args s (fF_commonDivisor_9 k i x0 x2 x4 x6)) (F0 m 9 ls []) := by
  obtain ⟨hx, hb, hml, hown, hts⟩ := CF
  intro k
  induction k with
  | zero =>
    intro i x0 x2 x4 x6 hi  ls hl
    rw [fF_commonDivisor_9]
    refine lv_iload hx hb dF_commonDivisor_9 (lv_at hl 4 rfl) ?_
    refine lv_bipush (v := 100) hx hb dF_commonDivisor_11 (by decide) ?_
    refine lv_icmp_ge (tgt := 44) hx hb dF_commonDivisor_13 (by decide) (fun _ => ?_) (fun z => absurd (lp_ge (n := 100) hi) z)
    refine lv_lload hx hb dF_commonDivisor_44 (lv_at hl 2 rfl) ?_
    exact zL_ret hx hb hr hlocks dF_commonDivisor_46
  | succ k ih =>
    intro i x0 x2 x4 x6 hi  ls hl
    rw [fF_commonDivisor_9]
    refine lv_iload hx hb dF_commonDivisor_9 (lv_at hl 4 rfl) ?_
    refine lv_bipush (v := 100) hx hb dF_commonDivisor_11 (by decide) ?_
    refine lv_icmp_ge (tgt := 44) hx hb dF_commonDivisor_13 (by decide) (fun z => absurd z (lp_lt (n := 100) hi (by omega))) (fun _ => ?_)
    refine lv_lload hx hb dF_commonDivisor_16 (lv_at hl 3 rfl) ?_
    refine lv_lconst (v := 0) hx hb dF_commonDivisor_18 (by decide) ?_
    refine W.lcmp hx hb dF_commonDivisor_19 ?_
    refine zif (C := (lg_cmp x6 0) = 0) (fun c20 => ?_) (fun c20 => ?_)
    · skip
      refine lv_if_eq (tgt := 44) hx hb dF_commonDivisor_20 (by decide) (fun _ => ?_) (fun z => absurd c20 z)
      refine lv_lload hx hb dF_commonDivisor_44 (lv_at hl 2 rfl) ?_
      exact zL_ret hx hb hr hlocks dF_commonDivisor_46
    · skip
      refine lv_if_eq (tgt := 44) hx hb dF_commonDivisor_20 (by decide) (fun z => absurd z c20) (fun _ => ?_)
      refine lv_lload hx hb dF_commonDivisor_23 (lv_at hl 2 rfl) ?_
      refine lv_lload hx hb dF_commonDivisor_25 (lv_at hl 3 rfl) ?_
      refine lv_lrem hx hb dF_commonDivisor_27 (lcmp_nz c20) ?_
      refine lv_lstore (lv' := [(9, .long (x4 - x4 / x6 * x6)), (0, .long x0), (2, .long x2), (4, .long x4), (6, .long x6), (8, .int (nI i))]) hx hb dF_commonDivisor_28 hl (by decide) rfl (fun ls hl => ?_)
      refine lv_lload hx hb dF_commonDivisor_30 (lv_at hl 4 rfl) ?_
      refine lv_lstore (lv' := [(4, .long x6), (9, .long (x4 - x4 / x6 * x6)), (0, .long x0), (2, .long x2), (6, .long x6), (8, .int (nI i))]) hx hb dF_commonDivisor_32 hl (by decide) rfl (fun ls hl => ?_)
      refine lv_lload hx hb dF_commonDivisor_34 (lv_at hl 1 rfl) ?_
      refine lv_lstore (lv' := [(6, .long (x4 - x4 / x6 * x6)), (4, .long x6), (9, .long (x4 - x4 / x6 * x6)), (0, .long x0), (2, .long x2), (8, .int (nI i))]) hx hb dF_commonDivisor_36 hl (by decide) rfl (fun ls hl => ?_)
      refine lv_iinc (v := (nI (i + 1))) (lv' := [(8, .int (nI (i + 1))), (6, .long (x4 - x4 / x6 * x6)), (4, .long x6), (9, .long (x4 - x4 / x6 * x6)), (0, .long x0), (2, .long x2)]) hx hb dF_commonDivisor_38 hl (k := 5) rfl (nI_1 _) (by decide) rfl (fun ls hl => ?_)
      refine lv_goto (tgt := 9) hx hb dF_commonDivisor_41 (by decide) ?_
      exact ih (i + 1) x0 x2 x6 (x4 - x4 / x6 * x6) (by omega) ls (lv_sub hl [4, 5, 2, 1, 0] rfl)
set_option maxHeartbeats 4000000 in
set_option maxRecDepth 100000 in
theorem kF_commonDivisor (l : Launch) (D : va_G) (Y : Nat → ClassId) (a1 : Int64) (a2 : Int64) : Met l yF_commonDivisor wsF_commonDivisor rmF_commonDivisor (va_Pc [.long a1, .long a2] (zPre D vwCl (tysK Y) ([]))) (vp_Sl (fun r => r = (fF_commonDivisor a1 a2))) 0 0 (fun _ => False) := by
  refine Met.ofW (cc := cF_commonDivisor) (maxL := 11) (ret := (some .long)) (by decide) rfl ?_
  intro p e s m args below meth c s₁ B hml hv
  obtain ⟨rfl, hP, hK⟩ := hv
  have hx := B.exec
  have hb := B.bytes
  have hr := B.returns
  have hts : ∀ w ∈ uT, w.before _ s = true := fun w hw => atoms_spec (ws := wsF_commonDivisor) B.pre w (List.mem_cons_of_mem _ hw)
  have hown : s.vm.findClass RF = some m.cls := findClass_of_methodNamed B.named
  have hlocks := B.notSynchronized
  have hl := lv_entry ([.long a1, .long a2]) (n := 11) (Nat.le_of_ble_eq_true rfl)
  rw [lg_entry_eq]
  generalize (lg_sl ([.long a1, .long a2]) ++ List.replicate (11 - (lg_sl ([.long a1, .long a2])).length) Slot.unset).toArray = ls at hl ⊢
  have hl : lv_has ls 11 [(0, .long a1), (2, .long a2)] := hl
  show W p l e rmF_commonDivisor s m _ below meth c s.heap [] 0 0 (zL below _ s (fF_commonDivisor a1 a2)) _
  unfold fF_commonDivisor
  show W p l e rmF_commonDivisor s m _ below meth c s.heap [] 0 0 (zL below _ s _) (F0 m 0 ls [])
  refine lv_lload_n hx hb dF_commonDivisor_0 rfl (lv_at hl 0 rfl) ?_
  refine lv_lstore (lv' := [(4, .long a1), (0, .long a1), (2, .long a2)]) hx hb dF_commonDivisor_1 hl (by decide) rfl (fun ls hl => ?_)
  refine lv_lload_n hx hb dF_commonDivisor_3 rfl (lv_at hl 2 rfl) ?_
  refine lv_lstore (lv' := [(6, .long a2), (4, .long a1), (0, .long a1), (2, .long a2)]) hx hb dF_commonDivisor_4 hl (by decide) rfl (fun ls hl => ?_)
  refine lv_iconst (v := 0) hx hb dF_commonDivisor_6 (by decide) ?_
  refine lv_istore (lv' := [(8, .int 0), (6, .long a2), (4, .long a1), (0, .long a1), (2, .long a2)]) hx hb dF_commonDivisor_7 hl (by decide) rfl (fun ls hl => ?_)
  exact tF_commonDivisor_9 ⟨hx, hb, hml, hown, hts⟩ hr hlocks hK (zsub [] hP rfl) 100 0 a1 a2 a1 a2 (by omega) ls (lv_sub hl [3, 4, 2, 1, 0] rfl)
abbrev rmF_lowest : Room := { frames := 1, cells := 0, slots := 0, locals := 30 }
set_option maxHeartbeats 4000000 in
set_option maxRecDepth 100000 in
theorem kF_lowest (l : Launch) (D : va_G) (Y : Nat → ClassId) (a1 : Int64) (a2 : Int64) (a3 : Int32) : Met l yF_lowest wsF_lowest rmF_lowest (va_Pc [.long a1, .long a2, .int a3] (zPre D vwCl (tysK Y) ([]))) (vp_Sl (fun r => r = (fF_lowest a1 a2 a3))) 0 0 (fun _ => False) := by
  refine Met.ofW (cc := cF_lowest) (maxL := 7) (ret := (some .long)) (by decide) rfl ?_
  intro p e s m args below meth c s₁ B hml hv
  obtain ⟨rfl, hP, hK⟩ := hv
  have hx := B.exec
  have hb := B.bytes
  have hr := B.returns
  have hts : ∀ w ∈ uT, w.before _ s = true := fun w hw => atoms_spec (ws := wsF_lowest) B.pre w (List.mem_cons_of_mem _ hw)
  have hown : s.vm.findClass RF = some m.cls := findClass_of_methodNamed B.named
  have hlocks := B.notSynchronized
  have hl := lv_entry ([.long a1, .long a2, .int a3]) (n := 7) (Nat.le_of_ble_eq_true rfl)
  rw [lg_entry_eq]
  generalize (lg_sl ([.long a1, .long a2, .int a3]) ++ List.replicate (7 - (lg_sl ([.long a1, .long a2, .int a3])).length) Slot.unset).toArray = ls at hl ⊢
  have hl : lv_has ls 7 [(0, .long a1), (2, .long a2), (4, .int a3)] := hl
  show W p l e rmF_lowest s m _ below meth c s.heap [] 0 0 (zL below _ s (fF_lowest a1 a2 a3)) _
  unfold fF_lowest
  show W p l e rmF_lowest s m _ below meth c s.heap [] 0 0 (zL below _ s _) (F0 m 0 ls [])
  refine lv_lload_n hx hb dF_lowest_0 rfl (lv_at hl 0 rfl) ?_
  refine lv_lload_n hx hb dF_lowest_1 rfl (lv_at hl 1 rfl) ?_
  refine qSl (rest := []) ⟨hx, hb, hml, hown, hts⟩ (kF_commonDivisor l D Y a1 a2) (va_cwS 2 hts (gS uw0 uw1 uw2 ucF_commonDivisor) rfl rfl rfl hsF_commonDivisor ⟨Nat.le_of_ble_eq_true rfl, Nat.le_of_ble_eq_true rfl⟩) hK hP rfl hl.1 rfl (Nat.le_of_ble_eq_true rfl) dF_lowest_2 ⟨Nat.le_of_ble_eq_true rfl, Nat.le_of_ble_eq_true rfl⟩ ?_
  refine lv_lstore (lv' := [(5, .long (fF_commonDivisor a1 a2)), (0, .long a1), (2, .long a2), (4, .int a3)]) hx hb dF_lowest_5 hl (by decide) rfl (fun ls hl => ?_)
  refine lv_lload hx hb dF_lowest_7 (lv_at hl 0 rfl) ?_
  refine lv_lconst (v := 1) hx hb dF_lowest_9 (by decide) ?_
  refine W.lcmp hx hb dF_lowest_10 ?_
  refine zif (C := 0 ≤ (lg_cmp (fF_commonDivisor a1 a2) 1)) (fun c11 => ?_) (fun c11 => ?_)
  · skip
    refine lv_if_ge (tgt := 18) hx hb dF_lowest_11 (by decide) (fun _ => ?_) (fun z => absurd c11 z)
    refine lv_iload hx hb dF_lowest_18 (lv_at hl 3 rfl) ?_
    refine zif (C := a3 = 0) (fun c20 => ?_) (fun c20 => ?_)
    · skip
      refine lv_if_ne (tgt := 27) hx hb dF_lowest_20 (by decide) (fun z => absurd c20 z) (fun _ => ?_)
      refine lv_lload_n hx hb dF_lowest_23 rfl (lv_at hl 1 rfl) ?_
      refine lv_goto (tgt := 28) hx hb dF_lowest_24 (by decide) ?_
      refine lv_lload hx hb dF_lowest_28 (lv_at hl 0 rfl) ?_
      refine lv_ldiv hx hb dF_lowest_30 (low_nz c11) ?_
      exact zL_ret hx hb hr hlocks dF_lowest_31
    · skip
      refine lv_if_ne (tgt := 27) hx hb dF_lowest_20 (by decide) (fun _ => ?_) (fun z => absurd z c20)
      refine lv_lload_n hx hb dF_lowest_27 rfl (lv_at hl 2 rfl) ?_
      refine lv_lload hx hb dF_lowest_28 (lv_at hl 0 rfl) ?_
      refine lv_ldiv hx hb dF_lowest_30 (low_nz c11) ?_
      exact zL_ret hx hb hr hlocks dF_lowest_31
  · skip
    refine lv_if_ge (tgt := 18) hx hb dF_lowest_11 (by decide) (fun z => absurd z c11) (fun _ => ?_)
    refine lv_ldc2 (v := (-1)) hx hb hown (hts _ uw3) dF_lowest_14 ?_
    exact zL_ret hx hb hr hlocks dF_lowest_17
abbrev rmP_has : Room := { frames := 0, cells := 0, slots := 0, locals := 0 }
set_option maxHeartbeats 4000000 in
set_option maxRecDepth 100000 in
theorem kP_has (l : Launch) (D : va_G) (Y : Nat → ClassId) (h : Nat → Nat) (n : Nat) (hn : n ≤ 24) (S : vP) (a1 : Int32) : Met l yP_has wsP_has rmP_has (va_Pc [.ref (h 0), .int a1] (zPre D vwCl (tysK Y) (wP Y h n S))) (vp_Si (fun r => r = (fP_has n a1))) 0 0 (fun _ => False) := by
  refine Met.ofW (cc := cP_has) (maxL := 2) (ret := (some .boolean)) (by decide) rfl ?_
  intro p e s m args below meth c s₁ B hml hv
  obtain ⟨rfl, hP, hK⟩ := hv
  have hx := B.exec
  have hb := B.bytes
  have hr := B.returns
  have hts : ∀ w ∈ uT, w.before _ s = true := fun w hw => atoms_spec (ws := wsP_has) B.pre w (List.mem_cons_of_mem _ hw)
  have hown : s.vm.findClass RP = some m.cls := findClass_of_methodNamed B.named
  have hlocks := B.notSynchronized
  have hl := lv_entry ([.ref (h 0), .int a1]) (n := 2) (Nat.le_of_ble_eq_true rfl)
  rw [lg_entry_eq]
  generalize (lg_sl ([.ref (h 0), .int a1]) ++ List.replicate (2 - (lg_sl ([.ref (h 0), .int a1])).length) Slot.unset).toArray = ls at hl ⊢
  have hl : lv_has ls 2 [(0, .ref (h 0)), (1, .int a1)] := hl
  show W p l e rmP_has s m _ below meth c s.heap [] 0 0 (zI below _ s (fP_has n a1)) _
  unfold fP_has
  show W p l e rmP_has s m _ below meth c s.heap [] 0 0 (zI below _ s _) (F0 m 0 ls [])
  refine lv_iload_n hx hb dP_has_0 rfl (lv_at hl 1 rfl) ?_
  refine zif (C := a1 < 0) (fun c1 => ?_) (fun c1 => ?_)
  · skip
    refine lv_if_lt (tgt := 16) hx hb dP_has_1 (by decide) (fun _ => ?_) (fun z => absurd c1 z)
    refine lv_iconst (v := 0) hx hb dP_has_16 (by decide) ?_
    exact zB_ret hx hb hr hlocks (Or.inl rfl) dP_has_17
  · skip
    refine lv_if_lt (tgt := 16) hx hb dP_has_1 (by decide) (fun z => absurd z c1) (fun _ => ?_)
    refine lv_iload_n hx hb dP_has_4 rfl (lv_at hl 1 rfl) ?_
    refine lv_aload_n hx hb dP_has_5 rfl (lv_at hl 0 rfl) ?_
    refine va_get (D := D) (ci := 1) (v := .int (nI n)) (C := RP) (T := TP) (N := 10) hx hb hts hinP hown hK hP 0 rfl rfl 0 (by decide) (hts _ uw4) (fun _ h9 => h9) rfl dP_has_6 ?_
    refine zif (C := (nI n) ≤ a1) (fun c9 => ?_) (fun c9 => ?_)
    · skip
      refine lv_icmp_ge (tgt := 16) hx hb dP_has_9 (by decide) (fun _ => ?_) (fun z => absurd c9 z)
      refine lv_iconst (v := 0) hx hb dP_has_16 (by decide) ?_
      exact zB_ret hx hb hr hlocks (Or.inl rfl) dP_has_17
    · skip
      refine lv_icmp_ge (tgt := 16) hx hb dP_has_9 (by decide) (fun z => absurd z c9) (fun _ => ?_)
      refine lv_iconst (v := 1) hx hb dP_has_12 (by decide) ?_
      refine lv_goto (tgt := 17) hx hb dP_has_13 (by decide) ?_
      exact zB_ret hx hb hr hlocks (Or.inr rfl) dP_has_17
abbrev rmP_bitOf : Room := { frames := 0, cells := 0, slots := 0, locals := 0 }
set_option maxHeartbeats 4000000 in
set_option maxRecDepth 100000 in
theorem kP_bitOf (l : Launch) (D : va_G) (Y : Nat → ClassId) (a1 : Int32) : Met l yP_bitOf wsP_bitOf rmP_bitOf (va_Pc [.int a1] (zPre D vwCl (tysK Y) ([]))) (vp_Si (fun r => r = (fP_bitOf a1))) 0 0 (fun _ => False) := by
  refine Met.ofW (cc := cP_bitOf) (maxL := 1) (ret := (some .int)) (by decide) rfl ?_
  intro p e s m args below meth c s₁ B hml hv
  obtain ⟨rfl, hP, hK⟩ := hv
  have hx := B.exec
  have hb := B.bytes
  have hr := B.returns
  have hts : ∀ w ∈ uT, w.before _ s = true := fun w hw => atoms_spec (ws := wsP_bitOf) B.pre w (List.mem_cons_of_mem _ hw)
  have hown : s.vm.findClass RP = some m.cls := findClass_of_methodNamed B.named
  have hlocks := B.notSynchronized
  have hl := lv_entry ([.int a1]) (n := 1) (Nat.le_of_ble_eq_true rfl)
  rw [lg_entry_eq]
  generalize (lg_sl ([.int a1]) ++ List.replicate (1 - (lg_sl ([.int a1])).length) Slot.unset).toArray = ls at hl ⊢
  have hl : lv_has ls 1 [(0, .int a1)] := hl
  show W p l e rmP_bitOf s m _ below meth c s.heap [] 0 0 (zI below _ s (fP_bitOf a1)) _
  unfold fP_bitOf
  show W p l e rmP_bitOf s m _ below meth c s.heap [] 0 0 (zI below _ s _) (F0 m 0 ls [])
  refine lv_iconst (v := 1) hx hb dP_bitOf_0 (by decide) ?_
  refine lv_iload_n hx hb dP_bitOf_1 rfl (lv_at hl 0 rfl) ?_
  refine lv_ishl hx hb dP_bitOf_2 ?_
  exact zI_ret hx hb hr hlocks dP_bitOf_3
abbrev rmP_motherOf : Room := { frames := 1, cells := 0, slots := 0, locals := 21 }
set_option maxHeartbeats 4000000 in
set_option maxRecDepth 100000 in
theorem kP_motherOf (l : Launch) (D : va_G) (Y : Nat → ClassId) (h : Nat → Nat) (n : Nat) (hn : n ≤ 24) (S : vP) (a1 : Int32) : Met l yP_motherOf wsP_motherOf rmP_motherOf (va_Pc [.ref (h 0), .int a1] (zPre D vwCl (tysK Y) (wP Y h n S))) (vp_Si (fun r => r = (fP_motherOf n S a1))) 0 0 (fun _ => False) := by
  refine Met.ofW (cc := cP_motherOf) (maxL := 2) (ret := (some .int)) (by decide) rfl ?_
  intro p e s m args below meth c s₁ B hml hv
  obtain ⟨rfl, hP, hK⟩ := hv
  have hx := B.exec
  have hb := B.bytes
  have hr := B.returns
  have hts : ∀ w ∈ uT, w.before _ s = true := fun w hw => atoms_spec (ws := wsP_motherOf) B.pre w (List.mem_cons_of_mem _ hw)
  have hown : s.vm.findClass RP = some m.cls := findClass_of_methodNamed B.named
  have hlocks := B.notSynchronized
  have hl := lv_entry ([.ref (h 0), .int a1]) (n := 2) (Nat.le_of_ble_eq_true rfl)
  rw [lg_entry_eq]
  generalize (lg_sl ([.ref (h 0), .int a1]) ++ List.replicate (2 - (lg_sl ([.ref (h 0), .int a1])).length) Slot.unset).toArray = ls at hl ⊢
  have hl : lv_has ls 2 [(0, .ref (h 0)), (1, .int a1)] := hl
  show W p l e rmP_motherOf s m _ below meth c s.heap [] 0 0 (zI below _ s (fP_motherOf n S a1)) _
  unfold fP_motherOf
  show W p l e rmP_motherOf s m _ below meth c s.heap [] 0 0 (zI below _ s _) (F0 m 0 ls [])
  refine lv_aload_n hx hb dP_motherOf_0 rfl (lv_at hl 0 rfl) ?_
  refine lv_iload_n hx hb dP_motherOf_1 rfl (lv_at hl 1 rfl) ?_
  refine qVi (rest := []) ⟨hx, hb, hml, hown, hts⟩ (kP_has l D Y h n hn S a1) (cwV 1 hts (gV uw5 uw6 uw7 uw8 ucP_has) rfl rfl rfl hvP_has ⟨Nat.le_of_ble_eq_true rfl, Nat.le_of_ble_eq_true rfl⟩) hK hP (va_recv hK hP (ci := 1) (q0 := 0) rfl rfl) rfl hl.1 rfl (Nat.le_of_ble_eq_true rfl) dP_motherOf_2 ⟨Nat.le_of_ble_eq_true rfl, Nat.le_of_ble_eq_true rfl⟩ ?_
  refine zif (C := (fP_has n a1) = 0) (fun c5 => ?_) (fun c5 => ?_)
  · skip
    refine lv_if_eq (tgt := 17) hx hb dP_motherOf_5 (by decide) (fun _ => ?_) (fun z => absurd c5 z)
    refine lv_iconst (v := (-1)) hx hb dP_motherOf_17 (by decide) ?_
    exact zI_ret hx hb hr hlocks dP_motherOf_18
  · skip
    refine lv_if_eq (tgt := 17) hx hb dP_motherOf_5 (by decide) (fun z => absurd z c5) (fun _ => ?_)
    refine lv_aload_n hx hb dP_motherOf_8 rfl (lv_at hl 0 rfl) ?_
    refine va_get (D := D) (ci := 1) (v := .ref (h 1)) (C := RP) (T := TP) (N := 10) hx hb hts hinP hown hK hP 0 rfl rfl 1 (by decide) (hts _ uw9) (fun _ h9 => h9) rfl dP_motherOf_9 ?_
    refine lv_iload_n hx hb dP_motherOf_12 rfl (lv_at hl 1 rfl) ?_
    refine va_iald hx hb hK hP 1 0 rfl rfl (has_in hn c5) dP_motherOf_13 ?_
    refine lv_goto (tgt := 18) hx hb dP_motherOf_14 (by decide) ?_
    exact zI_ret hx hb hr hlocks dP_motherOf_18
abbrev rmP_fatherOf : Room := { frames := 1, cells := 0, slots := 0, locals := 21 }
set_option maxHeartbeats 4000000 in
set_option maxRecDepth 100000 in
theorem kP_fatherOf (l : Launch) (D : va_G) (Y : Nat → ClassId) (h : Nat → Nat) (n : Nat) (hn : n ≤ 24) (S : vP) (a1 : Int32) : Met l yP_fatherOf wsP_fatherOf rmP_fatherOf (va_Pc [.ref (h 0), .int a1] (zPre D vwCl (tysK Y) (wP Y h n S))) (vp_Si (fun r => r = (fP_fatherOf n S a1))) 0 0 (fun _ => False) := by
  refine Met.ofW (cc := cP_fatherOf) (maxL := 2) (ret := (some .int)) (by decide) rfl ?_
  intro p e s m args below meth c s₁ B hml hv
  obtain ⟨rfl, hP, hK⟩ := hv
  have hx := B.exec
  have hb := B.bytes
  have hr := B.returns
  have hts : ∀ w ∈ uT, w.before _ s = true := fun w hw => atoms_spec (ws := wsP_fatherOf) B.pre w (List.mem_cons_of_mem _ hw)
  have hown : s.vm.findClass RP = some m.cls := findClass_of_methodNamed B.named
  have hlocks := B.notSynchronized
  have hl := lv_entry ([.ref (h 0), .int a1]) (n := 2) (Nat.le_of_ble_eq_true rfl)
  rw [lg_entry_eq]
  generalize (lg_sl ([.ref (h 0), .int a1]) ++ List.replicate (2 - (lg_sl ([.ref (h 0), .int a1])).length) Slot.unset).toArray = ls at hl ⊢
  have hl : lv_has ls 2 [(0, .ref (h 0)), (1, .int a1)] := hl
  show W p l e rmP_fatherOf s m _ below meth c s.heap [] 0 0 (zI below _ s (fP_fatherOf n S a1)) _
  unfold fP_fatherOf
  show W p l e rmP_fatherOf s m _ below meth c s.heap [] 0 0 (zI below _ s _) (F0 m 0 ls [])
  refine lv_aload_n hx hb dP_fatherOf_0 rfl (lv_at hl 0 rfl) ?_
  refine lv_iload_n hx hb dP_fatherOf_1 rfl (lv_at hl 1 rfl) ?_
  refine qVi (rest := []) ⟨hx, hb, hml, hown, hts⟩ (kP_has l D Y h n hn S a1) (cwV 1 hts (gV uw5 uw6 uw7 uw8 ucP_has) rfl rfl rfl hvP_has ⟨Nat.le_of_ble_eq_true rfl, Nat.le_of_ble_eq_true rfl⟩) hK hP (va_recv hK hP (ci := 1) (q0 := 0) rfl rfl) rfl hl.1 rfl (Nat.le_of_ble_eq_true rfl) dP_fatherOf_2 ⟨Nat.le_of_ble_eq_true rfl, Nat.le_of_ble_eq_true rfl⟩ ?_
  refine zif (C := (fP_has n a1) = 0) (fun c5 => ?_) (fun c5 => ?_)
  · skip
    refine lv_if_eq (tgt := 17) hx hb dP_fatherOf_5 (by decide) (fun _ => ?_) (fun z => absurd c5 z)
    refine lv_iconst (v := (-1)) hx hb dP_fatherOf_17 (by decide) ?_
    exact zI_ret hx hb hr hlocks dP_fatherOf_18
  · skip
    refine lv_if_eq (tgt := 17) hx hb dP_fatherOf_5 (by decide) (fun z => absurd z c5) (fun _ => ?_)
    refine lv_aload_n hx hb dP_fatherOf_8 rfl (lv_at hl 0 rfl) ?_
    refine va_get (D := D) (ci := 1) (v := .ref (h 2)) (C := RP) (T := TP) (N := 10) hx hb hts hinP hown hK hP 0 rfl rfl 2 (by decide) (hts _ uw10) (fun _ h9 => h9) rfl dP_fatherOf_9 ?_
    refine lv_iload_n hx hb dP_fatherOf_12 rfl (lv_at hl 1 rfl) ?_
    refine va_iald hx hb hK hP 2 0 rfl rfl (has_in hn c5) dP_fatherOf_13 ?_
    refine lv_goto (tgt := 18) hx hb dP_fatherOf_14 (by decide) ?_
    exact zI_ret hx hb hr hlocks dP_fatherOf_18
abbrev rmP_stepsOf : Room := { frames := 1, cells := 0, slots := 0, locals := 21 }
set_option maxHeartbeats 4000000 in
set_option maxRecDepth 100000 in
theorem kP_stepsOf (l : Launch) (D : va_G) (Y : Nat → ClassId) (h : Nat → Nat) (n : Nat) (hn : n ≤ 24) (S : vP) (a1 : Int32) : Met l yP_stepsOf wsP_stepsOf rmP_stepsOf (va_Pc [.ref (h 0), .int a1] (zPre D vwCl (tysK Y) (wP Y h n S))) (vp_Si (fun r => r = (fP_stepsOf n S a1))) 0 0 (fun _ => False) := by
  refine Met.ofW (cc := cP_stepsOf) (maxL := 2) (ret := (some .int)) (by decide) rfl ?_
  intro p e s m args below meth c s₁ B hml hv
  obtain ⟨rfl, hP, hK⟩ := hv
  have hx := B.exec
  have hb := B.bytes
  have hr := B.returns
  have hts : ∀ w ∈ uT, w.before _ s = true := fun w hw => atoms_spec (ws := wsP_stepsOf) B.pre w (List.mem_cons_of_mem _ hw)
  have hown : s.vm.findClass RP = some m.cls := findClass_of_methodNamed B.named
  have hlocks := B.notSynchronized
  have hl := lv_entry ([.ref (h 0), .int a1]) (n := 2) (Nat.le_of_ble_eq_true rfl)
  rw [lg_entry_eq]
  generalize (lg_sl ([.ref (h 0), .int a1]) ++ List.replicate (2 - (lg_sl ([.ref (h 0), .int a1])).length) Slot.unset).toArray = ls at hl ⊢
  have hl : lv_has ls 2 [(0, .ref (h 0)), (1, .int a1)] := hl
  show W p l e rmP_stepsOf s m _ below meth c s.heap [] 0 0 (zI below _ s (fP_stepsOf n S a1)) _
  unfold fP_stepsOf
  show W p l e rmP_stepsOf s m _ below meth c s.heap [] 0 0 (zI below _ s _) (F0 m 0 ls [])
  refine lv_aload_n hx hb dP_stepsOf_0 rfl (lv_at hl 0 rfl) ?_
  refine lv_iload_n hx hb dP_stepsOf_1 rfl (lv_at hl 1 rfl) ?_
  refine qVi (rest := []) ⟨hx, hb, hml, hown, hts⟩ (kP_has l D Y h n hn S a1) (cwV 1 hts (gV uw5 uw6 uw7 uw8 ucP_has) rfl rfl rfl hvP_has ⟨Nat.le_of_ble_eq_true rfl, Nat.le_of_ble_eq_true rfl⟩) hK hP (va_recv hK hP (ci := 1) (q0 := 0) rfl rfl) rfl hl.1 rfl (Nat.le_of_ble_eq_true rfl) dP_stepsOf_2 ⟨Nat.le_of_ble_eq_true rfl, Nat.le_of_ble_eq_true rfl⟩ ?_
  refine zif (C := (fP_has n a1) = 0) (fun c5 => ?_) (fun c5 => ?_)
  · skip
    refine lv_if_eq (tgt := 17) hx hb dP_stepsOf_5 (by decide) (fun _ => ?_) (fun z => absurd c5 z)
    refine lv_iconst (v := (-1)) hx hb dP_stepsOf_17 (by decide) ?_
    exact zI_ret hx hb hr hlocks dP_stepsOf_18
  · skip
    refine lv_if_eq (tgt := 17) hx hb dP_stepsOf_5 (by decide) (fun z => absurd z c5) (fun _ => ?_)
    refine lv_aload_n hx hb dP_stepsOf_8 rfl (lv_at hl 0 rfl) ?_
    refine va_get (D := D) (ci := 1) (v := .ref (h 3)) (C := RP) (T := TP) (N := 10) hx hb hts hinP hown hK hP 0 rfl rfl 3 (by decide) (hts _ uw11) (fun _ h9 => h9) rfl dP_stepsOf_9 ?_
    refine lv_iload_n hx hb dP_stepsOf_12 rfl (lv_at hl 1 rfl) ?_
    refine va_iald hx hb hK hP 3 0 rfl rfl (has_in hn c5) dP_stepsOf_13 ?_
    refine lv_goto (tgt := 18) hx hb dP_stepsOf_14 (by decide) ?_
    exact zI_ret hx hb hr hlocks dP_stepsOf_18
abbrev rmP_inOrder : Room := { frames := 1, cells := 0, slots := 0, locals := 21 }
set_option maxHeartbeats 4000000 in
set_option maxRecDepth 100000 in
theorem kP_inOrder (l : Launch) (D : va_G) (Y : Nat → ClassId) (h : Nat → Nat) (n : Nat) (hn : n ≤ 24) (S : vP) (a1 : Int32) : Met l yP_inOrder wsP_inOrder rmP_inOrder (va_Pc [.ref (h 0), .int a1] (zPre D vwCl (tysK Y) (wP Y h n S))) (vp_Si (fun r => r = (fP_inOrder n S a1))) 0 0 (fun _ => False) := by
  refine Met.ofW (cc := cP_inOrder) (maxL := 2) (ret := (some .int)) (by decide) rfl ?_
  intro p e s m args below meth c s₁ B hml hv
  obtain ⟨rfl, hP, hK⟩ := hv
  have hx := B.exec
  have hb := B.bytes
  have hr := B.returns
  have hts : ∀ w ∈ uT, w.before _ s = true := fun w hw => atoms_spec (ws := wsP_inOrder) B.pre w (List.mem_cons_of_mem _ hw)
  have hown : s.vm.findClass RP = some m.cls := findClass_of_methodNamed B.named
  have hlocks := B.notSynchronized
  have hl := lv_entry ([.ref (h 0), .int a1]) (n := 2) (Nat.le_of_ble_eq_true rfl)
  rw [lg_entry_eq]
  generalize (lg_sl ([.ref (h 0), .int a1]) ++ List.replicate (2 - (lg_sl ([.ref (h 0), .int a1])).length) Slot.unset).toArray = ls at hl ⊢
  have hl : lv_has ls 2 [(0, .ref (h 0)), (1, .int a1)] := hl
  show W p l e rmP_inOrder s m _ below meth c s.heap [] 0 0 (zI below _ s (fP_inOrder n S a1)) _
  unfold fP_inOrder
  show W p l e rmP_inOrder s m _ below meth c s.heap [] 0 0 (zI below _ s _) (F0 m 0 ls [])
  refine lv_aload_n hx hb dP_inOrder_0 rfl (lv_at hl 0 rfl) ?_
  refine lv_iload_n hx hb dP_inOrder_1 rfl (lv_at hl 1 rfl) ?_
  refine qVi (rest := []) ⟨hx, hb, hml, hown, hts⟩ (kP_has l D Y h n hn S a1) (cwV 1 hts (gV uw5 uw6 uw7 uw8 ucP_has) rfl rfl rfl hvP_has ⟨Nat.le_of_ble_eq_true rfl, Nat.le_of_ble_eq_true rfl⟩) hK hP (va_recv hK hP (ci := 1) (q0 := 0) rfl rfl) rfl hl.1 rfl (Nat.le_of_ble_eq_true rfl) dP_inOrder_2 ⟨Nat.le_of_ble_eq_true rfl, Nat.le_of_ble_eq_true rfl⟩ ?_
  refine zif (C := (fP_has n a1) = 0) (fun c5 => ?_) (fun c5 => ?_)
  · skip
    refine lv_if_eq (tgt := 17) hx hb dP_inOrder_5 (by decide) (fun _ => ?_) (fun z => absurd c5 z)
    refine lv_iconst (v := (-1)) hx hb dP_inOrder_17 (by decide) ?_
    exact zI_ret hx hb hr hlocks dP_inOrder_18
  · skip
    refine lv_if_eq (tgt := 17) hx hb dP_inOrder_5 (by decide) (fun z => absurd z c5) (fun _ => ?_)
    refine lv_aload_n hx hb dP_inOrder_8 rfl (lv_at hl 0 rfl) ?_
    refine va_get (D := D) (ci := 1) (v := .ref (h 4)) (C := RP) (T := TP) (N := 10) hx hb hts hinP hown hK hP 0 rfl rfl 4 (by decide) (hts _ uw12) (fun _ h9 => h9) rfl dP_inOrder_9 ?_
    refine lv_iload_n hx hb dP_inOrder_12 rfl (lv_at hl 1 rfl) ?_
    refine va_iald hx hb hK hP 4 0 rfl rfl (has_in hn c5) dP_inOrder_13 ?_
    refine lv_goto (tgt := 18) hx hb dP_inOrder_14 (by decide) ?_
    exact zI_ret hx hb hr hlocks dP_inOrder_18
abbrev rmP_isFounder : Room := { frames := 1, cells := 0, slots := 0, locals := 21 }
set_option maxHeartbeats 4000000 in
set_option maxRecDepth 100000 in
theorem kP_isFounder (l : Launch) (D : va_G) (Y : Nat → ClassId) (h : Nat → Nat) (n : Nat) (hn : n ≤ 24) (S : vP) (a1 : Int32) : Met l yP_isFounder wsP_isFounder rmP_isFounder (va_Pc [.ref (h 0), .int a1] (zPre D vwCl (tysK Y) (wP Y h n S))) (vp_Si (fun r => r = (fP_isFounder n S a1))) 0 0 (fun _ => False) := by
  refine Met.ofW (cc := cP_isFounder) (maxL := 2) (ret := (some .boolean)) (by decide) rfl ?_
  intro p e s m args below meth c s₁ B hml hv
  obtain ⟨rfl, hP, hK⟩ := hv
  have hx := B.exec
  have hb := B.bytes
  have hr := B.returns
  have hts : ∀ w ∈ uT, w.before _ s = true := fun w hw => atoms_spec (ws := wsP_isFounder) B.pre w (List.mem_cons_of_mem _ hw)
  have hown : s.vm.findClass RP = some m.cls := findClass_of_methodNamed B.named
  have hlocks := B.notSynchronized
  have hl := lv_entry ([.ref (h 0), .int a1]) (n := 2) (Nat.le_of_ble_eq_true rfl)
  rw [lg_entry_eq]
  generalize (lg_sl ([.ref (h 0), .int a1]) ++ List.replicate (2 - (lg_sl ([.ref (h 0), .int a1])).length) Slot.unset).toArray = ls at hl ⊢
  have hl : lv_has ls 2 [(0, .ref (h 0)), (1, .int a1)] := hl
  show W p l e rmP_isFounder s m _ below meth c s.heap [] 0 0 (zI below _ s (fP_isFounder n S a1)) _
  unfold fP_isFounder
  show W p l e rmP_isFounder s m _ below meth c s.heap [] 0 0 (zI below _ s _) (F0 m 0 ls [])
  refine lv_aload_n hx hb dP_isFounder_0 rfl (lv_at hl 0 rfl) ?_
  refine lv_iload_n hx hb dP_isFounder_1 rfl (lv_at hl 1 rfl) ?_
  refine qVi (rest := []) ⟨hx, hb, hml, hown, hts⟩ (kP_has l D Y h n hn S a1) (cwV 1 hts (gV uw5 uw6 uw7 uw8 ucP_has) rfl rfl rfl hvP_has ⟨Nat.le_of_ble_eq_true rfl, Nat.le_of_ble_eq_true rfl⟩) hK hP (va_recv hK hP (ci := 1) (q0 := 0) rfl rfl) rfl hl.1 rfl (Nat.le_of_ble_eq_true rfl) dP_isFounder_2 ⟨Nat.le_of_ble_eq_true rfl, Nat.le_of_ble_eq_true rfl⟩ ?_
  refine zif (C := (fP_has n a1) = 0) (fun c5 => ?_) (fun c5 => ?_)
  · skip
    refine lv_if_eq (tgt := 32) hx hb dP_isFounder_5 (by decide) (fun _ => ?_) (fun z => absurd c5 z)
    refine lv_iconst (v := 0) hx hb dP_isFounder_32 (by decide) ?_
    exact zB_ret hx hb hr hlocks (Or.inl rfl) dP_isFounder_33
  · skip
    refine lv_if_eq (tgt := 32) hx hb dP_isFounder_5 (by decide) (fun z => absurd z c5) (fun _ => ?_)
    refine lv_aload_n hx hb dP_isFounder_8 rfl (lv_at hl 0 rfl) ?_
    refine va_get (D := D) (ci := 1) (v := .ref (h 1)) (C := RP) (T := TP) (N := 10) hx hb hts hinP hown hK hP 0 rfl rfl 1 (by decide) (hts _ uw9) (fun _ h9 => h9) rfl dP_isFounder_9 ?_
    refine lv_iload_n hx hb dP_isFounder_12 rfl (lv_at hl 1 rfl) ?_
    refine va_iald hx hb hK hP 1 0 rfl rfl (has_in hn c5) dP_isFounder_13 ?_
    refine lv_iconst (v := (-1)) hx hb dP_isFounder_14 (by decide) ?_
    refine zif (C := ((g_mo S) (a1 : Int32).toNatClampNeg) = (-1)) (fun c15 => ?_) (fun c15 => ?_)
    · skip
      refine lv_icmp_ne (tgt := 32) hx hb dP_isFounder_15 (by decide) (fun z => absurd c15 z) (fun _ => ?_)
      refine lv_aload_n hx hb dP_isFounder_18 rfl (lv_at hl 0 rfl) ?_
      refine va_get (D := D) (ci := 1) (v := .ref (h 2)) (C := RP) (T := TP) (N := 10) hx hb hts hinP hown hK hP 0 rfl rfl 2 (by decide) (hts _ uw10) (fun _ h9 => h9) rfl dP_isFounder_19 ?_
      refine lv_iload_n hx hb dP_isFounder_22 rfl (lv_at hl 1 rfl) ?_
      refine va_iald hx hb hK hP 2 0 rfl rfl (has_in hn c5) dP_isFounder_23 ?_
      refine lv_iconst (v := (-1)) hx hb dP_isFounder_24 (by decide) ?_
      refine zif (C := ((g_fa S) (a1 : Int32).toNatClampNeg) = (-1)) (fun c25 => ?_) (fun c25 => ?_)
      · skip
        refine lv_icmp_ne (tgt := 32) hx hb dP_isFounder_25 (by decide) (fun z => absurd c25 z) (fun _ => ?_)
        refine lv_iconst (v := 1) hx hb dP_isFounder_28 (by decide) ?_
        refine lv_goto (tgt := 33) hx hb dP_isFounder_29 (by decide) ?_
        exact zB_ret hx hb hr hlocks (Or.inr rfl) dP_isFounder_33
      · skip
        refine lv_icmp_ne (tgt := 32) hx hb dP_isFounder_25 (by decide) (fun _ => ?_) (fun z => absurd z c25)
        refine lv_iconst (v := 0) hx hb dP_isFounder_32 (by decide) ?_
        exact zB_ret hx hb hr hlocks (Or.inl rfl) dP_isFounder_33
    · skip
      refine lv_icmp_ne (tgt := 32) hx hb dP_isFounder_15 (by decide) (fun _ => ?_) (fun z => absurd z c15)
      refine lv_iconst (v := 0) hx hb dP_isFounder_32 (by decide) ?_
      exact zB_ret hx hb hr hlocks (Or.inl rfl) dP_isFounder_33
abbrev rmP_hasForbear : Room := { frames := 1, cells := 0, slots := 0, locals := 21 }
set_option maxHeartbeats 4000000 in
set_option maxRecDepth 100000 in
theorem kP_hasForbear (l : Launch) (D : va_G) (Y : Nat → ClassId) (h : Nat → Nat) (n : Nat) (hn : n ≤ 24) (S : vP) (a1 : Int32) (a2 : Int32) : Met l yP_hasForbear wsP_hasForbear rmP_hasForbear (va_Pc [.ref (h 0), .int a1, .int a2] (zPre D vwCl (tysK Y) (wP Y h n S))) (vp_Si (fun r => r = (fP_hasForbear n S a1 a2))) 0 0 (fun _ => False) := by
  refine Met.ofW (cc := cP_hasForbear) (maxL := 3) (ret := (some .boolean)) (by decide) rfl ?_
  intro p e s m args below meth c s₁ B hml hv
  obtain ⟨rfl, hP, hK⟩ := hv
  have hx := B.exec
  have hb := B.bytes
  have hr := B.returns
  have hts : ∀ w ∈ uT, w.before _ s = true := fun w hw => atoms_spec (ws := wsP_hasForbear) B.pre w (List.mem_cons_of_mem _ hw)
  have hown : s.vm.findClass RP = some m.cls := findClass_of_methodNamed B.named
  have hlocks := B.notSynchronized
  have hl := lv_entry ([.ref (h 0), .int a1, .int a2]) (n := 3) (Nat.le_of_ble_eq_true rfl)
  rw [lg_entry_eq]
  generalize (lg_sl ([.ref (h 0), .int a1, .int a2]) ++ List.replicate (3 - (lg_sl ([.ref (h 0), .int a1, .int a2])).length) Slot.unset).toArray = ls at hl ⊢
  have hl : lv_has ls 3 [(0, .ref (h 0)), (1, .int a1), (2, .int a2)] := hl
  show W p l e rmP_hasForbear s m _ below meth c s.heap [] 0 0 (zI below _ s (fP_hasForbear n S a1 a2)) _
  unfold fP_hasForbear
  show W p l e rmP_hasForbear s m _ below meth c s.heap [] 0 0 (zI below _ s _) (F0 m 0 ls [])
  refine lv_aload_n hx hb dP_hasForbear_0 rfl (lv_at hl 0 rfl) ?_
  refine lv_iload_n hx hb dP_hasForbear_1 rfl (lv_at hl 1 rfl) ?_
  refine qVi (rest := []) ⟨hx, hb, hml, hown, hts⟩ (kP_has l D Y h n hn S a1) (cwV 1 hts (gV uw5 uw6 uw7 uw8 ucP_has) rfl rfl rfl hvP_has ⟨Nat.le_of_ble_eq_true rfl, Nat.le_of_ble_eq_true rfl⟩) hK hP (va_recv hK hP (ci := 1) (q0 := 0) rfl rfl) rfl hl.1 rfl (Nat.le_of_ble_eq_true rfl) dP_hasForbear_2 ⟨Nat.le_of_ble_eq_true rfl, Nat.le_of_ble_eq_true rfl⟩ ?_
  refine zif (C := (fP_has n a1) = 0) (fun c5 => ?_) (fun c5 => ?_)
  · skip
    refine lv_if_eq (tgt := 34) hx hb dP_hasForbear_5 (by decide) (fun _ => ?_) (fun z => absurd c5 z)
    refine lv_iconst (v := 0) hx hb dP_hasForbear_34 (by decide) ?_
    exact zB_ret hx hb hr hlocks (Or.inl rfl) dP_hasForbear_35
  · skip
    refine lv_if_eq (tgt := 34) hx hb dP_hasForbear_5 (by decide) (fun z => absurd z c5) (fun _ => ?_)
    refine lv_aload_n hx hb dP_hasForbear_8 rfl (lv_at hl 0 rfl) ?_
    refine lv_iload_n hx hb dP_hasForbear_9 rfl (lv_at hl 2 rfl) ?_
    refine qVi (rest := []) ⟨hx, hb, hml, hown, hts⟩ (kP_has l D Y h n hn S a2) (cwV 1 hts (gV uw5 uw6 uw7 uw8 ucP_has) rfl rfl rfl hvP_has ⟨Nat.le_of_ble_eq_true rfl, Nat.le_of_ble_eq_true rfl⟩) hK hP (va_recv hK hP (ci := 1) (q0 := 0) rfl rfl) rfl hl.1 rfl (Nat.le_of_ble_eq_true rfl) dP_hasForbear_10 ⟨Nat.le_of_ble_eq_true rfl, Nat.le_of_ble_eq_true rfl⟩ ?_
    refine zif (C := (fP_has n a2) = 0) (fun c13 => ?_) (fun c13 => ?_)
    · skip
      refine lv_if_eq (tgt := 34) hx hb dP_hasForbear_13 (by decide) (fun _ => ?_) (fun z => absurd c13 z)
      refine lv_iconst (v := 0) hx hb dP_hasForbear_34 (by decide) ?_
      exact zB_ret hx hb hr hlocks (Or.inl rfl) dP_hasForbear_35
    · skip
      refine lv_if_eq (tgt := 34) hx hb dP_hasForbear_13 (by decide) (fun z => absurd z c13) (fun _ => ?_)
      refine lv_aload_n hx hb dP_hasForbear_16 rfl (lv_at hl 0 rfl) ?_
      refine va_get (D := D) (ci := 1) (v := .ref (h 5)) (C := RP) (T := TP) (N := 10) hx hb hts hinP hown hK hP 0 rfl rfl 5 (by decide) (hts _ uw13) (fun _ h9 => h9) rfl dP_hasForbear_17 ?_
      refine lv_iload_n hx hb dP_hasForbear_20 rfl (lv_at hl 1 rfl) ?_
      refine va_iald hx hb hK hP 5 0 rfl rfl (has_in hn c5) dP_hasForbear_21 ?_
      refine lv_iload_n hx hb dP_hasForbear_22 rfl (lv_at hl 2 rfl) ?_
      refine qSi (rest := [.int ((g_fb S) (a1 : Int32).toNatClampNeg)]) ⟨hx, hb, hml, hown, hts⟩ (kP_bitOf l D Y a2) (va_cwS 1 hts (gS uw14 uw15 uw8 ucP_bitOf) rfl rfl rfl hsP_bitOf ⟨Nat.le_of_ble_eq_true rfl, Nat.le_of_ble_eq_true rfl⟩) hK (zsub [] hP rfl) rfl hl.1 rfl (Nat.le_of_ble_eq_true rfl) dP_hasForbear_23 ⟨Nat.le_of_ble_eq_true rfl, Nat.le_of_ble_eq_true rfl⟩ ?_
      refine lv_iand hx hb dP_hasForbear_26 ?_
      refine zif (C := (((g_fb S) (a1 : Int32).toNatClampNeg) &&& (fP_bitOf a2)) = 0) (fun c27 => ?_) (fun c27 => ?_)
      · skip
        refine lv_if_eq (tgt := 34) hx hb dP_hasForbear_27 (by decide) (fun _ => ?_) (fun z => absurd c27 z)
        refine lv_iconst (v := 0) hx hb dP_hasForbear_34 (by decide) ?_
        exact zB_ret hx hb hr hlocks (Or.inl rfl) dP_hasForbear_35
      · skip
        refine lv_if_eq (tgt := 34) hx hb dP_hasForbear_27 (by decide) (fun z => absurd z c27) (fun _ => ?_)
        refine lv_iconst (v := 1) hx hb dP_hasForbear_30 (by decide) ?_
        refine lv_goto (tgt := 35) hx hb dP_hasForbear_31 (by decide) ?_
        exact zB_ret hx hb hr hlocks (Or.inr rfl) dP_hasForbear_35
abbrev rmP_kinOf : Room := { frames := 1, cells := 0, slots := 0, locals := 21 }
set_option maxHeartbeats 4000000 in
set_option maxRecDepth 100000 in
theorem kP_kinOf (l : Launch) (D : va_G) (Y : Nat → ClassId) (h : Nat → Nat) (n : Nat) (hn : n ≤ 24) (S : vP) (a1 : Int32) (a2 : Int32) : Met l yP_kinOf wsP_kinOf rmP_kinOf (va_Pc [.ref (h 0), .int a1, .int a2] (zPre D vwCl (tysK Y) (wP Y h n S))) (vp_Sl (fun r => r = (fP_kinOf n S a1 a2))) 0 0 (fun _ => False) := by
  refine Met.ofW (cc := cP_kinOf) (maxL := 3) (ret := (some .long)) (by decide) rfl ?_
  intro p e s m args below meth c s₁ B hml hv
  obtain ⟨rfl, hP, hK⟩ := hv
  have hx := B.exec
  have hb := B.bytes
  have hr := B.returns
  have hts : ∀ w ∈ uT, w.before _ s = true := fun w hw => atoms_spec (ws := wsP_kinOf) B.pre w (List.mem_cons_of_mem _ hw)
  have hown : s.vm.findClass RP = some m.cls := findClass_of_methodNamed B.named
  have hlocks := B.notSynchronized
  have hl := lv_entry ([.ref (h 0), .int a1, .int a2]) (n := 3) (Nat.le_of_ble_eq_true rfl)
  rw [lg_entry_eq]
  generalize (lg_sl ([.ref (h 0), .int a1, .int a2]) ++ List.replicate (3 - (lg_sl ([.ref (h 0), .int a1, .int a2])).length) Slot.unset).toArray = ls at hl ⊢
  have hl : lv_has ls 3 [(0, .ref (h 0)), (1, .int a1), (2, .int a2)] := hl
  show W p l e rmP_kinOf s m _ below meth c s.heap [] 0 0 (zL below _ s (fP_kinOf n S a1 a2)) _
  unfold fP_kinOf
  show W p l e rmP_kinOf s m _ below meth c s.heap [] 0 0 (zL below _ s _) (F0 m 0 ls [])
  refine lv_aload_n hx hb dP_kinOf_0 rfl (lv_at hl 0 rfl) ?_
  refine lv_iload_n hx hb dP_kinOf_1 rfl (lv_at hl 1 rfl) ?_
  refine qVi (rest := []) ⟨hx, hb, hml, hown, hts⟩ (kP_has l D Y h n hn S a1) (cwV 1 hts (gV uw5 uw6 uw7 uw8 ucP_has) rfl rfl rfl hvP_has ⟨Nat.le_of_ble_eq_true rfl, Nat.le_of_ble_eq_true rfl⟩) hK hP (va_recv hK hP (ci := 1) (q0 := 0) rfl rfl) rfl hl.1 rfl (Nat.le_of_ble_eq_true rfl) dP_kinOf_2 ⟨Nat.le_of_ble_eq_true rfl, Nat.le_of_ble_eq_true rfl⟩ ?_
  refine zif (C := (fP_has n a1) = 0) (fun c5 => ?_) (fun c5 => ?_)
  · skip
    refine lv_if_eq (tgt := 30) hx hb dP_kinOf_5 (by decide) (fun _ => ?_) (fun z => absurd c5 z)
    refine lv_lconst (v := 0) hx hb dP_kinOf_30 (by decide) ?_
    exact zL_ret hx hb hr hlocks dP_kinOf_31
  · skip
    refine lv_if_eq (tgt := 30) hx hb dP_kinOf_5 (by decide) (fun z => absurd z c5) (fun _ => ?_)
    refine lv_aload_n hx hb dP_kinOf_8 rfl (lv_at hl 0 rfl) ?_
    refine lv_iload_n hx hb dP_kinOf_9 rfl (lv_at hl 2 rfl) ?_
    refine qVi (rest := []) ⟨hx, hb, hml, hown, hts⟩ (kP_has l D Y h n hn S a2) (cwV 1 hts (gV uw5 uw6 uw7 uw8 ucP_has) rfl rfl rfl hvP_has ⟨Nat.le_of_ble_eq_true rfl, Nat.le_of_ble_eq_true rfl⟩) hK hP (va_recv hK hP (ci := 1) (q0 := 0) rfl rfl) rfl hl.1 rfl (Nat.le_of_ble_eq_true rfl) dP_kinOf_10 ⟨Nat.le_of_ble_eq_true rfl, Nat.le_of_ble_eq_true rfl⟩ ?_
    refine zif (C := (fP_has n a2) = 0) (fun c13 => ?_) (fun c13 => ?_)
    · skip
      refine lv_if_eq (tgt := 30) hx hb dP_kinOf_13 (by decide) (fun _ => ?_) (fun z => absurd c13 z)
      refine lv_lconst (v := 0) hx hb dP_kinOf_30 (by decide) ?_
      exact zL_ret hx hb hr hlocks dP_kinOf_31
    · skip
      refine lv_if_eq (tgt := 30) hx hb dP_kinOf_13 (by decide) (fun z => absurd z c13) (fun _ => ?_)
      refine lv_aload_n hx hb dP_kinOf_16 rfl (lv_at hl 0 rfl) ?_
      refine va_get (D := D) (ci := 1) (v := .ref (h 6)) (C := RP) (T := TP) (N := 10) hx hb hts hinP hown hK hP 0 rfl rfl 6 (by decide) (hts _ uw16) (fun _ h9 => h9) rfl dP_kinOf_17 ?_
      refine lv_iload_n hx hb dP_kinOf_20 rfl (lv_at hl 1 rfl) ?_
      refine lv_bipush (v := 24) hx hb dP_kinOf_21 (by decide) ?_
      refine lv_imul hx hb dP_kinOf_23 ?_
      refine lv_iload_n hx hb dP_kinOf_24 rfl (lv_at hl 2 rfl) ?_
      refine lv_iadd hx hb dP_kinOf_25 ?_
      refine va_lald hx hb hK hP 6 1 rfl rfl (kt_in hn c5 c13) dP_kinOf_26 ?_
      refine lv_goto (tgt := 31) hx hb dP_kinOf_27 (by decide) ?_
      exact zL_ret hx hb hr hlocks dP_kinOf_31
abbrev rmP_inbreedingOf : Room := { frames := 2, cells := 0, slots := 0, locals := 43 }
set_option maxHeartbeats 4000000 in
set_option maxRecDepth 100000 in
theorem kP_inbreedingOf (l : Launch) (D : va_G) (Y : Nat → ClassId) (h : Nat → Nat) (n : Nat) (hn : n ≤ 24) (S : vP) (a1 : Int32) : Met l yP_inbreedingOf wsP_inbreedingOf rmP_inbreedingOf (va_Pc [.ref (h 0), .int a1] (zPre D vwCl (tysK Y) (wP Y h n S))) (vp_Sl (fun r => r = (fP_inbreedingOf n S a1))) 0 0 (fun _ => False) := by
  refine Met.ofW (cc := cP_inbreedingOf) (maxL := 2) (ret := (some .long)) (by decide) rfl ?_
  intro p e s m args below meth c s₁ B hml hv
  obtain ⟨rfl, hP, hK⟩ := hv
  have hx := B.exec
  have hb := B.bytes
  have hr := B.returns
  have hts : ∀ w ∈ uT, w.before _ s = true := fun w hw => atoms_spec (ws := wsP_inbreedingOf) B.pre w (List.mem_cons_of_mem _ hw)
  have hown : s.vm.findClass RP = some m.cls := findClass_of_methodNamed B.named
  have hlocks := B.notSynchronized
  have hl := lv_entry ([.ref (h 0), .int a1]) (n := 2) (Nat.le_of_ble_eq_true rfl)
  rw [lg_entry_eq]
  generalize (lg_sl ([.ref (h 0), .int a1]) ++ List.replicate (2 - (lg_sl ([.ref (h 0), .int a1])).length) Slot.unset).toArray = ls at hl ⊢
  have hl : lv_has ls 2 [(0, .ref (h 0)), (1, .int a1)] := hl
  show W p l e rmP_inbreedingOf s m _ below meth c s.heap [] 0 0 (zL below _ s (fP_inbreedingOf n S a1)) _
  unfold fP_inbreedingOf
  show W p l e rmP_inbreedingOf s m _ below meth c s.heap [] 0 0 (zL below _ s _) (F0 m 0 ls [])
  refine lv_aload_n hx hb dP_inbreedingOf_0 rfl (lv_at hl 0 rfl) ?_
  refine lv_aload_n hx hb dP_inbreedingOf_1 rfl (lv_at hl 0 rfl) ?_
  refine lv_iload_n hx hb dP_inbreedingOf_2 rfl (lv_at hl 1 rfl) ?_
  refine qVi (rest := [.ref (h 0)]) ⟨hx, hb, hml, hown, hts⟩ (kP_motherOf l D Y h n hn S a1) (cwV 1 hts (gV uw17 uw18 uw19 uw8 ucP_motherOf) rfl rfl rfl hvP_motherOf ⟨Nat.le_of_ble_eq_true rfl, Nat.le_of_ble_eq_true rfl⟩) hK hP (va_recv hK hP (ci := 1) (q0 := 0) rfl rfl) rfl hl.1 rfl (Nat.le_of_ble_eq_true rfl) dP_inbreedingOf_3 ⟨Nat.le_of_ble_eq_true rfl, Nat.le_of_ble_eq_true rfl⟩ ?_
  refine lv_aload_n hx hb dP_inbreedingOf_6 rfl (lv_at hl 0 rfl) ?_
  refine lv_iload_n hx hb dP_inbreedingOf_7 rfl (lv_at hl 1 rfl) ?_
  refine qVi (rest := [.int (fP_motherOf n S a1), .ref (h 0)]) ⟨hx, hb, hml, hown, hts⟩ (kP_fatherOf l D Y h n hn S a1) (cwV 1 hts (gV uw20 uw21 uw22 uw8 ucP_fatherOf) rfl rfl rfl hvP_fatherOf ⟨Nat.le_of_ble_eq_true rfl, Nat.le_of_ble_eq_true rfl⟩) hK hP (va_recv hK hP (ci := 1) (q0 := 0) rfl rfl) rfl hl.1 rfl (Nat.le_of_ble_eq_true rfl) dP_inbreedingOf_8 ⟨Nat.le_of_ble_eq_true rfl, Nat.le_of_ble_eq_true rfl⟩ ?_
  refine qVl (rest := []) ⟨hx, hb, hml, hown, hts⟩ (kP_kinOf l D Y h n hn S (fP_motherOf n S a1) (fP_fatherOf n S a1)) (cwV 2 hts (gV uw23 uw24 uw25 uw8 ucP_kinOf) rfl rfl rfl hvP_kinOf ⟨Nat.le_of_ble_eq_true rfl, Nat.le_of_ble_eq_true rfl⟩) hK hP (va_recv hK hP (ci := 1) (q0 := 0) rfl rfl) rfl hl.1 rfl (Nat.le_of_ble_eq_true rfl) dP_inbreedingOf_11 ⟨Nat.le_of_ble_eq_true rfl, Nat.le_of_ble_eq_true rfl⟩ ?_
  exact zL_ret hx hb hr hlocks dP_inbreedingOf_14
abbrev rmP_settledBy : Room := { frames := 3, cells := 0, slots := 0, locals := 64 }
set_option maxHeartbeats 4000000 in
set_option maxRecDepth 100000 in
theorem kP_settledBy (l : Launch) (D : va_G) (Y : Nat → ClassId) (h : Nat → Nat) (n : Nat) (hn : n ≤ 24) (S : vP) (a1 : Int32) : Met l yP_settledBy wsP_settledBy rmP_settledBy (va_Pc [.ref (h 0), .int a1] (zPre D vwCl (tysK Y) (wP Y h n S))) (vp_Sl (fun r => r = (fP_settledBy n S a1))) 0 0 (fun _ => False) := by
  refine Met.ofW (cc := cP_settledBy) (maxL := 2) (ret := (some .long)) (by decide) rfl ?_
  intro p e s m args below meth c s₁ B hml hv
  obtain ⟨rfl, hP, hK⟩ := hv
  have hx := B.exec
  have hb := B.bytes
  have hr := B.returns
  have hts : ∀ w ∈ uT, w.before _ s = true := fun w hw => atoms_spec (ws := wsP_settledBy) B.pre w (List.mem_cons_of_mem _ hw)
  have hown : s.vm.findClass RP = some m.cls := findClass_of_methodNamed B.named
  have hlocks := B.notSynchronized
  have hl := lv_entry ([.ref (h 0), .int a1]) (n := 2) (Nat.le_of_ble_eq_true rfl)
  rw [lg_entry_eq]
  generalize (lg_sl ([.ref (h 0), .int a1]) ++ List.replicate (2 - (lg_sl ([.ref (h 0), .int a1])).length) Slot.unset).toArray = ls at hl ⊢
  have hl : lv_has ls 2 [(0, .ref (h 0)), (1, .int a1)] := hl
  show W p l e rmP_settledBy s m _ below meth c s.heap [] 0 0 (zL below _ s (fP_settledBy n S a1)) _
  unfold fP_settledBy
  show W p l e rmP_settledBy s m _ below meth c s.heap [] 0 0 (zL below _ s _) (F0 m 0 ls [])
  refine lv_aload_n hx hb dP_settledBy_0 rfl (lv_at hl 0 rfl) ?_
  refine lv_iload_n hx hb dP_settledBy_1 rfl (lv_at hl 1 rfl) ?_
  refine qVi (rest := []) ⟨hx, hb, hml, hown, hts⟩ (kP_has l D Y h n hn S a1) (cwV 1 hts (gV uw5 uw6 uw7 uw8 ucP_has) rfl rfl rfl hvP_has ⟨Nat.le_of_ble_eq_true rfl, Nat.le_of_ble_eq_true rfl⟩) hK hP (va_recv hK hP (ci := 1) (q0 := 0) rfl rfl) rfl hl.1 rfl (Nat.le_of_ble_eq_true rfl) dP_settledBy_2 ⟨Nat.le_of_ble_eq_true rfl, Nat.le_of_ble_eq_true rfl⟩ ?_
  refine zif (C := (fP_has n a1) = 0) (fun c5 => ?_) (fun c5 => ?_)
  · skip
    refine lv_if_eq (tgt := 24) hx hb dP_settledBy_5 (by decide) (fun _ => ?_) (fun z => absurd c5 z)
    refine lv_lconst (v := 0) hx hb dP_settledBy_24 (by decide) ?_
    exact zL_ret hx hb hr hlocks dP_settledBy_25
  · skip
    refine lv_if_eq (tgt := 24) hx hb dP_settledBy_5 (by decide) (fun z => absurd z c5) (fun _ => ?_)
    refine lv_ldc2 (v := 1073741824) hx hb hown (hts _ uw26) dP_settledBy_8 ?_
    refine lv_aload_n hx hb dP_settledBy_11 rfl (lv_at hl 0 rfl) ?_
    refine lv_iload_n hx hb dP_settledBy_12 rfl (lv_at hl 1 rfl) ?_
    refine qVl (rest := [.long 1073741824]) ⟨hx, hb, hml, hown, hts⟩ (kP_inbreedingOf l D Y h n hn S a1) (cwV 1 hts (gV uw27 uw28 uw29 uw8 ucP_inbreedingOf) rfl rfl rfl hvP_inbreedingOf ⟨Nat.le_of_ble_eq_true rfl, Nat.le_of_ble_eq_true rfl⟩) hK hP (va_recv hK hP (ci := 1) (q0 := 0) rfl rfl) rfl hl.1 rfl (Nat.le_of_ble_eq_true rfl) dP_settledBy_13 ⟨Nat.le_of_ble_eq_true rfl, Nat.le_of_ble_eq_true rfl⟩ ?_
    refine lv_ladd hx hb dP_settledBy_16 ?_
    refine lv_ldc2 (v := 4) hx hb hown (hts _ uw30) dP_settledBy_17 ?_
    refine lv_ldiv hx hb dP_settledBy_20 (by decide) ?_
    refine lv_goto (tgt := 25) hx hb dP_settledBy_21 (by decide) ?_
    exact zL_ret hx hb hr hlocks dP_settledBy_25
abbrev rmP_chanceOf : Room := { frames := 4, cells := 0, slots := 0, locals := 85 }
set_option maxHeartbeats 4000000 in
set_option maxRecDepth 100000 in
theorem kP_chanceOf (l : Launch) (D : va_G) (Y : Nat → ClassId) (h : Nat → Nat) (n : Nat) (hn : n ≤ 24) (S : vP) (a1 : Int32) : Met l yP_chanceOf wsP_chanceOf rmP_chanceOf (va_Pc [.ref (h 0), .int a1] (zPre D vwCl (tysK Y) (wP Y h n S))) (vp_Sl (fun r => r = (fP_chanceOf n S a1))) 0 0 (fun _ => False) := by
  refine Met.ofW (cc := cP_chanceOf) (maxL := 2) (ret := (some .long)) (by decide) rfl ?_
  intro p e s m args below meth c s₁ B hml hv
  obtain ⟨rfl, hP, hK⟩ := hv
  have hx := B.exec
  have hb := B.bytes
  have hr := B.returns
  have hts : ∀ w ∈ uT, w.before _ s = true := fun w hw => atoms_spec (ws := wsP_chanceOf) B.pre w (List.mem_cons_of_mem _ hw)
  have hown : s.vm.findClass RP = some m.cls := findClass_of_methodNamed B.named
  have hlocks := B.notSynchronized
  have hl := lv_entry ([.ref (h 0), .int a1]) (n := 2) (Nat.le_of_ble_eq_true rfl)
  rw [lg_entry_eq]
  generalize (lg_sl ([.ref (h 0), .int a1]) ++ List.replicate (2 - (lg_sl ([.ref (h 0), .int a1])).length) Slot.unset).toArray = ls at hl ⊢
  have hl : lv_has ls 2 [(0, .ref (h 0)), (1, .int a1)] := hl
  show W p l e rmP_chanceOf s m _ below meth c s.heap [] 0 0 (zL below _ s (fP_chanceOf n S a1)) _
  unfold fP_chanceOf
  show W p l e rmP_chanceOf s m _ below meth c s.heap [] 0 0 (zL below _ s _) (F0 m 0 ls [])
  refine lv_ldc2 (v := 1073741824) hx hb hown (hts _ uw26) dP_chanceOf_0 ?_
  refine lv_aload_n hx hb dP_chanceOf_3 rfl (lv_at hl 0 rfl) ?_
  refine lv_aload_n hx hb dP_chanceOf_4 rfl (lv_at hl 0 rfl) ?_
  refine lv_iload_n hx hb dP_chanceOf_5 rfl (lv_at hl 1 rfl) ?_
  refine qVi (rest := [.ref (h 0), .long 1073741824]) ⟨hx, hb, hml, hown, hts⟩ (kP_motherOf l D Y h n hn S a1) (cwV 1 hts (gV uw17 uw18 uw19 uw8 ucP_motherOf) rfl rfl rfl hvP_motherOf ⟨Nat.le_of_ble_eq_true rfl, Nat.le_of_ble_eq_true rfl⟩) hK hP (va_recv hK hP (ci := 1) (q0 := 0) rfl rfl) rfl hl.1 rfl (Nat.le_of_ble_eq_true rfl) dP_chanceOf_6 ⟨Nat.le_of_ble_eq_true rfl, Nat.le_of_ble_eq_true rfl⟩ ?_
  refine qVl (rest := [.long 1073741824]) ⟨hx, hb, hml, hown, hts⟩ (kP_settledBy l D Y h n hn S (fP_motherOf n S a1)) (cwV 1 hts (gV uw31 uw32 uw33 uw8 ucP_settledBy) rfl rfl rfl hvP_settledBy ⟨Nat.le_of_ble_eq_true rfl, Nat.le_of_ble_eq_true rfl⟩) hK hP (va_recv hK hP (ci := 1) (q0 := 0) rfl rfl) rfl hl.1 rfl (Nat.le_of_ble_eq_true rfl) dP_chanceOf_9 ⟨Nat.le_of_ble_eq_true rfl, Nat.le_of_ble_eq_true rfl⟩ ?_
  refine lv_lsub hx hb dP_chanceOf_12 ?_
  refine lv_aload_n hx hb dP_chanceOf_13 rfl (lv_at hl 0 rfl) ?_
  refine lv_aload_n hx hb dP_chanceOf_14 rfl (lv_at hl 0 rfl) ?_
  refine lv_iload_n hx hb dP_chanceOf_15 rfl (lv_at hl 1 rfl) ?_
  refine qVi (rest := [.ref (h 0), .long (1073741824 - (fP_settledBy n S (fP_motherOf n S a1)))]) ⟨hx, hb, hml, hown, hts⟩ (kP_fatherOf l D Y h n hn S a1) (cwV 1 hts (gV uw20 uw21 uw22 uw8 ucP_fatherOf) rfl rfl rfl hvP_fatherOf ⟨Nat.le_of_ble_eq_true rfl, Nat.le_of_ble_eq_true rfl⟩) hK hP (va_recv hK hP (ci := 1) (q0 := 0) rfl rfl) rfl hl.1 rfl (Nat.le_of_ble_eq_true rfl) dP_chanceOf_16 ⟨Nat.le_of_ble_eq_true rfl, Nat.le_of_ble_eq_true rfl⟩ ?_
  refine qVl (rest := [.long (1073741824 - (fP_settledBy n S (fP_motherOf n S a1)))]) ⟨hx, hb, hml, hown, hts⟩ (kP_settledBy l D Y h n hn S (fP_fatherOf n S a1)) (cwV 1 hts (gV uw31 uw32 uw33 uw8 ucP_settledBy) rfl rfl rfl hvP_settledBy ⟨Nat.le_of_ble_eq_true rfl, Nat.le_of_ble_eq_true rfl⟩) hK hP (va_recv hK hP (ci := 1) (q0 := 0) rfl rfl) rfl hl.1 rfl (Nat.le_of_ble_eq_true rfl) dP_chanceOf_19 ⟨Nat.le_of_ble_eq_true rfl, Nat.le_of_ble_eq_true rfl⟩ ?_
  refine lv_lsub hx hb dP_chanceOf_22 ?_
  exact zL_ret hx hb hr hlocks dP_chanceOf_23
abbrev rmP_shareRow : Room := { frames := 1, cells := 0, slots := 0, locals := 21 }
set_option maxHeartbeats 4000000 in
set_option maxRecDepth 100000 in
theorem kP_shareRow (l : Launch) (D : va_G) (Y : Nat → ClassId) (h : Nat → Nat) (n : Nat) (hn : n ≤ 24) (S : vP) (a1 : Int32) : Met l yP_shareRow wsP_shareRow rmP_shareRow (va_Pc [.ref (h 0), .int a1] (zPre D vwCl (tysK Y) (wP Y h n S))) (vp_Sl (fun r => r = (fP_shareRow n S a1))) 0 0 (fun _ => False) := by
  refine Met.ofW (cc := cP_shareRow) (maxL := 2) (ret := (some .long)) (by decide) rfl ?_
  intro p e s m args below meth c s₁ B hml hv
  obtain ⟨rfl, hP, hK⟩ := hv
  have hx := B.exec
  have hb := B.bytes
  have hr := B.returns
  have hts : ∀ w ∈ uT, w.before _ s = true := fun w hw => atoms_spec (ws := wsP_shareRow) B.pre w (List.mem_cons_of_mem _ hw)
  have hown : s.vm.findClass RP = some m.cls := findClass_of_methodNamed B.named
  have hlocks := B.notSynchronized
  have hl := lv_entry ([.ref (h 0), .int a1]) (n := 2) (Nat.le_of_ble_eq_true rfl)
  rw [lg_entry_eq]
  generalize (lg_sl ([.ref (h 0), .int a1]) ++ List.replicate (2 - (lg_sl ([.ref (h 0), .int a1])).length) Slot.unset).toArray = ls at hl ⊢
  have hl : lv_has ls 2 [(0, .ref (h 0)), (1, .int a1)] := hl
  show W p l e rmP_shareRow s m _ below meth c s.heap [] 0 0 (zL below _ s (fP_shareRow n S a1)) _
  unfold fP_shareRow
  show W p l e rmP_shareRow s m _ below meth c s.heap [] 0 0 (zL below _ s _) (F0 m 0 ls [])
  refine lv_aload_n hx hb dP_shareRow_0 rfl (lv_at hl 0 rfl) ?_
  refine lv_iload_n hx hb dP_shareRow_1 rfl (lv_at hl 1 rfl) ?_
  refine qVi (rest := []) ⟨hx, hb, hml, hown, hts⟩ (kP_has l D Y h n hn S a1) (cwV 1 hts (gV uw5 uw6 uw7 uw8 ucP_has) rfl rfl rfl hvP_has ⟨Nat.le_of_ble_eq_true rfl, Nat.le_of_ble_eq_true rfl⟩) hK hP (va_recv hK hP (ci := 1) (q0 := 0) rfl rfl) rfl hl.1 rfl (Nat.le_of_ble_eq_true rfl) dP_shareRow_2 ⟨Nat.le_of_ble_eq_true rfl, Nat.le_of_ble_eq_true rfl⟩ ?_
  refine zif (C := (fP_has n a1) = 0) (fun c5 => ?_) (fun c5 => ?_)
  · skip
    refine lv_if_eq (tgt := 17) hx hb dP_shareRow_5 (by decide) (fun _ => ?_) (fun z => absurd c5 z)
    refine lv_lconst (v := 0) hx hb dP_shareRow_17 (by decide) ?_
    exact zL_ret hx hb hr hlocks dP_shareRow_18
  · skip
    refine lv_if_eq (tgt := 17) hx hb dP_shareRow_5 (by decide) (fun z => absurd z c5) (fun _ => ?_)
    refine lv_aload_n hx hb dP_shareRow_8 rfl (lv_at hl 0 rfl) ?_
    refine va_get (D := D) (ci := 1) (v := .ref (h 7)) (C := RP) (T := TP) (N := 10) hx hb hts hinP hown hK hP 0 rfl rfl 7 (by decide) (hts _ uw34) (fun _ h9 => h9) rfl dP_shareRow_9 ?_
    refine lv_iload_n hx hb dP_shareRow_12 rfl (lv_at hl 1 rfl) ?_
    refine va_lald hx hb hK hP 7 1 rfl rfl (has_in hn c5) dP_shareRow_13 ?_
    refine lv_goto (tgt := 18) hx hb dP_shareRow_14 (by decide) ?_
    exact zL_ret hx hb hr hlocks dP_shareRow_18
abbrev rmP_leadsTo : Room := { frames := 2, cells := 0, slots := 0, locals := 43 }
set_option maxHeartbeats 4000000 in
set_option maxRecDepth 100000 in
theorem kP_leadsTo (l : Launch) (D : va_G) (Y : Nat → ClassId) (h : Nat → Nat) (n : Nat) (hn : n ≤ 24) (S : vP) (a1 : Int32) (a2 : Int32) : Met l yP_leadsTo wsP_leadsTo rmP_leadsTo (va_Pc [.ref (h 0), .int a1, .int a2] (zPre D vwCl (tysK Y) (wP Y h n S))) (vp_Si (fun r => r = (fP_leadsTo n S a1 a2))) 0 0 (fun _ => False) := by
  refine Met.ofW (cc := cP_leadsTo) (maxL := 3) (ret := (some .boolean)) (by decide) rfl ?_
  intro p e s m args below meth c s₁ B hml hv
  obtain ⟨rfl, hP, hK⟩ := hv
  have hx := B.exec
  have hb := B.bytes
  have hr := B.returns
  have hts : ∀ w ∈ uT, w.before _ s = true := fun w hw => atoms_spec (ws := wsP_leadsTo) B.pre w (List.mem_cons_of_mem _ hw)
  have hown : s.vm.findClass RP = some m.cls := findClass_of_methodNamed B.named
  have hlocks := B.notSynchronized
  have hl := lv_entry ([.ref (h 0), .int a1, .int a2]) (n := 3) (Nat.le_of_ble_eq_true rfl)
  rw [lg_entry_eq]
  generalize (lg_sl ([.ref (h 0), .int a1, .int a2]) ++ List.replicate (3 - (lg_sl ([.ref (h 0), .int a1, .int a2])).length) Slot.unset).toArray = ls at hl ⊢
  have hl : lv_has ls 3 [(0, .ref (h 0)), (1, .int a1), (2, .int a2)] := hl
  show W p l e rmP_leadsTo s m _ below meth c s.heap [] 0 0 (zI below _ s (fP_leadsTo n S a1 a2)) _
  unfold fP_leadsTo
  show W p l e rmP_leadsTo s m _ below meth c s.heap [] 0 0 (zI below _ s _) (F0 m 0 ls [])
  refine lv_iload_n hx hb dP_leadsTo_0 rfl (lv_at hl 1 rfl) ?_
  refine lv_iload_n hx hb dP_leadsTo_1 rfl (lv_at hl 2 rfl) ?_
  refine zif (C := a1 = a2) (fun c2 => ?_) (fun c2 => ?_)
  · skip
    refine lv_icmp_eq (tgt := 14) hx hb dP_leadsTo_2 (by decide) (fun _ => ?_) (fun z => absurd c2 z)
    refine lv_iconst (v := 1) hx hb dP_leadsTo_14 (by decide) ?_
    refine lv_goto (tgt := 19) hx hb dP_leadsTo_15 (by decide) ?_
    exact zB_ret hx hb hr hlocks (Or.inr rfl) dP_leadsTo_19
  · skip
    refine lv_icmp_eq (tgt := 14) hx hb dP_leadsTo_2 (by decide) (fun z => absurd z c2) (fun _ => ?_)
    refine lv_aload_n hx hb dP_leadsTo_5 rfl (lv_at hl 0 rfl) ?_
    refine lv_iload_n hx hb dP_leadsTo_6 rfl (lv_at hl 1 rfl) ?_
    refine lv_iload_n hx hb dP_leadsTo_7 rfl (lv_at hl 2 rfl) ?_
    refine qVi (rest := []) ⟨hx, hb, hml, hown, hts⟩ (kP_hasForbear l D Y h n hn S a1 a2) (cwV 2 hts (gV uw35 uw36 uw37 uw8 ucP_hasForbear) rfl rfl rfl hvP_hasForbear ⟨Nat.le_of_ble_eq_true rfl, Nat.le_of_ble_eq_true rfl⟩) hK hP (va_recv hK hP (ci := 1) (q0 := 0) rfl rfl) rfl hl.1 rfl (Nat.le_of_ble_eq_true rfl) dP_leadsTo_8 ⟨Nat.le_of_ble_eq_true rfl, Nat.le_of_ble_eq_true rfl⟩ ?_
    refine zif (C := (fP_hasForbear n S a1 a2) = 0) (fun c11 => ?_) (fun c11 => ?_)
    · skip
      refine lv_if_eq (tgt := 18) hx hb dP_leadsTo_11 (by decide) (fun _ => ?_) (fun z => absurd c11 z)
      refine lv_iconst (v := 0) hx hb dP_leadsTo_18 (by decide) ?_
      exact zB_ret hx hb hr hlocks (Or.inl rfl) dP_leadsTo_19
    · skip
      refine lv_if_eq (tgt := 18) hx hb dP_leadsTo_11 (by decide) (fun z => absurd z c11) (fun _ => ?_)
      refine lv_iconst (v := 1) hx hb dP_leadsTo_14 (by decide) ?_
      refine lv_goto (tgt := 19) hx hb dP_leadsTo_15 (by decide) ?_
      exact zB_ret hx hb hr hlocks (Or.inr rfl) dP_leadsTo_19
abbrev rmP_wouldClose : Room := { frames := 3, cells := 0, slots := 0, locals := 65 }
set_option maxHeartbeats 4000000 in
set_option maxRecDepth 100000 in
theorem kP_wouldClose (l : Launch) (D : va_G) (Y : Nat → ClassId) (h : Nat → Nat) (n : Nat) (hn : n ≤ 24) (S : vP) (a1 : Int32) (a2 : Int32) (a3 : Int32) : Met l yP_wouldClose wsP_wouldClose rmP_wouldClose (va_Pc [.ref (h 0), .int a1, .int a2, .int a3] (zPre D vwCl (tysK Y) (wP Y h n S))) (vp_Si (fun r => r = (fP_wouldClose n S a1 a2 a3))) 0 0 (fun _ => False) := by
  refine Met.ofW (cc := cP_wouldClose) (maxL := 4) (ret := (some .boolean)) (by decide) rfl ?_
  intro p e s m args below meth c s₁ B hml hv
  obtain ⟨rfl, hP, hK⟩ := hv
  have hx := B.exec
  have hb := B.bytes
  have hr := B.returns
  have hts : ∀ w ∈ uT, w.before _ s = true := fun w hw => atoms_spec (ws := wsP_wouldClose) B.pre w (List.mem_cons_of_mem _ hw)
  have hown : s.vm.findClass RP = some m.cls := findClass_of_methodNamed B.named
  have hlocks := B.notSynchronized
  have hl := lv_entry ([.ref (h 0), .int a1, .int a2, .int a3]) (n := 4) (Nat.le_of_ble_eq_true rfl)
  rw [lg_entry_eq]
  generalize (lg_sl ([.ref (h 0), .int a1, .int a2, .int a3]) ++ List.replicate (4 - (lg_sl ([.ref (h 0), .int a1, .int a2, .int a3])).length) Slot.unset).toArray = ls at hl ⊢
  have hl : lv_has ls 4 [(0, .ref (h 0)), (1, .int a1), (2, .int a2), (3, .int a3)] := hl
  show W p l e rmP_wouldClose s m _ below meth c s.heap [] 0 0 (zI below _ s (fP_wouldClose n S a1 a2 a3)) _
  unfold fP_wouldClose
  show W p l e rmP_wouldClose s m _ below meth c s.heap [] 0 0 (zI below _ s _) (F0 m 0 ls [])
  refine lv_aload_n hx hb dP_wouldClose_0 rfl (lv_at hl 0 rfl) ?_
  refine lv_iload_n hx hb dP_wouldClose_1 rfl (lv_at hl 2 rfl) ?_
  refine lv_iload_n hx hb dP_wouldClose_2 rfl (lv_at hl 1 rfl) ?_
  refine qVi (rest := []) ⟨hx, hb, hml, hown, hts⟩ (kP_leadsTo l D Y h n hn S a2 a1) (cwV 2 hts (gV uw38 uw39 uw40 uw8 ucP_leadsTo) rfl rfl rfl hvP_leadsTo ⟨Nat.le_of_ble_eq_true rfl, Nat.le_of_ble_eq_true rfl⟩) hK hP (va_recv hK hP (ci := 1) (q0 := 0) rfl rfl) rfl hl.1 rfl (Nat.le_of_ble_eq_true rfl) dP_wouldClose_3 ⟨Nat.le_of_ble_eq_true rfl, Nat.le_of_ble_eq_true rfl⟩ ?_
  refine zif (C := (fP_leadsTo n S a2 a1) = 0) (fun c6 => ?_) (fun c6 => ?_)
  · skip
    refine lv_if_ne (tgt := 18) hx hb dP_wouldClose_6 (by decide) (fun z => absurd c6 z) (fun _ => ?_)
    refine lv_aload_n hx hb dP_wouldClose_9 rfl (lv_at hl 0 rfl) ?_
    refine lv_iload_n hx hb dP_wouldClose_10 rfl (lv_at hl 3 rfl) ?_
    refine lv_iload_n hx hb dP_wouldClose_11 rfl (lv_at hl 1 rfl) ?_
    refine qVi (rest := []) ⟨hx, hb, hml, hown, hts⟩ (kP_leadsTo l D Y h n hn S a3 a1) (cwV 2 hts (gV uw38 uw39 uw40 uw8 ucP_leadsTo) rfl rfl rfl hvP_leadsTo ⟨Nat.le_of_ble_eq_true rfl, Nat.le_of_ble_eq_true rfl⟩) hK hP (va_recv hK hP (ci := 1) (q0 := 0) rfl rfl) rfl hl.1 rfl (Nat.le_of_ble_eq_true rfl) dP_wouldClose_12 ⟨Nat.le_of_ble_eq_true rfl, Nat.le_of_ble_eq_true rfl⟩ ?_
    refine zif (C := (fP_leadsTo n S a3 a1) = 0) (fun c15 => ?_) (fun c15 => ?_)
    · skip
      refine lv_if_eq (tgt := 22) hx hb dP_wouldClose_15 (by decide) (fun _ => ?_) (fun z => absurd c15 z)
      refine lv_iconst (v := 0) hx hb dP_wouldClose_22 (by decide) ?_
      exact zB_ret hx hb hr hlocks (Or.inl rfl) dP_wouldClose_23
    · skip
      refine lv_if_eq (tgt := 22) hx hb dP_wouldClose_15 (by decide) (fun z => absurd z c15) (fun _ => ?_)
      refine lv_iconst (v := 1) hx hb dP_wouldClose_18 (by decide) ?_
      refine lv_goto (tgt := 23) hx hb dP_wouldClose_19 (by decide) ?_
      exact zB_ret hx hb hr hlocks (Or.inr rfl) dP_wouldClose_23
  · skip
    refine lv_if_ne (tgt := 18) hx hb dP_wouldClose_6 (by decide) (fun _ => ?_) (fun z => absurd z c6)
    refine lv_iconst (v := 1) hx hb dP_wouldClose_18 (by decide) ?_
    refine lv_goto (tgt := 23) hx hb dP_wouldClose_19 (by decide) ?_
    exact zB_ret hx hb hr hlocks (Or.inr rfl) dP_wouldClose_23
abbrev rmP_ringAt : Room := { frames := 0, cells := 0, slots := 0, locals := 0 }
set_option maxHeartbeats 4000000 in
set_option maxRecDepth 100000 in
theorem kP_ringAt (l : Launch) (D : va_G) (Y : Nat → ClassId) (h : Nat → Nat) (n : Nat) (hn : n ≤ 24) (S : vP) (a1 : Int32) : Met l yP_ringAt wsP_ringAt rmP_ringAt (va_Pc [.ref (h 0), .int a1] (zPre D vwCl (tysK Y) (wP Y h n S))) (vp_Si (fun r => r = (fP_ringAt n S a1))) 0 0 (fun _ => False) := by
  refine Met.ofW (cc := cP_ringAt) (maxL := 2) (ret := (some .int)) (by decide) rfl ?_
  intro p e s m args below meth c s₁ B hml hv
  obtain ⟨rfl, hP, hK⟩ := hv
  have hx := B.exec
  have hb := B.bytes
  have hr := B.returns
  have hts : ∀ w ∈ uT, w.before _ s = true := fun w hw => atoms_spec (ws := wsP_ringAt) B.pre w (List.mem_cons_of_mem _ hw)
  have hown : s.vm.findClass RP = some m.cls := findClass_of_methodNamed B.named
  have hlocks := B.notSynchronized
  have hl := lv_entry ([.ref (h 0), .int a1]) (n := 2) (Nat.le_of_ble_eq_true rfl)
  rw [lg_entry_eq]
  generalize (lg_sl ([.ref (h 0), .int a1]) ++ List.replicate (2 - (lg_sl ([.ref (h 0), .int a1])).length) Slot.unset).toArray = ls at hl ⊢
  have hl : lv_has ls 2 [(0, .ref (h 0)), (1, .int a1)] := hl
  show W p l e rmP_ringAt s m _ below meth c s.heap [] 0 0 (zI below _ s (fP_ringAt n S a1)) _
  unfold fP_ringAt
  show W p l e rmP_ringAt s m _ below meth c s.heap [] 0 0 (zI below _ s _) (F0 m 0 ls [])
  refine lv_iload_n hx hb dP_ringAt_0 rfl (lv_at hl 1 rfl) ?_
  refine zif (C := a1 < 0) (fun c1 => ?_) (fun c1 => ?_)
  · skip
    refine lv_if_lt (tgt := 30) hx hb dP_ringAt_1 (by decide) (fun _ => ?_) (fun z => absurd c1 z)
    refine lv_iconst (v := (-1)) hx hb dP_ringAt_30 (by decide) ?_
    exact zI_ret hx hb hr hlocks dP_ringAt_31
  · skip
    refine lv_if_lt (tgt := 30) hx hb dP_ringAt_1 (by decide) (fun z => absurd z c1) (fun _ => ?_)
    refine lv_iload_n hx hb dP_ringAt_4 rfl (lv_at hl 1 rfl) ?_
    refine lv_aload_n hx hb dP_ringAt_5 rfl (lv_at hl 0 rfl) ?_
    refine va_get (D := D) (ci := 1) (v := .int (g_rl S)) (C := RP) (T := TP) (N := 10) hx hb hts hinP hown hK hP 0 rfl rfl 9 (by decide) (hts _ uw41) (fun _ h9 => h9) rfl dP_ringAt_6 ?_
    refine zif (C := (g_rl S) ≤ a1) (fun c9 => ?_) (fun c9 => ?_)
    · skip
      refine lv_icmp_ge (tgt := 30) hx hb dP_ringAt_9 (by decide) (fun _ => ?_) (fun z => absurd c9 z)
      refine lv_iconst (v := (-1)) hx hb dP_ringAt_30 (by decide) ?_
      exact zI_ret hx hb hr hlocks dP_ringAt_31
    · skip
      refine lv_icmp_ge (tgt := 30) hx hb dP_ringAt_9 (by decide) (fun z => absurd z c9) (fun _ => ?_)
      refine lv_iload_n hx hb dP_ringAt_12 rfl (lv_at hl 1 rfl) ?_
      refine lv_aload_n hx hb dP_ringAt_13 rfl (lv_at hl 0 rfl) ?_
      refine va_get (D := D) (ci := 1) (v := .ref (h 8)) (C := RP) (T := TP) (N := 10) hx hb hts hinP hown hK hP 0 rfl rfl 8 (by decide) (hts _ uw42) (fun _ h9 => h9) rfl dP_ringAt_14 ?_
      refine va_alen (v := 25) hx hb hK hP 8 0 rfl rfl rfl dP_ringAt_17 ?_
      refine zif (C := 25 ≤ a1) (fun c18 => ?_) (fun c18 => ?_)
      · skip
        refine lv_icmp_ge (tgt := 30) hx hb dP_ringAt_18 (by decide) (fun _ => ?_) (fun z => absurd c18 z)
        refine lv_iconst (v := (-1)) hx hb dP_ringAt_30 (by decide) ?_
        exact zI_ret hx hb hr hlocks dP_ringAt_31
      · skip
        refine lv_icmp_ge (tgt := 30) hx hb dP_ringAt_18 (by decide) (fun z => absurd z c18) (fun _ => ?_)
        refine lv_aload_n hx hb dP_ringAt_21 rfl (lv_at hl 0 rfl) ?_
        refine va_get (D := D) (ci := 1) (v := .ref (h 8)) (C := RP) (T := TP) (N := 10) hx hb hts hinP hown hK hP 0 rfl rfl 8 (by decide) (hts _ uw42) (fun _ h9 => h9) rfl dP_ringAt_22 ?_
        refine lv_iload_n hx hb dP_ringAt_25 rfl (lv_at hl 1 rfl) ?_
        refine va_iald hx hb hK hP 8 0 rfl rfl (vin_lt (n := 25) (Nat.le_refl _) (by decide) c1 c18) dP_ringAt_26 ?_
        refine lv_goto (tgt := 31) hx hb dP_ringAt_27 (by decide) ?_
        exact zI_ret hx hb hr hlocks dP_ringAt_31
abbrev rmP_lineOf : Room := { frames := 1, cells := 0, slots := 0, locals := 21 }
set_option maxHeartbeats 4000000 in
set_option maxRecDepth 100000 in
theorem kP_lineOf (l : Launch) (D : va_G) (Y : Nat → ClassId) (h : Nat → Nat) (n : Nat) (hn : n ≤ 24) (S : vP) (a1 : Int32) : Met l yP_lineOf wsP_lineOf rmP_lineOf (va_Pc [.ref (h 0), .int a1] (zPre D vwCl (tysK Y) (wP Y h n S))) (vp_Si (fun r => r = (fP_lineOf n S a1))) 0 0 (fun _ => False) := by
  refine Met.ofW (cc := cP_lineOf) (maxL := 2) (ret := (some .int)) (by decide) rfl ?_
  intro p e s m args below meth c s₁ B hml hv
  obtain ⟨rfl, hP, hK⟩ := hv
  have hx := B.exec
  have hb := B.bytes
  have hr := B.returns
  have hts : ∀ w ∈ uT, w.before _ s = true := fun w hw => atoms_spec (ws := wsP_lineOf) B.pre w (List.mem_cons_of_mem _ hw)
  have hown : s.vm.findClass RP = some m.cls := findClass_of_methodNamed B.named
  have hlocks := B.notSynchronized
  have hl := lv_entry ([.ref (h 0), .int a1]) (n := 2) (Nat.le_of_ble_eq_true rfl)
  rw [lg_entry_eq]
  generalize (lg_sl ([.ref (h 0), .int a1]) ++ List.replicate (2 - (lg_sl ([.ref (h 0), .int a1])).length) Slot.unset).toArray = ls at hl ⊢
  have hl : lv_has ls 2 [(0, .ref (h 0)), (1, .int a1)] := hl
  show W p l e rmP_lineOf s m _ below meth c s.heap [] 0 0 (zI below _ s (fP_lineOf n S a1)) _
  unfold fP_lineOf
  show W p l e rmP_lineOf s m _ below meth c s.heap [] 0 0 (zI below _ s _) (F0 m 0 ls [])
  refine lv_aload_n hx hb dP_lineOf_0 rfl (lv_at hl 0 rfl) ?_
  refine lv_iload_n hx hb dP_lineOf_1 rfl (lv_at hl 1 rfl) ?_
  refine qVi (rest := []) ⟨hx, hb, hml, hown, hts⟩ (kP_has l D Y h n hn S a1) (cwV 1 hts (gV uw5 uw6 uw7 uw8 ucP_has) rfl rfl rfl hvP_has ⟨Nat.le_of_ble_eq_true rfl, Nat.le_of_ble_eq_true rfl⟩) hK hP (va_recv hK hP (ci := 1) (q0 := 0) rfl rfl) rfl hl.1 rfl (Nat.le_of_ble_eq_true rfl) dP_lineOf_2 ⟨Nat.le_of_ble_eq_true rfl, Nat.le_of_ble_eq_true rfl⟩ ?_
  refine zif (C := (fP_has n a1) = 0) (fun c5 => ?_) (fun c5 => ?_)
  · skip
    refine lv_if_eq (tgt := 22) hx hb dP_lineOf_5 (by decide) (fun _ => ?_) (fun z => absurd c5 z)
    refine lv_iconst (v := 0) hx hb dP_lineOf_22 (by decide) ?_
    exact zI_ret hx hb hr hlocks dP_lineOf_23
  · skip
    refine lv_if_eq (tgt := 22) hx hb dP_lineOf_5 (by decide) (fun z => absurd z c5) (fun _ => ?_)
    refine lv_iload_n hx hb dP_lineOf_8 rfl (lv_at hl 1 rfl) ?_
    refine qSi (rest := []) ⟨hx, hb, hml, hown, hts⟩ (kP_bitOf l D Y a1) (va_cwS 1 hts (gS uw14 uw15 uw8 ucP_bitOf) rfl rfl rfl hsP_bitOf ⟨Nat.le_of_ble_eq_true rfl, Nat.le_of_ble_eq_true rfl⟩) hK (zsub [] hP rfl) rfl hl.1 rfl (Nat.le_of_ble_eq_true rfl) dP_lineOf_9 ⟨Nat.le_of_ble_eq_true rfl, Nat.le_of_ble_eq_true rfl⟩ ?_
    refine lv_aload_n hx hb dP_lineOf_12 rfl (lv_at hl 0 rfl) ?_
    refine va_get (D := D) (ci := 1) (v := .ref (h 5)) (C := RP) (T := TP) (N := 10) hx hb hts hinP hown hK hP 0 rfl rfl 5 (by decide) (hts _ uw13) (fun _ h9 => h9) rfl dP_lineOf_13 ?_
    refine lv_iload_n hx hb dP_lineOf_16 rfl (lv_at hl 1 rfl) ?_
    refine va_iald hx hb hK hP 5 0 rfl rfl (has_in hn c5) dP_lineOf_17 ?_
    refine lv_ior hx hb dP_lineOf_18 ?_
    refine lv_goto (tgt := 23) hx hb dP_lineOf_19 (by decide) ?_
    exact zI_ret hx hb hr hlocks dP_lineOf_23
abbrev rmP_forgetRing : Room := { frames := 0, cells := 0, slots := 0, locals := 0 }
set_option maxHeartbeats 4000000 in
set_option maxRecDepth 100000 in
theorem kP_forgetRing (l : Launch) (D : va_G) (Y : Nat → ClassId) (h : Nat → Nat) (n : Nat) (hn : n ≤ 24) (S : vP) (sz : Nat) : Met l yP_forgetRing wsP_forgetRing rmP_forgetRing (va_Pc [.ref (h 0)] (zPreM D vwCl (tysK Y) (wP Y h n S) sz)) (va_Qv (fun u => u = (fP_forgetRing n S)) (zAt D vwCl (tysK Y) (va_A (wP Y h n S) sz) (wP Y h n)) (va_A (wP Y h n S) sz)) 0 0 (va_A (wP Y h n S) sz) := by
  refine Met.ofW (cc := cP_forgetRing) (maxL := 1) (ret := none) (by decide) rfl ?_
  intro p e s m args below meth c s₁ B hml hv
  obtain ⟨rfl, hsz, hP, hK, hD0⟩ := hv
  have hx := B.exec
  have hb := B.bytes
  have hr := B.returns
  have hts : ∀ w ∈ uT, w.before _ s = true := fun w hw => atoms_spec (ws := wsP_forgetRing) B.pre w (List.mem_cons_of_mem _ hw)
  have hown : s.vm.findClass RP = some m.cls := findClass_of_methodNamed B.named
  have hlocks := B.notSynchronized
  subst hsz
  have hD := hD0.self (sz := s.heap.size)
  generalize hAe : va_A (wP Y h n S) s.heap.size = A at hD ⊢
  have hA : ∀ q : Nat, s.heap.size ≤ q → A q := fun q h => by rw [← hAe]; exact Or.inr h
  have hS : va_S A s.heap s.heap [] := va_S.rf
  have hl := lv_entry ([.ref (h 0)]) (n := 1) (Nat.le_of_ble_eq_true rfl)
  rw [lg_entry_eq]
  generalize (lg_sl ([.ref (h 0)]) ++ List.replicate (1 - (lg_sl ([.ref (h 0)])).length) Slot.unset).toArray = ls at hl ⊢
  have hl : lv_has ls 1 [(0, .ref (h 0))] := hl
  show W p l e rmP_forgetRing s m _ below meth c s.heap [] 0 0 (zMv D vwCl (tysK Y) A (wP Y h n) below _ s 0 0 (fP_forgetRing n S)) _
  unfold fP_forgetRing
  show W p l e rmP_forgetRing s m _ below meth c s.heap [] 0 0 (zMv D vwCl (tysK Y) A (wP Y h n) below _ s 0 0 _) (F0 m 0 ls [])
  refine lv_aload_n hx hb dP_forgetRing_0 rfl (lv_at hl 0 rfl) ?_
  refine lv_iconst (v := 0) hx hb dP_forgetRing_1 (by decide) ?_
  refine va_put (D := D) (ci := 1) (v := .int 0) (ty := .int) (C := RP) (T := TP) (N := 10) hx hb hts hinP tyP tyP_ok nmP hown hK hP hD hS 0 rfl rfl 9 (by decide) (hts _ uw41) (fun _ h9 => h9) rfl (by decide +kernel) rfl rfl (Nat.le_of_ble_eq_true rfl) dP_forgetRing_2 (fun H locs hP hD hS => ?_)
  have hP : va_P D vwCl (wP Y h n (p_rl S (0))) H := hP
  have hD : va_D A (wP Y h n (p_rl S (0))) := hD
  exact zMv_ret (u := (p_rl S (0))) hx hb hr hlocks hK hP hD hS dP_forgetRing_5
abbrev rmP_shareOf : Room := { frames := 2, cells := 0, slots := 0, locals := 42 }
set_option maxHeartbeats 4000000 in
set_option maxRecDepth 100000 in
theorem tP_shareOf_2 {p : Program} {l : Launch} {e : Env} {s : State} {m : MethodId} {args : Array Value} {below : List Frame} {meth : Method} {c : Code} {D : va_G} {Y : Nat → ClassId} {h : Nat → Nat} {n : Nat} (hn : n ≤ 24) {A : Nat → Prop} (hA : ∀ q : Nat, s.heap.size ≤ q → A q) (CF : CallFix p m c cP_shareOf 5 s args uT RP) (hr : meth.sig.returnType = (some .long)) (hlocks : meth.locks = false) (hK : va_K D vwCl (tysK Y) s) : ∀ (k i : Nat) (x1 : Int32) (x2 : Int32) (S : vP), i + k = n → ∀ (H : Heap) (locs : List Loc), va_P D vwCl (wP Y h n S) H → va_D A (wP Y h n S) → va_S A s.heap H locs → ∀ ls : Array Slot, lv_has ls 5 [(0, .ref (h 0)), (1, .int x1), (2, .int x2), (3, .int (nI i))] → W p l e rmP_shareOf s m args below meth c H locs 0 0 (zMl D vwCl (tysK Y) A (wP Y h n) below args s 0 0 (fP_shareOf_2 n k i x1 x2 S)) (F0 m 2 ls []) := by
  obtain ⟨hx, hb, hml, hown, hts⟩ := CF
  intro k
  induction k with
  | zero =>
    intro i x1 x2 S hi  H locs hP hD hS ls hl
    rw [fP_shareOf_2]
    refine lv_iload_n hx hb dP_shareOf_2 rfl (lv_at hl 3 rfl) ?_
    refine lv_aload_n hx hb dP_shareOf_3 rfl (lv_at hl 0 rfl) ?_
    refine va_get (D := D) (ci := 1) (v := .int (nI n)) (C := RP) (T := TP) (N := 10) hx hb hts hinP hown hK hP 0 rfl rfl 0 (by decide) (hts _ uw4) (fun _ h9 => h9) rfl dP_shareOf_4 ?_
    refine lv_icmp_ge (tgt := 76) hx hb dP_shareOf_7 (by decide) (fun _ => ?_) (fun z => absurd (lp_ge (n := n) hi) z)
    refine lv_aload_n hx hb dP_shareOf_76 rfl (lv_at hl 0 rfl) ?_
    refine lv_iload_n hx hb dP_shareOf_77 rfl (lv_at hl 1 rfl) ?_
    refine qVl (rest := []) ⟨hx, hb, hml, hown, hts⟩ (kP_shareRow l D Y h n hn S x1) (cwV 1 hts (gV uw43 uw44 uw45 uw8 ucP_shareRow) rfl rfl rfl hvP_shareRow ⟨Nat.le_of_ble_eq_true rfl, Nat.le_of_ble_eq_true rfl⟩) hK hP (va_recv hK hP (ci := 1) (q0 := 0) rfl rfl) rfl hl.1 rfl (Nat.le_of_ble_eq_true rfl) dP_shareOf_78 ⟨Nat.le_of_ble_eq_true rfl, Nat.le_of_ble_eq_true rfl⟩ ?_
    exact zMl_ret (u := S) hx hb hr hlocks hK hP hD hS dP_shareOf_81
  | succ k ih =>
    intro i x1 x2 S hi  H locs hP hD hS ls hl
    rw [fP_shareOf_2]
    refine lv_iload_n hx hb dP_shareOf_2 rfl (lv_at hl 3 rfl) ?_
    refine lv_aload_n hx hb dP_shareOf_3 rfl (lv_at hl 0 rfl) ?_
    refine va_get (D := D) (ci := 1) (v := .int (nI n)) (C := RP) (T := TP) (N := 10) hx hb hts hinP hown hK hP 0 rfl rfl 0 (by decide) (hts _ uw4) (fun _ h9 => h9) rfl dP_shareOf_4 ?_
    refine lv_icmp_ge (tgt := 76) hx hb dP_shareOf_7 (by decide) (fun z => absurd z (lp_lt (n := n) hi (by omega))) (fun _ => ?_)
    refine lv_aload_n hx hb dP_shareOf_10 rfl (lv_at hl 0 rfl) ?_
    refine lv_iload_n hx hb dP_shareOf_11 rfl (lv_at hl 3 rfl) ?_
    refine qVi (rest := []) ⟨hx, hb, hml, hown, hts⟩ (kP_inOrder l D Y h n hn S (nI i)) (cwV 1 hts (gV uw46 uw47 uw48 uw8 ucP_inOrder) rfl rfl rfl hvP_inOrder ⟨Nat.le_of_ble_eq_true rfl, Nat.le_of_ble_eq_true rfl⟩) hK hP (va_recv hK hP (ci := 1) (q0 := 0) rfl rfl) rfl hl.1 rfl (Nat.le_of_ble_eq_true rfl) dP_shareOf_12 ⟨Nat.le_of_ble_eq_true rfl, Nat.le_of_ble_eq_true rfl⟩ ?_
    refine lv_istore (lv' := [(4, .int (fP_inOrder n S (nI i))), (0, .ref (h 0)), (1, .int x1), (2, .int x2), (3, .int (nI i))]) hx hb dP_shareOf_15 hl (by decide) rfl (fun ls hl => ?_)
    refine lv_aload_n hx hb dP_shareOf_17 rfl (lv_at hl 1 rfl) ?_
    refine lv_iload hx hb dP_shareOf_18 (lv_at hl 0 rfl) ?_
    refine qVi (rest := []) ⟨hx, hb, hml, hown, hts⟩ (kP_has l D Y h n hn S (fP_inOrder n S (nI i))) (cwV 1 hts (gV uw5 uw6 uw7 uw8 ucP_has) rfl rfl rfl hvP_has ⟨Nat.le_of_ble_eq_true rfl, Nat.le_of_ble_eq_true rfl⟩) hK hP (va_recv hK hP (ci := 1) (q0 := 0) rfl rfl) rfl hl.1 rfl (Nat.le_of_ble_eq_true rfl) dP_shareOf_20 ⟨Nat.le_of_ble_eq_true rfl, Nat.le_of_ble_eq_true rfl⟩ ?_
    refine zif (C := (fP_has n (fP_inOrder n S (nI i))) = 0) (fun c23 => ?_) (fun c23 => ?_)
    · skip
      refine lv_if_eq (tgt := 70) hx hb dP_shareOf_23 (by decide) (fun _ => ?_) (fun z => absurd c23 z)
      refine lv_iinc (v := (nI (i + 1))) (lv' := [(3, .int (nI (i + 1))), (4, .int (fP_inOrder n S (nI i))), (0, .ref (h 0)), (1, .int x1), (2, .int x2)]) hx hb dP_shareOf_70 hl (k := 4) rfl (nI_1 _) (by decide) rfl (fun ls hl => ?_)
      refine lv_goto (tgt := 2) hx hb dP_shareOf_73 (by decide) ?_
      exact ih (i + 1) x1 x2 S (by omega) _ _ hP hD hS ls (lv_sub hl [2, 3, 4, 0] rfl)
    · skip
      refine lv_if_eq (tgt := 70) hx hb dP_shareOf_23 (by decide) (fun z => absurd z c23) (fun _ => ?_)
      refine lv_aload_n hx hb dP_shareOf_26 rfl (lv_at hl 1 rfl) ?_
      refine va_get (D := D) (ci := 1) (v := .ref (h 7)) (C := RP) (T := TP) (N := 10) hx hb hts hinP hown hK hP 0 rfl rfl 7 (by decide) (hts _ uw34) (fun _ h9 => h9) rfl dP_shareOf_27 ?_
      refine lv_iload hx hb dP_shareOf_30 (lv_at hl 0 rfl) ?_
      refine lv_iload hx hb dP_shareOf_32 (lv_at hl 0 rfl) ?_
      refine lv_iload_n hx hb dP_shareOf_34 rfl (lv_at hl 3 rfl) ?_
      refine zif (C := (fP_inOrder n S (nI i)) = x2) (fun c35 => ?_) (fun c35 => ?_)
      · skip
        refine lv_icmp_ne (tgt := 44) hx hb dP_shareOf_35 (by decide) (fun z => absurd c35 z) (fun _ => ?_)
        refine lv_ldc2 (v := 1073741824) hx hb hown (hts _ uw26) dP_shareOf_38 ?_
        refine lv_goto (tgt := 69) hx hb dP_shareOf_41 (by decide) ?_
        refine va_last hx hb hK hP hD hS 7 1 rfl rfl (has_in hn c23) dP_shareOf_69 (fun H locs hP hD hS => ?_)
        have hP : va_P D vwCl (wP Y h n (p_sh S (vp_updL (g_sh S) ((fP_inOrder n S (nI i)) : Int32).toNatClampNeg 1073741824))) H := hP
        have hD : va_D A (wP Y h n (p_sh S (vp_updL (g_sh S) ((fP_inOrder n S (nI i)) : Int32).toNatClampNeg 1073741824))) := hD
        refine lv_iinc (v := (nI (i + 1))) (lv' := [(3, .int (nI (i + 1))), (4, .int (fP_inOrder n S (nI i))), (0, .ref (h 0)), (1, .int x1), (2, .int x2)]) hx hb dP_shareOf_70 hl (k := 4) rfl (nI_1 _) (by decide) rfl (fun ls hl => ?_)
        refine lv_goto (tgt := 2) hx hb dP_shareOf_73 (by decide) ?_
        exact ih (i + 1) x1 x2 (p_sh S (vp_updL (g_sh S) ((fP_inOrder n S (nI i)) : Int32).toNatClampNeg 1073741824)) (by omega) _ _ hP hD hS ls (lv_sub hl [2, 3, 4, 0] rfl)
      · skip
        refine lv_icmp_ne (tgt := 44) hx hb dP_shareOf_35 (by decide) (fun _ => ?_) (fun z => absurd z c35)
        refine lv_aload_n hx hb dP_shareOf_44 rfl (lv_at hl 1 rfl) ?_
        refine lv_aload_n hx hb dP_shareOf_45 rfl (lv_at hl 1 rfl) ?_
        refine lv_iload hx hb dP_shareOf_46 (lv_at hl 0 rfl) ?_
        refine qVi (rest := [.ref (h 0), .int (fP_inOrder n S (nI i)), .ref (h 7)]) ⟨hx, hb, hml, hown, hts⟩ (kP_motherOf l D Y h n hn S (fP_inOrder n S (nI i))) (cwV 1 hts (gV uw17 uw18 uw19 uw8 ucP_motherOf) rfl rfl rfl hvP_motherOf ⟨Nat.le_of_ble_eq_true rfl, Nat.le_of_ble_eq_true rfl⟩) hK hP (va_recv hK hP (ci := 1) (q0 := 0) rfl rfl) rfl hl.1 rfl (Nat.le_of_ble_eq_true rfl) dP_shareOf_48 ⟨Nat.le_of_ble_eq_true rfl, Nat.le_of_ble_eq_true rfl⟩ ?_
        refine qVl (rest := [.int (fP_inOrder n S (nI i)), .ref (h 7)]) ⟨hx, hb, hml, hown, hts⟩ (kP_shareRow l D Y h n hn S (fP_motherOf n S (fP_inOrder n S (nI i)))) (cwV 1 hts (gV uw43 uw44 uw45 uw8 ucP_shareRow) rfl rfl rfl hvP_shareRow ⟨Nat.le_of_ble_eq_true rfl, Nat.le_of_ble_eq_true rfl⟩) hK hP (va_recv hK hP (ci := 1) (q0 := 0) rfl rfl) rfl hl.1 rfl (Nat.le_of_ble_eq_true rfl) dP_shareOf_51 ⟨Nat.le_of_ble_eq_true rfl, Nat.le_of_ble_eq_true rfl⟩ ?_
        refine lv_aload_n hx hb dP_shareOf_54 rfl (lv_at hl 1 rfl) ?_
        refine lv_aload_n hx hb dP_shareOf_55 rfl (lv_at hl 1 rfl) ?_
        refine lv_iload hx hb dP_shareOf_56 (lv_at hl 0 rfl) ?_
        refine qVi (rest := [.ref (h 0), .long (fP_shareRow n S (fP_motherOf n S (fP_inOrder n S (nI i)))), .int (fP_inOrder n S (nI i)), .ref (h 7)]) ⟨hx, hb, hml, hown, hts⟩ (kP_fatherOf l D Y h n hn S (fP_inOrder n S (nI i))) (cwV 1 hts (gV uw20 uw21 uw22 uw8 ucP_fatherOf) rfl rfl rfl hvP_fatherOf ⟨Nat.le_of_ble_eq_true rfl, Nat.le_of_ble_eq_true rfl⟩) hK hP (va_recv hK hP (ci := 1) (q0 := 0) rfl rfl) rfl hl.1 rfl (Nat.le_of_ble_eq_true rfl) dP_shareOf_58 ⟨Nat.le_of_ble_eq_true rfl, Nat.le_of_ble_eq_true rfl⟩ ?_
        refine qVl (rest := [.long (fP_shareRow n S (fP_motherOf n S (fP_inOrder n S (nI i)))), .int (fP_inOrder n S (nI i)), .ref (h 7)]) ⟨hx, hb, hml, hown, hts⟩ (kP_shareRow l D Y h n hn S (fP_fatherOf n S (fP_inOrder n S (nI i)))) (cwV 1 hts (gV uw43 uw44 uw45 uw8 ucP_shareRow) rfl rfl rfl hvP_shareRow ⟨Nat.le_of_ble_eq_true rfl, Nat.le_of_ble_eq_true rfl⟩) hK hP (va_recv hK hP (ci := 1) (q0 := 0) rfl rfl) rfl hl.1 rfl (Nat.le_of_ble_eq_true rfl) dP_shareOf_61 ⟨Nat.le_of_ble_eq_true rfl, Nat.le_of_ble_eq_true rfl⟩ ?_
        refine lv_ladd hx hb dP_shareOf_64 ?_
        refine lv_ldc2 (v := 2) hx hb hown (hts _ uw49) dP_shareOf_65 ?_
        refine lv_ldiv hx hb dP_shareOf_68 (by decide) ?_
        refine va_last hx hb hK hP hD hS 7 1 rfl rfl (has_in hn c23) dP_shareOf_69 (fun H locs hP hD hS => ?_)
        have hP : va_P D vwCl (wP Y h n (p_sh S (vp_updL (g_sh S) ((fP_inOrder n S (nI i)) : Int32).toNatClampNeg (((fP_shareRow n S (fP_motherOf n S (fP_inOrder n S (nI i)))) + (fP_shareRow n S (fP_fatherOf n S (fP_inOrder n S (nI i))))) / 2)))) H := hP
        have hD : va_D A (wP Y h n (p_sh S (vp_updL (g_sh S) ((fP_inOrder n S (nI i)) : Int32).toNatClampNeg (((fP_shareRow n S (fP_motherOf n S (fP_inOrder n S (nI i)))) + (fP_shareRow n S (fP_fatherOf n S (fP_inOrder n S (nI i))))) / 2)))) := hD
        refine lv_iinc (v := (nI (i + 1))) (lv' := [(3, .int (nI (i + 1))), (4, .int (fP_inOrder n S (nI i))), (0, .ref (h 0)), (1, .int x1), (2, .int x2)]) hx hb dP_shareOf_70 hl (k := 4) rfl (nI_1 _) (by decide) rfl (fun ls hl => ?_)
        refine lv_goto (tgt := 2) hx hb dP_shareOf_73 (by decide) ?_
        exact ih (i + 1) x1 x2 (p_sh S (vp_updL (g_sh S) ((fP_inOrder n S (nI i)) : Int32).toNatClampNeg (((fP_shareRow n S (fP_motherOf n S (fP_inOrder n S (nI i)))) + (fP_shareRow n S (fP_fatherOf n S (fP_inOrder n S (nI i))))) / 2))) (by omega) _ _ hP hD hS ls (lv_sub hl [2, 3, 4, 0] rfl)
set_option maxHeartbeats 4000000 in
set_option maxRecDepth 100000 in
theorem kP_shareOf (l : Launch) (D : va_G) (Y : Nat → ClassId) (h : Nat → Nat) (n : Nat) (hn : n ≤ 24) (S : vP) (a1 : Int32) (a2 : Int32) (sz : Nat) : Met l yP_shareOf wsP_shareOf rmP_shareOf (va_Pc [.ref (h 0), .int a1, .int a2] (zPreM D vwCl (tysK Y) (wP Y h n S) sz)) (va_Ql (fun r u => (r, u) = (fP_shareOf n S a1 a2)) (zAt D vwCl (tysK Y) (va_A (wP Y h n S) sz) (wP Y h n)) (va_A (wP Y h n S) sz)) 0 0 (va_A (wP Y h n S) sz) := by
  refine Met.ofW (cc := cP_shareOf) (maxL := 5) (ret := (some .long)) (by decide) rfl ?_
  intro p e s m args below meth c s₁ B hml hv
  obtain ⟨rfl, hsz, hP, hK, hD0⟩ := hv
  have hx := B.exec
  have hb := B.bytes
  have hr := B.returns
  have hts : ∀ w ∈ uT, w.before _ s = true := fun w hw => atoms_spec (ws := wsP_shareOf) B.pre w (List.mem_cons_of_mem _ hw)
  have hown : s.vm.findClass RP = some m.cls := findClass_of_methodNamed B.named
  have hlocks := B.notSynchronized
  subst hsz
  have hD := hD0.self (sz := s.heap.size)
  generalize hAe : va_A (wP Y h n S) s.heap.size = A at hD ⊢
  have hA : ∀ q : Nat, s.heap.size ≤ q → A q := fun q h => by rw [← hAe]; exact Or.inr h
  have hS : va_S A s.heap s.heap [] := va_S.rf
  have hl := lv_entry ([.ref (h 0), .int a1, .int a2]) (n := 5) (Nat.le_of_ble_eq_true rfl)
  rw [lg_entry_eq]
  generalize (lg_sl ([.ref (h 0), .int a1, .int a2]) ++ List.replicate (5 - (lg_sl ([.ref (h 0), .int a1, .int a2])).length) Slot.unset).toArray = ls at hl ⊢
  have hl : lv_has ls 5 [(0, .ref (h 0)), (1, .int a1), (2, .int a2)] := hl
  show W p l e rmP_shareOf s m _ below meth c s.heap [] 0 0 (zMl D vwCl (tysK Y) A (wP Y h n) below _ s 0 0 (fP_shareOf n S a1 a2)) _
  unfold fP_shareOf
  show W p l e rmP_shareOf s m _ below meth c s.heap [] 0 0 (zMl D vwCl (tysK Y) A (wP Y h n) below _ s 0 0 _) (F0 m 0 ls [])
  refine lv_iconst (v := 0) hx hb dP_shareOf_0 (by decide) ?_
  refine lv_istore_n (lv' := [(3, .int 0), (0, .ref (h 0)), (1, .int a1), (2, .int a2)]) hx hb dP_shareOf_1 rfl hl (by decide) rfl (fun ls hl => ?_)
  exact tP_shareOf_2 hn hA ⟨hx, hb, hml, hown, hts⟩ hr hlocks hK n 0 a1 a2 S (by omega) _ _ hP hD hS ls (lv_sub hl [1, 2, 3, 0] rfl)
