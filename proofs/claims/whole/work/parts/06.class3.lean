abbrev rmM_lettersB : Room := { frames := 2, cells := 0, slots := 0, locals := 44 }
set_option maxHeartbeats 4000000 in
set_option maxRecDepth 100000 in
theorem tM_lettersB_4 {p : Program} {l : Launch} {e : Env} {s : State} {m : MethodId} {args : Array Value} {below : List Frame} {meth : Method} {c : Code} {D : va_G} {Y : Nat → ClassId} {h : Nat → Nat} {n : Nat} (hn : n ≤ 24) {S : vM} (CF : CallFix p m c cM_lettersB 4 s args uT RM) (hr : meth.sig.returnType = (some .int)) (hlocks : meth.locks = false) (hK : va_K D vwCl (tysK Y) s) (hP : va_P D vwCl (wM Y h n S) s.heap) : ∀ (k i : Nat) (x1 : Int32) (x2 : Int32), i + k = n → ∀ ls : Array Slot, lv_has ls 4 [(0, .ref (h 0)), (1, .int x1), (2, .int x2), (3, .int (nI i))] → W p l e rmM_lettersB s m args below meth c s.heap [] 0 0 (zI below args s (fM_lettersB_4 n S k i x1 x2)) (F0 m 4 ls []) := by
  obtain ⟨hx, hb, hml, hown, hts⟩ := CF
  intro k
  induction k with
  | zero =>
    intro i x1 x2 hi  ls hl
    rw [fM_lettersB_4]
    refine lv_iload_n hx hb dM_lettersB_4 rfl (lv_at hl 3 rfl) ?_
    refine lv_aload_n hx hb dM_lettersB_5 rfl (lv_at hl 0 rfl) ?_
    refine va_get (D := D) (ci := 2) (v := .int (nI n)) (C := RM) (T := TM) (N := 2) hx hb hts hinM hown hK hP 0 rfl rfl 0 (by decide) (hts _ uw80) (fun _ h9 => h9) rfl dM_lettersB_6 ?_
    refine lv_icmp_ge (tgt := 31) hx hb dM_lettersB_9 (by decide) (fun _ => ?_) (fun z => absurd (lp_ge (n := n) hi) z)
    refine lv_iload_n hx hb dM_lettersB_31 rfl (lv_at hl 2 rfl) ?_
    exact zI_ret hx hb hr hlocks dM_lettersB_32
  | succ k ih =>
    intro i x1 x2 hi  ls hl
    rw [fM_lettersB_4]
    refine lv_iload_n hx hb dM_lettersB_4 rfl (lv_at hl 3 rfl) ?_
    refine lv_aload_n hx hb dM_lettersB_5 rfl (lv_at hl 0 rfl) ?_
    refine va_get (D := D) (ci := 2) (v := .int (nI n)) (C := RM) (T := TM) (N := 2) hx hb hts hinM hown hK hP 0 rfl rfl 0 (by decide) (hts _ uw80) (fun _ h9 => h9) rfl dM_lettersB_6 ?_
    refine lv_icmp_ge (tgt := 31) hx hb dM_lettersB_9 (by decide) (fun z => absurd z (lp_lt (n := n) hi (by omega))) (fun _ => ?_)
    refine lv_iload_n hx hb dM_lettersB_12 rfl (lv_at hl 2 rfl) ?_
    refine lv_iconst (v := 0) hx hb dM_lettersB_13 (by decide) ?_
    refine lv_aload_n hx hb dM_lettersB_14 rfl (lv_at hl 0 rfl) ?_
    refine lv_iload_n hx hb dM_lettersB_15 rfl (lv_at hl 3 rfl) ?_
    refine lv_iload_n hx hb dM_lettersB_16 rfl (lv_at hl 1 rfl) ?_
    refine qVi (rest := [.int 0, .int x2]) ⟨hx, hb, hml, hown, hts⟩ (kM_formOf l D Y h n hn S (nI i) x1) (cwV 2 hts (gV uw86 uw87 uw88 uw84 ucM_formOf) rfl rfl rfl hvM_formOf ⟨Nat.le_of_ble_eq_true rfl, Nat.le_of_ble_eq_true rfl⟩) hK hP (va_recv hK hP (ci := 2) (q0 := 0) rfl rfl) rfl hl.1 rfl (Nat.le_of_ble_eq_true rfl) dM_lettersB_17 ⟨Nat.le_of_ble_eq_true rfl, Nat.le_of_ble_eq_true rfl⟩ ?_
    refine q_max hx hb (hml.trans hl.1.symm) hown (hts _ uw91) (hts _ uw63) (hts _ uw64) (hts _ ucJ_max) (Nat.le_of_ble_eq_true rfl) (Nat.le_of_ble_eq_true rfl) (Nat.le_of_ble_eq_true rfl) (Nat.le_of_ble_eq_true rfl) dM_lettersB_20 ?_
    refine lv_iadd hx hb dM_lettersB_23 ?_
    refine lv_istore_n (lv' := [(2, .int (x2 + (fJ_max 0 (fM_formOf n S (nI i) x1)))), (0, .ref (h 0)), (1, .int x1), (3, .int (nI i))]) hx hb dM_lettersB_24 rfl hl (by decide) rfl (fun ls hl => ?_)
    refine lv_iinc (v := (nI (i + 1))) (lv' := [(3, .int (nI (i + 1))), (2, .int (x2 + (fJ_max 0 (fM_formOf n S (nI i) x1)))), (0, .ref (h 0)), (1, .int x1)]) hx hb dM_lettersB_25 hl (k := 3) rfl (nI_1 _) (by decide) rfl (fun ls hl => ?_)
    refine lv_goto (tgt := 4) hx hb dM_lettersB_28 (by decide) ?_
    exact ih (i + 1) x1 (x2 + (fJ_max 0 (fM_formOf n S (nI i) x1))) (by omega) ls (lv_sub hl [2, 3, 1, 0] rfl)
set_option maxHeartbeats 4000000 in
set_option maxRecDepth 100000 in
theorem kM_lettersB (l : Launch) (D : va_G) (Y : Nat → ClassId) (h : Nat → Nat) (n : Nat) (hn : n ≤ 24) (S : vM) (a1 : Int32) : Met l yM_lettersB wsM_lettersB rmM_lettersB (va_Pc [.ref (h 0), .int a1] (zPre D vwCl (tysK Y) (wM Y h n S))) (vp_Si (fun r => r = (fM_lettersB n S a1))) 0 0 (fun _ => False) := by
  refine Met.ofW (cc := cM_lettersB) (maxL := 4) (ret := (some .int)) (by decide) rfl ?_
  intro p e s m args below meth c s₁ B hml hv
  obtain ⟨rfl, hP, hK⟩ := hv
  have hx := B.exec
  have hb := B.bytes
  have hr := B.returns
  have hts : ∀ w ∈ uT, w.before _ s = true := fun w hw => atoms_spec (ws := wsM_lettersB) B.pre w (List.mem_cons_of_mem _ hw)
  have hown : s.vm.findClass RM = some m.cls := findClass_of_methodNamed B.named
  have hlocks := B.notSynchronized
  have hl := lv_entry ([.ref (h 0), .int a1]) (n := 4) (Nat.le_of_ble_eq_true rfl)
  rw [lg_entry_eq]
  generalize (lg_sl ([.ref (h 0), .int a1]) ++ List.replicate (4 - (lg_sl ([.ref (h 0), .int a1])).length) Slot.unset).toArray = ls at hl ⊢
  have hl : lv_has ls 4 [(0, .ref (h 0)), (1, .int a1)] := hl
  show W p l e rmM_lettersB s m _ below meth c s.heap [] 0 0 (zI below _ s (fM_lettersB n S a1)) _
  unfold fM_lettersB
  show W p l e rmM_lettersB s m _ below meth c s.heap [] 0 0 (zI below _ s _) (F0 m 0 ls [])
  refine lv_iconst (v := 0) hx hb dM_lettersB_0 (by decide) ?_
  refine lv_istore_n (lv' := [(2, .int 0), (0, .ref (h 0)), (1, .int a1)]) hx hb dM_lettersB_1 rfl hl (by decide) rfl (fun ls hl => ?_)
  refine lv_iconst (v := 0) hx hb dM_lettersB_2 (by decide) ?_
  refine lv_istore_n (lv' := [(3, .int 0), (2, .int 0), (0, .ref (h 0)), (1, .int a1)]) hx hb dM_lettersB_3 rfl hl (by decide) rfl (fun ls hl => ?_)
  exact tM_lettersB_4 hn ⟨hx, hb, hml, hown, hts⟩ hr hlocks hK hP n 0 a1 0 (by omega) ls (lv_sub hl [2, 3, 1, 0] rfl)
abbrev rmM_amongChildren : Room := { frames := 0, cells := 0, slots := 0, locals := 0 }
set_option maxHeartbeats 4000000 in
set_option maxRecDepth 100000 in
theorem kM_amongChildren (l : Launch) (D : va_G) (Y : Nat → ClassId) (a1 : Int32) (a2 : Int32) (a3 : Int64) (a4 : Int64) : Met l yM_amongChildren wsM_amongChildren rmM_amongChildren (va_Pc [.int a1, .int a2, .long a3, .long a4] (zPre D vwCl (tysK Y) ([]))) (vp_Sl (fun r => r = (fM_amongChildren a1 a2 a3 a4))) 0 0 (fun _ => False) := by
  refine Met.ofW (cc := cM_amongChildren) (maxL := 6) (ret := (some .long)) (by decide) rfl ?_
  intro p e s m args below meth c s₁ B hml hv
  obtain ⟨rfl, hP, hK⟩ := hv
  have hx := B.exec
  have hb := B.bytes
  have hr := B.returns
  have hts : ∀ w ∈ uT, w.before _ s = true := fun w hw => atoms_spec (ws := wsM_amongChildren) B.pre w (List.mem_cons_of_mem _ hw)
  have hown : s.vm.findClass RM = some m.cls := findClass_of_methodNamed B.named
  have hlocks := B.notSynchronized
  have hl := lv_entry ([.int a1, .int a2, .long a3, .long a4]) (n := 6) (Nat.le_of_ble_eq_true rfl)
  rw [lg_entry_eq]
  generalize (lg_sl ([.int a1, .int a2, .long a3, .long a4]) ++ List.replicate (6 - (lg_sl ([.int a1, .int a2, .long a3, .long a4])).length) Slot.unset).toArray = ls at hl ⊢
  have hl : lv_has ls 6 [(0, .int a1), (1, .int a2), (2, .long a3), (4, .long a4)] := hl
  show W p l e rmM_amongChildren s m _ below meth c s.heap [] 0 0 (zL below _ s (fM_amongChildren a1 a2 a3 a4)) _
  unfold fM_amongChildren
  show W p l e rmM_amongChildren s m _ below meth c s.heap [] 0 0 (zL below _ s _) (F0 m 0 ls [])
  refine lv_iload_n hx hb dM_amongChildren_0 rfl (lv_at hl 0 rfl) ?_
  refine zif (C := a1 = 0) (fun c1 => ?_) (fun c1 => ?_)
  · skip
    refine lv_if_ne (tgt := 11) hx hb dM_amongChildren_1 (by decide) (fun z => absurd c1 z) (fun _ => ?_)
    refine lv_iconst (v := 2) hx hb dM_amongChildren_4 (by decide) ?_
    refine lv_iload_n hx hb dM_amongChildren_5 rfl (lv_at hl 1 rfl) ?_
    refine lv_isub hx hb dM_amongChildren_6 ?_
    refine lv_i2l (v := ((2 - a2) : Int32).toInt64) hx hb dM_amongChildren_7 rfl ?_
    refine lv_lload_n hx hb dM_amongChildren_8 rfl (lv_at hl 2 rfl) ?_
    refine lv_lmul hx hb dM_amongChildren_9 ?_
    exact zL_ret hx hb hr hlocks dM_amongChildren_10
  · skip
    refine lv_if_ne (tgt := 11) hx hb dM_amongChildren_1 (by decide) (fun _ => ?_) (fun z => absurd z c1)
    refine lv_iload_n hx hb dM_amongChildren_11 rfl (lv_at hl 0 rfl) ?_
    refine lv_iconst (v := 1) hx hb dM_amongChildren_12 (by decide) ?_
    refine zif (C := a1 = 1) (fun c13 => ?_) (fun c13 => ?_)
    · skip
      refine lv_icmp_ne (tgt := 31) hx hb dM_amongChildren_13 (by decide) (fun z => absurd c13 z) (fun _ => ?_)
      refine lv_iload_n hx hb dM_amongChildren_16 rfl (lv_at hl 1 rfl) ?_
      refine lv_i2l (v := (a2 : Int32).toInt64) hx hb dM_amongChildren_17 rfl ?_
      refine lv_lload_n hx hb dM_amongChildren_18 rfl (lv_at hl 2 rfl) ?_
      refine lv_lmul hx hb dM_amongChildren_19 ?_
      refine lv_iconst (v := 2) hx hb dM_amongChildren_20 (by decide) ?_
      refine lv_iload_n hx hb dM_amongChildren_21 rfl (lv_at hl 1 rfl) ?_
      refine lv_isub hx hb dM_amongChildren_22 ?_
      refine lv_i2l (v := ((2 - a2) : Int32).toInt64) hx hb dM_amongChildren_23 rfl ?_
      refine lv_lload hx hb dM_amongChildren_24 (lv_at hl 3 rfl) ?_
      refine lv_lmul hx hb dM_amongChildren_26 ?_
      refine lv_ladd hx hb dM_amongChildren_27 ?_
      refine lv_goto (tgt := 36) hx hb dM_amongChildren_28 (by decide) ?_
      exact zL_ret hx hb hr hlocks dM_amongChildren_36
    · skip
      refine lv_icmp_ne (tgt := 31) hx hb dM_amongChildren_13 (by decide) (fun _ => ?_) (fun z => absurd z c13)
      refine lv_iload_n hx hb dM_amongChildren_31 rfl (lv_at hl 1 rfl) ?_
      refine lv_i2l (v := (a2 : Int32).toInt64) hx hb dM_amongChildren_32 rfl ?_
      refine lv_lload hx hb dM_amongChildren_33 (lv_at hl 3 rfl) ?_
      refine lv_lmul hx hb dM_amongChildren_35 ?_
      exact zL_ret hx hb hr hlocks dM_amongChildren_36
abbrev rmM_amongStrangers : Room := { frames := 0, cells := 0, slots := 0, locals := 0 }
set_option maxHeartbeats 4000000 in
set_option maxRecDepth 100000 in
theorem kM_amongStrangers (l : Launch) (D : va_G) (Y : Nat → ClassId) (a1 : Int32) (a2 : Int64) (a3 : Int64) : Met l yM_amongStrangers wsM_amongStrangers rmM_amongStrangers (va_Pc [.int a1, .long a2, .long a3] (zPre D vwCl (tysK Y) ([]))) (vp_Sl (fun r => r = (fM_amongStrangers a1 a2 a3))) 0 0 (fun _ => False) := by
  refine Met.ofW (cc := cM_amongStrangers) (maxL := 5) (ret := (some .long)) (by decide) rfl ?_
  intro p e s m args below meth c s₁ B hml hv
  obtain ⟨rfl, hP, hK⟩ := hv
  have hx := B.exec
  have hb := B.bytes
  have hr := B.returns
  have hts : ∀ w ∈ uT, w.before _ s = true := fun w hw => atoms_spec (ws := wsM_amongStrangers) B.pre w (List.mem_cons_of_mem _ hw)
  have hown : s.vm.findClass RM = some m.cls := findClass_of_methodNamed B.named
  have hlocks := B.notSynchronized
  have hl := lv_entry ([.int a1, .long a2, .long a3]) (n := 5) (Nat.le_of_ble_eq_true rfl)
  rw [lg_entry_eq]
  generalize (lg_sl ([.int a1, .long a2, .long a3]) ++ List.replicate (5 - (lg_sl ([.int a1, .long a2, .long a3])).length) Slot.unset).toArray = ls at hl ⊢
  have hl : lv_has ls 5 [(0, .int a1), (1, .long a2), (3, .long a3)] := hl
  show W p l e rmM_amongStrangers s m _ below meth c s.heap [] 0 0 (zL below _ s (fM_amongStrangers a1 a2 a3)) _
  unfold fM_amongStrangers
  show W p l e rmM_amongStrangers s m _ below meth c s.heap [] 0 0 (zL below _ s _) (F0 m 0 ls [])
  refine lv_iload_n hx hb dM_amongStrangers_0 rfl (lv_at hl 0 rfl) ?_
  refine zif (C := a1 = 0) (fun c1 => ?_) (fun c1 => ?_)
  · skip
    refine lv_if_ne (tgt := 8) hx hb dM_amongStrangers_1 (by decide) (fun z => absurd c1 z) (fun _ => ?_)
    refine lv_lload_n hx hb dM_amongStrangers_4 rfl (lv_at hl 1 rfl) ?_
    refine lv_lload_n hx hb dM_amongStrangers_5 rfl (lv_at hl 1 rfl) ?_
    refine lv_lmul hx hb dM_amongStrangers_6 ?_
    exact zL_ret hx hb hr hlocks dM_amongStrangers_7
  · skip
    refine lv_if_ne (tgt := 8) hx hb dM_amongStrangers_1 (by decide) (fun _ => ?_) (fun z => absurd z c1)
    refine lv_iload_n hx hb dM_amongStrangers_8 rfl (lv_at hl 0 rfl) ?_
    refine lv_iconst (v := 1) hx hb dM_amongStrangers_9 (by decide) ?_
    refine zif (C := a1 = 1) (fun c10 => ?_) (fun c10 => ?_)
    · skip
      refine lv_icmp_ne (tgt := 23) hx hb dM_amongStrangers_10 (by decide) (fun z => absurd c10 z) (fun _ => ?_)
      refine lv_ldc2 (v := 2) hx hb hown (hts _ uw92) dM_amongStrangers_13 ?_
      refine lv_lload_n hx hb dM_amongStrangers_16 rfl (lv_at hl 1 rfl) ?_
      refine lv_lmul hx hb dM_amongStrangers_17 ?_
      refine lv_lload_n hx hb dM_amongStrangers_18 rfl (lv_at hl 2 rfl) ?_
      refine lv_lmul hx hb dM_amongStrangers_19 ?_
      refine lv_goto (tgt := 26) hx hb dM_amongStrangers_20 (by decide) ?_
      exact zL_ret hx hb hr hlocks dM_amongStrangers_26
    · skip
      refine lv_icmp_ne (tgt := 23) hx hb dM_amongStrangers_10 (by decide) (fun _ => ?_) (fun z => absurd z c10)
      refine lv_lload_n hx hb dM_amongStrangers_23 rfl (lv_at hl 2 rfl) ?_
      refine lv_lload_n hx hb dM_amongStrangers_24 rfl (lv_at hl 2 rfl) ?_
      refine lv_lmul hx hb dM_amongStrangers_25 ?_
      exact zL_ret hx hb hr hlocks dM_amongStrangers_26
abbrev rmM_isLeftOut : Room := { frames := 3, cells := 0, slots := 0, locals := 67 }
set_option maxHeartbeats 4000000 in
set_option maxRecDepth 100000 in
theorem tM_isLeftOut_2 {p : Program} {l : Launch} {e : Env} {s : State} {m : MethodId} {args : Array Value} {below : List Frame} {meth : Method} {c : Code} {D : va_G} {Y : Nat → ClassId} {h : Nat → Nat} {n : Nat} (hn : n ≤ 24) {S : vM} (CF : CallFix p m c cM_isLeftOut 4 s args uT RM) (hr : meth.sig.returnType = (some .boolean)) (hlocks : meth.locks = false) (hK : va_K D vwCl (tysK Y) s) (hP : va_P D vwCl (wM Y h n S) s.heap) : ∀ (k i : Nat) (x1 : Int32) (x2 : Int32), i + k = 4 → ∀ ls : Array Slot, lv_has ls 4 [(0, .ref (h 0)), (1, .int x1), (2, .int x2), (3, .int (nI i))] → W p l e rmM_isLeftOut s m args below meth c s.heap [] 0 0 (zI below args s (fM_isLeftOut_2 n S k i x1 x2)) (F0 m 2 ls []) := by
  obtain ⟨hx, hb, hml, hown, hts⟩ := CF
  intro k
  induction k with
  | zero =>
    intro i x1 x2 hi  ls hl
    rw [fM_isLeftOut_2]
    refine lv_iload_n hx hb dM_isLeftOut_2 rfl (lv_at hl 3 rfl) ?_
    refine lv_iconst (v := 4) hx hb dM_isLeftOut_3 (by decide) ?_
    refine lv_icmp_ge (tgt := 36) hx hb dM_isLeftOut_4 (by decide) (fun _ => ?_) (fun z => absurd (lp_ge (n := 4) hi) z)
    refine lv_iconst (v := 0) hx hb dM_isLeftOut_36 (by decide) ?_
    exact zB_ret hx hb hr hlocks (Or.inl rfl) dM_isLeftOut_37
  | succ k ih =>
    intro i x1 x2 hi  ls hl
    rw [fM_isLeftOut_2]
    refine lv_iload_n hx hb dM_isLeftOut_2 rfl (lv_at hl 3 rfl) ?_
    refine lv_iconst (v := 4) hx hb dM_isLeftOut_3 (by decide) ?_
    refine lv_icmp_ge (tgt := 36) hx hb dM_isLeftOut_4 (by decide) (fun z => absurd z (lp_lt (n := 4) hi (by omega))) (fun _ => ?_)
    refine lv_aload_n hx hb dM_isLeftOut_7 rfl (lv_at hl 0 rfl) ?_
    refine lv_iload_n hx hb dM_isLeftOut_8 rfl (lv_at hl 1 rfl) ?_
    refine lv_iload_n hx hb dM_isLeftOut_9 rfl (lv_at hl 2 rfl) ?_
    refine lv_iload_n hx hb dM_isLeftOut_10 rfl (lv_at hl 3 rfl) ?_
    refine qVi (rest := []) ⟨hx, hb, hml, hown, hts⟩ (kM_isKnownOfBoth l D Y h n hn S x1 x2 (nI i)) (cwV 3 hts (gV uw93 uw94 uw95 uw84 ucM_isKnownOfBoth) rfl rfl rfl hvM_isKnownOfBoth ⟨Nat.le_of_ble_eq_true rfl, Nat.le_of_ble_eq_true rfl⟩) hK hP (va_recv hK hP (ci := 2) (q0 := 0) rfl rfl) rfl hl.1 rfl (Nat.le_of_ble_eq_true rfl) dM_isLeftOut_11 ⟨Nat.le_of_ble_eq_true rfl, Nat.le_of_ble_eq_true rfl⟩ ?_
    refine zif (C := (fM_isKnownOfBoth n S x1 x2 (nI i)) = 0) (fun c14 => ?_) (fun c14 => ?_)
    · skip
      refine lv_if_eq (tgt := 30) hx hb dM_isLeftOut_14 (by decide) (fun _ => ?_) (fun z => absurd c14 z)
      refine lv_iinc (v := (nI (i + 1))) (lv' := [(3, .int (nI (i + 1))), (0, .ref (h 0)), (1, .int x1), (2, .int x2)]) hx hb dM_isLeftOut_30 hl (k := 3) rfl (nI_1 _) (by decide) rfl (fun ls hl => ?_)
      refine lv_goto (tgt := 2) hx hb dM_isLeftOut_33 (by decide) ?_
      exact ih (i + 1) x1 x2 (by omega) ls (lv_sub hl [1, 2, 3, 0] rfl)
    · skip
      refine lv_if_eq (tgt := 30) hx hb dM_isLeftOut_14 (by decide) (fun z => absurd z c14) (fun _ => ?_)
      refine lv_aload_n hx hb dM_isLeftOut_17 rfl (lv_at hl 0 rfl) ?_
      refine lv_iload_n hx hb dM_isLeftOut_18 rfl (lv_at hl 1 rfl) ?_
      refine lv_iload_n hx hb dM_isLeftOut_19 rfl (lv_at hl 2 rfl) ?_
      refine lv_iload_n hx hb dM_isLeftOut_20 rfl (lv_at hl 3 rfl) ?_
      refine qVi (rest := []) ⟨hx, hb, hml, hown, hts⟩ (kM_difference l D Y h n hn S x1 x2 (nI i)) (cwV 3 hts (gV uw96 uw97 uw98 uw84 ucM_difference) rfl rfl rfl hvM_difference ⟨Nat.le_of_ble_eq_true rfl, Nat.le_of_ble_eq_true rfl⟩) hK hP (va_recv hK hP (ci := 2) (q0 := 0) rfl rfl) rfl hl.1 rfl (Nat.le_of_ble_eq_true rfl) dM_isLeftOut_21 ⟨Nat.le_of_ble_eq_true rfl, Nat.le_of_ble_eq_true rfl⟩ ?_
      refine lv_iconst (v := 2) hx hb dM_isLeftOut_24 (by decide) ?_
      refine zif (C := (fM_difference n S x1 x2 (nI i)) = 2) (fun c25 => ?_) (fun c25 => ?_)
      · skip
        refine lv_icmp_ne (tgt := 30) hx hb dM_isLeftOut_25 (by decide) (fun z => absurd c25 z) (fun _ => ?_)
        refine lv_iconst (v := 1) hx hb dM_isLeftOut_28 (by decide) ?_
        exact zB_ret hx hb hr hlocks (Or.inr rfl) dM_isLeftOut_29
      · skip
        refine lv_icmp_ne (tgt := 30) hx hb dM_isLeftOut_25 (by decide) (fun _ => ?_) (fun z => absurd z c25)
        refine lv_iinc (v := (nI (i + 1))) (lv' := [(3, .int (nI (i + 1))), (0, .ref (h 0)), (1, .int x1), (2, .int x2)]) hx hb dM_isLeftOut_30 hl (k := 3) rfl (nI_1 _) (by decide) rfl (fun ls hl => ?_)
        refine lv_goto (tgt := 2) hx hb dM_isLeftOut_33 (by decide) ?_
        exact ih (i + 1) x1 x2 (by omega) ls (lv_sub hl [1, 2, 3, 0] rfl)
set_option maxHeartbeats 4000000 in
set_option maxRecDepth 100000 in
theorem kM_isLeftOut (l : Launch) (D : va_G) (Y : Nat → ClassId) (h : Nat → Nat) (n : Nat) (hn : n ≤ 24) (S : vM) (a1 : Int32) (a2 : Int32) : Met l yM_isLeftOut wsM_isLeftOut rmM_isLeftOut (va_Pc [.ref (h 0), .int a1, .int a2] (zPre D vwCl (tysK Y) (wM Y h n S))) (vp_Si (fun r => r = (fM_isLeftOut n S a1 a2))) 0 0 (fun _ => False) := by
  refine Met.ofW (cc := cM_isLeftOut) (maxL := 4) (ret := (some .boolean)) (by decide) rfl ?_
  intro p e s m args below meth c s₁ B hml hv
  obtain ⟨rfl, hP, hK⟩ := hv
  have hx := B.exec
  have hb := B.bytes
  have hr := B.returns
  have hts : ∀ w ∈ uT, w.before _ s = true := fun w hw => atoms_spec (ws := wsM_isLeftOut) B.pre w (List.mem_cons_of_mem _ hw)
  have hown : s.vm.findClass RM = some m.cls := findClass_of_methodNamed B.named
  have hlocks := B.notSynchronized
  have hl := lv_entry ([.ref (h 0), .int a1, .int a2]) (n := 4) (Nat.le_of_ble_eq_true rfl)
  rw [lg_entry_eq]
  generalize (lg_sl ([.ref (h 0), .int a1, .int a2]) ++ List.replicate (4 - (lg_sl ([.ref (h 0), .int a1, .int a2])).length) Slot.unset).toArray = ls at hl ⊢
  have hl : lv_has ls 4 [(0, .ref (h 0)), (1, .int a1), (2, .int a2)] := hl
  show W p l e rmM_isLeftOut s m _ below meth c s.heap [] 0 0 (zI below _ s (fM_isLeftOut n S a1 a2)) _
  unfold fM_isLeftOut
  show W p l e rmM_isLeftOut s m _ below meth c s.heap [] 0 0 (zI below _ s _) (F0 m 0 ls [])
  refine lv_iconst (v := 0) hx hb dM_isLeftOut_0 (by decide) ?_
  refine lv_istore_n (lv' := [(3, .int 0), (0, .ref (h 0)), (1, .int a1), (2, .int a2)]) hx hb dM_isLeftOut_1 rfl hl (by decide) rfl (fun ls hl => ?_)
  exact tM_isLeftOut_2 hn ⟨hx, hb, hml, hown, hts⟩ hr hlocks hK hP 4 0 a1 a2 (by omega) ls (lv_sub hl [1, 2, 3, 0] rfl)
abbrev rmM_oddsOf : Room := { frames := 3, cells := 0, slots := 0, locals := 67 }
set_option maxHeartbeats 4000000 in
set_option maxRecDepth 100000 in
theorem tM_oddsOf_9 {p : Program} {l : Launch} {e : Env} {s : State} {m : MethodId} {args : Array Value} {below : List Frame} {meth : Method} {c : Code} {D : va_G} {Y : Nat → ClassId} {h : Nat → Nat} {n : Nat} (hn : n ≤ 24) {S : vM} (CF : CallFix p m c cM_oddsOf 14 s args uT RM) (hr : meth.sig.returnType = (some .long)) (hlocks : meth.locks = false) (hK : va_K D vwCl (tysK Y) s) (hP : va_P D vwCl (wM Y h n S) s.heap) : ∀ (k i : Nat) (x1 : Int32) (x2 : Int32) (x3 : Int32) (x4 : Int64) (x6 : Int64), i + k = 4 → ∀ ls : Array Slot, lv_has ls 14 [(0, .ref (h 0)), (1, .int x1), (2, .int x2), (3, .int x3), (4, .long x4), (6, .long x6), (8, .int (nI i))] → W p l e rmM_oddsOf s m args below meth c s.heap [] 0 0 (zL below args s (fM_oddsOf_9 n S k i x1 x2 x3 x4 x6)) (F0 m 9 ls []) := by
  obtain ⟨hx, hb, hml, hown, hts⟩ := CF
  intro k
  induction k with
  | zero =>
    intro i x1 x2 x3 x4 x6 hi  ls hl
    rw [fM_oddsOf_9]
    refine lv_iload hx hb dM_oddsOf_9 (lv_at hl 6 rfl) ?_
    refine lv_iconst (v := 4) hx hb dM_oddsOf_11 (by decide) ?_
    refine lv_icmp_ge (tgt := 111) hx hb dM_oddsOf_12 (by decide) (fun _ => ?_) (fun z => absurd (lp_ge (n := 4) hi) z)
    refine lv_lload hx hb dM_oddsOf_111 (lv_at hl 4 rfl) ?_
    refine lv_lload hx hb dM_oddsOf_113 (lv_at hl 5 rfl) ?_
    refine lv_iload_n hx hb dM_oddsOf_115 rfl (lv_at hl 3 rfl) ?_
    refine qSl (rest := []) ⟨hx, hb, hml, hown, hts⟩ (kF_lowest l D Y x4 x6 x3) (va_cwS 3 hts (gS uw99 uw100 uw2 ucF_lowest) rfl rfl rfl hsF_lowest ⟨Nat.le_of_ble_eq_true rfl, Nat.le_of_ble_eq_true rfl⟩) hK (zsub [] hP rfl) rfl hl.1 rfl (Nat.le_of_ble_eq_true rfl) dM_oddsOf_116 ⟨Nat.le_of_ble_eq_true rfl, Nat.le_of_ble_eq_true rfl⟩ ?_
    exact zL_ret hx hb hr hlocks dM_oddsOf_119
  | succ k ih =>
    intro i x1 x2 x3 x4 x6 hi  ls hl
    rw [fM_oddsOf_9]
    refine lv_iload hx hb dM_oddsOf_9 (lv_at hl 6 rfl) ?_
    refine lv_iconst (v := 4) hx hb dM_oddsOf_11 (by decide) ?_
    refine lv_icmp_ge (tgt := 111) hx hb dM_oddsOf_12 (by decide) (fun z => absurd z (lp_lt (n := 4) hi (by omega))) (fun _ => ?_)
    refine lv_aload_n hx hb dM_oddsOf_15 rfl (lv_at hl 0 rfl) ?_
    refine lv_iload_n hx hb dM_oddsOf_16 rfl (lv_at hl 1 rfl) ?_
    refine lv_iload_n hx hb dM_oddsOf_17 rfl (lv_at hl 2 rfl) ?_
    refine lv_iload hx hb dM_oddsOf_18 (lv_at hl 6 rfl) ?_
    refine qVi (rest := []) ⟨hx, hb, hml, hown, hts⟩ (kM_isKnownOfBoth l D Y h n hn S x1 x2 (nI i)) (cwV 3 hts (gV uw93 uw94 uw95 uw84 ucM_isKnownOfBoth) rfl rfl rfl hvM_isKnownOfBoth ⟨Nat.le_of_ble_eq_true rfl, Nat.le_of_ble_eq_true rfl⟩) hK hP (va_recv hK hP (ci := 2) (q0 := 0) rfl rfl) rfl hl.1 rfl (Nat.le_of_ble_eq_true rfl) dM_oddsOf_20 ⟨Nat.le_of_ble_eq_true rfl, Nat.le_of_ble_eq_true rfl⟩ ?_
    refine zif (C := (fM_isKnownOfBoth n S x1 x2 (nI i)) = 0) (fun c23 => ?_) (fun c23 => ?_)
    · skip
      refine lv_if_eq (tgt := 105) hx hb dM_oddsOf_23 (by decide) (fun _ => ?_) (fun z => absurd c23 z)
      refine lv_iinc (v := (nI (i + 1))) (lv' := [(8, .int (nI (i + 1))), (0, .ref (h 0)), (1, .int x1), (2, .int x2), (3, .int x3), (4, .long x4), (6, .long x6)]) hx hb dM_oddsOf_105 hl (k := 6) rfl (nI_1 _) (by decide) rfl (fun ls hl => ?_)
      refine lv_goto (tgt := 9) hx hb dM_oddsOf_108 (by decide) ?_
      exact ih (i + 1) x1 x2 x3 x4 x6 (by omega) ls (lv_sub hl [1, 2, 3, 4, 5, 6, 0] rfl)
    · skip
      refine lv_if_eq (tgt := 105) hx hb dM_oddsOf_23 (by decide) (fun z => absurd z c23) (fun _ => ?_)
      refine lv_ldc2 (v := 2) hx hb hown (hts _ uw92) dM_oddsOf_26 ?_
      refine lv_aload_n hx hb dM_oddsOf_29 rfl (lv_at hl 0 rfl) ?_
      refine lv_iload hx hb dM_oddsOf_30 (lv_at hl 6 rfl) ?_
      refine qVi (rest := [.long 2]) ⟨hx, hb, hml, hown, hts⟩ (kM_knownForms l D Y h n hn S (nI i)) (cwV 1 hts (gV uw101 uw102 uw103 uw84 ucM_knownForms) rfl rfl rfl hvM_knownForms ⟨Nat.le_of_ble_eq_true rfl, Nat.le_of_ble_eq_true rfl⟩) hK hP (va_recv hK hP (ci := 2) (q0 := 0) rfl rfl) rfl hl.1 rfl (Nat.le_of_ble_eq_true rfl) dM_oddsOf_32 ⟨Nat.le_of_ble_eq_true rfl, Nat.le_of_ble_eq_true rfl⟩ ?_
      refine lv_i2l (v := ((fM_knownForms n S (nI i)) : Int32).toInt64) hx hb dM_oddsOf_35 rfl ?_
      refine lv_lmul hx hb dM_oddsOf_36 ?_
      refine lv_lstore (lv' := [(9, .long (2 * ((fM_knownForms n S (nI i)) : Int32).toInt64)), (0, .ref (h 0)), (1, .int x1), (2, .int x2), (3, .int x3), (4, .long x4), (6, .long x6), (8, .int (nI i))]) hx hb dM_oddsOf_37 hl (by decide) rfl (fun ls hl => ?_)
      refine lv_aload_n hx hb dM_oddsOf_39 rfl (lv_at hl 1 rfl) ?_
      refine lv_iload hx hb dM_oddsOf_40 (lv_at hl 7 rfl) ?_
      refine qVi (rest := []) ⟨hx, hb, hml, hown, hts⟩ (kM_lettersB l D Y h n hn S (nI i)) (cwV 1 hts (gV uw104 uw105 uw106 uw84 ucM_lettersB) rfl rfl rfl hvM_lettersB ⟨Nat.le_of_ble_eq_true rfl, Nat.le_of_ble_eq_true rfl⟩) hK hP (va_recv hK hP (ci := 2) (q0 := 0) rfl rfl) rfl hl.1 rfl (Nat.le_of_ble_eq_true rfl) dM_oddsOf_42 ⟨Nat.le_of_ble_eq_true rfl, Nat.le_of_ble_eq_true rfl⟩ ?_
      refine lv_i2l (v := ((fM_lettersB n S (nI i)) : Int32).toInt64) hx hb dM_oddsOf_45 rfl ?_
      refine lv_lstore (lv' := [(11, .long (((fM_lettersB n S (nI i)) : Int32).toInt64)), (9, .long (2 * ((fM_knownForms n S (nI i)) : Int32).toInt64)), (0, .ref (h 0)), (1, .int x1), (2, .int x2), (3, .int x3), (4, .long x4), (6, .long x6), (8, .int (nI i))]) hx hb dM_oddsOf_46 hl (by decide) rfl (fun ls hl => ?_)
      refine lv_aload_n hx hb dM_oddsOf_48 rfl (lv_at hl 2 rfl) ?_
      refine lv_iload_n hx hb dM_oddsOf_49 rfl (lv_at hl 3 rfl) ?_
      refine lv_iload hx hb dM_oddsOf_50 (lv_at hl 8 rfl) ?_
      refine qVi (rest := []) ⟨hx, hb, hml, hown, hts⟩ (kM_formOf l D Y h n hn S x1 (nI i)) (cwV 2 hts (gV uw86 uw87 uw88 uw84 ucM_formOf) rfl rfl rfl hvM_formOf ⟨Nat.le_of_ble_eq_true rfl, Nat.le_of_ble_eq_true rfl⟩) hK hP (va_recv hK hP (ci := 2) (q0 := 0) rfl rfl) rfl hl.1 rfl (Nat.le_of_ble_eq_true rfl) dM_oddsOf_52 ⟨Nat.le_of_ble_eq_true rfl, Nat.le_of_ble_eq_true rfl⟩ ?_
      refine lv_istore (lv' := [(13, .int (fM_formOf n S x1 (nI i))), (11, .long (((fM_lettersB n S (nI i)) : Int32).toInt64)), (9, .long (2 * ((fM_knownForms n S (nI i)) : Int32).toInt64)), (0, .ref (h 0)), (1, .int x1), (2, .int x2), (3, .int x3), (4, .long x4), (6, .long x6), (8, .int (nI i))]) hx hb dM_oddsOf_55 hl (by decide) rfl (fun ls hl => ?_)
      refine lv_lload hx hb dM_oddsOf_57 (lv_at hl 7 rfl) ?_
      refine lv_iload hx hb dM_oddsOf_59 (lv_at hl 0 rfl) ?_
      refine lv_aload_n hx hb dM_oddsOf_61 rfl (lv_at hl 3 rfl) ?_
      refine lv_iload_n hx hb dM_oddsOf_62 rfl (lv_at hl 5 rfl) ?_
      refine lv_iload hx hb dM_oddsOf_63 (lv_at hl 9 rfl) ?_
      refine qVi (rest := [.int (fM_formOf n S x1 (nI i)), .long x4]) ⟨hx, hb, hml, hown, hts⟩ (kM_formOf l D Y h n hn S x2 (nI i)) (cwV 2 hts (gV uw86 uw87 uw88 uw84 ucM_formOf) rfl rfl rfl hvM_formOf ⟨Nat.le_of_ble_eq_true rfl, Nat.le_of_ble_eq_true rfl⟩) hK hP (va_recv hK hP (ci := 2) (q0 := 0) rfl rfl) rfl hl.1 rfl (Nat.le_of_ble_eq_true rfl) dM_oddsOf_65 ⟨Nat.le_of_ble_eq_true rfl, Nat.le_of_ble_eq_true rfl⟩ ?_
      refine lv_lload hx hb dM_oddsOf_68 (lv_at hl 2 rfl) ?_
      refine lv_lload hx hb dM_oddsOf_70 (lv_at hl 1 rfl) ?_
      refine lv_lsub hx hb dM_oddsOf_72 ?_
      refine lv_lload hx hb dM_oddsOf_73 (lv_at hl 1 rfl) ?_
      refine qSl (rest := [.long x4]) ⟨hx, hb, hml, hown, hts⟩ (kM_amongChildren l D Y (fM_formOf n S x1 (nI i)) (fM_formOf n S x2 (nI i)) ((2 * ((fM_knownForms n S (nI i)) : Int32).toInt64) - ((fM_lettersB n S (nI i)) : Int32).toInt64) (((fM_lettersB n S (nI i)) : Int32).toInt64)) (va_cwS 4 hts (gS uw107 uw108 uw84 ucM_amongChildren) rfl rfl rfl hsM_amongChildren ⟨Nat.le_of_ble_eq_true rfl, Nat.le_of_ble_eq_true rfl⟩) hK (zsub [] hP rfl) rfl hl.1 rfl (Nat.le_of_ble_eq_true rfl) dM_oddsOf_75 ⟨Nat.le_of_ble_eq_true rfl, Nat.le_of_ble_eq_true rfl⟩ ?_
      refine lv_lload hx hb dM_oddsOf_78 (lv_at hl 2 rfl) ?_
      refine lv_lmul hx hb dM_oddsOf_80 ?_
      refine lv_lmul hx hb dM_oddsOf_81 ?_
      refine lv_lstore (lv' := [(4, .long (x4 * ((fM_amongChildren (fM_formOf n S x1 (nI i)) (fM_formOf n S x2 (nI i)) ((2 * ((fM_knownForms n S (nI i)) : Int32).toInt64) - ((fM_lettersB n S (nI i)) : Int32).toInt64) (((fM_lettersB n S (nI i)) : Int32).toInt64)) * (2 * ((fM_knownForms n S (nI i)) : Int32).toInt64)))), (13, .int (fM_formOf n S x1 (nI i))), (11, .long (((fM_lettersB n S (nI i)) : Int32).toInt64)), (9, .long (2 * ((fM_knownForms n S (nI i)) : Int32).toInt64)), (0, .ref (h 0)), (1, .int x1), (2, .int x2), (3, .int x3), (6, .long x6), (8, .int (nI i))]) hx hb dM_oddsOf_82 hl (by decide) rfl (fun ls hl => ?_)
      refine lv_lload hx hb dM_oddsOf_84 (lv_at hl 8 rfl) ?_
      refine lv_iload hx hb dM_oddsOf_86 (lv_at hl 1 rfl) ?_
      refine lv_lload hx hb dM_oddsOf_88 (lv_at hl 3 rfl) ?_
      refine lv_lload hx hb dM_oddsOf_90 (lv_at hl 2 rfl) ?_
      refine lv_lsub hx hb dM_oddsOf_92 ?_
      refine lv_lload hx hb dM_oddsOf_93 (lv_at hl 2 rfl) ?_
      refine qSl (rest := [.long x6]) ⟨hx, hb, hml, hown, hts⟩ (kM_amongStrangers l D Y (fM_formOf n S x1 (nI i)) ((2 * ((fM_knownForms n S (nI i)) : Int32).toInt64) - ((fM_lettersB n S (nI i)) : Int32).toInt64) (((fM_lettersB n S (nI i)) : Int32).toInt64)) (va_cwS 3 hts (gS uw109 uw110 uw84 ucM_amongStrangers) rfl rfl rfl hsM_amongStrangers ⟨Nat.le_of_ble_eq_true rfl, Nat.le_of_ble_eq_true rfl⟩) hK (zsub [] hP rfl) rfl hl.1 rfl (Nat.le_of_ble_eq_true rfl) dM_oddsOf_95 ⟨Nat.le_of_ble_eq_true rfl, Nat.le_of_ble_eq_true rfl⟩ ?_
      refine lv_ldc2 (v := 2) hx hb hown (hts _ uw92) dM_oddsOf_98 ?_
      refine lv_lmul hx hb dM_oddsOf_101 ?_
      refine lv_lmul hx hb dM_oddsOf_102 ?_
      refine lv_lstore (lv' := [(6, .long (x6 * ((fM_amongStrangers (fM_formOf n S x1 (nI i)) ((2 * ((fM_knownForms n S (nI i)) : Int32).toInt64) - ((fM_lettersB n S (nI i)) : Int32).toInt64) (((fM_lettersB n S (nI i)) : Int32).toInt64)) * 2))), (4, .long (x4 * ((fM_amongChildren (fM_formOf n S x1 (nI i)) (fM_formOf n S x2 (nI i)) ((2 * ((fM_knownForms n S (nI i)) : Int32).toInt64) - ((fM_lettersB n S (nI i)) : Int32).toInt64) (((fM_lettersB n S (nI i)) : Int32).toInt64)) * (2 * ((fM_knownForms n S (nI i)) : Int32).toInt64)))), (13, .int (fM_formOf n S x1 (nI i))), (11, .long (((fM_lettersB n S (nI i)) : Int32).toInt64)), (9, .long (2 * ((fM_knownForms n S (nI i)) : Int32).toInt64)), (0, .ref (h 0)), (1, .int x1), (2, .int x2), (3, .int x3), (8, .int (nI i))]) hx hb dM_oddsOf_103 hl (by decide) rfl (fun ls hl => ?_)
      refine lv_iinc (v := (nI (i + 1))) (lv' := [(8, .int (nI (i + 1))), (6, .long (x6 * ((fM_amongStrangers (fM_formOf n S x1 (nI i)) ((2 * ((fM_knownForms n S (nI i)) : Int32).toInt64) - ((fM_lettersB n S (nI i)) : Int32).toInt64) (((fM_lettersB n S (nI i)) : Int32).toInt64)) * 2))), (4, .long (x4 * ((fM_amongChildren (fM_formOf n S x1 (nI i)) (fM_formOf n S x2 (nI i)) ((2 * ((fM_knownForms n S (nI i)) : Int32).toInt64) - ((fM_lettersB n S (nI i)) : Int32).toInt64) (((fM_lettersB n S (nI i)) : Int32).toInt64)) * (2 * ((fM_knownForms n S (nI i)) : Int32).toInt64)))), (13, .int (fM_formOf n S x1 (nI i))), (11, .long (((fM_lettersB n S (nI i)) : Int32).toInt64)), (9, .long (2 * ((fM_knownForms n S (nI i)) : Int32).toInt64)), (0, .ref (h 0)), (1, .int x1), (2, .int x2), (3, .int x3)]) hx hb dM_oddsOf_105 hl (k := 9) rfl (nI_1 _) (by decide) rfl (fun ls hl => ?_)
      refine lv_goto (tgt := 9) hx hb dM_oddsOf_108 (by decide) ?_
      exact ih (i + 1) x1 x2 x3 (x4 * ((fM_amongChildren (fM_formOf n S x1 (nI i)) (fM_formOf n S x2 (nI i)) ((2 * ((fM_knownForms n S (nI i)) : Int32).toInt64) - ((fM_lettersB n S (nI i)) : Int32).toInt64) (((fM_lettersB n S (nI i)) : Int32).toInt64)) * (2 * ((fM_knownForms n S (nI i)) : Int32).toInt64))) (x6 * ((fM_amongStrangers (fM_formOf n S x1 (nI i)) ((2 * ((fM_knownForms n S (nI i)) : Int32).toInt64) - ((fM_lettersB n S (nI i)) : Int32).toInt64) (((fM_lettersB n S (nI i)) : Int32).toInt64)) * 2)) (by omega) ls (lv_sub hl [6, 7, 8, 9, 2, 1, 0] rfl)
set_option maxHeartbeats 4000000 in
set_option maxRecDepth 100000 in
theorem kM_oddsOf (l : Launch) (D : va_G) (Y : Nat → ClassId) (h : Nat → Nat) (n : Nat) (hn : n ≤ 24) (S : vM) (a1 : Int32) (a2 : Int32) (a3 : Int32) : Met l yM_oddsOf wsM_oddsOf rmM_oddsOf (va_Pc [.ref (h 0), .int a1, .int a2, .int a3] (zPre D vwCl (tysK Y) (wM Y h n S))) (vp_Sl (fun r => r = (fM_oddsOf n S a1 a2 a3))) 0 0 (fun _ => False) := by
  refine Met.ofW (cc := cM_oddsOf) (maxL := 14) (ret := (some .long)) (by decide) rfl ?_
  intro p e s m args below meth c s₁ B hml hv
  obtain ⟨rfl, hP, hK⟩ := hv
  have hx := B.exec
  have hb := B.bytes
  have hr := B.returns
  have hts : ∀ w ∈ uT, w.before _ s = true := fun w hw => atoms_spec (ws := wsM_oddsOf) B.pre w (List.mem_cons_of_mem _ hw)
  have hown : s.vm.findClass RM = some m.cls := findClass_of_methodNamed B.named
  have hlocks := B.notSynchronized
  have hl := lv_entry ([.ref (h 0), .int a1, .int a2, .int a3]) (n := 14) (Nat.le_of_ble_eq_true rfl)
  rw [lg_entry_eq]
  generalize (lg_sl ([.ref (h 0), .int a1, .int a2, .int a3]) ++ List.replicate (14 - (lg_sl ([.ref (h 0), .int a1, .int a2, .int a3])).length) Slot.unset).toArray = ls at hl ⊢
  have hl : lv_has ls 14 [(0, .ref (h 0)), (1, .int a1), (2, .int a2), (3, .int a3)] := hl
  show W p l e rmM_oddsOf s m _ below meth c s.heap [] 0 0 (zL below _ s (fM_oddsOf n S a1 a2 a3)) _
  unfold fM_oddsOf
  show W p l e rmM_oddsOf s m _ below meth c s.heap [] 0 0 (zL below _ s _) (F0 m 0 ls [])
  refine lv_lconst (v := 1) hx hb dM_oddsOf_0 (by decide) ?_
  refine lv_lstore (lv' := [(4, .long 1), (0, .ref (h 0)), (1, .int a1), (2, .int a2), (3, .int a3)]) hx hb dM_oddsOf_1 hl (by decide) rfl (fun ls hl => ?_)
  refine lv_lconst (v := 1) hx hb dM_oddsOf_3 (by decide) ?_
  refine lv_lstore (lv' := [(6, .long 1), (4, .long 1), (0, .ref (h 0)), (1, .int a1), (2, .int a2), (3, .int a3)]) hx hb dM_oddsOf_4 hl (by decide) rfl (fun ls hl => ?_)
  refine lv_iconst (v := 0) hx hb dM_oddsOf_6 (by decide) ?_
  refine lv_istore (lv' := [(8, .int 0), (6, .long 1), (4, .long 1), (0, .ref (h 0)), (1, .int a1), (2, .int a2), (3, .int a3)]) hx hb dM_oddsOf_7 hl (by decide) rfl (fun ls hl => ?_)
  exact tM_oddsOf_9 hn ⟨hx, hb, hml, hown, hts⟩ hr hlocks hK hP 4 0 a1 a2 a3 1 1 (by omega) ls (lv_sub hl [3, 4, 5, 6, 2, 1, 0] rfl)
abbrev rmM_likenessOf : Room := { frames := 3, cells := 0, slots := 0, locals := 67 }
set_option maxHeartbeats 4000000 in
set_option maxRecDepth 100000 in
theorem tM_likenessOf_9 {p : Program} {l : Launch} {e : Env} {s : State} {m : MethodId} {args : Array Value} {below : List Frame} {meth : Method} {c : Code} {D : va_G} {Y : Nat → ClassId} {h : Nat → Nat} {n : Nat} (hn : n ≤ 24) {S : vM} (CF : CallFix p m c cM_likenessOf 9 s args uT RM) (hr : meth.sig.returnType = (some .long)) (hlocks : meth.locks = false) (hK : va_K D vwCl (tysK Y) s) (hP : va_P D vwCl (wM Y h n S) s.heap) : ∀ (k i : Nat) (x1 : Int32) (x2 : Int32) (x3 : Int32) (x4 : Int64) (x6 : Int64), i + k = 4 → ∀ ls : Array Slot, lv_has ls 9 [(0, .ref (h 0)), (1, .int x1), (2, .int x2), (3, .int x3), (4, .long x4), (6, .long x6), (8, .int (nI i))] → W p l e rmM_likenessOf s m args below meth c s.heap [] 0 0 (zL below args s (fM_likenessOf_9 n S k i x1 x2 x3 x4 x6)) (F0 m 9 ls []) := by
  obtain ⟨hx, hb, hml, hown, hts⟩ := CF
  intro k
  induction k with
  | zero =>
    intro i x1 x2 x3 x4 x6 hi  ls hl
    rw [fM_likenessOf_9]
    refine lv_iload hx hb dM_likenessOf_9 (lv_at hl 6 rfl) ?_
    refine lv_iconst (v := 4) hx hb dM_likenessOf_11 (by decide) ?_
    refine lv_icmp_ge (tgt := 54) hx hb dM_likenessOf_12 (by decide) (fun _ => ?_) (fun z => absurd (lp_ge (n := 4) hi) z)
    refine lv_lload hx hb dM_likenessOf_54 (lv_at hl 5 rfl) ?_
    refine lv_lconst (v := 0) hx hb dM_likenessOf_56 (by decide) ?_
    refine W.lcmp hx hb dM_likenessOf_57 ?_
    refine zif (C := (lg_cmp x6 0) = 0) (fun c58 => ?_) (fun c58 => ?_)
    · skip
      refine lv_if_ne (tgt := 67) hx hb dM_likenessOf_58 (by decide) (fun z => absurd c58 z) (fun _ => ?_)
      refine lv_ldc2 (v := (-1)) hx hb hown (hts _ uw111) dM_likenessOf_61 ?_
      refine lv_goto (tgt := 79) hx hb dM_likenessOf_64 (by decide) ?_
      exact zL_ret hx hb hr hlocks dM_likenessOf_79
    · skip
      refine lv_if_ne (tgt := 67) hx hb dM_likenessOf_58 (by decide) (fun _ => ?_) (fun z => absurd z c58)
      refine lv_lload hx hb dM_likenessOf_67 (lv_at hl 4 rfl) ?_
      refine lv_ldc2 (v := 2) hx hb hown (hts _ uw92) dM_likenessOf_69 ?_
      refine lv_lload hx hb dM_likenessOf_72 (lv_at hl 5 rfl) ?_
      refine lv_lmul hx hb dM_likenessOf_74 ?_
      refine lv_iload_n hx hb dM_likenessOf_75 rfl (lv_at hl 3 rfl) ?_
      refine qSl (rest := []) ⟨hx, hb, hml, hown, hts⟩ (kF_lowest l D Y x4 (2 * x6) x3) (va_cwS 3 hts (gS uw99 uw100 uw2 ucF_lowest) rfl rfl rfl hsF_lowest ⟨Nat.le_of_ble_eq_true rfl, Nat.le_of_ble_eq_true rfl⟩) hK (zsub [] hP rfl) rfl hl.1 rfl (Nat.le_of_ble_eq_true rfl) dM_likenessOf_76 ⟨Nat.le_of_ble_eq_true rfl, Nat.le_of_ble_eq_true rfl⟩ ?_
      exact zL_ret hx hb hr hlocks dM_likenessOf_79
  | succ k ih =>
    intro i x1 x2 x3 x4 x6 hi  ls hl
    rw [fM_likenessOf_9]
    refine lv_iload hx hb dM_likenessOf_9 (lv_at hl 6 rfl) ?_
    refine lv_iconst (v := 4) hx hb dM_likenessOf_11 (by decide) ?_
    refine lv_icmp_ge (tgt := 54) hx hb dM_likenessOf_12 (by decide) (fun z => absurd z (lp_lt (n := 4) hi (by omega))) (fun _ => ?_)
    refine lv_aload_n hx hb dM_likenessOf_15 rfl (lv_at hl 0 rfl) ?_
    refine lv_iload_n hx hb dM_likenessOf_16 rfl (lv_at hl 1 rfl) ?_
    refine lv_iload_n hx hb dM_likenessOf_17 rfl (lv_at hl 2 rfl) ?_
    refine lv_iload hx hb dM_likenessOf_18 (lv_at hl 6 rfl) ?_
    refine qVi (rest := []) ⟨hx, hb, hml, hown, hts⟩ (kM_isKnownOfBoth l D Y h n hn S x1 x2 (nI i)) (cwV 3 hts (gV uw93 uw94 uw95 uw84 ucM_isKnownOfBoth) rfl rfl rfl hvM_isKnownOfBoth ⟨Nat.le_of_ble_eq_true rfl, Nat.le_of_ble_eq_true rfl⟩) hK hP (va_recv hK hP (ci := 2) (q0 := 0) rfl rfl) rfl hl.1 rfl (Nat.le_of_ble_eq_true rfl) dM_likenessOf_20 ⟨Nat.le_of_ble_eq_true rfl, Nat.le_of_ble_eq_true rfl⟩ ?_
    refine zif (C := (fM_isKnownOfBoth n S x1 x2 (nI i)) = 0) (fun c23 => ?_) (fun c23 => ?_)
    · skip
      refine lv_if_eq (tgt := 48) hx hb dM_likenessOf_23 (by decide) (fun _ => ?_) (fun z => absurd c23 z)
      refine lv_iinc (v := (nI (i + 1))) (lv' := [(8, .int (nI (i + 1))), (0, .ref (h 0)), (1, .int x1), (2, .int x2), (3, .int x3), (4, .long x4), (6, .long x6)]) hx hb dM_likenessOf_48 hl (k := 6) rfl (nI_1 _) (by decide) rfl (fun ls hl => ?_)
      refine lv_goto (tgt := 9) hx hb dM_likenessOf_51 (by decide) ?_
      exact ih (i + 1) x1 x2 x3 x4 x6 (by omega) ls (lv_sub hl [1, 2, 3, 4, 5, 6, 0] rfl)
    · skip
      refine lv_if_eq (tgt := 48) hx hb dM_likenessOf_23 (by decide) (fun z => absurd z c23) (fun _ => ?_)
      refine lv_lload hx hb dM_likenessOf_26 (lv_at hl 4 rfl) ?_
      refine lv_iconst (v := 2) hx hb dM_likenessOf_28 (by decide) ?_
      refine lv_aload_n hx hb dM_likenessOf_29 rfl (lv_at hl 0 rfl) ?_
      refine lv_iload_n hx hb dM_likenessOf_30 rfl (lv_at hl 1 rfl) ?_
      refine lv_iload_n hx hb dM_likenessOf_31 rfl (lv_at hl 2 rfl) ?_
      refine lv_iload hx hb dM_likenessOf_32 (lv_at hl 6 rfl) ?_
      refine qVi (rest := [.int 2, .long x4]) ⟨hx, hb, hml, hown, hts⟩ (kM_difference l D Y h n hn S x1 x2 (nI i)) (cwV 3 hts (gV uw96 uw97 uw98 uw84 ucM_difference) rfl rfl rfl hvM_difference ⟨Nat.le_of_ble_eq_true rfl, Nat.le_of_ble_eq_true rfl⟩) hK hP (va_recv hK hP (ci := 2) (q0 := 0) rfl rfl) rfl hl.1 rfl (Nat.le_of_ble_eq_true rfl) dM_likenessOf_34 ⟨Nat.le_of_ble_eq_true rfl, Nat.le_of_ble_eq_true rfl⟩ ?_
      refine lv_isub hx hb dM_likenessOf_37 ?_
      refine lv_i2l (v := ((2 - (fM_difference n S x1 x2 (nI i))) : Int32).toInt64) hx hb dM_likenessOf_38 rfl ?_
      refine lv_ladd hx hb dM_likenessOf_39 ?_
      refine lv_lstore (lv' := [(4, .long (x4 + ((2 - (fM_difference n S x1 x2 (nI i))) : Int32).toInt64)), (0, .ref (h 0)), (1, .int x1), (2, .int x2), (3, .int x3), (6, .long x6), (8, .int (nI i))]) hx hb dM_likenessOf_40 hl (by decide) rfl (fun ls hl => ?_)
      refine lv_lload hx hb dM_likenessOf_42 (lv_at hl 5 rfl) ?_
      refine lv_lconst (v := 1) hx hb dM_likenessOf_44 (by decide) ?_
      refine lv_ladd hx hb dM_likenessOf_45 ?_
      refine lv_lstore (lv' := [(6, .long (x6 + 1)), (4, .long (x4 + ((2 - (fM_difference n S x1 x2 (nI i))) : Int32).toInt64)), (0, .ref (h 0)), (1, .int x1), (2, .int x2), (3, .int x3), (8, .int (nI i))]) hx hb dM_likenessOf_46 hl (by decide) rfl (fun ls hl => ?_)
      refine lv_iinc (v := (nI (i + 1))) (lv' := [(8, .int (nI (i + 1))), (6, .long (x6 + 1)), (4, .long (x4 + ((2 - (fM_difference n S x1 x2 (nI i))) : Int32).toInt64)), (0, .ref (h 0)), (1, .int x1), (2, .int x2), (3, .int x3)]) hx hb dM_likenessOf_48 hl (k := 6) rfl (nI_1 _) (by decide) rfl (fun ls hl => ?_)
      refine lv_goto (tgt := 9) hx hb dM_likenessOf_51 (by decide) ?_
      exact ih (i + 1) x1 x2 x3 (x4 + ((2 - (fM_difference n S x1 x2 (nI i))) : Int32).toInt64) (x6 + 1) (by omega) ls (lv_sub hl [3, 4, 5, 6, 2, 1, 0] rfl)
set_option maxHeartbeats 4000000 in
set_option maxRecDepth 100000 in
theorem kM_likenessOf (l : Launch) (D : va_G) (Y : Nat → ClassId) (h : Nat → Nat) (n : Nat) (hn : n ≤ 24) (S : vM) (a1 : Int32) (a2 : Int32) (a3 : Int32) : Met l yM_likenessOf wsM_likenessOf rmM_likenessOf (va_Pc [.ref (h 0), .int a1, .int a2, .int a3] (zPre D vwCl (tysK Y) (wM Y h n S))) (vp_Sl (fun r => r = (fM_likenessOf n S a1 a2 a3))) 0 0 (fun _ => False) := by
  refine Met.ofW (cc := cM_likenessOf) (maxL := 9) (ret := (some .long)) (by decide) rfl ?_
  intro p e s m args below meth c s₁ B hml hv
  obtain ⟨rfl, hP, hK⟩ := hv
  have hx := B.exec
  have hb := B.bytes
  have hr := B.returns
  have hts : ∀ w ∈ uT, w.before _ s = true := fun w hw => atoms_spec (ws := wsM_likenessOf) B.pre w (List.mem_cons_of_mem _ hw)
  have hown : s.vm.findClass RM = some m.cls := findClass_of_methodNamed B.named
  have hlocks := B.notSynchronized
  have hl := lv_entry ([.ref (h 0), .int a1, .int a2, .int a3]) (n := 9) (Nat.le_of_ble_eq_true rfl)
  rw [lg_entry_eq]
  generalize (lg_sl ([.ref (h 0), .int a1, .int a2, .int a3]) ++ List.replicate (9 - (lg_sl ([.ref (h 0), .int a1, .int a2, .int a3])).length) Slot.unset).toArray = ls at hl ⊢
  have hl : lv_has ls 9 [(0, .ref (h 0)), (1, .int a1), (2, .int a2), (3, .int a3)] := hl
  show W p l e rmM_likenessOf s m _ below meth c s.heap [] 0 0 (zL below _ s (fM_likenessOf n S a1 a2 a3)) _
  unfold fM_likenessOf
  show W p l e rmM_likenessOf s m _ below meth c s.heap [] 0 0 (zL below _ s _) (F0 m 0 ls [])
  refine lv_lconst (v := 0) hx hb dM_likenessOf_0 (by decide) ?_
  refine lv_lstore (lv' := [(4, .long 0), (0, .ref (h 0)), (1, .int a1), (2, .int a2), (3, .int a3)]) hx hb dM_likenessOf_1 hl (by decide) rfl (fun ls hl => ?_)
  refine lv_lconst (v := 0) hx hb dM_likenessOf_3 (by decide) ?_
  refine lv_lstore (lv' := [(6, .long 0), (4, .long 0), (0, .ref (h 0)), (1, .int a1), (2, .int a2), (3, .int a3)]) hx hb dM_likenessOf_4 hl (by decide) rfl (fun ls hl => ?_)
  refine lv_iconst (v := 0) hx hb dM_likenessOf_6 (by decide) ?_
  refine lv_istore (lv' := [(8, .int 0), (6, .long 0), (4, .long 0), (0, .ref (h 0)), (1, .int a1), (2, .int a2), (3, .int a3)]) hx hb dM_likenessOf_7 hl (by decide) rfl (fun ls hl => ?_)
  exact tM_likenessOf_9 hn ⟨hx, hb, hml, hown, hts⟩ hr hlocks hK hP 4 0 a1 a2 a3 0 0 (by omega) ls (lv_sub hl [3, 4, 5, 6, 2, 1, 0] rfl)
abbrev rmM_setForm : Room := { frames := 1, cells := 0, slots := 0, locals := 22 }
set_option maxHeartbeats 4000000 in
set_option maxRecDepth 100000 in
theorem kM_setForm (l : Launch) (D : va_G) (Y : Nat → ClassId) (h : Nat → Nat) (n : Nat) (hn : n ≤ 24) (S : vM) (a1 : Int32) (a2 : Int32) (a3 : Int32) (sz : Nat) : Met l yM_setForm wsM_setForm rmM_setForm (va_Pc [.ref (h 0), .int a1, .int a2, .int a3] (zPreM D vwCl (tysK Y) (wM Y h n S) sz)) (va_Qi (fun r u => (r, u) = (fM_setForm n S a1 a2 a3)) (zAt D vwCl (tysK Y) (va_A (wM Y h n S) sz) (wM Y h n)) (va_A (wM Y h n S) sz)) 0 0 (va_A (wM Y h n S) sz) := by
  refine Met.ofW (cc := cM_setForm) (maxL := 4) (ret := (some .boolean)) (by decide) rfl ?_
  intro p e s m args below meth c s₁ B hml hv
  obtain ⟨rfl, hsz, hP, hK, hD0⟩ := hv
  have hx := B.exec
  have hb := B.bytes
  have hr := B.returns
  have hts : ∀ w ∈ uT, w.before _ s = true := fun w hw => atoms_spec (ws := wsM_setForm) B.pre w (List.mem_cons_of_mem _ hw)
  have hown : s.vm.findClass RM = some m.cls := findClass_of_methodNamed B.named
  have hlocks := B.notSynchronized
  subst hsz
  have hD := hD0.self (sz := s.heap.size)
  generalize hAe : va_A (wM Y h n S) s.heap.size = A at hD ⊢
  have hA : ∀ q : Nat, s.heap.size ≤ q → A q := fun q h => by rw [← hAe]; exact Or.inr h
  have hS : va_S A s.heap s.heap [] := va_S.rf
  have hl := lv_entry ([.ref (h 0), .int a1, .int a2, .int a3]) (n := 4) (Nat.le_of_ble_eq_true rfl)
  rw [lg_entry_eq]
  generalize (lg_sl ([.ref (h 0), .int a1, .int a2, .int a3]) ++ List.replicate (4 - (lg_sl ([.ref (h 0), .int a1, .int a2, .int a3])).length) Slot.unset).toArray = ls at hl ⊢
  have hl : lv_has ls 4 [(0, .ref (h 0)), (1, .int a1), (2, .int a2), (3, .int a3)] := hl
  show W p l e rmM_setForm s m _ below meth c s.heap [] 0 0 (zMi D vwCl (tysK Y) A (wM Y h n) below _ s 0 0 (fM_setForm n S a1 a2 a3)) _
  unfold fM_setForm
  show W p l e rmM_setForm s m _ below meth c s.heap [] 0 0 (zMi D vwCl (tysK Y) A (wM Y h n) below _ s 0 0 _) (F0 m 0 ls [])
  refine lv_aload_n hx hb dM_setForm_0 rfl (lv_at hl 0 rfl) ?_
  refine lv_iload_n hx hb dM_setForm_1 rfl (lv_at hl 1 rfl) ?_
  refine lv_iload_n hx hb dM_setForm_2 rfl (lv_at hl 2 rfl) ?_
  refine qVi (rest := []) ⟨hx, hb, hml, hown, hts⟩ (kM_has l D Y h n hn S a1 a2) (cwV 2 hts (gV uw81 uw82 uw83 uw84 ucM_has) rfl rfl rfl hvM_has ⟨Nat.le_of_ble_eq_true rfl, Nat.le_of_ble_eq_true rfl⟩) hK hP (va_recv hK hP (ci := 2) (q0 := 0) rfl rfl) rfl hl.1 rfl (Nat.le_of_ble_eq_true rfl) dM_setForm_3 ⟨Nat.le_of_ble_eq_true rfl, Nat.le_of_ble_eq_true rfl⟩ ?_
  refine zif (C := (fM_has n a1 a2) = 0) (fun c6 => ?_) (fun c6 => ?_)
  · skip
    refine lv_if_eq (tgt := 19) hx hb dM_setForm_6 (by decide) (fun _ => ?_) (fun z => absurd c6 z)
    refine lv_iconst (v := 0) hx hb dM_setForm_19 (by decide) ?_
    exact zMb_ret (u := S) hx hb hr hlocks hK hP hD hS (Or.inl rfl) dM_setForm_20
  · skip
    refine lv_if_eq (tgt := 19) hx hb dM_setForm_6 (by decide) (fun z => absurd z c6) (fun _ => ?_)
    refine lv_iload_n hx hb dM_setForm_9 rfl (lv_at hl 3 rfl) ?_
    refine lv_iconst (v := (-1)) hx hb dM_setForm_10 (by decide) ?_
    refine zif (C := a3 < (-1)) (fun c11 => ?_) (fun c11 => ?_)
    · skip
      refine lv_icmp_lt (tgt := 19) hx hb dM_setForm_11 (by decide) (fun _ => ?_) (fun z => absurd c11 z)
      refine lv_iconst (v := 0) hx hb dM_setForm_19 (by decide) ?_
      exact zMb_ret (u := S) hx hb hr hlocks hK hP hD hS (Or.inl rfl) dM_setForm_20
    · skip
      refine lv_icmp_lt (tgt := 19) hx hb dM_setForm_11 (by decide) (fun z => absurd z c11) (fun _ => ?_)
      refine lv_iload_n hx hb dM_setForm_14 rfl (lv_at hl 3 rfl) ?_
      refine lv_iconst (v := 2) hx hb dM_setForm_15 (by decide) ?_
      refine zif (C := a3 ≤ 2) (fun c16 => ?_) (fun c16 => ?_)
      · skip
        refine lv_icmp_le (tgt := 21) hx hb dM_setForm_16 (by decide) (fun _ => ?_) (fun z => absurd c16 z)
        refine lv_aload_n hx hb dM_setForm_21 rfl (lv_at hl 0 rfl) ?_
        refine va_get (D := D) (ci := 2) (v := .ref (h 1)) (C := RM) (T := TM) (N := 2) hx hb hts hinM hown hK hP 0 rfl rfl 1 (by decide) (hts _ uw85) (fun _ h9 => h9) rfl dM_setForm_22 ?_
        refine lv_iload_n hx hb dM_setForm_25 rfl (lv_at hl 1 rfl) ?_
        refine lv_iconst (v := 4) hx hb dM_setForm_26 (by decide) ?_
        refine lv_imul hx hb dM_setForm_27 ?_
        refine lv_iload_n hx hb dM_setForm_28 rfl (lv_at hl 2 rfl) ?_
        refine lv_iadd hx hb dM_setForm_29 ?_
        refine lv_iload_n hx hb dM_setForm_30 rfl (lv_at hl 3 rfl) ?_
        refine va_iast hx hb hK hP hD hS 1 0 rfl rfl (fm_in hn c6) dM_setForm_31 (fun H locs hP hD hS => ?_)
        have hP : va_P D vwCl (wM Y h n (upd S (((a1 * 4) + a2) : Int32).toNatClampNeg a3)) H := hP
        have hD : va_D A (wM Y h n (upd S (((a1 * 4) + a2) : Int32).toNatClampNeg a3)) := hD
        refine lv_iconst (v := 1) hx hb dM_setForm_32 (by decide) ?_
        exact zMb_ret (u := (upd S (((a1 * 4) + a2) : Int32).toNatClampNeg a3)) hx hb hr hlocks hK hP hD hS (Or.inr rfl) dM_setForm_33
      · skip
        refine lv_icmp_le (tgt := 21) hx hb dM_setForm_16 (by decide) (fun z => absurd z c16) (fun _ => ?_)
        refine lv_iconst (v := 0) hx hb dM_setForm_19 (by decide) ?_
        exact zMb_ret (u := S) hx hb hr hlocks hK hP hD hS (Or.inl rfl) dM_setForm_20
abbrev rmK_isAnimal : Room := { frames := 0, cells := 0, slots := 0, locals := 0 }
set_option maxHeartbeats 4000000 in
set_option maxRecDepth 100000 in
theorem kK_isAnimal (l : Launch) (D : va_G) (Y : Nat → ClassId) (h : Nat → Nat) (n : Nat) (hn : n ≤ 24) (S : vK) (a1 : Int32) : Met l yK_isAnimal wsK_isAnimal rmK_isAnimal (va_Pc [.ref (h 0), .int a1] (zPre D vwCl (tysK Y) (wK Y h n S))) (vp_Si (fun r => r = (fK_isAnimal n a1))) 0 0 (fun _ => False) := by
  refine Met.ofW (cc := cK_isAnimal) (maxL := 2) (ret := (some .boolean)) (by decide) rfl ?_
  intro p e s m args below meth c s₁ B hml hv
  obtain ⟨rfl, hP, hK⟩ := hv
  have hx := B.exec
  have hb := B.bytes
  have hr := B.returns
  have hts : ∀ w ∈ uT, w.before _ s = true := fun w hw => atoms_spec (ws := wsK_isAnimal) B.pre w (List.mem_cons_of_mem _ hw)
  have hown : s.vm.findClass RK = some m.cls := findClass_of_methodNamed B.named
  have hlocks := B.notSynchronized
  have hl := lv_entry ([.ref (h 0), .int a1]) (n := 2) (Nat.le_of_ble_eq_true rfl)
  rw [lg_entry_eq]
  generalize (lg_sl ([.ref (h 0), .int a1]) ++ List.replicate (2 - (lg_sl ([.ref (h 0), .int a1])).length) Slot.unset).toArray = ls at hl ⊢
  have hl : lv_has ls 2 [(0, .ref (h 0)), (1, .int a1)] := hl
  show W p l e rmK_isAnimal s m _ below meth c s.heap [] 0 0 (zI below _ s (fK_isAnimal n a1)) _
  unfold fK_isAnimal
  show W p l e rmK_isAnimal s m _ below meth c s.heap [] 0 0 (zI below _ s _) (F0 m 0 ls [])
  refine lv_iload_n hx hb dK_isAnimal_0 rfl (lv_at hl 1 rfl) ?_
  refine zif (C := a1 < 0) (fun c1 => ?_) (fun c1 => ?_)
  · skip
    refine lv_if_lt (tgt := 16) hx hb dK_isAnimal_1 (by decide) (fun _ => ?_) (fun z => absurd c1 z)
    refine lv_iconst (v := 0) hx hb dK_isAnimal_16 (by decide) ?_
    exact zB_ret hx hb hr hlocks (Or.inl rfl) dK_isAnimal_17
  · skip
    refine lv_if_lt (tgt := 16) hx hb dK_isAnimal_1 (by decide) (fun z => absurd z c1) (fun _ => ?_)
    refine lv_iload_n hx hb dK_isAnimal_4 rfl (lv_at hl 1 rfl) ?_
    refine lv_aload_n hx hb dK_isAnimal_5 rfl (lv_at hl 0 rfl) ?_
    refine va_get (D := D) (ci := 0) (v := .int (nI n)) (C := RK) (T := TK) (N := 6) hx hb hts hinK hown hK hP 0 rfl rfl 2 (by decide) (hts _ uw112) (fun _ h9 => h9) rfl dK_isAnimal_6 ?_
    refine zif (C := (nI n) ≤ a1) (fun c9 => ?_) (fun c9 => ?_)
    · skip
      refine lv_icmp_ge (tgt := 16) hx hb dK_isAnimal_9 (by decide) (fun _ => ?_) (fun z => absurd c9 z)
      refine lv_iconst (v := 0) hx hb dK_isAnimal_16 (by decide) ?_
      exact zB_ret hx hb hr hlocks (Or.inl rfl) dK_isAnimal_17
    · skip
      refine lv_icmp_ge (tgt := 16) hx hb dK_isAnimal_9 (by decide) (fun z => absurd z c9) (fun _ => ?_)
      refine lv_iconst (v := 1) hx hb dK_isAnimal_12 (by decide) ?_
      refine lv_goto (tgt := 17) hx hb dK_isAnimal_13 (by decide) ?_
      exact zB_ret hx hb hr hlocks (Or.inr rfl) dK_isAnimal_17
abbrev rmK_isAnimalOrNone : Room := { frames := 1, cells := 0, slots := 0, locals := 21 }
set_option maxHeartbeats 4000000 in
set_option maxRecDepth 100000 in
theorem kK_isAnimalOrNone (l : Launch) (D : va_G) (Y : Nat → ClassId) (h : Nat → Nat) (n : Nat) (hn : n ≤ 24) (S : vK) (a1 : Int32) : Met l yK_isAnimalOrNone wsK_isAnimalOrNone rmK_isAnimalOrNone (va_Pc [.ref (h 0), .int a1] (zPre D vwCl (tysK Y) (wK Y h n S))) (vp_Si (fun r => r = (fK_isAnimalOrNone n a1))) 0 0 (fun _ => False) := by
  refine Met.ofW (cc := cK_isAnimalOrNone) (maxL := 2) (ret := (some .boolean)) (by decide) rfl ?_
  intro p e s m args below meth c s₁ B hml hv
  obtain ⟨rfl, hP, hK⟩ := hv
  have hx := B.exec
  have hb := B.bytes
  have hr := B.returns
  have hts : ∀ w ∈ uT, w.before _ s = true := fun w hw => atoms_spec (ws := wsK_isAnimalOrNone) B.pre w (List.mem_cons_of_mem _ hw)
  have hown : s.vm.findClass RK = some m.cls := findClass_of_methodNamed B.named
  have hlocks := B.notSynchronized
  have hl := lv_entry ([.ref (h 0), .int a1]) (n := 2) (Nat.le_of_ble_eq_true rfl)
  rw [lg_entry_eq]
  generalize (lg_sl ([.ref (h 0), .int a1]) ++ List.replicate (2 - (lg_sl ([.ref (h 0), .int a1])).length) Slot.unset).toArray = ls at hl ⊢
  have hl : lv_has ls 2 [(0, .ref (h 0)), (1, .int a1)] := hl
  show W p l e rmK_isAnimalOrNone s m _ below meth c s.heap [] 0 0 (zI below _ s (fK_isAnimalOrNone n a1)) _
  unfold fK_isAnimalOrNone
  show W p l e rmK_isAnimalOrNone s m _ below meth c s.heap [] 0 0 (zI below _ s _) (F0 m 0 ls [])
  refine lv_iload_n hx hb dK_isAnimalOrNone_0 rfl (lv_at hl 1 rfl) ?_
  refine lv_iconst (v := (-1)) hx hb dK_isAnimalOrNone_1 (by decide) ?_
  refine zif (C := a1 = (-1)) (fun c2 => ?_) (fun c2 => ?_)
  · skip
    refine lv_icmp_eq (tgt := 13) hx hb dK_isAnimalOrNone_2 (by decide) (fun _ => ?_) (fun z => absurd c2 z)
    refine lv_iconst (v := 1) hx hb dK_isAnimalOrNone_13 (by decide) ?_
    refine lv_goto (tgt := 18) hx hb dK_isAnimalOrNone_14 (by decide) ?_
    exact zB_ret hx hb hr hlocks (Or.inr rfl) dK_isAnimalOrNone_18
  · skip
    refine lv_icmp_eq (tgt := 13) hx hb dK_isAnimalOrNone_2 (by decide) (fun z => absurd z c2) (fun _ => ?_)
    refine lv_aload_n hx hb dK_isAnimalOrNone_5 rfl (lv_at hl 0 rfl) ?_
    refine lv_iload_n hx hb dK_isAnimalOrNone_6 rfl (lv_at hl 1 rfl) ?_
    refine qVi (rest := []) ⟨hx, hb, hml, hown, hts⟩ (kK_isAnimal l D Y h n hn S a1) (cwV 1 hts (gV uw113 uw114 uw115 uw116 ucK_isAnimal) rfl rfl rfl hvK_isAnimal ⟨Nat.le_of_ble_eq_true rfl, Nat.le_of_ble_eq_true rfl⟩) hK hP (va_recv hK hP (ci := 0) (q0 := 0) rfl rfl) rfl hl.1 rfl (Nat.le_of_ble_eq_true rfl) dK_isAnimalOrNone_7 ⟨Nat.le_of_ble_eq_true rfl, Nat.le_of_ble_eq_true rfl⟩ ?_
    refine zif (C := (fK_isAnimal n a1) = 0) (fun c10 => ?_) (fun c10 => ?_)
    · skip
      refine lv_if_eq (tgt := 17) hx hb dK_isAnimalOrNone_10 (by decide) (fun _ => ?_) (fun z => absurd c10 z)
      refine lv_iconst (v := 0) hx hb dK_isAnimalOrNone_17 (by decide) ?_
      exact zB_ret hx hb hr hlocks (Or.inl rfl) dK_isAnimalOrNone_18
    · skip
      refine lv_if_eq (tgt := 17) hx hb dK_isAnimalOrNone_10 (by decide) (fun z => absurd z c10) (fun _ => ?_)
      refine lv_iconst (v := 1) hx hb dK_isAnimalOrNone_13 (by decide) ?_
      refine lv_goto (tgt := 18) hx hb dK_isAnimalOrNone_14 (by decide) ?_
      exact zB_ret hx hb hr hlocks (Or.inr rfl) dK_isAnimalOrNone_18
abbrev rmK_mayBeParent : Room := { frames := 1, cells := 0, slots := 0, locals := 21 }
set_option maxHeartbeats 4000000 in
set_option maxRecDepth 100000 in
theorem kK_mayBeParent (l : Launch) (D : va_G) (Y : Nat → ClassId) (h : Nat → Nat) (n : Nat) (hn : n ≤ 24) (S : vK) (a1 : Int32) (a2 : Int32) (a3 : Int32) : Met l yK_mayBeParent wsK_mayBeParent rmK_mayBeParent (va_Pc [.ref (h 0), .int a1, .int a2, .int a3] (zPre D vwCl (tysK Y) (wK Y h n S))) (vp_Si (fun r => r = (fK_mayBeParent n S a1 a2 a3))) 0 0 (fun _ => False) := by
  refine Met.ofW (cc := cK_mayBeParent) (maxL := 4) (ret := (some .boolean)) (by decide) rfl ?_
  intro p e s m args below meth c s₁ B hml hv
  obtain ⟨rfl, hP, hK⟩ := hv
  have hx := B.exec
  have hb := B.bytes
  have hr := B.returns
  have hts : ∀ w ∈ uT, w.before _ s = true := fun w hw => atoms_spec (ws := wsK_mayBeParent) B.pre w (List.mem_cons_of_mem _ hw)
  have hown : s.vm.findClass RK = some m.cls := findClass_of_methodNamed B.named
  have hlocks := B.notSynchronized
  have hl := lv_entry ([.ref (h 0), .int a1, .int a2, .int a3]) (n := 4) (Nat.le_of_ble_eq_true rfl)
  rw [lg_entry_eq]
  generalize (lg_sl ([.ref (h 0), .int a1, .int a2, .int a3]) ++ List.replicate (4 - (lg_sl ([.ref (h 0), .int a1, .int a2, .int a3])).length) Slot.unset).toArray = ls at hl ⊢
  have hl : lv_has ls 4 [(0, .ref (h 0)), (1, .int a1), (2, .int a2), (3, .int a3)] := hl
  show W p l e rmK_mayBeParent s m _ below meth c s.heap [] 0 0 (zI below _ s (fK_mayBeParent n S a1 a2 a3)) _
  unfold fK_mayBeParent
  show W p l e rmK_mayBeParent s m _ below meth c s.heap [] 0 0 (zI below _ s _) (F0 m 0 ls [])
  refine lv_aload_n hx hb dK_mayBeParent_0 rfl (lv_at hl 0 rfl) ?_
  refine lv_iload_n hx hb dK_mayBeParent_1 rfl (lv_at hl 1 rfl) ?_
  refine qVi (rest := []) ⟨hx, hb, hml, hown, hts⟩ (kK_isAnimal l D Y h n hn S a1) (cwV 1 hts (gV uw113 uw114 uw115 uw116 ucK_isAnimal) rfl rfl rfl hvK_isAnimal ⟨Nat.le_of_ble_eq_true rfl, Nat.le_of_ble_eq_true rfl⟩) hK hP (va_recv hK hP (ci := 0) (q0 := 0) rfl rfl) rfl hl.1 rfl (Nat.le_of_ble_eq_true rfl) dK_mayBeParent_2 ⟨Nat.le_of_ble_eq_true rfl, Nat.le_of_ble_eq_true rfl⟩ ?_
  refine zif (C := (fK_isAnimal n a1) = 0) (fun c5 => ?_) (fun c5 => ?_)
  · skip
    refine lv_if_eq (tgt := 16) hx hb dK_mayBeParent_5 (by decide) (fun _ => ?_) (fun z => absurd c5 z)
    refine lv_iconst (v := 1) hx hb dK_mayBeParent_16 (by decide) ?_
    exact zB_ret hx hb hr hlocks (Or.inr rfl) dK_mayBeParent_17
  · skip
    refine lv_if_eq (tgt := 16) hx hb dK_mayBeParent_5 (by decide) (fun z => absurd z c5) (fun _ => ?_)
    refine lv_aload_n hx hb dK_mayBeParent_8 rfl (lv_at hl 0 rfl) ?_
    refine lv_iload_n hx hb dK_mayBeParent_9 rfl (lv_at hl 2 rfl) ?_
    refine qVi (rest := []) ⟨hx, hb, hml, hown, hts⟩ (kK_isAnimal l D Y h n hn S a2) (cwV 1 hts (gV uw113 uw114 uw115 uw116 ucK_isAnimal) rfl rfl rfl hvK_isAnimal ⟨Nat.le_of_ble_eq_true rfl, Nat.le_of_ble_eq_true rfl⟩) hK hP (va_recv hK hP (ci := 0) (q0 := 0) rfl rfl) rfl hl.1 rfl (Nat.le_of_ble_eq_true rfl) dK_mayBeParent_10 ⟨Nat.le_of_ble_eq_true rfl, Nat.le_of_ble_eq_true rfl⟩ ?_
    refine zif (C := (fK_isAnimal n a2) = 0) (fun c13 => ?_) (fun c13 => ?_)
    · skip
      refine lv_if_ne (tgt := 18) hx hb dK_mayBeParent_13 (by decide) (fun z => absurd c13 z) (fun _ => ?_)
      refine lv_iconst (v := 1) hx hb dK_mayBeParent_16 (by decide) ?_
      exact zB_ret hx hb hr hlocks (Or.inr rfl) dK_mayBeParent_17
    · skip
      refine lv_if_ne (tgt := 18) hx hb dK_mayBeParent_13 (by decide) (fun _ => ?_) (fun z => absurd z c13)
      refine lv_aload_n hx hb dK_mayBeParent_18 rfl (lv_at hl 0 rfl) ?_
      refine va_get (D := D) (ci := 0) (v := .ref (h 1)) (C := RK) (T := TK) (N := 6) hx hb hts hinK hown hK hP 0 rfl rfl 3 (by decide) (hts _ uw117) (fun _ h9 => h9) rfl dK_mayBeParent_19 ?_
      refine lv_iload_n hx hb dK_mayBeParent_22 rfl (lv_at hl 2 rfl) ?_
      refine va_iald hx hb hK hP 1 0 rfl rfl (ani_in hn c13) dK_mayBeParent_23 ?_
      refine lv_iload_n hx hb dK_mayBeParent_24 rfl (lv_at hl 3 rfl) ?_
      refine zif (C := ((g_sx S) (a2 : Int32).toNatClampNeg) = a3) (fun c25 => ?_) (fun c25 => ?_)
      · skip
        refine lv_icmp_ne (tgt := 30) hx hb dK_mayBeParent_25 (by decide) (fun z => absurd c25 z) (fun _ => ?_)
        refine lv_iconst (v := 0) hx hb dK_mayBeParent_28 (by decide) ?_
        exact zB_ret hx hb hr hlocks (Or.inl rfl) dK_mayBeParent_29
      · skip
        refine lv_icmp_ne (tgt := 30) hx hb dK_mayBeParent_25 (by decide) (fun _ => ?_) (fun z => absurd z c25)
        refine lv_aload_n hx hb dK_mayBeParent_30 rfl (lv_at hl 0 rfl) ?_
        refine va_get (D := D) (ci := 0) (v := .ref (h 2)) (C := RK) (T := TK) (N := 6) hx hb hts hinK hown hK hP 0 rfl rfl 4 (by decide) (hts _ uw118) (fun _ h9 => h9) rfl dK_mayBeParent_31 ?_
        refine lv_iload_n hx hb dK_mayBeParent_34 rfl (lv_at hl 2 rfl) ?_
        refine va_iald hx hb hK hP 2 0 rfl rfl (ani_in hn c13) dK_mayBeParent_35 ?_
        refine lv_iconst (v := (-1)) hx hb dK_mayBeParent_36 (by decide) ?_
        refine zif (C := ((g_dy S) (a2 : Int32).toNatClampNeg) = (-1)) (fun c37 => ?_) (fun c37 => ?_)
        · skip
          refine lv_icmp_eq (tgt := 65) hx hb dK_mayBeParent_37 (by decide) (fun _ => ?_) (fun z => absurd c37 z)
          refine lv_iconst (v := 1) hx hb dK_mayBeParent_65 (by decide) ?_
          refine lv_goto (tgt := 70) hx hb dK_mayBeParent_66 (by decide) ?_
          exact zB_ret hx hb hr hlocks (Or.inr rfl) dK_mayBeParent_70
        · skip
          refine lv_icmp_eq (tgt := 65) hx hb dK_mayBeParent_37 (by decide) (fun z => absurd z c37) (fun _ => ?_)
          refine lv_aload_n hx hb dK_mayBeParent_40 rfl (lv_at hl 0 rfl) ?_
          refine va_get (D := D) (ci := 0) (v := .ref (h 2)) (C := RK) (T := TK) (N := 6) hx hb hts hinK hown hK hP 0 rfl rfl 4 (by decide) (hts _ uw118) (fun _ h9 => h9) rfl dK_mayBeParent_41 ?_
          refine lv_iload_n hx hb dK_mayBeParent_44 rfl (lv_at hl 1 rfl) ?_
          refine va_iald hx hb hK hP 2 0 rfl rfl (ani_in hn c5) dK_mayBeParent_45 ?_
          refine lv_iconst (v := (-1)) hx hb dK_mayBeParent_46 (by decide) ?_
          refine zif (C := ((g_dy S) (a1 : Int32).toNatClampNeg) = (-1)) (fun c47 => ?_) (fun c47 => ?_)
          · skip
            refine lv_icmp_eq (tgt := 65) hx hb dK_mayBeParent_47 (by decide) (fun _ => ?_) (fun z => absurd c47 z)
            refine lv_iconst (v := 1) hx hb dK_mayBeParent_65 (by decide) ?_
            refine lv_goto (tgt := 70) hx hb dK_mayBeParent_66 (by decide) ?_
            exact zB_ret hx hb hr hlocks (Or.inr rfl) dK_mayBeParent_70
          · skip
            refine lv_icmp_eq (tgt := 65) hx hb dK_mayBeParent_47 (by decide) (fun z => absurd z c47) (fun _ => ?_)
            refine lv_aload_n hx hb dK_mayBeParent_50 rfl (lv_at hl 0 rfl) ?_
            refine va_get (D := D) (ci := 0) (v := .ref (h 2)) (C := RK) (T := TK) (N := 6) hx hb hts hinK hown hK hP 0 rfl rfl 4 (by decide) (hts _ uw118) (fun _ h9 => h9) rfl dK_mayBeParent_51 ?_
            refine lv_iload_n hx hb dK_mayBeParent_54 rfl (lv_at hl 2 rfl) ?_
            refine va_iald hx hb hK hP 2 0 rfl rfl (ani_in hn c13) dK_mayBeParent_55 ?_
            refine lv_aload_n hx hb dK_mayBeParent_56 rfl (lv_at hl 0 rfl) ?_
            refine va_get (D := D) (ci := 0) (v := .ref (h 2)) (C := RK) (T := TK) (N := 6) hx hb hts hinK hown hK hP 0 rfl rfl 4 (by decide) (hts _ uw118) (fun _ h9 => h9) rfl dK_mayBeParent_57 ?_
            refine lv_iload_n hx hb dK_mayBeParent_60 rfl (lv_at hl 1 rfl) ?_
            refine va_iald hx hb hK hP 2 0 rfl rfl (ani_in hn c5) dK_mayBeParent_61 ?_
            refine zif (C := ((g_dy S) (a1 : Int32).toNatClampNeg) ≤ ((g_dy S) (a2 : Int32).toNatClampNeg)) (fun c62 => ?_) (fun c62 => ?_)
            · skip
              refine lv_icmp_ge (tgt := 69) hx hb dK_mayBeParent_62 (by decide) (fun _ => ?_) (fun z => absurd c62 z)
              refine lv_iconst (v := 0) hx hb dK_mayBeParent_69 (by decide) ?_
              exact zB_ret hx hb hr hlocks (Or.inl rfl) dK_mayBeParent_70
            · skip
              refine lv_icmp_ge (tgt := 69) hx hb dK_mayBeParent_62 (by decide) (fun z => absurd z c62) (fun _ => ?_)
              refine lv_iconst (v := 1) hx hb dK_mayBeParent_65 (by decide) ?_
              refine lv_goto (tgt := 70) hx hb dK_mayBeParent_66 (by decide) ?_
              exact zB_ret hx hb hr hlocks (Or.inr rfl) dK_mayBeParent_70
abbrev rmK_mayBeParents : Room := { frames := 2, cells := 0, slots := 0, locals := 44 }
set_option maxHeartbeats 4000000 in
set_option maxRecDepth 100000 in
theorem kK_mayBeParents (l : Launch) (D : va_G) (Y : Nat → ClassId) (h : Nat → Nat) (n : Nat) (hn : n ≤ 24) (S : vK) (a1 : Int32) (a2 : Int32) (a3 : Int32) : Met l yK_mayBeParents wsK_mayBeParents rmK_mayBeParents (va_Pc [.ref (h 0), .int a1, .int a2, .int a3] (zPre D vwCl (tysK Y) (wK Y h n S))) (vp_Si (fun r => r = (fK_mayBeParents n S a1 a2 a3))) 0 0 (fun _ => False) := by
  refine Met.ofW (cc := cK_mayBeParents) (maxL := 4) (ret := (some .boolean)) (by decide) rfl ?_
  intro p e s m args below meth c s₁ B hml hv
  obtain ⟨rfl, hP, hK⟩ := hv
  have hx := B.exec
  have hb := B.bytes
  have hr := B.returns
  have hts : ∀ w ∈ uT, w.before _ s = true := fun w hw => atoms_spec (ws := wsK_mayBeParents) B.pre w (List.mem_cons_of_mem _ hw)
  have hown : s.vm.findClass RK = some m.cls := findClass_of_methodNamed B.named
  have hlocks := B.notSynchronized
  have hl := lv_entry ([.ref (h 0), .int a1, .int a2, .int a3]) (n := 4) (Nat.le_of_ble_eq_true rfl)
  rw [lg_entry_eq]
  generalize (lg_sl ([.ref (h 0), .int a1, .int a2, .int a3]) ++ List.replicate (4 - (lg_sl ([.ref (h 0), .int a1, .int a2, .int a3])).length) Slot.unset).toArray = ls at hl ⊢
  have hl : lv_has ls 4 [(0, .ref (h 0)), (1, .int a1), (2, .int a2), (3, .int a3)] := hl
  show W p l e rmK_mayBeParents s m _ below meth c s.heap [] 0 0 (zI below _ s (fK_mayBeParents n S a1 a2 a3)) _
  unfold fK_mayBeParents
  show W p l e rmK_mayBeParents s m _ below meth c s.heap [] 0 0 (zI below _ s _) (F0 m 0 ls [])
  refine lv_aload_n hx hb dK_mayBeParents_0 rfl (lv_at hl 0 rfl) ?_
  refine lv_iload_n hx hb dK_mayBeParents_1 rfl (lv_at hl 1 rfl) ?_
  refine lv_iload_n hx hb dK_mayBeParents_2 rfl (lv_at hl 2 rfl) ?_
  refine lv_iconst (v := 2) hx hb dK_mayBeParents_3 (by decide) ?_
  refine qVi (rest := []) ⟨hx, hb, hml, hown, hts⟩ (kK_mayBeParent l D Y h n hn S a1 a2 2) (cwV 3 hts (gV uw119 uw120 uw121 uw116 ucK_mayBeParent) rfl rfl rfl hvK_mayBeParent ⟨Nat.le_of_ble_eq_true rfl, Nat.le_of_ble_eq_true rfl⟩) hK hP (va_recv hK hP (ci := 0) (q0 := 0) rfl rfl) rfl hl.1 rfl (Nat.le_of_ble_eq_true rfl) dK_mayBeParents_4 ⟨Nat.le_of_ble_eq_true rfl, Nat.le_of_ble_eq_true rfl⟩ ?_
  refine zif (C := (fK_mayBeParent n S a1 a2 2) = 0) (fun c7 => ?_) (fun c7 => ?_)
  · skip
    refine lv_if_eq (tgt := 24) hx hb dK_mayBeParents_7 (by decide) (fun _ => ?_) (fun z => absurd c7 z)
    refine lv_iconst (v := 0) hx hb dK_mayBeParents_24 (by decide) ?_
    exact zB_ret hx hb hr hlocks (Or.inl rfl) dK_mayBeParents_25
  · skip
    refine lv_if_eq (tgt := 24) hx hb dK_mayBeParents_7 (by decide) (fun z => absurd z c7) (fun _ => ?_)
    refine lv_aload_n hx hb dK_mayBeParents_10 rfl (lv_at hl 0 rfl) ?_
    refine lv_iload_n hx hb dK_mayBeParents_11 rfl (lv_at hl 1 rfl) ?_
    refine lv_iload_n hx hb dK_mayBeParents_12 rfl (lv_at hl 3 rfl) ?_
    refine lv_iconst (v := 1) hx hb dK_mayBeParents_13 (by decide) ?_
    refine qVi (rest := []) ⟨hx, hb, hml, hown, hts⟩ (kK_mayBeParent l D Y h n hn S a1 a3 1) (cwV 3 hts (gV uw119 uw120 uw121 uw116 ucK_mayBeParent) rfl rfl rfl hvK_mayBeParent ⟨Nat.le_of_ble_eq_true rfl, Nat.le_of_ble_eq_true rfl⟩) hK hP (va_recv hK hP (ci := 0) (q0 := 0) rfl rfl) rfl hl.1 rfl (Nat.le_of_ble_eq_true rfl) dK_mayBeParents_14 ⟨Nat.le_of_ble_eq_true rfl, Nat.le_of_ble_eq_true rfl⟩ ?_
    refine zif (C := (fK_mayBeParent n S a1 a3 1) = 0) (fun c17 => ?_) (fun c17 => ?_)
    · skip
      refine lv_if_eq (tgt := 24) hx hb dK_mayBeParents_17 (by decide) (fun _ => ?_) (fun z => absurd c17 z)
      refine lv_iconst (v := 0) hx hb dK_mayBeParents_24 (by decide) ?_
      exact zB_ret hx hb hr hlocks (Or.inl rfl) dK_mayBeParents_25
    · skip
      refine lv_if_eq (tgt := 24) hx hb dK_mayBeParents_17 (by decide) (fun z => absurd z c17) (fun _ => ?_)
      refine lv_iconst (v := 1) hx hb dK_mayBeParents_20 (by decide) ?_
      refine lv_goto (tgt := 25) hx hb dK_mayBeParents_21 (by decide) ?_
      exact zB_ret hx hb hr hlocks (Or.inr rfl) dK_mayBeParents_25
abbrev rmK_areSexesAndDaysRight : Room := { frames := 3, cells := 0, slots := 0, locals := 67 }
set_option maxHeartbeats 4000000 in
set_option maxRecDepth 100000 in
theorem tK_areSexesAndDaysRight_2 {p : Program} {l : Launch} {e : Env} {s : State} {m : MethodId} {args : Array Value} {below : List Frame} {meth : Method} {c : Code} {D : va_G} {Y : Nat → ClassId} {h : Nat → Nat} {n : Nat} (hn : n ≤ 24) {S : vK} (CF : CallFix p m c cK_areSexesAndDaysRight 2 s args uT RK) (hr : meth.sig.returnType = (some .boolean)) (hlocks : meth.locks = false) (hK : va_K D vwCl (tysK Y) s) (hP : va_P D vwCl (wK Y h n S) s.heap) : ∀ (k i : Nat), i + k = n → ∀ ls : Array Slot, lv_has ls 2 [(0, .ref (h 0)), (1, .int (nI i))] → W p l e rmK_areSexesAndDaysRight s m args below meth c s.heap [] 0 0 (zI below args s (fK_areSexesAndDaysRight_2 n S k i)) (F0 m 2 ls []) := by
  obtain ⟨hx, hb, hml, hown, hts⟩ := CF
  intro k
  induction k with
  | zero =>
    intro i  hi  ls hl
    rw [fK_areSexesAndDaysRight_2]
    refine lv_iload_n hx hb dK_areSexesAndDaysRight_2 rfl (lv_at hl 1 rfl) ?_
    refine lv_aload_n hx hb dK_areSexesAndDaysRight_3 rfl (lv_at hl 0 rfl) ?_
    refine va_get (D := D) (ci := 0) (v := .int (nI n)) (C := RK) (T := TK) (N := 6) hx hb hts hinK hown hK hP 0 rfl rfl 2 (by decide) (hts _ uw112) (fun _ h9 => h9) rfl dK_areSexesAndDaysRight_4 ?_
    refine lv_icmp_ge (tgt := 42) hx hb dK_areSexesAndDaysRight_7 (by decide) (fun _ => ?_) (fun z => absurd (lp_ge (n := n) hi) z)
    refine lv_iconst (v := 1) hx hb dK_areSexesAndDaysRight_42 (by decide) ?_
    exact zB_ret hx hb hr hlocks (Or.inr rfl) dK_areSexesAndDaysRight_43
  | succ k ih =>
    intro i  hi  ls hl
    rw [fK_areSexesAndDaysRight_2]
    refine lv_iload_n hx hb dK_areSexesAndDaysRight_2 rfl (lv_at hl 1 rfl) ?_
    refine lv_aload_n hx hb dK_areSexesAndDaysRight_3 rfl (lv_at hl 0 rfl) ?_
    refine va_get (D := D) (ci := 0) (v := .int (nI n)) (C := RK) (T := TK) (N := 6) hx hb hts hinK hown hK hP 0 rfl rfl 2 (by decide) (hts _ uw112) (fun _ h9 => h9) rfl dK_areSexesAndDaysRight_4 ?_
    refine lv_icmp_ge (tgt := 42) hx hb dK_areSexesAndDaysRight_7 (by decide) (fun z => absurd z (lp_lt (n := n) hi (by omega))) (fun _ => ?_)
    refine lv_aload_n hx hb dK_areSexesAndDaysRight_10 rfl (lv_at hl 0 rfl) ?_
    refine lv_iload_n hx hb dK_areSexesAndDaysRight_11 rfl (lv_at hl 1 rfl) ?_
    refine lv_aload_n hx hb dK_areSexesAndDaysRight_12 rfl (lv_at hl 0 rfl) ?_
    refine va_get (D := D) (ci := 0) (v := .ref (h 4)) (C := RK) (T := TK) (N := 6) hx hb hts hinK hown hK hP 0 rfl rfl 0 (by decide) (hts _ uw122) (fun _ h9 => h9) rfl dK_areSexesAndDaysRight_13 ?_
    refine lv_iload_n hx hb dK_areSexesAndDaysRight_16 rfl (lv_at hl 1 rfl) ?_
    refine qVi (rest := [.int (nI i), .ref (h 0)]) ⟨hx, hb, hml, hown, hts⟩ (kP_motherOf l D Y (fun i => h (i + 4)) n hn (g_P S) (nI i)) (cwV 1 hts (gV uw123 uw18 uw19 uw8 ucP_motherOf) rfl rfl rfl hvP_motherOf ⟨Nat.le_of_ble_eq_true rfl, Nat.le_of_ble_eq_true rfl⟩) hK (kP_sub hP) (va_recv hK (kP_sub hP) (ci := 1) (q0 := 0) rfl rfl) rfl hl.1 rfl (Nat.le_of_ble_eq_true rfl) dK_areSexesAndDaysRight_17 ⟨Nat.le_of_ble_eq_true rfl, Nat.le_of_ble_eq_true rfl⟩ ?_
    refine lv_aload_n hx hb dK_areSexesAndDaysRight_20 rfl (lv_at hl 0 rfl) ?_
    refine va_get (D := D) (ci := 0) (v := .ref (h 4)) (C := RK) (T := TK) (N := 6) hx hb hts hinK hown hK hP 0 rfl rfl 0 (by decide) (hts _ uw122) (fun _ h9 => h9) rfl dK_areSexesAndDaysRight_21 ?_
    refine lv_iload_n hx hb dK_areSexesAndDaysRight_24 rfl (lv_at hl 1 rfl) ?_
    refine qVi (rest := [.int (fP_motherOf n (g_P S) (nI i)), .int (nI i), .ref (h 0)]) ⟨hx, hb, hml, hown, hts⟩ (kP_fatherOf l D Y (fun i => h (i + 4)) n hn (g_P S) (nI i)) (cwV 1 hts (gV uw124 uw21 uw22 uw8 ucP_fatherOf) rfl rfl rfl hvP_fatherOf ⟨Nat.le_of_ble_eq_true rfl, Nat.le_of_ble_eq_true rfl⟩) hK (kP_sub hP) (va_recv hK (kP_sub hP) (ci := 1) (q0 := 0) rfl rfl) rfl hl.1 rfl (Nat.le_of_ble_eq_true rfl) dK_areSexesAndDaysRight_25 ⟨Nat.le_of_ble_eq_true rfl, Nat.le_of_ble_eq_true rfl⟩ ?_
    refine qVi (rest := []) ⟨hx, hb, hml, hown, hts⟩ (kK_mayBeParents l D Y h n hn S (nI i) (fP_motherOf n (g_P S) (nI i)) (fP_fatherOf n (g_P S) (nI i))) (cwV 3 hts (gV uw125 uw126 uw127 uw116 ucK_mayBeParents) rfl rfl rfl hvK_mayBeParents ⟨Nat.le_of_ble_eq_true rfl, Nat.le_of_ble_eq_true rfl⟩) hK hP (va_recv hK hP (ci := 0) (q0 := 0) rfl rfl) rfl hl.1 rfl (Nat.le_of_ble_eq_true rfl) dK_areSexesAndDaysRight_28 ⟨Nat.le_of_ble_eq_true rfl, Nat.le_of_ble_eq_true rfl⟩ ?_
    refine zif (C := (fK_mayBeParents n S (nI i) (fP_motherOf n (g_P S) (nI i)) (fP_fatherOf n (g_P S) (nI i))) = 0) (fun c31 => ?_) (fun c31 => ?_)
    · skip
      refine lv_if_ne (tgt := 36) hx hb dK_areSexesAndDaysRight_31 (by decide) (fun z => absurd c31 z) (fun _ => ?_)
      refine lv_iconst (v := 0) hx hb dK_areSexesAndDaysRight_34 (by decide) ?_
      exact zB_ret hx hb hr hlocks (Or.inl rfl) dK_areSexesAndDaysRight_35
    · skip
      refine lv_if_ne (tgt := 36) hx hb dK_areSexesAndDaysRight_31 (by decide) (fun _ => ?_) (fun z => absurd z c31)
      refine lv_iinc (v := (nI (i + 1))) (lv' := [(1, .int (nI (i + 1))), (0, .ref (h 0))]) hx hb dK_areSexesAndDaysRight_36 hl (k := 1) rfl (nI_1 _) (by decide) rfl (fun ls hl => ?_)
      refine lv_goto (tgt := 2) hx hb dK_areSexesAndDaysRight_39 (by decide) ?_
      exact ih (i + 1) (by omega) ls (lv_sub hl [1, 0] rfl)
set_option maxHeartbeats 4000000 in
set_option maxRecDepth 100000 in
theorem kK_areSexesAndDaysRight (l : Launch) (D : va_G) (Y : Nat → ClassId) (h : Nat → Nat) (n : Nat) (hn : n ≤ 24) (S : vK) : Met l yK_areSexesAndDaysRight wsK_areSexesAndDaysRight rmK_areSexesAndDaysRight (va_Pc [.ref (h 0)] (zPre D vwCl (tysK Y) (wK Y h n S))) (vp_Si (fun r => r = (fK_areSexesAndDaysRight n S))) 0 0 (fun _ => False) := by
  refine Met.ofW (cc := cK_areSexesAndDaysRight) (maxL := 2) (ret := (some .boolean)) (by decide) rfl ?_
  intro p e s m args below meth c s₁ B hml hv
  obtain ⟨rfl, hP, hK⟩ := hv
  have hx := B.exec
  have hb := B.bytes
  have hr := B.returns
  have hts : ∀ w ∈ uT, w.before _ s = true := fun w hw => atoms_spec (ws := wsK_areSexesAndDaysRight) B.pre w (List.mem_cons_of_mem _ hw)
  have hown : s.vm.findClass RK = some m.cls := findClass_of_methodNamed B.named
  have hlocks := B.notSynchronized
  have hl := lv_entry ([.ref (h 0)]) (n := 2) (Nat.le_of_ble_eq_true rfl)
  rw [lg_entry_eq]
  generalize (lg_sl ([.ref (h 0)]) ++ List.replicate (2 - (lg_sl ([.ref (h 0)])).length) Slot.unset).toArray = ls at hl ⊢
  have hl : lv_has ls 2 [(0, .ref (h 0))] := hl
  show W p l e rmK_areSexesAndDaysRight s m _ below meth c s.heap [] 0 0 (zI below _ s (fK_areSexesAndDaysRight n S)) _
  unfold fK_areSexesAndDaysRight
  show W p l e rmK_areSexesAndDaysRight s m _ below meth c s.heap [] 0 0 (zI below _ s _) (F0 m 0 ls [])
  refine lv_iconst (v := 0) hx hb dK_areSexesAndDaysRight_0 (by decide) ?_
  refine lv_istore_n (lv' := [(1, .int 0), (0, .ref (h 0))]) hx hb dK_areSexesAndDaysRight_1 rfl hl (by decide) rfl (fun ls hl => ?_)
  exact tK_areSexesAndDaysRight_2 hn ⟨hx, hb, hml, hown, hts⟩ hr hlocks hK hP n 0 (by omega) ls (lv_sub hl [1, 0] rfl)
abbrev rmK_isLost : Room := { frames := 2, cells := 0, slots := 0, locals := 43 }
set_option maxHeartbeats 4000000 in
set_option maxRecDepth 100000 in
theorem tK_isLost_32 {p : Program} {l : Launch} {e : Env} {s : State} {m : MethodId} {args : Array Value} {below : List Frame} {meth : Method} {c : Code} {D : va_G} {Y : Nat → ClassId} {h : Nat → Nat} {n : Nat} (hn : n ≤ 24) {S : vK} (CF : CallFix p m c cK_isLost 3 s args uT RK) (hr : meth.sig.returnType = (some .boolean)) (hlocks : meth.locks = false) (hK : va_K D vwCl (tysK Y) s) (hP : va_P D vwCl (wK Y h n S) s.heap) : ∀ (k i : Nat) (x1 : Int32), i + k = n → ∀ ls : Array Slot, lv_has ls 3 [(0, .ref (h 0)), (1, .int x1), (2, .int (nI i))] → W p l e rmK_isLost s m args below meth c s.heap [] 0 0 (zI below args s (fK_isLost_32 n S k i x1)) (F0 m 32 ls []) := by
  obtain ⟨hx, hb, hml, hown, hts⟩ := CF
  intro k
  induction k with
  | zero =>
    intro i x1 hi  ls hl
    rw [fK_isLost_32]
    refine lv_iload_n hx hb dK_isLost_32 rfl (lv_at hl 2 rfl) ?_
    refine lv_aload_n hx hb dK_isLost_33 rfl (lv_at hl 0 rfl) ?_
    refine va_get (D := D) (ci := 0) (v := .int (nI n)) (C := RK) (T := TK) (N := 6) hx hb hts hinK hown hK hP 0 rfl rfl 2 (by decide) (hts _ uw112) (fun _ h9 => h9) rfl dK_isLost_34 ?_
    refine lv_icmp_ge (tgt := 69) hx hb dK_isLost_37 (by decide) (fun _ => ?_) (fun z => absurd (lp_ge (n := n) hi) z)
    refine lv_iconst (v := 1) hx hb dK_isLost_69 (by decide) ?_
    exact zB_ret hx hb hr hlocks (Or.inr rfl) dK_isLost_70
  | succ k ih =>
    intro i x1 hi  ls hl
    rw [fK_isLost_32]
    refine lv_iload_n hx hb dK_isLost_32 rfl (lv_at hl 2 rfl) ?_
    refine lv_aload_n hx hb dK_isLost_33 rfl (lv_at hl 0 rfl) ?_
    refine va_get (D := D) (ci := 0) (v := .int (nI n)) (C := RK) (T := TK) (N := 6) hx hb hts hinK hown hK hP 0 rfl rfl 2 (by decide) (hts _ uw112) (fun _ h9 => h9) rfl dK_isLost_34 ?_
    refine lv_icmp_ge (tgt := 69) hx hb dK_isLost_37 (by decide) (fun z => absurd z (lp_lt (n := n) hi (by omega))) (fun _ => ?_)
    refine lv_aload_n hx hb dK_isLost_40 rfl (lv_at hl 0 rfl) ?_
    refine va_get (D := D) (ci := 0) (v := .ref (h 3)) (C := RK) (T := TK) (N := 6) hx hb hts hinK hown hK hP 0 rfl rfl 5 (by decide) (hts _ uw131) (fun _ h9 => h9) rfl dK_isLost_41 ?_
    refine lv_iload_n hx hb dK_isLost_44 rfl (lv_at hl 2 rfl) ?_
    refine va_zald hx hb hK hP 3 2 rfl rfl (vp_in_nI (n := i) (by omega) (by omega)) dK_isLost_45 ?_
    refine zif (C := ((g_dd S) ((nI i) : Int32).toNatClampNeg) = 0) (fun c46 => ?_) (fun c46 => ?_)
    · skip
      refine lv_if_ne (tgt := 63) hx hb dK_isLost_46 (by decide) (fun z => absurd c46 z) (fun _ => ?_)
      refine lv_aload_n hx hb dK_isLost_49 rfl (lv_at hl 0 rfl) ?_
      refine va_get (D := D) (ci := 0) (v := .ref (h 4)) (C := RK) (T := TK) (N := 6) hx hb hts hinK hown hK hP 0 rfl rfl 0 (by decide) (hts _ uw122) (fun _ h9 => h9) rfl dK_isLost_50 ?_
      refine lv_iload_n hx hb dK_isLost_53 rfl (lv_at hl 2 rfl) ?_
      refine lv_iload_n hx hb dK_isLost_54 rfl (lv_at hl 1 rfl) ?_
      refine qVi (rest := []) ⟨hx, hb, hml, hown, hts⟩ (kP_hasForbear l D Y (fun i => h (i + 4)) n hn (g_P S) (nI i) x1) (cwV 2 hts (gV uw132 uw36 uw37 uw8 ucP_hasForbear) rfl rfl rfl hvP_hasForbear ⟨Nat.le_of_ble_eq_true rfl, Nat.le_of_ble_eq_true rfl⟩) hK (kP_sub hP) (va_recv hK (kP_sub hP) (ci := 1) (q0 := 0) rfl rfl) rfl hl.1 rfl (Nat.le_of_ble_eq_true rfl) dK_isLost_55 ⟨Nat.le_of_ble_eq_true rfl, Nat.le_of_ble_eq_true rfl⟩ ?_
      refine zif (C := (fP_hasForbear n (g_P S) (nI i) x1) = 0) (fun c58 => ?_) (fun c58 => ?_)
      · skip
        refine lv_if_eq (tgt := 63) hx hb dK_isLost_58 (by decide) (fun _ => ?_) (fun z => absurd c58 z)
        refine lv_iinc (v := (nI (i + 1))) (lv' := [(2, .int (nI (i + 1))), (0, .ref (h 0)), (1, .int x1)]) hx hb dK_isLost_63 hl (k := 2) rfl (nI_1 _) (by decide) rfl (fun ls hl => ?_)
        refine lv_goto (tgt := 32) hx hb dK_isLost_66 (by decide) ?_
        exact ih (i + 1) x1 (by omega) ls (lv_sub hl [1, 2, 0] rfl)
      · skip
        refine lv_if_eq (tgt := 63) hx hb dK_isLost_58 (by decide) (fun z => absurd z c58) (fun _ => ?_)
        refine lv_iconst (v := 0) hx hb dK_isLost_61 (by decide) ?_
        exact zB_ret hx hb hr hlocks (Or.inl rfl) dK_isLost_62
    · skip
      refine lv_if_ne (tgt := 63) hx hb dK_isLost_46 (by decide) (fun _ => ?_) (fun z => absurd z c46)
      refine lv_iinc (v := (nI (i + 1))) (lv' := [(2, .int (nI (i + 1))), (0, .ref (h 0)), (1, .int x1)]) hx hb dK_isLost_63 hl (k := 2) rfl (nI_1 _) (by decide) rfl (fun ls hl => ?_)
      refine lv_goto (tgt := 32) hx hb dK_isLost_66 (by decide) ?_
      exact ih (i + 1) x1 (by omega) ls (lv_sub hl [1, 2, 0] rfl)
set_option maxHeartbeats 4000000 in
set_option maxRecDepth 100000 in
theorem kK_isLost (l : Launch) (D : va_G) (Y : Nat → ClassId) (h : Nat → Nat) (n : Nat) (hn : n ≤ 24) (S : vK) (a1 : Int32) : Met l yK_isLost wsK_isLost rmK_isLost (va_Pc [.ref (h 0), .int a1] (zPre D vwCl (tysK Y) (wK Y h n S))) (vp_Si (fun r => r = (fK_isLost n S a1))) 0 0 (fun _ => False) := by
  refine Met.ofW (cc := cK_isLost) (maxL := 3) (ret := (some .boolean)) (by decide) rfl ?_
  intro p e s m args below meth c s₁ B hml hv
  obtain ⟨rfl, hP, hK⟩ := hv
  have hx := B.exec
  have hb := B.bytes
  have hr := B.returns
  have hts : ∀ w ∈ uT, w.before _ s = true := fun w hw => atoms_spec (ws := wsK_isLost) B.pre w (List.mem_cons_of_mem _ hw)
  have hown : s.vm.findClass RK = some m.cls := findClass_of_methodNamed B.named
  have hlocks := B.notSynchronized
  have hl := lv_entry ([.ref (h 0), .int a1]) (n := 3) (Nat.le_of_ble_eq_true rfl)
  rw [lg_entry_eq]
  generalize (lg_sl ([.ref (h 0), .int a1]) ++ List.replicate (3 - (lg_sl ([.ref (h 0), .int a1])).length) Slot.unset).toArray = ls at hl ⊢
  have hl : lv_has ls 3 [(0, .ref (h 0)), (1, .int a1)] := hl
  show W p l e rmK_isLost s m _ below meth c s.heap [] 0 0 (zI below _ s (fK_isLost n S a1)) _
  unfold fK_isLost
  show W p l e rmK_isLost s m _ below meth c s.heap [] 0 0 (zI below _ s _) (F0 m 0 ls [])
  refine lv_aload_n hx hb dK_isLost_0 rfl (lv_at hl 0 rfl) ?_
  refine lv_iload_n hx hb dK_isLost_1 rfl (lv_at hl 1 rfl) ?_
  refine qVi (rest := []) ⟨hx, hb, hml, hown, hts⟩ (kK_isAnimal l D Y h n hn S a1) (cwV 1 hts (gV uw113 uw114 uw115 uw116 ucK_isAnimal) rfl rfl rfl hvK_isAnimal ⟨Nat.le_of_ble_eq_true rfl, Nat.le_of_ble_eq_true rfl⟩) hK hP (va_recv hK hP (ci := 0) (q0 := 0) rfl rfl) rfl hl.1 rfl (Nat.le_of_ble_eq_true rfl) dK_isLost_2 ⟨Nat.le_of_ble_eq_true rfl, Nat.le_of_ble_eq_true rfl⟩ ?_
  refine zif (C := (fK_isAnimal n a1) = 0) (fun c5 => ?_) (fun c5 => ?_)
  · skip
    refine lv_if_eq (tgt := 28) hx hb dK_isLost_5 (by decide) (fun _ => ?_) (fun z => absurd c5 z)
    refine lv_iconst (v := 0) hx hb dK_isLost_28 (by decide) ?_
    exact zB_ret hx hb hr hlocks (Or.inl rfl) dK_isLost_29
  · skip
    refine lv_if_eq (tgt := 28) hx hb dK_isLost_5 (by decide) (fun z => absurd z c5) (fun _ => ?_)
    refine lv_aload_n hx hb dK_isLost_8 rfl (lv_at hl 0 rfl) ?_
    refine va_get (D := D) (ci := 0) (v := .ref (h 4)) (C := RK) (T := TK) (N := 6) hx hb hts hinK hown hK hP 0 rfl rfl 0 (by decide) (hts _ uw122) (fun _ h9 => h9) rfl dK_isLost_9 ?_
    refine lv_iload_n hx hb dK_isLost_12 rfl (lv_at hl 1 rfl) ?_
    refine qVi (rest := []) ⟨hx, hb, hml, hown, hts⟩ (kP_isFounder l D Y (fun i => h (i + 4)) n hn (g_P S) a1) (cwV 1 hts (gV uw128 uw129 uw130 uw8 ucP_isFounder) rfl rfl rfl hvP_isFounder ⟨Nat.le_of_ble_eq_true rfl, Nat.le_of_ble_eq_true rfl⟩) hK (kP_sub hP) (va_recv hK (kP_sub hP) (ci := 1) (q0 := 0) rfl rfl) rfl hl.1 rfl (Nat.le_of_ble_eq_true rfl) dK_isLost_13 ⟨Nat.le_of_ble_eq_true rfl, Nat.le_of_ble_eq_true rfl⟩ ?_
    refine zif (C := (fP_isFounder n (g_P S) a1) = 0) (fun c16 => ?_) (fun c16 => ?_)
    · skip
      refine lv_if_eq (tgt := 28) hx hb dK_isLost_16 (by decide) (fun _ => ?_) (fun z => absurd c16 z)
      refine lv_iconst (v := 0) hx hb dK_isLost_28 (by decide) ?_
      exact zB_ret hx hb hr hlocks (Or.inl rfl) dK_isLost_29
    · skip
      refine lv_if_eq (tgt := 28) hx hb dK_isLost_16 (by decide) (fun z => absurd z c16) (fun _ => ?_)
      refine lv_aload_n hx hb dK_isLost_19 rfl (lv_at hl 0 rfl) ?_
      refine va_get (D := D) (ci := 0) (v := .ref (h 3)) (C := RK) (T := TK) (N := 6) hx hb hts hinK hown hK hP 0 rfl rfl 5 (by decide) (hts _ uw131) (fun _ h9 => h9) rfl dK_isLost_20 ?_
      refine lv_iload_n hx hb dK_isLost_23 rfl (lv_at hl 1 rfl) ?_
      refine va_zald hx hb hK hP 3 2 rfl rfl (ani_in hn c5) dK_isLost_24 ?_
      refine zif (C := ((g_dd S) (a1 : Int32).toNatClampNeg) = 0) (fun c25 => ?_) (fun c25 => ?_)
      · skip
        refine lv_if_ne (tgt := 30) hx hb dK_isLost_25 (by decide) (fun z => absurd c25 z) (fun _ => ?_)
        refine lv_iconst (v := 0) hx hb dK_isLost_28 (by decide) ?_
        exact zB_ret hx hb hr hlocks (Or.inl rfl) dK_isLost_29
      · skip
        refine lv_if_ne (tgt := 30) hx hb dK_isLost_25 (by decide) (fun _ => ?_) (fun z => absurd z c25)
        refine lv_iconst (v := 0) hx hb dK_isLost_30 (by decide) ?_
        refine lv_istore_n (lv' := [(2, .int 0), (0, .ref (h 0)), (1, .int a1)]) hx hb dK_isLost_31 rfl hl (by decide) rfl (fun ls hl => ?_)
        exact tK_isLost_32 hn ⟨hx, hb, hml, hown, hts⟩ hr hlocks hK hP n 0 a1 (by omega) ls (lv_sub hl [1, 2, 0] rfl)
abbrev rmK_kinWithLiving : Room := { frames := 2, cells := 0, slots := 0, locals := 43 }
set_option maxHeartbeats 4000000 in
set_option maxRecDepth 100000 in
theorem tK_kinWithLiving_5 {p : Program} {l : Launch} {e : Env} {s : State} {m : MethodId} {args : Array Value} {below : List Frame} {meth : Method} {c : Code} {D : va_G} {Y : Nat → ClassId} {h : Nat → Nat} {n : Nat} (hn : n ≤ 24) {S : vK} (CF : CallFix p m c cK_kinWithLiving 5 s args uT RK) (hr : meth.sig.returnType = (some .long)) (hlocks : meth.locks = false) (hK : va_K D vwCl (tysK Y) s) (hP : va_P D vwCl (wK Y h n S) s.heap) : ∀ (k i : Nat) (x1 : Int32) (x2 : Int64), i + k = n → ∀ ls : Array Slot, lv_has ls 5 [(0, .ref (h 0)), (1, .int x1), (2, .long x2), (4, .int (nI i))] → W p l e rmK_kinWithLiving s m args below meth c s.heap [] 0 0 (zL below args s (fK_kinWithLiving_5 n S k i x1 x2)) (F0 m 5 ls []) := by
  obtain ⟨hx, hb, hml, hown, hts⟩ := CF
  intro k
  induction k with
  | zero =>
    intro i x1 x2 hi  ls hl
    rw [fK_kinWithLiving_5]
    refine lv_iload hx hb dK_kinWithLiving_5 (lv_at hl 3 rfl) ?_
    refine lv_aload_n hx hb dK_kinWithLiving_7 rfl (lv_at hl 0 rfl) ?_
    refine va_get (D := D) (ci := 0) (v := .int (nI n)) (C := RK) (T := TK) (N := 6) hx hb hts hinK hown hK hP 0 rfl rfl 2 (by decide) (hts _ uw112) (fun _ h9 => h9) rfl dK_kinWithLiving_8 ?_
    refine lv_icmp_ge (tgt := 43) hx hb dK_kinWithLiving_11 (by decide) (fun _ => ?_) (fun z => absurd (lp_ge (n := n) hi) z)
    refine lv_lload_n hx hb dK_kinWithLiving_43 rfl (lv_at hl 2 rfl) ?_
    exact zL_ret hx hb hr hlocks dK_kinWithLiving_44
  | succ k ih =>
    intro i x1 x2 hi  ls hl
    rw [fK_kinWithLiving_5]
    refine lv_iload hx hb dK_kinWithLiving_5 (lv_at hl 3 rfl) ?_
    refine lv_aload_n hx hb dK_kinWithLiving_7 rfl (lv_at hl 0 rfl) ?_
    refine va_get (D := D) (ci := 0) (v := .int (nI n)) (C := RK) (T := TK) (N := 6) hx hb hts hinK hown hK hP 0 rfl rfl 2 (by decide) (hts _ uw112) (fun _ h9 => h9) rfl dK_kinWithLiving_8 ?_
    refine lv_icmp_ge (tgt := 43) hx hb dK_kinWithLiving_11 (by decide) (fun z => absurd z (lp_lt (n := n) hi (by omega))) (fun _ => ?_)
    refine lv_aload_n hx hb dK_kinWithLiving_14 rfl (lv_at hl 0 rfl) ?_
    refine va_get (D := D) (ci := 0) (v := .ref (h 3)) (C := RK) (T := TK) (N := 6) hx hb hts hinK hown hK hP 0 rfl rfl 5 (by decide) (hts _ uw131) (fun _ h9 => h9) rfl dK_kinWithLiving_15 ?_
    refine lv_iload hx hb dK_kinWithLiving_18 (lv_at hl 3 rfl) ?_
    refine va_zald hx hb hK hP 3 2 rfl rfl (vp_in_nI (n := i) (by omega) (by omega)) dK_kinWithLiving_20 ?_
    refine zif (C := ((g_dd S) ((nI i) : Int32).toNatClampNeg) = 0) (fun c21 => ?_) (fun c21 => ?_)
    · skip
      refine lv_if_ne (tgt := 37) hx hb dK_kinWithLiving_21 (by decide) (fun z => absurd c21 z) (fun _ => ?_)
      refine lv_lload_n hx hb dK_kinWithLiving_24 rfl (lv_at hl 2 rfl) ?_
      refine lv_aload_n hx hb dK_kinWithLiving_25 rfl (lv_at hl 0 rfl) ?_
      refine va_get (D := D) (ci := 0) (v := .ref (h 4)) (C := RK) (T := TK) (N := 6) hx hb hts hinK hown hK hP 0 rfl rfl 0 (by decide) (hts _ uw122) (fun _ h9 => h9) rfl dK_kinWithLiving_26 ?_
      refine lv_iload_n hx hb dK_kinWithLiving_29 rfl (lv_at hl 1 rfl) ?_
      refine lv_iload hx hb dK_kinWithLiving_30 (lv_at hl 3 rfl) ?_
      refine qVl (rest := [.long x2]) ⟨hx, hb, hml, hown, hts⟩ (kP_kinOf l D Y (fun i => h (i + 4)) n hn (g_P S) x1 (nI i)) (cwV 2 hts (gV uw133 uw24 uw25 uw8 ucP_kinOf) rfl rfl rfl hvP_kinOf ⟨Nat.le_of_ble_eq_true rfl, Nat.le_of_ble_eq_true rfl⟩) hK (kP_sub hP) (va_recv hK (kP_sub hP) (ci := 1) (q0 := 0) rfl rfl) rfl hl.1 rfl (Nat.le_of_ble_eq_true rfl) dK_kinWithLiving_32 ⟨Nat.le_of_ble_eq_true rfl, Nat.le_of_ble_eq_true rfl⟩ ?_
      refine lv_ladd hx hb dK_kinWithLiving_35 ?_
      refine lv_lstore_n (lv' := [(2, .long (x2 + (fP_kinOf n (g_P S) x1 (nI i)))), (0, .ref (h 0)), (1, .int x1), (4, .int (nI i))]) hx hb dK_kinWithLiving_36 rfl hl (by decide) rfl (fun ls hl => ?_)
      refine lv_iinc (v := (nI (i + 1))) (lv' := [(4, .int (nI (i + 1))), (2, .long (x2 + (fP_kinOf n (g_P S) x1 (nI i)))), (0, .ref (h 0)), (1, .int x1)]) hx hb dK_kinWithLiving_37 hl (k := 3) rfl (nI_1 _) (by decide) rfl (fun ls hl => ?_)
      refine lv_goto (tgt := 5) hx hb dK_kinWithLiving_40 (by decide) ?_
      exact ih (i + 1) x1 (x2 + (fP_kinOf n (g_P S) x1 (nI i))) (by omega) ls (lv_sub hl [2, 3, 1, 0] rfl)
    · skip
      refine lv_if_ne (tgt := 37) hx hb dK_kinWithLiving_21 (by decide) (fun _ => ?_) (fun z => absurd z c21)
      refine lv_iinc (v := (nI (i + 1))) (lv' := [(4, .int (nI (i + 1))), (0, .ref (h 0)), (1, .int x1), (2, .long x2)]) hx hb dK_kinWithLiving_37 hl (k := 3) rfl (nI_1 _) (by decide) rfl (fun ls hl => ?_)
      refine lv_goto (tgt := 5) hx hb dK_kinWithLiving_40 (by decide) ?_
      exact ih (i + 1) x1 x2 (by omega) ls (lv_sub hl [1, 2, 3, 0] rfl)
set_option maxHeartbeats 4000000 in
set_option maxRecDepth 100000 in
theorem kK_kinWithLiving (l : Launch) (D : va_G) (Y : Nat → ClassId) (h : Nat → Nat) (n : Nat) (hn : n ≤ 24) (S : vK) (a1 : Int32) : Met l yK_kinWithLiving wsK_kinWithLiving rmK_kinWithLiving (va_Pc [.ref (h 0), .int a1] (zPre D vwCl (tysK Y) (wK Y h n S))) (vp_Sl (fun r => r = (fK_kinWithLiving n S a1))) 0 0 (fun _ => False) := by
  refine Met.ofW (cc := cK_kinWithLiving) (maxL := 5) (ret := (some .long)) (by decide) rfl ?_
  intro p e s m args below meth c s₁ B hml hv
  obtain ⟨rfl, hP, hK⟩ := hv
  have hx := B.exec
  have hb := B.bytes
  have hr := B.returns
  have hts : ∀ w ∈ uT, w.before _ s = true := fun w hw => atoms_spec (ws := wsK_kinWithLiving) B.pre w (List.mem_cons_of_mem _ hw)
  have hown : s.vm.findClass RK = some m.cls := findClass_of_methodNamed B.named
  have hlocks := B.notSynchronized
  have hl := lv_entry ([.ref (h 0), .int a1]) (n := 5) (Nat.le_of_ble_eq_true rfl)
  rw [lg_entry_eq]
  generalize (lg_sl ([.ref (h 0), .int a1]) ++ List.replicate (5 - (lg_sl ([.ref (h 0), .int a1])).length) Slot.unset).toArray = ls at hl ⊢
  have hl : lv_has ls 5 [(0, .ref (h 0)), (1, .int a1)] := hl
  show W p l e rmK_kinWithLiving s m _ below meth c s.heap [] 0 0 (zL below _ s (fK_kinWithLiving n S a1)) _
  unfold fK_kinWithLiving
  show W p l e rmK_kinWithLiving s m _ below meth c s.heap [] 0 0 (zL below _ s _) (F0 m 0 ls [])
  refine lv_lconst (v := 0) hx hb dK_kinWithLiving_0 (by decide) ?_
  refine lv_lstore_n (lv' := [(2, .long 0), (0, .ref (h 0)), (1, .int a1)]) hx hb dK_kinWithLiving_1 rfl hl (by decide) rfl (fun ls hl => ?_)
  refine lv_iconst (v := 0) hx hb dK_kinWithLiving_2 (by decide) ?_
  refine lv_istore (lv' := [(4, .int 0), (2, .long 0), (0, .ref (h 0)), (1, .int a1)]) hx hb dK_kinWithLiving_3 hl (by decide) rfl (fun ls hl => ?_)
  exact tK_kinWithLiving_5 hn ⟨hx, hb, hml, hown, hts⟩ hr hlocks hK hP n 0 a1 0 (by omega) ls (lv_sub hl [2, 3, 1, 0] rfl)
