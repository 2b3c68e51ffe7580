abbrev rmR_is : Room := { frames := 0, cells := 0, slots := 0, locals := 0 }
set_option maxHeartbeats 4000000 in
set_option maxRecDepth 100000 in
theorem kR_is (l : Launch) (D : va_G) (Y : Nat → ClassId) (h : Nat → Nat) (n : Nat) (hn : n ≤ 24) (S : vR) (a1 : Int32) : Met l yR_is wsR_is rmR_is (va_Pc [.ref (h 0), .int a1] (zPre D vwCl (tysK Y) (wR Y h n S))) (vp_Si (fun r => r = (fR_is n a1))) 0 0 (fun _ => False) := by
  refine Met.ofW (cc := cR_is) (maxL := 2) (ret := (some .boolean)) (by decide) rfl ?_
  intro p e s m args below meth c s₁ B hml hv
  obtain ⟨rfl, hP, hK⟩ := hv
  have hx := B.exec
  have hb := B.bytes
  have hr := B.returns
  have hts : ∀ w ∈ uT, w.before _ s = true := fun w hw => atoms_spec (ws := wsR_is) B.pre w (List.mem_cons_of_mem _ hw)
  have hown : s.vm.findClass RR = some m.cls := findClass_of_methodNamed B.named
  have hlocks := B.notSynchronized
  have hl := lv_entry ([.ref (h 0), .int a1]) (n := 2) (Nat.le_of_ble_eq_true rfl)
  rw [lg_entry_eq]
  generalize (lg_sl ([.ref (h 0), .int a1]) ++ List.replicate (2 - (lg_sl ([.ref (h 0), .int a1])).length) Slot.unset).toArray = ls at hl ⊢
  have hl : lv_has ls 2 [(0, .ref (h 0)), (1, .int a1)] := hl
  show W p l e rmR_is s m _ below meth c s.heap [] 0 0 (zI below _ s (fR_is n a1)) _
  unfold fR_is
  show W p l e rmR_is s m _ below meth c s.heap [] 0 0 (zI below _ s _) (F0 m 0 ls [])
  refine lv_iload_n hx hb dR_is_0 rfl (lv_at hl 1 rfl) ?_
  refine zif (C := a1 < 0) (fun c1 => ?_) (fun c1 => ?_)
  · skip
    refine lv_if_lt (tgt := 16) hx hb dR_is_1 (by decide) (fun _ => ?_) (fun z => absurd c1 z)
    refine lv_iconst (v := 0) hx hb dR_is_16 (by decide) ?_
    exact zB_ret hx hb hr hlocks (Or.inl rfl) dR_is_17
  · skip
    refine lv_if_lt (tgt := 16) hx hb dR_is_1 (by decide) (fun z => absurd z c1) (fun _ => ?_)
    refine lv_iload_n hx hb dR_is_4 rfl (lv_at hl 1 rfl) ?_
    refine lv_aload_n hx hb dR_is_5 rfl (lv_at hl 0 rfl) ?_
    refine va_get (D := D) (ci := 3) (v := .int (nI n)) (C := RR) (T := TR) (N := 13) hx hb hts hinR hown hK hP 0 rfl rfl 0 (by decide) (hts _ uw209) (fun _ h9 => h9) rfl dR_is_6 ?_
    refine zif (C := (nI n) ≤ a1) (fun c9 => ?_) (fun c9 => ?_)
    · skip
      refine lv_icmp_ge (tgt := 16) hx hb dR_is_9 (by decide) (fun _ => ?_) (fun z => absurd c9 z)
      refine lv_iconst (v := 0) hx hb dR_is_16 (by decide) ?_
      exact zB_ret hx hb hr hlocks (Or.inl rfl) dR_is_17
    · skip
      refine lv_icmp_ge (tgt := 16) hx hb dR_is_9 (by decide) (fun z => absurd z c9) (fun _ => ?_)
      refine lv_iconst (v := 1) hx hb dR_is_12 (by decide) ?_
      refine lv_goto (tgt := 17) hx hb dR_is_13 (by decide) ?_
      exact zB_ret hx hb hr hlocks (Or.inr rfl) dR_is_17
abbrev rmR_isOrNone : Room := { frames := 1, cells := 0, slots := 0, locals := 21 }
set_option maxHeartbeats 4000000 in
set_option maxRecDepth 100000 in
theorem kR_isOrNone (l : Launch) (D : va_G) (Y : Nat → ClassId) (h : Nat → Nat) (n : Nat) (hn : n ≤ 24) (S : vR) (a1 : Int32) : Met l yR_isOrNone wsR_isOrNone rmR_isOrNone (va_Pc [.ref (h 0), .int a1] (zPre D vwCl (tysK Y) (wR Y h n S))) (vp_Si (fun r => r = (fR_isOrNone n a1))) 0 0 (fun _ => False) := by
  refine Met.ofW (cc := cR_isOrNone) (maxL := 2) (ret := (some .boolean)) (by decide) rfl ?_
  intro p e s m args below meth c s₁ B hml hv
  obtain ⟨rfl, hP, hK⟩ := hv
  have hx := B.exec
  have hb := B.bytes
  have hr := B.returns
  have hts : ∀ w ∈ uT, w.before _ s = true := fun w hw => atoms_spec (ws := wsR_isOrNone) B.pre w (List.mem_cons_of_mem _ hw)
  have hown : s.vm.findClass RR = some m.cls := findClass_of_methodNamed B.named
  have hlocks := B.notSynchronized
  have hl := lv_entry ([.ref (h 0), .int a1]) (n := 2) (Nat.le_of_ble_eq_true rfl)
  rw [lg_entry_eq]
  generalize (lg_sl ([.ref (h 0), .int a1]) ++ List.replicate (2 - (lg_sl ([.ref (h 0), .int a1])).length) Slot.unset).toArray = ls at hl ⊢
  have hl : lv_has ls 2 [(0, .ref (h 0)), (1, .int a1)] := hl
  show W p l e rmR_isOrNone s m _ below meth c s.heap [] 0 0 (zI below _ s (fR_isOrNone n a1)) _
  unfold fR_isOrNone
  show W p l e rmR_isOrNone s m _ below meth c s.heap [] 0 0 (zI below _ s _) (F0 m 0 ls [])
  refine lv_iload_n hx hb dR_isOrNone_0 rfl (lv_at hl 1 rfl) ?_
  refine lv_iconst (v := (-1)) hx hb dR_isOrNone_1 (by decide) ?_
  refine zif (C := a1 = (-1)) (fun c2 => ?_) (fun c2 => ?_)
  · skip
    refine lv_icmp_eq (tgt := 13) hx hb dR_isOrNone_2 (by decide) (fun _ => ?_) (fun z => absurd c2 z)
    refine lv_iconst (v := 1) hx hb dR_isOrNone_13 (by decide) ?_
    refine lv_goto (tgt := 18) hx hb dR_isOrNone_14 (by decide) ?_
    exact zB_ret hx hb hr hlocks (Or.inr rfl) dR_isOrNone_18
  · skip
    refine lv_icmp_eq (tgt := 13) hx hb dR_isOrNone_2 (by decide) (fun z => absurd z c2) (fun _ => ?_)
    refine lv_aload_n hx hb dR_isOrNone_5 rfl (lv_at hl 0 rfl) ?_
    refine lv_iload_n hx hb dR_isOrNone_6 rfl (lv_at hl 1 rfl) ?_
    refine qVi (rest := []) ⟨hx, hb, hml, hown, hts⟩ (kR_is l D Y h n hn S a1) (cwV 1 hts (gV uw210 uw211 uw212 uw213 ucR_is) rfl rfl rfl hvR_is ⟨Nat.le_of_ble_eq_true rfl, Nat.le_of_ble_eq_true rfl⟩) hK hP (va_recv hK hP (ci := 3) (q0 := 0) rfl rfl) rfl hl.1 rfl (Nat.le_of_ble_eq_true rfl) dR_isOrNone_7 ⟨Nat.le_of_ble_eq_true rfl, Nat.le_of_ble_eq_true rfl⟩ ?_
    refine zif (C := (fR_is n a1) = 0) (fun c10 => ?_) (fun c10 => ?_)
    · skip
      refine lv_if_eq (tgt := 17) hx hb dR_isOrNone_10 (by decide) (fun _ => ?_) (fun z => absurd c10 z)
      refine lv_iconst (v := 0) hx hb dR_isOrNone_17 (by decide) ?_
      exact zB_ret hx hb hr hlocks (Or.inl rfl) dR_isOrNone_18
    · skip
      refine lv_if_eq (tgt := 17) hx hb dR_isOrNone_10 (by decide) (fun z => absurd z c10) (fun _ => ?_)
      refine lv_iconst (v := 1) hx hb dR_isOrNone_13 (by decide) ?_
      refine lv_goto (tgt := 18) hx hb dR_isOrNone_14 (by decide) ?_
      exact zB_ret hx hb hr hlocks (Or.inr rfl) dR_isOrNone_18
abbrev rmR_isPart : Room := { frames := 0, cells := 0, slots := 0, locals := 0 }
set_option maxHeartbeats 4000000 in
set_option maxRecDepth 100000 in
theorem kR_isPart (l : Launch) (D : va_G) (Y : Nat → ClassId) (a1 : Int32) : Met l yR_isPart wsR_isPart rmR_isPart (va_Pc [.int a1] (zPre D vwCl (tysK Y) ([]))) (vp_Si (fun r => r = (fR_isPart a1))) 0 0 (fun _ => False) := by
  refine Met.ofW (cc := cR_isPart) (maxL := 1) (ret := (some .boolean)) (by decide) rfl ?_
  intro p e s m args below meth c s₁ B hml hv
  obtain ⟨rfl, hP, hK⟩ := hv
  have hx := B.exec
  have hb := B.bytes
  have hr := B.returns
  have hts : ∀ w ∈ uT, w.before _ s = true := fun w hw => atoms_spec (ws := wsR_isPart) B.pre w (List.mem_cons_of_mem _ hw)
  have hown : s.vm.findClass RR = some m.cls := findClass_of_methodNamed B.named
  have hlocks := B.notSynchronized
  have hl := lv_entry ([.int a1]) (n := 1) (Nat.le_of_ble_eq_true rfl)
  rw [lg_entry_eq]
  generalize (lg_sl ([.int a1]) ++ List.replicate (1 - (lg_sl ([.int a1])).length) Slot.unset).toArray = ls at hl ⊢
  have hl : lv_has ls 1 [(0, .int a1)] := hl
  show W p l e rmR_isPart s m _ below meth c s.heap [] 0 0 (zI below _ s (fR_isPart a1)) _
  unfold fR_isPart
  show W p l e rmR_isPart s m _ below meth c s.heap [] 0 0 (zI below _ s _) (F0 m 0 ls [])
  refine lv_iload_n hx hb dR_isPart_0 rfl (lv_at hl 0 rfl) ?_
  refine zif (C := a1 = 0) (fun c1 => ?_) (fun c1 => ?_)
  · skip
    refine lv_if_eq (tgt := 9) hx hb dR_isPart_1 (by decide) (fun _ => ?_) (fun z => absurd c1 z)
    refine lv_iconst (v := 1) hx hb dR_isPart_9 (by decide) ?_
    refine lv_goto (tgt := 14) hx hb dR_isPart_10 (by decide) ?_
    exact zB_ret hx hb hr hlocks (Or.inr rfl) dR_isPart_14
  · skip
    refine lv_if_eq (tgt := 9) hx hb dR_isPart_1 (by decide) (fun z => absurd z c1) (fun _ => ?_)
    refine lv_iload_n hx hb dR_isPart_4 rfl (lv_at hl 0 rfl) ?_
    refine lv_iconst (v := 1) hx hb dR_isPart_5 (by decide) ?_
    refine zif (C := a1 = 1) (fun c6 => ?_) (fun c6 => ?_)
    · skip
      refine lv_icmp_ne (tgt := 13) hx hb dR_isPart_6 (by decide) (fun z => absurd c6 z) (fun _ => ?_)
      refine lv_iconst (v := 1) hx hb dR_isPart_9 (by decide) ?_
      refine lv_goto (tgt := 14) hx hb dR_isPart_10 (by decide) ?_
      exact zB_ret hx hb hr hlocks (Or.inr rfl) dR_isPart_14
    · skip
      refine lv_icmp_ne (tgt := 13) hx hb dR_isPart_6 (by decide) (fun _ => ?_) (fun z => absurd z c6)
      refine lv_iconst (v := 0) hx hb dR_isPart_13 (by decide) ?_
      exact zB_ret hx hb hr hlocks (Or.inl rfl) dR_isPart_14
abbrev rmR_lowest : Room := { frames := 0, cells := 0, slots := 0, locals := 0 }
set_option maxHeartbeats 4000000 in
set_option maxRecDepth 100000 in
theorem tR_lowest_6 {p : Program} {l : Launch} {e : Env} {s : State} {m : MethodId} {args : Array Value} {below : List Frame} {meth : Method} {c : Code} {D : va_G} {Y : Nat → ClassId} (CF : CallFix p m c cR_lowest 11 s args uT RR) (hr : meth.sig.returnType = (some .long)) (hlocks : meth.locks = false) (hK : va_K D vwCl (tysK Y) s) (hP : va_P D vwCl ([]) s.heap) : ∀ (k : Nat) (x0 : Int64) (x2 : Int64) (x4 : Int32) (x5 : Int64) (x7 : Int64) (v : Int64), (fR_lowest_6 k x0 x2 x4 x5 x7) = some v → ∀ ls : Array Slot, lv_has ls 11 [(0, .long x0), (2, .long x2), (4, .int x4), (5, .long x5), (7, .long x7)] → W p l e rmR_lowest s m args below meth c s.heap [] 0 0 (zL below args s v) (F0 m 6 ls []) := by
  obtain ⟨hx, hb, hml, hown, hts⟩ := CF
  intro k
  induction k with
  | zero =>
    intro x0 x2 x4 x5 x7 v hv ls hl
    rw [fR_lowest_6] at hv
    cases hv
  | succ k ih =>
    intro x0 x2 x4 x5 x7 v hv ls hl
    rw [fR_lowest_6] at hv
    refine lv_lload hx hb dR_lowest_6 (lv_at hl 4 rfl) ?_
    refine lv_lconst (v := 0) hx hb dR_lowest_8 (by decide) ?_
    refine W.lcmp hx hb dR_lowest_9 ?_
    by_cases c10 : (lg_cmp x7 0) ≤ 0
    · rw [if_pos c10] at hv
      refine lv_if_le (tgt := 31) hx hb dR_lowest_10 (by decide) (fun _ => ?_) (fun z => absurd c10 z)
      refine lv_iload hx hb dR_lowest_31 (lv_at hl 2 rfl) ?_
      by_cases c33 : x4 = 0
      · rw [if_pos c33] at hv
        refine lv_if_ne (tgt := 43) hx hb dR_lowest_33 (by decide) (fun z => absurd c33 z) (fun _ => ?_)
        refine lv_lload_n hx hb dR_lowest_36 rfl (lv_at hl 0 rfl) ?_
        refine lv_lload hx hb dR_lowest_37 (lv_at hl 3 rfl) ?_
        have k39 : ¬ (x5 = 0) := fun z => by rw [if_pos z] at hv; cases hv
        rw [if_neg k39] at hv
        refine lv_ldiv hx hb dR_lowest_39 (k39) ?_
        refine lv_goto (tgt := 47) hx hb dR_lowest_40 (by decide) ?_
        cases hv
        exact zL_ret hx hb hr hlocks dR_lowest_47
      · rw [if_neg c33] at hv
        refine lv_if_ne (tgt := 43) hx hb dR_lowest_33 (by decide) (fun _ => ?_) (fun z => absurd z c33)
        refine lv_lload_n hx hb dR_lowest_43 rfl (lv_at hl 1 rfl) ?_
        refine lv_lload hx hb dR_lowest_44 (lv_at hl 3 rfl) ?_
        have k46 : ¬ (x5 = 0) := fun z => by rw [if_pos z] at hv; cases hv
        rw [if_neg k46] at hv
        refine lv_ldiv hx hb dR_lowest_46 (k46) ?_
        cases hv
        exact zL_ret hx hb hr hlocks dR_lowest_47
    · rw [if_neg c10] at hv
      refine lv_if_le (tgt := 31) hx hb dR_lowest_10 (by decide) (fun z => absurd z c10) (fun _ => ?_)
      refine lv_lload hx hb dR_lowest_13 (lv_at hl 3 rfl) ?_
      refine lv_lload hx hb dR_lowest_15 (lv_at hl 4 rfl) ?_
      refine lv_lrem hx hb dR_lowest_17 (lcmp_nz2 c10) ?_
      refine lv_lstore (lv' := [(9, .long (x5 - x5 / x7 * x7)), (0, .long x0), (2, .long x2), (4, .int x4), (5, .long x5), (7, .long x7)]) hx hb dR_lowest_18 hl (by decide) rfl (fun ls hl => ?_)
      refine lv_lload hx hb dR_lowest_20 (lv_at hl 5 rfl) ?_
      refine lv_lstore (lv' := [(5, .long x7), (9, .long (x5 - x5 / x7 * x7)), (0, .long x0), (2, .long x2), (4, .int x4), (7, .long x7)]) hx hb dR_lowest_22 hl (by decide) rfl (fun ls hl => ?_)
      refine lv_lload hx hb dR_lowest_24 (lv_at hl 1 rfl) ?_
      refine lv_lstore (lv' := [(7, .long (x5 - x5 / x7 * x7)), (5, .long x7), (9, .long (x5 - x5 / x7 * x7)), (0, .long x0), (2, .long x2), (4, .int x4)]) hx hb dR_lowest_26 hl (by decide) rfl (fun ls hl => ?_)
      refine lv_goto (tgt := 6) hx hb dR_lowest_28 (by decide) ?_
      exact ih x0 x2 x4 x7 (x5 - x5 / x7 * x7) _ hv ls (lv_sub hl [3, 4, 5, 1, 0] rfl)
set_option maxHeartbeats 4000000 in
set_option maxRecDepth 100000 in
theorem kR_lowest (l : Launch) (D : va_G) (Y : Nat → ClassId) (a1 : Int64) (a2 : Int64) (a3 : Int32) (v : Int64) (hv : (fR_lowest a1 a2 a3) = some v) : Met l yR_lowest wsR_lowest rmR_lowest (va_Pc [.long a1, .long a2, .int a3] (zPre D vwCl (tysK Y) ([]))) (vp_Sl (fun r => r = v)) 0 0 (fun _ => False) := by
  refine Met.ofW (cc := cR_lowest) (maxL := 11) (ret := (some .long)) (by decide) rfl ?_
  intro p e s m args below meth c s₁ B hml hvv
  obtain ⟨rfl, hP, hK⟩ := hvv
  have hx := B.exec
  have hb := B.bytes
  have hr := B.returns
  have hts : ∀ w ∈ uT, w.before _ s = true := fun w hw => atoms_spec (ws := wsR_lowest) B.pre w (List.mem_cons_of_mem _ hw)
  have hown : s.vm.findClass RR = some m.cls := findClass_of_methodNamed B.named
  have hlocks := B.notSynchronized
  have hl := lv_entry ([.long a1, .long a2, .int a3]) (n := 11) (Nat.le_of_ble_eq_true rfl)
  rw [lg_entry_eq]
  generalize (lg_sl ([.long a1, .long a2, .int a3]) ++ List.replicate (11 - (lg_sl ([.long a1, .long a2, .int a3])).length) Slot.unset).toArray = ls at hl ⊢
  have hl : lv_has ls 11 [(0, .long a1), (2, .long a2), (4, .int a3)] := hl
  unfold fR_lowest at hv
  show W p l e rmR_lowest s m _ below meth c s.heap [] 0 0 (zL below _ s v) (F0 m 0 ls [])
  refine lv_lload_n hx hb dR_lowest_0 rfl (lv_at hl 1 rfl) ?_
  refine lv_lstore (lv' := [(5, .long a2), (0, .long a1), (2, .long a2), (4, .int a3)]) hx hb dR_lowest_1 hl (by decide) rfl (fun ls hl => ?_)
  refine lv_lload_n hx hb dR_lowest_3 rfl (lv_at hl 1 rfl) ?_
  refine lv_lstore (lv' := [(7, .long a1), (5, .long a2), (0, .long a1), (2, .long a2), (4, .int a3)]) hx hb dR_lowest_4 hl (by decide) rfl (fun ls hl => ?_)
  exact tR_lowest_6 ⟨hx, hb, hml, hown, hts⟩ hr hlocks hK (zsub [] hP rfl) 200 a1 a2 a3 a2 a1 _ hv ls (lv_sub hl [2, 3, 4, 1, 0] rfl)
abbrev rmR_kinOf : Room := { frames := 0, cells := 0, slots := 0, locals := 0 }
set_option maxHeartbeats 4000000 in
set_option maxRecDepth 100000 in
theorem kR_kinOf (l : Launch) (D : va_G) (Y : Nat → ClassId) (h : Nat → Nat) (n : Nat) (hn : n ≤ 24) (S : vR) (a1 : Int32) (a2 : Int32) (v : Int64) (hv : (fR_kinOf n S a1 a2) = some v) : Met l yR_kinOf wsR_kinOf rmR_kinOf (va_Pc [.ref (h 0), .int a1, .int a2] (zPre D vwCl (tysK Y) (wR Y h n S))) (vp_Sl (fun r => r = v)) 0 0 (fun _ => False) := by
  refine Met.ofW (cc := cR_kinOf) (maxL := 3) (ret := (some .long)) (by decide) rfl ?_
  intro p e s m args below meth c s₁ B hml hvv
  obtain ⟨rfl, hP, hK⟩ := hvv
  have hx := B.exec
  have hb := B.bytes
  have hr := B.returns
  have hts : ∀ w ∈ uT, w.before _ s = true := fun w hw => atoms_spec (ws := wsR_kinOf) B.pre w (List.mem_cons_of_mem _ hw)
  have hown : s.vm.findClass RR = some m.cls := findClass_of_methodNamed B.named
  have hlocks := B.notSynchronized
  have hl := lv_entry ([.ref (h 0), .int a1, .int a2]) (n := 3) (Nat.le_of_ble_eq_true rfl)
  rw [lg_entry_eq]
  generalize (lg_sl ([.ref (h 0), .int a1, .int a2]) ++ List.replicate (3 - (lg_sl ([.ref (h 0), .int a1, .int a2])).length) Slot.unset).toArray = ls at hl ⊢
  have hl : lv_has ls 3 [(0, .ref (h 0)), (1, .int a1), (2, .int a2)] := hl
  unfold fR_kinOf at hv
  show W p l e rmR_kinOf s m _ below meth c s.heap [] 0 0 (zL below _ s v) (F0 m 0 ls [])
  refine lv_iload_n hx hb dR_kinOf_0 rfl (lv_at hl 1 rfl) ?_
  by_cases c1 : a1 < 0
  · rw [if_pos c1] at hv
    refine lv_if_lt (tgt := 8) hx hb dR_kinOf_1 (by decide) (fun _ => ?_) (fun z => absurd c1 z)
    refine lv_lconst (v := 0) hx hb dR_kinOf_8 (by decide) ?_
    refine lv_goto (tgt := 23) hx hb dR_kinOf_9 (by decide) ?_
    cases hv
    exact zL_ret hx hb hr hlocks dR_kinOf_23
  · rw [if_neg c1] at hv
    refine lv_if_lt (tgt := 8) hx hb dR_kinOf_1 (by decide) (fun z => absurd z c1) (fun _ => ?_)
    refine lv_iload_n hx hb dR_kinOf_4 rfl (lv_at hl 2 rfl) ?_
    by_cases c5 : 0 ≤ a2
    · rw [if_pos c5] at hv
      refine lv_if_ge (tgt := 12) hx hb dR_kinOf_5 (by decide) (fun _ => ?_) (fun z => absurd c5 z)
      refine lv_aload_n hx hb dR_kinOf_12 rfl (lv_at hl 0 rfl) ?_
      refine va_get (D := D) (ci := 3) (v := .ref (h 11)) (C := RR) (T := TR) (N := 13) hx hb hts hinR hown hK hP 0 rfl rfl 12 (by decide) (hts _ uw214) (fun _ h9 => h9) rfl dR_kinOf_13 ?_
      refine lv_bipush (v := 24) hx hb dR_kinOf_16 (by decide) ?_
      refine lv_iload_n hx hb dR_kinOf_18 rfl (lv_at hl 1 rfl) ?_
      refine lv_imul hx hb dR_kinOf_19 ?_
      refine lv_iload_n hx hb dR_kinOf_20 rfl (lv_at hl 2 rfl) ?_
      refine lv_iadd hx hb dR_kinOf_21 ?_
      have k22 : ¬ (ob (((24 * a1) + a2) : Int32) 576) := fun z => by rw [if_pos z] at hv; cases hv
      rw [if_neg k22] at hv
      refine va_lald hx hb hK hP 11 1 rfl rfl (k22) dR_kinOf_22 ?_
      cases hv
      exact zL_ret hx hb hr hlocks dR_kinOf_23
    · rw [if_neg c5] at hv
      refine lv_if_ge (tgt := 12) hx hb dR_kinOf_5 (by decide) (fun z => absurd z c5) (fun _ => ?_)
      refine lv_lconst (v := 0) hx hb dR_kinOf_8 (by decide) ?_
      refine lv_goto (tgt := 23) hx hb dR_kinOf_9 (by decide) ?_
      cases hv
      exact zL_ret hx hb hr hlocks dR_kinOf_23
abbrev rmR_find : Room := { frames := 0, cells := 0, slots := 0, locals := 0 }
set_option maxHeartbeats 4000000 in
set_option maxRecDepth 100000 in
theorem tR_find_2 {p : Program} {l : Launch} {e : Env} {s : State} {m : MethodId} {args : Array Value} {below : List Frame} {meth : Method} {c : Code} {D : va_G} {Y : Nat → ClassId} {h : Nat → Nat} {n : Nat} (hn : n ≤ 24) {A : Nat → Prop} (hA : ∀ q : Nat, s.heap.size ≤ q → A q) (CF : CallFix p m c cR_find 7 s args uT RR) (hr : meth.sig.returnType = none) (hlocks : meth.locks = false) (hK : va_K D vwCl (tysK Y) s) {Q : State → Prop} : ∀ (k : Nat) (i : Nat) (S : vR) (v : vR), i + k = 576 → (fR_find_2 n k i S) = some v → ∀ (H : Heap) (locs : List Loc), va_P D vwCl (wR Y h n S) H → va_D A (wR Y h n S) → va_S A s.heap H locs → ∀ ls : Array Slot, lv_has ls 7 [(0, .ref (h 0)), (1, .int (nI i))] → (∀ (H : Heap) (locs : List Loc), va_P D vwCl (wR Y h n v) H → va_D A (wR Y h n v) → va_S A s.heap H locs → ∀ ls : Array Slot, lv_has ls 7 [(0, .ref (h 0))] → W p l e rmR_find s m args below meth c H locs 0 0 Q (F0 m 22 ls [])) → W p l e rmR_find s m args below meth c H locs 0 0 Q (F0 m 2 ls []) := by
  obtain ⟨hx, hb, hml, hown, hts⟩ := CF
  intro k
  induction k with
  | zero =>
    intro i  S v hi hv H locs hP hD hS ls hl kk
    rw [fR_find_2] at hv
    refine lv_iload_n hx hb dR_find_2 rfl (lv_at hl 1 rfl) ?_
    refine lv_sipush (v := 576) hx hb dR_find_3 (by decide) ?_
    refine lv_icmp_ge (tgt := 22) hx hb dR_find_6 (by decide) (fun _ => ?_) (fun z => absurd (lp_ge (n := 576) hi) z)
    cases hv
    exact kk _ _ hP hD hS ls (lv_sub hl [0] rfl)
  | succ k ih =>
    intro i  S v hi hv H locs hP hD hS ls hl kk
    rw [fR_find_2] at hv
    refine lv_iload_n hx hb dR_find_2 rfl (lv_at hl 1 rfl) ?_
    refine lv_sipush (v := 576) hx hb dR_find_3 (by decide) ?_
    refine lv_icmp_ge (tgt := 22) hx hb dR_find_6 (by decide) (fun z => absurd z (lp_lt (n := 576) hi (by omega))) (fun _ => ?_)
    refine lv_aload_n hx hb dR_find_9 rfl (lv_at hl 0 rfl) ?_
    refine va_get (D := D) (ci := 3) (v := .ref (h 8)) (C := RR) (T := TR) (N := 13) hx hb hts hinR hown hK hP 0 rfl rfl 9 (by decide) (hts _ uw215) (fun _ h9 => h9) rfl dR_find_10 ?_
    refine lv_iload_n hx hb dR_find_13 rfl (lv_at hl 1 rfl) ?_
    refine lv_iconst (v := 0) hx hb dR_find_14 (by decide) ?_
    refine va_zast hx hb hK hP hD hS 8 2 rfl rfl (vp_in_nI (n := i) (by omega) (by omega)) dR_find_15 (fun H locs hP hD hS => ?_)
    have hP : va_P D vwCl (wR Y h n (r_rab S (upd (g_rab S) ((nI i) : Int32).toNatClampNeg (vp_nar .boolean 0)))) H := hP
    have hD : va_D A (wR Y h n (r_rab S (upd (g_rab S) ((nI i) : Int32).toNatClampNeg (vp_nar .boolean 0)))) := hD
    refine lv_iinc (v := (nI (i + 1))) (lv' := [(1, .int (nI (i + 1))), (0, .ref (h 0))]) hx hb dR_find_16 hl (k := 1) rfl (nI_1 _) (by decide) rfl (fun ls hl => ?_)
    refine lv_goto (tgt := 2) hx hb dR_find_19 (by decide) ?_
    exact ih (i + 1) (r_rab S (upd (g_rab S) ((nI i) : Int32).toNatClampNeg (vp_nar .boolean 0))) _ (by omega) hv _ _ hP hD hS ls (lv_sub hl [1, 0] rfl) kk
set_option maxHeartbeats 4000000 in
set_option maxRecDepth 100000 in
theorem tR_find_24 {p : Program} {l : Launch} {e : Env} {s : State} {m : MethodId} {args : Array Value} {below : List Frame} {meth : Method} {c : Code} {D : va_G} {Y : Nat → ClassId} {h : Nat → Nat} {n : Nat} (hn : n ≤ 24) {A : Nat → Prop} (hA : ∀ q : Nat, s.heap.size ≤ q → A q) (CF : CallFix p m c cR_find 7 s args uT RR) (hr : meth.sig.returnType = none) (hlocks : meth.locks = false) (hK : va_K D vwCl (tysK Y) s) {Q : State → Prop} : ∀ (k : Nat) (i : Nat) (S : vR) (v : vR), i + k = n → (fR_find_24 n k i S) = some v → ∀ (H : Heap) (locs : List Loc), va_P D vwCl (wR Y h n S) H → va_D A (wR Y h n S) → va_S A s.heap H locs → ∀ ls : Array Slot, lv_has ls 7 [(0, .ref (h 0)), (1, .int (nI i))] → (∀ (H : Heap) (locs : List Loc), va_P D vwCl (wR Y h n v) H → va_D A (wR Y h n v) → va_S A s.heap H locs → ∀ ls : Array Slot, lv_has ls 7 [(0, .ref (h 0))] → W p l e rmR_find s m args below meth c H locs 0 0 Q (F0 m 45 ls [])) → W p l e rmR_find s m args below meth c H locs 0 0 Q (F0 m 24 ls []) := by
  obtain ⟨hx, hb, hml, hown, hts⟩ := CF
  intro k
  induction k with
  | zero =>
    intro i  S v hi hv H locs hP hD hS ls hl kk
    rw [fR_find_24] at hv
    refine lv_iload_n hx hb dR_find_24 rfl (lv_at hl 1 rfl) ?_
    refine lv_aload_n hx hb dR_find_25 rfl (lv_at hl 0 rfl) ?_
    refine va_get (D := D) (ci := 3) (v := .int (nI n)) (C := RR) (T := TR) (N := 13) hx hb hts hinR hown hK hP 0 rfl rfl 0 (by decide) (hts _ uw209) (fun _ h9 => h9) rfl dR_find_26 ?_
    refine lv_icmp_ge (tgt := 45) hx hb dR_find_29 (by decide) (fun _ => ?_) (fun z => absurd (lp_ge (n := n) hi) z)
    cases hv
    exact kk _ _ hP hD hS ls (lv_sub hl [0] rfl)
  | succ k ih =>
    intro i  S v hi hv H locs hP hD hS ls hl kk
    rw [fR_find_24] at hv
    refine lv_iload_n hx hb dR_find_24 rfl (lv_at hl 1 rfl) ?_
    refine lv_aload_n hx hb dR_find_25 rfl (lv_at hl 0 rfl) ?_
    refine va_get (D := D) (ci := 3) (v := .int (nI n)) (C := RR) (T := TR) (N := 13) hx hb hts hinR hown hK hP 0 rfl rfl 0 (by decide) (hts _ uw209) (fun _ h9 => h9) rfl dR_find_26 ?_
    refine lv_icmp_ge (tgt := 45) hx hb dR_find_29 (by decide) (fun z => absurd z (lp_lt (n := n) hi (by omega))) (fun _ => ?_)
    refine lv_aload_n hx hb dR_find_32 rfl (lv_at hl 0 rfl) ?_
    refine va_get (D := D) (ci := 3) (v := .ref (h 9)) (C := RR) (T := TR) (N := 13) hx hb hts hinR hown hK hP 0 rfl rfl 10 (by decide) (hts _ uw216) (fun _ h9 => h9) rfl dR_find_33 ?_
    refine lv_iload_n hx hb dR_find_36 rfl (lv_at hl 1 rfl) ?_
    refine lv_iconst (v := 0) hx hb dR_find_37 (by decide) ?_
    refine va_iast hx hb hK hP hD hS 9 0 rfl rfl (vp_in_nI (n := i) (by omega) (by omega)) dR_find_38 (fun H locs hP hD hS => ?_)
    have hP : va_P D vwCl (wR Y h n (r_rst S (upd (g_rst S) ((nI i) : Int32).toNatClampNeg 0))) H := hP
    have hD : va_D A (wR Y h n (r_rst S (upd (g_rst S) ((nI i) : Int32).toNatClampNeg 0))) := hD
    refine lv_iinc (v := (nI (i + 1))) (lv' := [(1, .int (nI (i + 1))), (0, .ref (h 0))]) hx hb dR_find_39 hl (k := 1) rfl (nI_1 _) (by decide) rfl (fun ls hl => ?_)
    refine lv_goto (tgt := 24) hx hb dR_find_42 (by decide) ?_
    exact ih (i + 1) (r_rst S (upd (g_rst S) ((nI i) : Int32).toNatClampNeg 0)) _ (by omega) hv _ _ hP hD hS ls (lv_sub hl [1, 0] rfl) kk
set_option maxHeartbeats 4000000 in
set_option maxRecDepth 100000 in
theorem tR_find_135 {p : Program} {l : Launch} {e : Env} {s : State} {m : MethodId} {args : Array Value} {below : List Frame} {meth : Method} {c : Code} {D : va_G} {Y : Nat → ClassId} {h : Nat → Nat} {n : Nat} (hn : n ≤ 24) {A : Nat → Prop} (hA : ∀ q : Nat, s.heap.size ≤ q → A q) (CF : CallFix p m c cR_find 7 s args uT RR) (hr : meth.sig.returnType = none) (hlocks : meth.locks = false) (hK : va_K D vwCl (tysK Y) s) {Q : State → Prop} : ∀ (k : Nat) (i : Nat) (x1 : Int32) (x2 : Nat) (x3 : Nat) (x4 : Int32) (S : vR) (v : Int32 × vR), i + k = n → (fR_find_135 n k i x1 x2 x3 x4 S) = some v → ∀ (H : Heap) (locs : List Loc), va_P D vwCl (wR Y h n S) H → va_D A (wR Y h n S) → va_S A s.heap H locs → ∀ ls : Array Slot, lv_has ls 7 [(0, .ref (h 0)), (1, .int x1), (2, .int (nI x2)), (3, .int (nI x3)), (4, .int x4), (5, .int (nI i))] → (∀ (H : Heap) (locs : List Loc), va_P D vwCl (wR Y h n v.2) H → va_D A (wR Y h n v.2) → va_S A s.heap H locs → ∀ ls : Array Slot, lv_has ls 7 [(0, .ref (h 0)), (1, .int v.1), (2, .int (nI x2)), (3, .int (nI x3)), (4, .int x4)] → W p l e rmR_find s m args below meth c H locs 0 0 Q (F0 m 218 ls [])) → W p l e rmR_find s m args below meth c H locs 0 0 Q (F0 m 135 ls []) := by
  obtain ⟨hx, hb, hml, hown, hts⟩ := CF
  intro k
  induction k with
  | zero =>
    intro i x1 x2 x3 x4 S v hi hv H locs hP hD hS ls hl kk
    rw [fR_find_135] at hv
    refine lv_iload hx hb dR_find_135 (lv_at hl 5 rfl) ?_
    refine lv_aload_n hx hb dR_find_137 rfl (lv_at hl 0 rfl) ?_
    refine va_get (D := D) (ci := 3) (v := .int (nI n)) (C := RR) (T := TR) (N := 13) hx hb hts hinR hown hK hP 0 rfl rfl 0 (by decide) (hts _ uw209) (fun _ h9 => h9) rfl dR_find_138 ?_
    refine lv_icmp_ge (tgt := 218) hx hb dR_find_141 (by decide) (fun _ => ?_) (fun z => absurd (lp_ge (n := n) hi) z)
    cases hv
    exact kk _ _ hP hD hS ls (lv_sub hl [0, 1, 2, 3, 4] rfl)
  | succ k ih =>
    intro i x1 x2 x3 x4 S v hi hv H locs hP hD hS ls hl kk
    rw [fR_find_135] at hv
    refine lv_iload hx hb dR_find_135 (lv_at hl 5 rfl) ?_
    refine lv_aload_n hx hb dR_find_137 rfl (lv_at hl 0 rfl) ?_
    refine va_get (D := D) (ci := 3) (v := .int (nI n)) (C := RR) (T := TR) (N := 13) hx hb hts hinR hown hK hP 0 rfl rfl 0 (by decide) (hts _ uw209) (fun _ h9 => h9) rfl dR_find_138 ?_
    refine lv_icmp_ge (tgt := 218) hx hb dR_find_141 (by decide) (fun z => absurd z (lp_lt (n := n) hi (by omega))) (fun _ => ?_)
    refine lv_iload hx hb dR_find_144 (lv_at hl 5 rfl) ?_
    refine lv_iload hx hb dR_find_146 (lv_at hl 4 rfl) ?_
    by_cases c148 : (nI i) = x4
    · rw [if_pos c148] at hv
      refine lv_icmp_eq (tgt := 167) hx hb dR_find_148 (by decide) (fun _ => ?_) (fun z => absurd c148 z)
      refine lv_iconst (v := 1) hx hb dR_find_167 (by decide) ?_
      refine lv_goto (tgt := 172) hx hb dR_find_168 (by decide) ?_
      refine lv_istore (lv' := [(6, .int 1), (0, .ref (h 0)), (1, .int x1), (2, .int (nI x2)), (3, .int (nI x3)), (4, .int x4), (5, .int (nI i))]) hx hb dR_find_172 hl (by decide) rfl (fun ls hl => ?_)
      refine lv_iload hx hb dR_find_174 (lv_at hl 0 rfl) ?_
      refine lv_if_eq (tgt := 212) hx hb dR_find_176 (by decide) (fun z => absurd z (by decide)) (fun _ => ?_)
      refine lv_aload_n hx hb dR_find_179 rfl (lv_at hl 1 rfl) ?_
      refine va_get (D := D) (ci := 3) (v := .ref (h 8)) (C := RR) (T := TR) (N := 13) hx hb hts hinR hown hK hP 0 rfl rfl 9 (by decide) (hts _ uw215) (fun _ h9 => h9) rfl dR_find_180 ?_
      refine lv_bipush (v := 24) hx hb dR_find_183 (by decide) ?_
      refine lv_iload hx hb dR_find_185 (lv_at hl 6 rfl) ?_
      refine lv_imul hx hb dR_find_187 ?_
      refine lv_iload_n hx hb dR_find_188 rfl (lv_at hl 3 rfl) ?_
      refine lv_iadd hx hb dR_find_189 ?_
      have k190 : ¬ (ob (((24 * (nI i)) + (nI x2)) : Int32) 576) := fun z => by rw [if_pos z] at hv; cases hv
      rw [if_neg k190] at hv
      refine va_zald hx hb hK hP 8 2 rfl rfl (k190) dR_find_190 ?_
      by_cases c191 : ((g_rab S) (((24 * (nI i)) + (nI x2)) : Int32).toNatClampNeg) = 0
      · rw [if_pos c191] at hv
        refine lv_if_eq (tgt := 197) hx hb dR_find_191 (by decide) (fun _ => ?_) (fun z => absurd c191 z)
        refine lv_aload_n hx hb dR_find_197 rfl (lv_at hl 1 rfl) ?_
        refine va_get (D := D) (ci := 3) (v := .ref (h 8)) (C := RR) (T := TR) (N := 13) hx hb hts hinR hown hK hP 0 rfl rfl 9 (by decide) (hts _ uw215) (fun _ h9 => h9) rfl dR_find_198 ?_
        refine lv_bipush (v := 24) hx hb dR_find_201 (by decide) ?_
        refine lv_iload hx hb dR_find_203 (lv_at hl 6 rfl) ?_
        refine lv_imul hx hb dR_find_205 ?_
        refine lv_iload_n hx hb dR_find_206 rfl (lv_at hl 3 rfl) ?_
        refine lv_iadd hx hb dR_find_207 ?_
        refine lv_iconst (v := 1) hx hb dR_find_208 (by decide) ?_
        have k209 : ¬ (ob (((24 * (nI i)) + (nI x2)) : Int32) 576) := fun z => by rw [if_pos z] at hv; cases hv
        rw [if_neg k209] at hv
        refine va_zast hx hb hK hP hD hS 8 2 rfl rfl (k209) dR_find_209 (fun H locs hP hD hS => ?_)
        have hP : va_P D vwCl (wR Y h n (r_rab S (upd (g_rab S) (((24 * (nI i)) + (nI x2)) : Int32).toNatClampNeg (vp_nar .boolean 1)))) H := hP
        have hD : va_D A (wR Y h n (r_rab S (upd (g_rab S) (((24 * (nI i)) + (nI x2)) : Int32).toNatClampNeg (vp_nar .boolean 1)))) := hD
        refine lv_iconst (v := 1) hx hb dR_find_210 (by decide) ?_
        refine lv_istore_n (lv' := [(1, .int 1), (6, .int 1), (0, .ref (h 0)), (2, .int (nI x2)), (3, .int (nI x3)), (4, .int x4), (5, .int (nI i))]) hx hb dR_find_211 rfl hl (by decide) rfl (fun ls hl => ?_)
        refine lv_iinc (v := (nI (i + 1))) (lv' := [(5, .int (nI (i + 1))), (1, .int 1), (6, .int 1), (0, .ref (h 0)), (2, .int (nI x2)), (3, .int (nI x3)), (4, .int x4)]) hx hb dR_find_212 hl (k := 6) rfl (nI_1 _) (by decide) rfl (fun ls hl => ?_)
        refine lv_goto (tgt := 135) hx hb dR_find_215 (by decide) ?_
        exact ih (i + 1) 1 x2 x3 x4 (r_rab S (upd (g_rab S) (((24 * (nI i)) + (nI x2)) : Int32).toNatClampNeg (vp_nar .boolean 1))) _ (by omega) hv _ _ hP hD hS ls (lv_sub hl [3, 1, 4, 5, 6, 0] rfl) kk
      · rw [if_neg c191] at hv
        refine lv_if_eq (tgt := 197) hx hb dR_find_191 (by decide) (fun z => absurd z c191) (fun _ => ?_)
        refine lv_goto (tgt := 212) hx hb dR_find_194 (by decide) ?_
        refine lv_iinc (v := (nI (i + 1))) (lv' := [(5, .int (nI (i + 1))), (6, .int 1), (0, .ref (h 0)), (1, .int x1), (2, .int (nI x2)), (3, .int (nI x3)), (4, .int x4)]) hx hb dR_find_212 hl (k := 6) rfl (nI_1 _) (by decide) rfl (fun ls hl => ?_)
        refine lv_goto (tgt := 135) hx hb dR_find_215 (by decide) ?_
        exact ih (i + 1) x1 x2 x3 x4 S _ (by omega) hv _ _ hP hD hS ls (lv_sub hl [2, 3, 4, 5, 6, 0] rfl) kk
    · rw [if_neg c148] at hv
      refine lv_icmp_eq (tgt := 167) hx hb dR_find_148 (by decide) (fun z => absurd z c148) (fun _ => ?_)
      refine lv_aload_n hx hb dR_find_151 rfl (lv_at hl 0 rfl) ?_
      refine va_get (D := D) (ci := 3) (v := .ref (h 8)) (C := RR) (T := TR) (N := 13) hx hb hts hinR hown hK hP 0 rfl rfl 9 (by decide) (hts _ uw215) (fun _ h9 => h9) rfl dR_find_152 ?_
      refine lv_bipush (v := 24) hx hb dR_find_155 (by decide) ?_
      refine lv_iload hx hb dR_find_157 (lv_at hl 5 rfl) ?_
      refine lv_imul hx hb dR_find_159 ?_
      refine lv_iload hx hb dR_find_160 (lv_at hl 4 rfl) ?_
      refine lv_iadd hx hb dR_find_162 ?_
      have k163 : ¬ (ob (((24 * (nI i)) + x4) : Int32) 576) := fun z => by rw [if_pos z] at hv; cases hv
      rw [if_neg k163] at hv
      refine va_zald hx hb hK hP 8 2 rfl rfl (k163) dR_find_163 ?_
      by_cases c164 : ((g_rab S) (((24 * (nI i)) + x4) : Int32).toNatClampNeg) = 0
      · rw [if_pos c164] at hv
        refine lv_if_eq (tgt := 171) hx hb dR_find_164 (by decide) (fun _ => ?_) (fun z => absurd c164 z)
        refine lv_iconst (v := 0) hx hb dR_find_171 (by decide) ?_
        refine lv_istore (lv' := [(6, .int 0), (0, .ref (h 0)), (1, .int x1), (2, .int (nI x2)), (3, .int (nI x3)), (4, .int x4), (5, .int (nI i))]) hx hb dR_find_172 hl (by decide) rfl (fun ls hl => ?_)
        refine lv_iload hx hb dR_find_174 (lv_at hl 0 rfl) ?_
        refine lv_if_eq (tgt := 212) hx hb dR_find_176 (by decide) (fun _ => ?_) (fun z => absurd (by decide) z)
        refine lv_iinc (v := (nI (i + 1))) (lv' := [(5, .int (nI (i + 1))), (6, .int 0), (0, .ref (h 0)), (1, .int x1), (2, .int (nI x2)), (3, .int (nI x3)), (4, .int x4)]) hx hb dR_find_212 hl (k := 6) rfl (nI_1 _) (by decide) rfl (fun ls hl => ?_)
        refine lv_goto (tgt := 135) hx hb dR_find_215 (by decide) ?_
        exact ih (i + 1) x1 x2 x3 x4 S _ (by omega) hv _ _ hP hD hS ls (lv_sub hl [2, 3, 4, 5, 6, 0] rfl) kk
      · rw [if_neg c164] at hv
        refine lv_if_eq (tgt := 171) hx hb dR_find_164 (by decide) (fun z => absurd z c164) (fun _ => ?_)
        refine lv_iconst (v := 1) hx hb dR_find_167 (by decide) ?_
        refine lv_goto (tgt := 172) hx hb dR_find_168 (by decide) ?_
        refine lv_istore (lv' := [(6, .int 1), (0, .ref (h 0)), (1, .int x1), (2, .int (nI x2)), (3, .int (nI x3)), (4, .int x4), (5, .int (nI i))]) hx hb dR_find_172 hl (by decide) rfl (fun ls hl => ?_)
        refine lv_iload hx hb dR_find_174 (lv_at hl 0 rfl) ?_
        refine lv_if_eq (tgt := 212) hx hb dR_find_176 (by decide) (fun z => absurd z (by decide)) (fun _ => ?_)
        refine lv_aload_n hx hb dR_find_179 rfl (lv_at hl 1 rfl) ?_
        refine va_get (D := D) (ci := 3) (v := .ref (h 8)) (C := RR) (T := TR) (N := 13) hx hb hts hinR hown hK hP 0 rfl rfl 9 (by decide) (hts _ uw215) (fun _ h9 => h9) rfl dR_find_180 ?_
        refine lv_bipush (v := 24) hx hb dR_find_183 (by decide) ?_
        refine lv_iload hx hb dR_find_185 (lv_at hl 6 rfl) ?_
        refine lv_imul hx hb dR_find_187 ?_
        refine lv_iload_n hx hb dR_find_188 rfl (lv_at hl 3 rfl) ?_
        refine lv_iadd hx hb dR_find_189 ?_
        have k190x : ¬ (ob (((24 * (nI i)) + (nI x2)) : Int32) 576) := fun z => by rw [if_pos z] at hv; cases hv
        rw [if_neg k190x] at hv
        refine va_zald hx hb hK hP 8 2 rfl rfl (k190x) dR_find_190 ?_
        by_cases c191 : ((g_rab S) (((24 * (nI i)) + (nI x2)) : Int32).toNatClampNeg) = 0
        · rw [if_pos c191] at hv
          refine lv_if_eq (tgt := 197) hx hb dR_find_191 (by decide) (fun _ => ?_) (fun z => absurd c191 z)
          refine lv_aload_n hx hb dR_find_197 rfl (lv_at hl 1 rfl) ?_
          refine va_get (D := D) (ci := 3) (v := .ref (h 8)) (C := RR) (T := TR) (N := 13) hx hb hts hinR hown hK hP 0 rfl rfl 9 (by decide) (hts _ uw215) (fun _ h9 => h9) rfl dR_find_198 ?_
          refine lv_bipush (v := 24) hx hb dR_find_201 (by decide) ?_
          refine lv_iload hx hb dR_find_203 (lv_at hl 6 rfl) ?_
          refine lv_imul hx hb dR_find_205 ?_
          refine lv_iload_n hx hb dR_find_206 rfl (lv_at hl 3 rfl) ?_
          refine lv_iadd hx hb dR_find_207 ?_
          refine lv_iconst (v := 1) hx hb dR_find_208 (by decide) ?_
          have k209x : ¬ (ob (((24 * (nI i)) + (nI x2)) : Int32) 576) := fun z => by rw [if_pos z] at hv; cases hv
          rw [if_neg k209x] at hv
          refine va_zast hx hb hK hP hD hS 8 2 rfl rfl (k209x) dR_find_209 (fun H locs hP hD hS => ?_)
          have hP : va_P D vwCl (wR Y h n (r_rab S (upd (g_rab S) (((24 * (nI i)) + (nI x2)) : Int32).toNatClampNeg (vp_nar .boolean 1)))) H := hP
          have hD : va_D A (wR Y h n (r_rab S (upd (g_rab S) (((24 * (nI i)) + (nI x2)) : Int32).toNatClampNeg (vp_nar .boolean 1)))) := hD
          refine lv_iconst (v := 1) hx hb dR_find_210 (by decide) ?_
          refine lv_istore_n (lv' := [(1, .int 1), (6, .int 1), (0, .ref (h 0)), (2, .int (nI x2)), (3, .int (nI x3)), (4, .int x4), (5, .int (nI i))]) hx hb dR_find_211 rfl hl (by decide) rfl (fun ls hl => ?_)
          refine lv_iinc (v := (nI (i + 1))) (lv' := [(5, .int (nI (i + 1))), (1, .int 1), (6, .int 1), (0, .ref (h 0)), (2, .int (nI x2)), (3, .int (nI x3)), (4, .int x4)]) hx hb dR_find_212 hl (k := 6) rfl (nI_1 _) (by decide) rfl (fun ls hl => ?_)
          refine lv_goto (tgt := 135) hx hb dR_find_215 (by decide) ?_
          exact ih (i + 1) 1 x2 x3 x4 (r_rab S (upd (g_rab S) (((24 * (nI i)) + (nI x2)) : Int32).toNatClampNeg (vp_nar .boolean 1))) _ (by omega) hv _ _ hP hD hS ls (lv_sub hl [3, 1, 4, 5, 6, 0] rfl) kk
        · rw [if_neg c191] at hv
          refine lv_if_eq (tgt := 197) hx hb dR_find_191 (by decide) (fun z => absurd z c191) (fun _ => ?_)
          refine lv_goto (tgt := 212) hx hb dR_find_194 (by decide) ?_
          refine lv_iinc (v := (nI (i + 1))) (lv' := [(5, .int (nI (i + 1))), (6, .int 1), (0, .ref (h 0)), (1, .int x1), (2, .int (nI x2)), (3, .int (nI x3)), (4, .int x4)]) hx hb dR_find_212 hl (k := 6) rfl (nI_1 _) (by decide) rfl (fun ls hl => ?_)
          refine lv_goto (tgt := 135) hx hb dR_find_215 (by decide) ?_
          exact ih (i + 1) x1 x2 x3 x4 S _ (by omega) hv _ _ hP hD hS ls (lv_sub hl [2, 3, 4, 5, 6, 0] rfl) kk
set_option maxHeartbeats 4000000 in
set_option maxRecDepth 100000 in
theorem tR_find_65 {p : Program} {l : Launch} {e : Env} {s : State} {m : MethodId} {args : Array Value} {below : List Frame} {meth : Method} {c : Code} {D : va_G} {Y : Nat → ClassId} {h : Nat → Nat} {n : Nat} (hn : n ≤ 24) {A : Nat → Prop} (hA : ∀ q : Nat, s.heap.size ≤ q → A q) (CF : CallFix p m c cR_find 7 s args uT RR) (hr : meth.sig.returnType = none) (hlocks : meth.locks = false) (hK : va_K D vwCl (tysK Y) s) {Q : State → Prop} : ∀ (k : Nat) (i : Nat) (x1 : Int32) (x2 : Nat) (S : vR) (v : Int32 × vR), i + k = 2 → (fR_find_65 n k i x1 x2 S) = some v → ∀ (H : Heap) (locs : List Loc), va_P D vwCl (wR Y h n S) H → va_D A (wR Y h n S) → va_S A s.heap H locs → ∀ ls : Array Slot, lv_has ls 7 [(0, .ref (h 0)), (1, .int x1), (2, .int (nI x2)), (3, .int (nI i))] → (∀ (H : Heap) (locs : List Loc), va_P D vwCl (wR Y h n v.2) H → va_D A (wR Y h n v.2) → va_S A s.heap H locs → ∀ ls : Array Slot, lv_has ls 7 [(0, .ref (h 0)), (1, .int v.1), (2, .int (nI x2))] → W p l e rmR_find s m args below meth c H locs 0 0 Q (F0 m 224 ls [])) → W p l e rmR_find s m args below meth c H locs 0 0 Q (F0 m 65 ls []) := by
  obtain ⟨hx, hb, hml, hown, hts⟩ := CF
  intro k
  induction k with
  | zero =>
    intro i x1 x2 S v hi hv H locs hP hD hS ls hl kk
    rw [fR_find_65] at hv
    refine lv_iload_n hx hb dR_find_65 rfl (lv_at hl 3 rfl) ?_
    refine lv_iconst (v := 2) hx hb dR_find_66 (by decide) ?_
    refine lv_icmp_ge (tgt := 224) hx hb dR_find_67 (by decide) (fun _ => ?_) (fun z => absurd (lp_ge (n := 2) hi) z)
    cases hv
    exact kk _ _ hP hD hS ls (lv_sub hl [0, 1, 2] rfl)
  | succ k ih =>
    intro i x1 x2 S v hi hv H locs hP hD hS ls hl kk
    rw [fR_find_65] at hv
    refine lv_iload_n hx hb dR_find_65 rfl (lv_at hl 3 rfl) ?_
    refine lv_iconst (v := 2) hx hb dR_find_66 (by decide) ?_
    refine lv_icmp_ge (tgt := 224) hx hb dR_find_67 (by decide) (fun z => absurd z (lp_lt (n := 2) hi (by omega))) (fun _ => ?_)
    refine lv_iload_n hx hb dR_find_70 rfl (lv_at hl 3 rfl) ?_
    by_cases c71 : (nI i) = 0
    · rw [if_pos c71] at hv
      refine lv_if_ne (tgt := 83) hx hb dR_find_71 (by decide) (fun z => absurd c71 z) (fun _ => ?_)
      refine lv_aload_n hx hb dR_find_74 rfl (lv_at hl 0 rfl) ?_
      refine va_get (D := D) (ci := 3) (v := .ref (h 1)) (C := RR) (T := TR) (N := 13) hx hb hts hinR hown hK hP 0 rfl rfl 1 (by decide) (hts _ uw217) (fun _ h9 => h9) rfl dR_find_75 ?_
      refine lv_iload_n hx hb dR_find_78 rfl (lv_at hl 2 rfl) ?_
      have k79 : ¬ (ob ((nI x2) : Int32) 24) := fun z => by rw [if_pos z] at hv; cases hv
      rw [if_neg k79] at hv
      refine va_iald hx hb hK hP 1 0 rfl rfl (k79) dR_find_79 ?_
      refine lv_goto (tgt := 89) hx hb dR_find_80 (by decide) ?_
      refine lv_istore (lv' := [(4, .int ((g_rmo S) ((nI x2) : Int32).toNatClampNeg)), (0, .ref (h 0)), (1, .int x1), (2, .int (nI x2)), (3, .int (nI i))]) hx hb dR_find_89 hl (by decide) rfl (fun ls hl => ?_)
      refine lv_iload hx hb dR_find_91 (lv_at hl 0 rfl) ?_
      by_cases c93 : 0 ≤ ((g_rmo S) ((nI x2) : Int32).toNatClampNeg)
      · rw [if_pos c93] at hv
        refine lv_if_ge (tgt := 99) hx hb dR_find_93 (by decide) (fun _ => ?_) (fun z => absurd c93 z)
        refine lv_aload_n hx hb dR_find_99 rfl (lv_at hl 1 rfl) ?_
        refine va_get (D := D) (ci := 3) (v := .ref (h 9)) (C := RR) (T := TR) (N := 13) hx hb hts hinR hown hK hP 0 rfl rfl 10 (by decide) (hts _ uw216) (fun _ h9 => h9) rfl dR_find_100 ?_
        refine lv_iload_n hx hb dR_find_103 rfl (lv_at hl 3 rfl) ?_
        have k104 : ¬ (ob ((nI x2) : Int32) 24) := fun z => by rw [if_pos z] at hv; cases hv
        rw [if_neg k104] at hv
        refine va_iald hx hb hK hP 9 0 rfl rfl (k104) dR_find_104 ?_
        refine lv_aload_n hx hb dR_find_105 rfl (lv_at hl 1 rfl) ?_
        refine va_get (D := D) (ci := 3) (v := .ref (h 9)) (C := RR) (T := TR) (N := 13) hx hb hts hinR hown hK hP 0 rfl rfl 10 (by decide) (hts _ uw216) (fun _ h9 => h9) rfl dR_find_106 ?_
        refine lv_iload hx hb dR_find_109 (lv_at hl 0 rfl) ?_
        have k111 : ¬ (ob (((g_rmo S) ((nI x2) : Int32).toNatClampNeg) : Int32) 24) := fun z => by rw [if_pos z] at hv; cases hv
        rw [if_neg k111] at hv
        refine va_iald hx hb hK hP 9 0 rfl rfl (k111) dR_find_111 ?_
        by_cases c112 : ((g_rst S) (((g_rmo S) ((nI x2) : Int32).toNatClampNeg) : Int32).toNatClampNeg) < ((g_rst S) ((nI x2) : Int32).toNatClampNeg)
        · rw [if_pos c112] at hv
          refine lv_icmp_gt (tgt := 132) hx hb dR_find_112 (by decide) (fun _ => ?_) (fun z => absurd c112 z)
          refine lv_iconst (v := 0) hx hb dR_find_132 (by decide) ?_
          refine lv_istore (lv' := [(5, .int 0), (4, .int ((g_rmo S) ((nI x2) : Int32).toNatClampNeg)), (0, .ref (h 0)), (1, .int x1), (2, .int (nI x2)), (3, .int (nI i))]) hx hb dR_find_133 hl (by decide) rfl (fun ls hl => ?_)
          obtain ⟨r135, e135, hv⟩ := bsome hv
          refine tR_find_135 hn hA ⟨hx, hb, hml, hown, hts⟩ hr hlocks hK n 0 x1 x2 i ((g_rmo S) ((nI x2) : Int32).toNatClampNeg) S _ (by omega) e135 _ _ hP hD hS ls (lv_sub hl [2, 3, 4, 5, 1, 0] rfl) (fun H locs hP hD hS ls hl => ?_)
          refine lv_iinc (v := (nI (i + 1))) (lv' := [(3, .int (nI (i + 1))), (0, .ref (h 0)), (1, .int r135.1), (2, .int (nI x2)), (4, .int ((g_rmo S) ((nI x2) : Int32).toNatClampNeg))]) hx hb dR_find_218 hl (k := 3) rfl (nI_1 _) (by decide) rfl (fun ls hl => ?_)
          refine lv_goto (tgt := 65) hx hb dR_find_221 (by decide) ?_
          exact ih (i + 1) r135.1 x2 r135.2 _ (by omega) hv _ _ hP hD hS ls (lv_sub hl [1, 2, 3, 0] rfl) kk
        · rw [if_neg c112] at hv
          refine lv_icmp_gt (tgt := 132) hx hb dR_find_112 (by decide) (fun z => absurd z c112) (fun _ => ?_)
          refine lv_aload_n hx hb dR_find_115 rfl (lv_at hl 1 rfl) ?_
          refine va_get (D := D) (ci := 3) (v := .ref (h 9)) (C := RR) (T := TR) (N := 13) hx hb hts hinR hown hK hP 0 rfl rfl 10 (by decide) (hts _ uw216) (fun _ h9 => h9) rfl dR_find_116 ?_
          refine lv_iload_n hx hb dR_find_119 rfl (lv_at hl 3 rfl) ?_
          refine lv_aload_n hx hb dR_find_120 rfl (lv_at hl 1 rfl) ?_
          refine va_get (D := D) (ci := 3) (v := .ref (h 9)) (C := RR) (T := TR) (N := 13) hx hb hts hinR hown hK hP 0 rfl rfl 10 (by decide) (hts _ uw216) (fun _ h9 => h9) rfl dR_find_121 ?_
          refine lv_iload hx hb dR_find_124 (lv_at hl 0 rfl) ?_
          have k126 : ¬ (ob (((g_rmo S) ((nI x2) : Int32).toNatClampNeg) : Int32) 24) := fun z => by rw [if_pos z] at hv; cases hv
          rw [if_neg k126] at hv
          refine va_iald hx hb hK hP 9 0 rfl rfl (k126) dR_find_126 ?_
          refine lv_iconst (v := 1) hx hb dR_find_127 (by decide) ?_
          refine lv_iadd hx hb dR_find_128 ?_
          have k129 : ¬ (ob ((nI x2) : Int32) 24) := fun z => by rw [if_pos z] at hv; cases hv
          rw [if_neg k129] at hv
          refine va_iast hx hb hK hP hD hS 9 0 rfl rfl (k129) dR_find_129 (fun H locs hP hD hS => ?_)
          have hP : va_P D vwCl (wR Y h n (r_rst S (upd (g_rst S) ((nI x2) : Int32).toNatClampNeg (((g_rst S) (((g_rmo S) ((nI x2) : Int32).toNatClampNeg) : Int32).toNatClampNeg) + 1)))) H := hP
          have hD : va_D A (wR Y h n (r_rst S (upd (g_rst S) ((nI x2) : Int32).toNatClampNeg (((g_rst S) (((g_rmo S) ((nI x2) : Int32).toNatClampNeg) : Int32).toNatClampNeg) + 1)))) := hD
          refine lv_iconst (v := 1) hx hb dR_find_130 (by decide) ?_
          refine lv_istore_n (lv' := [(1, .int 1), (4, .int ((g_rmo S) ((nI x2) : Int32).toNatClampNeg)), (0, .ref (h 0)), (2, .int (nI x2)), (3, .int (nI i))]) hx hb dR_find_131 rfl hl (by decide) rfl (fun ls hl => ?_)
          refine lv_iconst (v := 0) hx hb dR_find_132 (by decide) ?_
          refine lv_istore (lv' := [(5, .int 0), (1, .int 1), (4, .int ((g_rmo S) ((nI x2) : Int32).toNatClampNeg)), (0, .ref (h 0)), (2, .int (nI x2)), (3, .int (nI i))]) hx hb dR_find_133 hl (by decide) rfl (fun ls hl => ?_)
          obtain ⟨r135, e135, hv⟩ := bsome hv
          refine tR_find_135 hn hA ⟨hx, hb, hml, hown, hts⟩ hr hlocks hK n 0 1 x2 i ((g_rmo S) ((nI x2) : Int32).toNatClampNeg) (r_rst S (upd (g_rst S) ((nI x2) : Int32).toNatClampNeg (((g_rst S) (((g_rmo S) ((nI x2) : Int32).toNatClampNeg) : Int32).toNatClampNeg) + 1))) _ (by omega) e135 _ _ hP hD hS ls (lv_sub hl [3, 1, 4, 5, 2, 0] rfl) (fun H locs hP hD hS ls hl => ?_)
          refine lv_iinc (v := (nI (i + 1))) (lv' := [(3, .int (nI (i + 1))), (0, .ref (h 0)), (1, .int r135.1), (2, .int (nI x2)), (4, .int ((g_rmo S) ((nI x2) : Int32).toNatClampNeg))]) hx hb dR_find_218 hl (k := 3) rfl (nI_1 _) (by decide) rfl (fun ls hl => ?_)
          refine lv_goto (tgt := 65) hx hb dR_find_221 (by decide) ?_
          exact ih (i + 1) r135.1 x2 r135.2 _ (by omega) hv _ _ hP hD hS ls (lv_sub hl [1, 2, 3, 0] rfl) kk
      · rw [if_neg c93] at hv
        refine lv_if_ge (tgt := 99) hx hb dR_find_93 (by decide) (fun z => absurd z c93) (fun _ => ?_)
        refine lv_goto (tgt := 218) hx hb dR_find_96 (by decide) ?_
        refine lv_iinc (v := (nI (i + 1))) (lv' := [(3, .int (nI (i + 1))), (4, .int ((g_rmo S) ((nI x2) : Int32).toNatClampNeg)), (0, .ref (h 0)), (1, .int x1), (2, .int (nI x2))]) hx hb dR_find_218 hl (k := 4) rfl (nI_1 _) (by decide) rfl (fun ls hl => ?_)
        refine lv_goto (tgt := 65) hx hb dR_find_221 (by decide) ?_
        exact ih (i + 1) x1 x2 S _ (by omega) hv _ _ hP hD hS ls (lv_sub hl [2, 3, 4, 0] rfl) kk
    · rw [if_neg c71] at hv
      refine lv_if_ne (tgt := 83) hx hb dR_find_71 (by decide) (fun _ => ?_) (fun z => absurd z c71)
      refine lv_aload_n hx hb dR_find_83 rfl (lv_at hl 0 rfl) ?_
      refine va_get (D := D) (ci := 3) (v := .ref (h 2)) (C := RR) (T := TR) (N := 13) hx hb hts hinR hown hK hP 0 rfl rfl 2 (by decide) (hts _ uw218) (fun _ h9 => h9) rfl dR_find_84 ?_
      refine lv_iload_n hx hb dR_find_87 rfl (lv_at hl 2 rfl) ?_
      have k88 : ¬ (ob ((nI x2) : Int32) 24) := fun z => by rw [if_pos z] at hv; cases hv
      rw [if_neg k88] at hv
      refine va_iald hx hb hK hP 2 0 rfl rfl (k88) dR_find_88 ?_
      refine lv_istore (lv' := [(4, .int ((g_rfa S) ((nI x2) : Int32).toNatClampNeg)), (0, .ref (h 0)), (1, .int x1), (2, .int (nI x2)), (3, .int (nI i))]) hx hb dR_find_89 hl (by decide) rfl (fun ls hl => ?_)
      refine lv_iload hx hb dR_find_91 (lv_at hl 0 rfl) ?_
      by_cases c93 : 0 ≤ ((g_rfa S) ((nI x2) : Int32).toNatClampNeg)
      · rw [if_pos c93] at hv
        refine lv_if_ge (tgt := 99) hx hb dR_find_93 (by decide) (fun _ => ?_) (fun z => absurd c93 z)
        refine lv_aload_n hx hb dR_find_99 rfl (lv_at hl 1 rfl) ?_
        refine va_get (D := D) (ci := 3) (v := .ref (h 9)) (C := RR) (T := TR) (N := 13) hx hb hts hinR hown hK hP 0 rfl rfl 10 (by decide) (hts _ uw216) (fun _ h9 => h9) rfl dR_find_100 ?_
        refine lv_iload_n hx hb dR_find_103 rfl (lv_at hl 3 rfl) ?_
        have k104x : ¬ (ob ((nI x2) : Int32) 24) := fun z => by rw [if_pos z] at hv; cases hv
        rw [if_neg k104x] at hv
        refine va_iald hx hb hK hP 9 0 rfl rfl (k104x) dR_find_104 ?_
        refine lv_aload_n hx hb dR_find_105 rfl (lv_at hl 1 rfl) ?_
        refine va_get (D := D) (ci := 3) (v := .ref (h 9)) (C := RR) (T := TR) (N := 13) hx hb hts hinR hown hK hP 0 rfl rfl 10 (by decide) (hts _ uw216) (fun _ h9 => h9) rfl dR_find_106 ?_
        refine lv_iload hx hb dR_find_109 (lv_at hl 0 rfl) ?_
        have k111x : ¬ (ob (((g_rfa S) ((nI x2) : Int32).toNatClampNeg) : Int32) 24) := fun z => by rw [if_pos z] at hv; cases hv
        rw [if_neg k111x] at hv
        refine va_iald hx hb hK hP 9 0 rfl rfl (k111x) dR_find_111 ?_
        by_cases c112 : ((g_rst S) (((g_rfa S) ((nI x2) : Int32).toNatClampNeg) : Int32).toNatClampNeg) < ((g_rst S) ((nI x2) : Int32).toNatClampNeg)
        · rw [if_pos c112] at hv
          refine lv_icmp_gt (tgt := 132) hx hb dR_find_112 (by decide) (fun _ => ?_) (fun z => absurd c112 z)
          refine lv_iconst (v := 0) hx hb dR_find_132 (by decide) ?_
          refine lv_istore (lv' := [(5, .int 0), (4, .int ((g_rfa S) ((nI x2) : Int32).toNatClampNeg)), (0, .ref (h 0)), (1, .int x1), (2, .int (nI x2)), (3, .int (nI i))]) hx hb dR_find_133 hl (by decide) rfl (fun ls hl => ?_)
          obtain ⟨r135, e135, hv⟩ := bsome hv
          refine tR_find_135 hn hA ⟨hx, hb, hml, hown, hts⟩ hr hlocks hK n 0 x1 x2 i ((g_rfa S) ((nI x2) : Int32).toNatClampNeg) S _ (by omega) e135 _ _ hP hD hS ls (lv_sub hl [2, 3, 4, 5, 1, 0] rfl) (fun H locs hP hD hS ls hl => ?_)
          refine lv_iinc (v := (nI (i + 1))) (lv' := [(3, .int (nI (i + 1))), (0, .ref (h 0)), (1, .int r135.1), (2, .int (nI x2)), (4, .int ((g_rfa S) ((nI x2) : Int32).toNatClampNeg))]) hx hb dR_find_218 hl (k := 3) rfl (nI_1 _) (by decide) rfl (fun ls hl => ?_)
          refine lv_goto (tgt := 65) hx hb dR_find_221 (by decide) ?_
          exact ih (i + 1) r135.1 x2 r135.2 _ (by omega) hv _ _ hP hD hS ls (lv_sub hl [1, 2, 3, 0] rfl) kk
        · rw [if_neg c112] at hv
          refine lv_icmp_gt (tgt := 132) hx hb dR_find_112 (by decide) (fun z => absurd z c112) (fun _ => ?_)
          refine lv_aload_n hx hb dR_find_115 rfl (lv_at hl 1 rfl) ?_
          refine va_get (D := D) (ci := 3) (v := .ref (h 9)) (C := RR) (T := TR) (N := 13) hx hb hts hinR hown hK hP 0 rfl rfl 10 (by decide) (hts _ uw216) (fun _ h9 => h9) rfl dR_find_116 ?_
          refine lv_iload_n hx hb dR_find_119 rfl (lv_at hl 3 rfl) ?_
          refine lv_aload_n hx hb dR_find_120 rfl (lv_at hl 1 rfl) ?_
          refine va_get (D := D) (ci := 3) (v := .ref (h 9)) (C := RR) (T := TR) (N := 13) hx hb hts hinR hown hK hP 0 rfl rfl 10 (by decide) (hts _ uw216) (fun _ h9 => h9) rfl dR_find_121 ?_
          refine lv_iload hx hb dR_find_124 (lv_at hl 0 rfl) ?_
          have k126x : ¬ (ob (((g_rfa S) ((nI x2) : Int32).toNatClampNeg) : Int32) 24) := fun z => by rw [if_pos z] at hv; cases hv
          rw [if_neg k126x] at hv
          refine va_iald hx hb hK hP 9 0 rfl rfl (k126x) dR_find_126 ?_
          refine lv_iconst (v := 1) hx hb dR_find_127 (by decide) ?_
          refine lv_iadd hx hb dR_find_128 ?_
          have k129x : ¬ (ob ((nI x2) : Int32) 24) := fun z => by rw [if_pos z] at hv; cases hv
          rw [if_neg k129x] at hv
          refine va_iast hx hb hK hP hD hS 9 0 rfl rfl (k129x) dR_find_129 (fun H locs hP hD hS => ?_)
          have hP : va_P D vwCl (wR Y h n (r_rst S (upd (g_rst S) ((nI x2) : Int32).toNatClampNeg (((g_rst S) (((g_rfa S) ((nI x2) : Int32).toNatClampNeg) : Int32).toNatClampNeg) + 1)))) H := hP
          have hD : va_D A (wR Y h n (r_rst S (upd (g_rst S) ((nI x2) : Int32).toNatClampNeg (((g_rst S) (((g_rfa S) ((nI x2) : Int32).toNatClampNeg) : Int32).toNatClampNeg) + 1)))) := hD
          refine lv_iconst (v := 1) hx hb dR_find_130 (by decide) ?_
          refine lv_istore_n (lv' := [(1, .int 1), (4, .int ((g_rfa S) ((nI x2) : Int32).toNatClampNeg)), (0, .ref (h 0)), (2, .int (nI x2)), (3, .int (nI i))]) hx hb dR_find_131 rfl hl (by decide) rfl (fun ls hl => ?_)
          refine lv_iconst (v := 0) hx hb dR_find_132 (by decide) ?_
          refine lv_istore (lv' := [(5, .int 0), (1, .int 1), (4, .int ((g_rfa S) ((nI x2) : Int32).toNatClampNeg)), (0, .ref (h 0)), (2, .int (nI x2)), (3, .int (nI i))]) hx hb dR_find_133 hl (by decide) rfl (fun ls hl => ?_)
          obtain ⟨r135, e135, hv⟩ := bsome hv
          refine tR_find_135 hn hA ⟨hx, hb, hml, hown, hts⟩ hr hlocks hK n 0 1 x2 i ((g_rfa S) ((nI x2) : Int32).toNatClampNeg) (r_rst S (upd (g_rst S) ((nI x2) : Int32).toNatClampNeg (((g_rst S) (((g_rfa S) ((nI x2) : Int32).toNatClampNeg) : Int32).toNatClampNeg) + 1))) _ (by omega) e135 _ _ hP hD hS ls (lv_sub hl [3, 1, 4, 5, 2, 0] rfl) (fun H locs hP hD hS ls hl => ?_)
          refine lv_iinc (v := (nI (i + 1))) (lv' := [(3, .int (nI (i + 1))), (0, .ref (h 0)), (1, .int r135.1), (2, .int (nI x2)), (4, .int ((g_rfa S) ((nI x2) : Int32).toNatClampNeg))]) hx hb dR_find_218 hl (k := 3) rfl (nI_1 _) (by decide) rfl (fun ls hl => ?_)
          refine lv_goto (tgt := 65) hx hb dR_find_221 (by decide) ?_
          exact ih (i + 1) r135.1 x2 r135.2 _ (by omega) hv _ _ hP hD hS ls (lv_sub hl [1, 2, 3, 0] rfl) kk
      · rw [if_neg c93] at hv
        refine lv_if_ge (tgt := 99) hx hb dR_find_93 (by decide) (fun z => absurd z c93) (fun _ => ?_)
        refine lv_goto (tgt := 218) hx hb dR_find_96 (by decide) ?_
        refine lv_iinc (v := (nI (i + 1))) (lv' := [(3, .int (nI (i + 1))), (4, .int ((g_rfa S) ((nI x2) : Int32).toNatClampNeg)), (0, .ref (h 0)), (1, .int x1), (2, .int (nI x2))]) hx hb dR_find_218 hl (k := 4) rfl (nI_1 _) (by decide) rfl (fun ls hl => ?_)
        refine lv_goto (tgt := 65) hx hb dR_find_221 (by decide) ?_
        exact ih (i + 1) x1 x2 S _ (by omega) hv _ _ hP hD hS ls (lv_sub hl [2, 3, 4, 0] rfl) kk
set_option maxHeartbeats 4000000 in
set_option maxRecDepth 100000 in
theorem tR_find_55 {p : Program} {l : Launch} {e : Env} {s : State} {m : MethodId} {args : Array Value} {below : List Frame} {meth : Method} {c : Code} {D : va_G} {Y : Nat → ClassId} {h : Nat → Nat} {n : Nat} (hn : n ≤ 24) {A : Nat → Prop} (hA : ∀ q : Nat, s.heap.size ≤ q → A q) (CF : CallFix p m c cR_find 7 s args uT RR) (hr : meth.sig.returnType = none) (hlocks : meth.locks = false) (hK : va_K D vwCl (tysK Y) s) {Q : State → Prop} : ∀ (k : Nat) (i : Nat) (x1 : Int32) (S : vR) (v : Int32 × vR), i + k = n → (fR_find_55 n k i x1 S) = some v → ∀ (H : Heap) (locs : List Loc), va_P D vwCl (wR Y h n S) H → va_D A (wR Y h n S) → va_S A s.heap H locs → ∀ ls : Array Slot, lv_has ls 7 [(0, .ref (h 0)), (1, .int x1), (2, .int (nI i))] → (∀ (H : Heap) (locs : List Loc), va_P D vwCl (wR Y h n v.2) H → va_D A (wR Y h n v.2) → va_S A s.heap H locs → ∀ ls : Array Slot, lv_has ls 7 [(0, .ref (h 0)), (1, .int v.1)] → W p l e rmR_find s m args below meth c H locs 0 0 Q (F0 m 230 ls [])) → W p l e rmR_find s m args below meth c H locs 0 0 Q (F0 m 55 ls []) := by
  obtain ⟨hx, hb, hml, hown, hts⟩ := CF
  intro k
  induction k with
  | zero =>
    intro i x1 S v hi hv H locs hP hD hS ls hl kk
    rw [fR_find_55] at hv
    refine lv_iload_n hx hb dR_find_55 rfl (lv_at hl 2 rfl) ?_
    refine lv_aload_n hx hb dR_find_56 rfl (lv_at hl 0 rfl) ?_
    refine va_get (D := D) (ci := 3) (v := .int (nI n)) (C := RR) (T := TR) (N := 13) hx hb hts hinR hown hK hP 0 rfl rfl 0 (by decide) (hts _ uw209) (fun _ h9 => h9) rfl dR_find_57 ?_
    refine lv_icmp_ge (tgt := 230) hx hb dR_find_60 (by decide) (fun _ => ?_) (fun z => absurd (lp_ge (n := n) hi) z)
    cases hv
    exact kk _ _ hP hD hS ls (lv_sub hl [0, 1] rfl)
  | succ k ih =>
    intro i x1 S v hi hv H locs hP hD hS ls hl kk
    rw [fR_find_55] at hv
    refine lv_iload_n hx hb dR_find_55 rfl (lv_at hl 2 rfl) ?_
    refine lv_aload_n hx hb dR_find_56 rfl (lv_at hl 0 rfl) ?_
    refine va_get (D := D) (ci := 3) (v := .int (nI n)) (C := RR) (T := TR) (N := 13) hx hb hts hinR hown hK hP 0 rfl rfl 0 (by decide) (hts _ uw209) (fun _ h9 => h9) rfl dR_find_57 ?_
    refine lv_icmp_ge (tgt := 230) hx hb dR_find_60 (by decide) (fun z => absurd z (lp_lt (n := n) hi (by omega))) (fun _ => ?_)
    refine lv_iconst (v := 0) hx hb dR_find_63 (by decide) ?_
    refine lv_istore_n (lv' := [(3, .int 0), (0, .ref (h 0)), (1, .int x1), (2, .int (nI i))]) hx hb dR_find_64 rfl hl (by decide) rfl (fun ls hl => ?_)
    obtain ⟨r65, e65, hv⟩ := bsome hv
    refine tR_find_65 hn hA ⟨hx, hb, hml, hown, hts⟩ hr hlocks hK 2 0 x1 i S _ (by omega) e65 _ _ hP hD hS ls (lv_sub hl [1, 2, 3, 0] rfl) (fun H locs hP hD hS ls hl => ?_)
    refine lv_iinc (v := (nI (i + 1))) (lv' := [(2, .int (nI (i + 1))), (0, .ref (h 0)), (1, .int r65.1)]) hx hb dR_find_224 hl (k := 2) rfl (nI_1 _) (by decide) rfl (fun ls hl => ?_)
    refine lv_goto (tgt := 55) hx hb dR_find_227 (by decide) ?_
    exact ih (i + 1) r65.1 r65.2 _ (by omega) hv _ _ hP hD hS ls (lv_sub hl [1, 2, 0] rfl) kk
set_option maxHeartbeats 4000000 in
set_option maxRecDepth 100000 in
theorem tR_find_47 {p : Program} {l : Launch} {e : Env} {s : State} {m : MethodId} {args : Array Value} {below : List Frame} {meth : Method} {c : Code} {D : va_G} {Y : Nat → ClassId} {h : Nat → Nat} {n : Nat} (hn : n ≤ 24) {A : Nat → Prop} (hA : ∀ q : Nat, s.heap.size ≤ q → A q) (CF : CallFix p m c cR_find 7 s args uT RR) (hr : meth.sig.returnType = none) (hlocks : meth.locks = false) (hK : va_K D vwCl (tysK Y) s) {Q : State → Prop} : ∀ (k : Nat) (x1 : Int32) (S : vR) (v : vR), (fR_find_47 n k x1 S) = some v → ∀ (H : Heap) (locs : List Loc), va_P D vwCl (wR Y h n S) H → va_D A (wR Y h n S) → va_S A s.heap H locs → ∀ ls : Array Slot, lv_has ls 7 [(0, .ref (h 0)), (1, .int x1)] → (∀ (H : Heap) (locs : List Loc), va_P D vwCl (wR Y h n v) H → va_D A (wR Y h n v) → va_S A s.heap H locs → ∀ ls : Array Slot, lv_has ls 7 [(0, .ref (h 0))] → W p l e rmR_find s m args below meth c H locs 0 0 Q (F0 m 233 ls [])) → W p l e rmR_find s m args below meth c H locs 0 0 Q (F0 m 47 ls []) := by
  obtain ⟨hx, hb, hml, hown, hts⟩ := CF
  intro k
  induction k with
  | zero =>
    intro x1 S v hv H locs hP hD hS ls hl kk
    rw [fR_find_47] at hv
    cases hv
  | succ k ih =>
    intro x1 S v hv H locs hP hD hS ls hl kk
    rw [fR_find_47] at hv
    refine lv_iload_n hx hb dR_find_47 rfl (lv_at hl 1 rfl) ?_
    by_cases c48 : x1 = 0
    · rw [if_pos c48] at hv
      refine lv_if_eq (tgt := 233) hx hb dR_find_48 (by decide) (fun _ => ?_) (fun z => absurd c48 z)
      cases hv
      exact kk _ _ hP hD hS ls (lv_sub hl [0] rfl)
    · rw [if_neg c48] at hv
      refine lv_if_eq (tgt := 233) hx hb dR_find_48 (by decide) (fun z => absurd z c48) (fun _ => ?_)
      refine lv_iconst (v := 0) hx hb dR_find_51 (by decide) ?_
      refine lv_istore_n (lv' := [(1, .int 0), (0, .ref (h 0))]) hx hb dR_find_52 rfl hl (by decide) rfl (fun ls hl => ?_)
      refine lv_iconst (v := 0) hx hb dR_find_53 (by decide) ?_
      refine lv_istore_n (lv' := [(2, .int 0), (1, .int 0), (0, .ref (h 0))]) hx hb dR_find_54 rfl hl (by decide) rfl (fun ls hl => ?_)
      obtain ⟨r55, e55, hv⟩ := bsome hv
      refine tR_find_55 hn hA ⟨hx, hb, hml, hown, hts⟩ hr hlocks hK n 0 0 S _ (by omega) e55 _ _ hP hD hS ls (lv_sub hl [2, 1, 0] rfl) (fun H locs hP hD hS ls hl => ?_)
      refine lv_goto (tgt := 47) hx hb dR_find_230 (by decide) ?_
      exact ih r55.1 r55.2 _ hv _ _ hP hD hS ls (lv_sub hl [0, 1] rfl) kk
set_option maxHeartbeats 4000000 in
set_option maxRecDepth 100000 in
theorem tR_find_248 {p : Program} {l : Launch} {e : Env} {s : State} {m : MethodId} {args : Array Value} {below : List Frame} {meth : Method} {c : Code} {D : va_G} {Y : Nat → ClassId} {h : Nat → Nat} {n : Nat} (hn : n ≤ 24) {A : Nat → Prop} (hA : ∀ q : Nat, s.heap.size ≤ q → A q) (CF : CallFix p m c cR_find 7 s args uT RR) (hr : meth.sig.returnType = none) (hlocks : meth.locks = false) (hK : va_K D vwCl (tysK Y) s) {Q : State → Prop} : ∀ (k : Nat) (i : Nat) (x2 : Nat) (x3 : Nat) (S : vR) (v : Nat × vR), i + k = n → (fR_find_248 n k i x2 x3 S) = some v → ∀ (H : Heap) (locs : List Loc), va_P D vwCl (wR Y h n S) H → va_D A (wR Y h n S) → va_S A s.heap H locs → ∀ ls : Array Slot, lv_has ls 7 [(0, .ref (h 0)), (2, .int (nI x2)), (3, .int (nI x3)), (4, .int (nI i))] → (∀ (H : Heap) (locs : List Loc), va_P D vwCl (wR Y h n v.2) H → va_D A (wR Y h n v.2) → va_S A s.heap H locs → ∀ ls : Array Slot, lv_has ls 7 [(0, .ref (h 0)), (2, .int (nI v.1)), (3, .int (nI x3))] → W p l e rmR_find s m args below meth c H locs 0 0 Q (F0 m 288 ls [])) → W p l e rmR_find s m args below meth c H locs 0 0 Q (F0 m 248 ls []) := by
  obtain ⟨hx, hb, hml, hown, hts⟩ := CF
  intro k
  induction k with
  | zero =>
    intro i x2 x3 S v hi hv H locs hP hD hS ls hl kk
    rw [fR_find_248] at hv
    refine lv_iload hx hb dR_find_248 (lv_at hl 3 rfl) ?_
    refine lv_aload_n hx hb dR_find_250 rfl (lv_at hl 0 rfl) ?_
    refine va_get (D := D) (ci := 3) (v := .int (nI n)) (C := RR) (T := TR) (N := 13) hx hb hts hinR hown hK hP 0 rfl rfl 0 (by decide) (hts _ uw209) (fun _ h9 => h9) rfl dR_find_251 ?_
    refine lv_icmp_ge (tgt := 288) hx hb dR_find_254 (by decide) (fun _ => ?_) (fun z => absurd (lp_ge (n := n) hi) z)
    cases hv
    exact kk _ _ hP hD hS ls (lv_sub hl [0, 1, 2] rfl)
  | succ k ih =>
    intro i x2 x3 S v hi hv H locs hP hD hS ls hl kk
    rw [fR_find_248] at hv
    refine lv_iload hx hb dR_find_248 (lv_at hl 3 rfl) ?_
    refine lv_aload_n hx hb dR_find_250 rfl (lv_at hl 0 rfl) ?_
    refine va_get (D := D) (ci := 3) (v := .int (nI n)) (C := RR) (T := TR) (N := 13) hx hb hts hinR hown hK hP 0 rfl rfl 0 (by decide) (hts _ uw209) (fun _ h9 => h9) rfl dR_find_251 ?_
    refine lv_icmp_ge (tgt := 288) hx hb dR_find_254 (by decide) (fun z => absurd z (lp_lt (n := n) hi (by omega))) (fun _ => ?_)
    refine lv_aload_n hx hb dR_find_257 rfl (lv_at hl 0 rfl) ?_
    refine va_get (D := D) (ci := 3) (v := .ref (h 9)) (C := RR) (T := TR) (N := 13) hx hb hts hinR hown hK hP 0 rfl rfl 10 (by decide) (hts _ uw216) (fun _ h9 => h9) rfl dR_find_258 ?_
    refine lv_iload hx hb dR_find_261 (lv_at hl 3 rfl) ?_
    refine va_iald hx hb hK hP 9 0 rfl rfl (vp_in_nI (n := i) (by omega) (by omega)) dR_find_263 ?_
    refine lv_iload_n hx hb dR_find_264 rfl (lv_at hl 2 rfl) ?_
    by_cases c265 : ((g_rst S) ((nI i) : Int32).toNatClampNeg) = (nI x3)
    · rw [if_pos c265] at hv
      refine lv_icmp_eq (tgt := 271) hx hb dR_find_265 (by decide) (fun _ => ?_) (fun z => absurd c265 z)
      refine lv_aload_n hx hb dR_find_271 rfl (lv_at hl 0 rfl) ?_
      refine va_get (D := D) (ci := 3) (v := .ref (h 10)) (C := RR) (T := TR) (N := 13) hx hb hts hinR hown hK hP 0 rfl rfl 11 (by decide) (hts _ uw219) (fun _ h9 => h9) rfl dR_find_272 ?_
      refine lv_iload_n hx hb dR_find_275 rfl (lv_at hl 1 rfl) ?_
      refine lv_iload hx hb dR_find_276 (lv_at hl 3 rfl) ?_
      have k278 : ¬ (ob ((nI x2) : Int32) 24) := fun z => by rw [if_pos z] at hv; cases hv
      rw [if_neg k278] at hv
      refine va_iast hx hb hK hP hD hS 10 0 rfl rfl (k278) dR_find_278 (fun H locs hP hD hS => ?_)
      have hP : va_P D vwCl (wR Y h n (r_rro S (upd (g_rro S) ((nI x2) : Int32).toNatClampNeg (nI i)))) H := hP
      have hD : va_D A (wR Y h n (r_rro S (upd (g_rro S) ((nI x2) : Int32).toNatClampNeg (nI i)))) := hD
      refine lv_iinc (v := (nI (x2 + 1))) (lv' := [(2, .int (nI (x2 + 1))), (0, .ref (h 0)), (3, .int (nI x3)), (4, .int (nI i))]) hx hb dR_find_279 hl (k := 1) rfl (nI_1 _) (by decide) rfl (fun ls hl => ?_)
      refine lv_iinc (v := (nI (i + 1))) (lv' := [(4, .int (nI (i + 1))), (2, .int (nI (x2 + 1))), (0, .ref (h 0)), (3, .int (nI x3))]) hx hb dR_find_282 hl (k := 3) rfl (nI_1 _) (by decide) rfl (fun ls hl => ?_)
      refine lv_goto (tgt := 248) hx hb dR_find_285 (by decide) ?_
      exact ih (i + 1) (x2 + 1) x3 (r_rro S (upd (g_rro S) ((nI x2) : Int32).toNatClampNeg (nI i))) _ (by omega) hv _ _ hP hD hS ls (lv_sub hl [2, 1, 3, 0] rfl) kk
    · rw [if_neg c265] at hv
      refine lv_icmp_eq (tgt := 271) hx hb dR_find_265 (by decide) (fun z => absurd z c265) (fun _ => ?_)
      refine lv_goto (tgt := 282) hx hb dR_find_268 (by decide) ?_
      refine lv_iinc (v := (nI (i + 1))) (lv' := [(4, .int (nI (i + 1))), (0, .ref (h 0)), (2, .int (nI x2)), (3, .int (nI x3))]) hx hb dR_find_282 hl (k := 3) rfl (nI_1 _) (by decide) rfl (fun ls hl => ?_)
      refine lv_goto (tgt := 248) hx hb dR_find_285 (by decide) ?_
      exact ih (i + 1) x2 x3 S _ (by omega) hv _ _ hP hD hS ls (lv_sub hl [1, 2, 3, 0] rfl) kk
set_option maxHeartbeats 4000000 in
set_option maxRecDepth 100000 in
theorem tR_find_237 {p : Program} {l : Launch} {e : Env} {s : State} {m : MethodId} {args : Array Value} {below : List Frame} {meth : Method} {c : Code} {D : va_G} {Y : Nat → ClassId} {h : Nat → Nat} {n : Nat} (hn : n ≤ 24) {A : Nat → Prop} (hA : ∀ q : Nat, s.heap.size ≤ q → A q) (CF : CallFix p m c cR_find 7 s args uT RR) (hr : meth.sig.returnType = none) (hlocks : meth.locks = false) (hK : va_K D vwCl (tysK Y) s) : ∀ (k : Nat) (i : Nat) (x2 : Nat) (S : vR) (v : vR), i + k = n → (fR_find_237 n k i x2 S) = some v → ∀ (H : Heap) (locs : List Loc), va_P D vwCl (wR Y h n S) H → va_D A (wR Y h n S) → va_S A s.heap H locs → ∀ ls : Array Slot, lv_has ls 7 [(0, .ref (h 0)), (2, .int (nI x2)), (3, .int (nI i))] → W p l e rmR_find s m args below meth c H locs 0 0 (zMv D vwCl (tysK Y) A (wR Y h n) below args s 0 0 v) (F0 m 237 ls []) := by
  obtain ⟨hx, hb, hml, hown, hts⟩ := CF
  intro k
  induction k with
  | zero =>
    intro i x2 S v hi hv H locs hP hD hS ls hl
    rw [fR_find_237] at hv
    refine lv_iload_n hx hb dR_find_237 rfl (lv_at hl 2 rfl) ?_
    refine lv_aload_n hx hb dR_find_238 rfl (lv_at hl 0 rfl) ?_
    refine va_get (D := D) (ci := 3) (v := .int (nI n)) (C := RR) (T := TR) (N := 13) hx hb hts hinR hown hK hP 0 rfl rfl 0 (by decide) (hts _ uw209) (fun _ h9 => h9) rfl dR_find_239 ?_
    refine lv_icmp_ge (tgt := 294) hx hb dR_find_242 (by decide) (fun _ => ?_) (fun z => absurd (lp_ge (n := n) hi) z)
    cases hv
    exact zMv_ret (u := S) hx hb hr hlocks hK hP hD hS dR_find_294
  | succ k ih =>
    intro i x2 S v hi hv H locs hP hD hS ls hl
    rw [fR_find_237] at hv
    refine lv_iload_n hx hb dR_find_237 rfl (lv_at hl 2 rfl) ?_
    refine lv_aload_n hx hb dR_find_238 rfl (lv_at hl 0 rfl) ?_
    refine va_get (D := D) (ci := 3) (v := .int (nI n)) (C := RR) (T := TR) (N := 13) hx hb hts hinR hown hK hP 0 rfl rfl 0 (by decide) (hts _ uw209) (fun _ h9 => h9) rfl dR_find_239 ?_
    refine lv_icmp_ge (tgt := 294) hx hb dR_find_242 (by decide) (fun z => absurd z (lp_lt (n := n) hi (by omega))) (fun _ => ?_)
    refine lv_iconst (v := 0) hx hb dR_find_245 (by decide) ?_
    refine lv_istore (lv' := [(4, .int 0), (0, .ref (h 0)), (2, .int (nI x2)), (3, .int (nI i))]) hx hb dR_find_246 hl (by decide) rfl (fun ls hl => ?_)
    obtain ⟨r248, e248, hv⟩ := bsome hv
    refine tR_find_248 hn hA ⟨hx, hb, hml, hown, hts⟩ hr hlocks hK n 0 x2 i S _ (by omega) e248 _ _ hP hD hS ls (lv_sub hl [1, 2, 3, 0] rfl) (fun H locs hP hD hS ls hl => ?_)
    refine lv_iinc (v := (nI (i + 1))) (lv' := [(3, .int (nI (i + 1))), (0, .ref (h 0)), (2, .int (nI r248.1))]) hx hb dR_find_288 hl (k := 2) rfl (nI_1 _) (by decide) rfl (fun ls hl => ?_)
    refine lv_goto (tgt := 237) hx hb dR_find_291 (by decide) ?_
    exact ih (i + 1) r248.1 r248.2 _ (by omega) hv _ _ hP hD hS ls (lv_sub hl [1, 2, 0] rfl)
set_option maxHeartbeats 4000000 in
set_option maxRecDepth 100000 in
theorem kR_find (l : Launch) (D : va_G) (Y : Nat → ClassId) (h : Nat → Nat) (n : Nat) (hn : n ≤ 24) (S : vR) (v : vR) (hv : (fR_find n S) = some v) (sz : Nat) : Met l yR_find wsR_find rmR_find (va_Pc [.ref (h 0)] (zPreM D vwCl (tysK Y) (wR Y h n S) sz)) (va_Qv (fun u => u = v) (zAt D vwCl (tysK Y) (va_A (wR Y h n S) sz) (wR Y h n)) (va_A (wR Y h n S) sz)) 0 0 (va_A (wR Y h n S) sz) := by
  refine Met.ofW (cc := cR_find) (maxL := 7) (ret := none) (by decide) rfl ?_
  intro p e s m args below meth c s₁ B hml hvv
  obtain ⟨rfl, hsz, hP, hK, hD0⟩ := hvv
  have hx := B.exec
  have hb := B.bytes
  have hr := B.returns
  have hts : ∀ w ∈ uT, w.before _ s = true := fun w hw => atoms_spec (ws := wsR_find) B.pre w (List.mem_cons_of_mem _ hw)
  have hown : s.vm.findClass RR = some m.cls := findClass_of_methodNamed B.named
  have hlocks := B.notSynchronized
  subst hsz
  have hD := hD0.self (sz := s.heap.size)
  generalize hAe : va_A (wR Y h n S) s.heap.size = A at hD ⊢
  have hA : ∀ q : Nat, s.heap.size ≤ q → A q := fun q h => by rw [← hAe]; exact Or.inr h
  have hS : va_S A s.heap s.heap [] := va_S.rf
  have hl := lv_entry ([.ref (h 0)]) (n := 7) (Nat.le_of_ble_eq_true rfl)
  rw [lg_entry_eq]
  generalize (lg_sl ([.ref (h 0)]) ++ List.replicate (7 - (lg_sl ([.ref (h 0)])).length) Slot.unset).toArray = ls at hl ⊢
  have hl : lv_has ls 7 [(0, .ref (h 0))] := hl
  unfold fR_find at hv
  show W p l e rmR_find s m _ below meth c s.heap [] 0 0 (zMv D vwCl (tysK Y) A (wR Y h n) below _ s 0 0 v) (F0 m 0 ls [])
  refine lv_iconst (v := 0) hx hb dR_find_0 (by decide) ?_
  refine lv_istore_n (lv' := [(1, .int 0), (0, .ref (h 0))]) hx hb dR_find_1 rfl hl (by decide) rfl (fun ls hl => ?_)
  obtain ⟨r2, e2, hv⟩ := bsome hv
  refine tR_find_2 hn hA ⟨hx, hb, hml, hown, hts⟩ hr hlocks hK 576 0 S _ (by omega) e2 _ _ hP hD hS ls (lv_sub hl [1, 0] rfl) (fun H locs hP hD hS ls hl => ?_)
  refine lv_iconst (v := 0) hx hb dR_find_22 (by decide) ?_
  refine lv_istore_n (lv' := [(1, .int 0), (0, .ref (h 0))]) hx hb dR_find_23 rfl hl (by decide) rfl (fun ls hl => ?_)
  obtain ⟨r24, e24, hv⟩ := bsome hv
  refine tR_find_24 hn hA ⟨hx, hb, hml, hown, hts⟩ hr hlocks hK n 0 r2 _ (by omega) e24 _ _ hP hD hS ls (lv_sub hl [1, 0] rfl) (fun H locs hP hD hS ls hl => ?_)
  refine lv_iconst (v := 1) hx hb dR_find_45 (by decide) ?_
  refine lv_istore_n (lv' := [(1, .int 1), (0, .ref (h 0))]) hx hb dR_find_46 rfl hl (by decide) rfl (fun ls hl => ?_)
  obtain ⟨r47, e47, hv⟩ := bsome hv
  refine tR_find_47 hn hA ⟨hx, hb, hml, hown, hts⟩ hr hlocks hK 2000 1 r24 _ e47 _ _ hP hD hS ls (lv_sub hl [1, 0] rfl) (fun H locs hP hD hS ls hl => ?_)
  refine lv_iconst (v := 0) hx hb dR_find_233 (by decide) ?_
  refine lv_istore_n (lv' := [(2, .int 0), (0, .ref (h 0))]) hx hb dR_find_234 rfl hl (by decide) rfl (fun ls hl => ?_)
  refine lv_iconst (v := 0) hx hb dR_find_235 (by decide) ?_
  refine lv_istore_n (lv' := [(3, .int 0), (2, .int 0), (0, .ref (h 0))]) hx hb dR_find_236 rfl hl (by decide) rfl (fun ls hl => ?_)
  exact tR_find_237 hn hA ⟨hx, hb, hml, hown, hts⟩ hr hlocks hK n 0 0 r47 _ (by omega) hv _ _ hP hD hS ls (lv_sub hl [2, 1, 0] rfl)
abbrev rmR_findKin : Room := { frames := 1, cells := 0, slots := 0, locals := 26 }
set_option maxHeartbeats 4000000 in
set_option maxRecDepth 100000 in
theorem tR_findKin_23 {p : Program} {l : Launch} {e : Env} {s : State} {m : MethodId} {args : Array Value} {below : List Frame} {meth : Method} {c : Code} {D : va_G} {Y : Nat → ClassId} {h : Nat → Nat} {n : Nat} (hn : n ≤ 24) {A : Nat → Prop} (hA : ∀ q : Nat, s.heap.size ≤ q → A q) (CF : CallFix p m c cR_findKin 7 s args uT RR) (hr : meth.sig.returnType = none) (hlocks : meth.locks = false) (hK : va_K D vwCl (tysK Y) s) {Q : State → Prop} : ∀ (k : Nat) (i : Nat) (x1 : Nat) (x2 : Int32) (S : vR) (v : vR), i + k = x1 → x1 ≤ 24 → (fR_findKin_23 n k i x1 x2 S) = some v → ∀ (H : Heap) (locs : List Loc), va_P D vwCl (wR Y h n S) H → va_D A (wR Y h n S) → va_S A s.heap H locs → ∀ ls : Array Slot, lv_has ls 7 [(0, .ref (h 0)), (1, .int (nI x1)), (2, .int x2), (3, .int (nI i))] → (∀ (H : Heap) (locs : List Loc), va_P D vwCl (wR Y h n v) H → va_D A (wR Y h n v) → va_S A s.heap H locs → ∀ ls : Array Slot, lv_has ls 7 [(0, .ref (h 0)), (1, .int (nI x1)), (2, .int x2)] → W p l e rmR_findKin s m args below meth c H locs 0 0 Q (F0 m 101 ls [])) → W p l e rmR_findKin s m args below meth c H locs 0 0 Q (F0 m 23 ls []) := by
  obtain ⟨hx, hb, hml, hown, hts⟩ := CF
  intro k
  induction k with
  | zero =>
    intro i x1 x2 S v hi hx1 hv H locs hP hD hS ls hl kk
    rw [fR_findKin_23] at hv
    refine lv_iload_n hx hb dR_findKin_23 rfl (lv_at hl 3 rfl) ?_
    refine lv_iload_n hx hb dR_findKin_24 rfl (lv_at hl 1 rfl) ?_
    refine lv_icmp_ge (tgt := 101) hx hb dR_findKin_25 (by decide) (fun _ => ?_) (fun z => absurd (lp_ge (n := x1) hi) z)
    cases hv
    exact kk _ _ hP hD hS ls (lv_sub hl [0, 1, 2] rfl)
  | succ k ih =>
    intro i x1 x2 S v hi hx1 hv H locs hP hD hS ls hl kk
    rw [fR_findKin_23] at hv
    refine lv_iload_n hx hb dR_findKin_23 rfl (lv_at hl 3 rfl) ?_
    refine lv_iload_n hx hb dR_findKin_24 rfl (lv_at hl 1 rfl) ?_
    refine lv_icmp_ge (tgt := 101) hx hb dR_findKin_25 (by decide) (fun z => absurd z (lp_lt (n := x1) hi (by omega))) (fun _ => ?_)
    refine lv_aload_n hx hb dR_findKin_28 rfl (lv_at hl 0 rfl) ?_
    refine va_get (D := D) (ci := 3) (v := .ref (h 10)) (C := RR) (T := TR) (N := 13) hx hb hts hinR hown hK hP 0 rfl rfl 11 (by decide) (hts _ uw219) (fun _ h9 => h9) rfl dR_findKin_29 ?_
    refine lv_iload_n hx hb dR_findKin_32 rfl (lv_at hl 3 rfl) ?_
    refine va_iald hx hb hK hP 10 0 rfl rfl (vp_in_nI (n := i) (by omega) (by omega)) dR_findKin_33 ?_
    refine lv_istore (lv' := [(4, .int ((g_rro S) ((nI i) : Int32).toNatClampNeg)), (0, .ref (h 0)), (1, .int (nI x1)), (2, .int x2), (3, .int (nI i))]) hx hb dR_findKin_34 hl (by decide) rfl (fun ls hl => ?_)
    refine lv_aload_n hx hb dR_findKin_36 rfl (lv_at hl 1 rfl) ?_
    refine lv_aload_n hx hb dR_findKin_37 rfl (lv_at hl 1 rfl) ?_
    refine va_get (D := D) (ci := 3) (v := .ref (h 1)) (C := RR) (T := TR) (N := 13) hx hb hts hinR hown hK hP 0 rfl rfl 1 (by decide) (hts _ uw217) (fun _ h9 => h9) rfl dR_findKin_38 ?_
    refine lv_iload_n hx hb dR_findKin_41 rfl (lv_at hl 3 rfl) ?_
    have k42 : ¬ (ob (x2 : Int32) 24) := fun z => by rw [if_pos z] at hv; cases hv
    rw [if_neg k42] at hv
    refine va_iald hx hb hK hP 1 0 rfl rfl (k42) dR_findKin_42 ?_
    refine lv_iload hx hb dR_findKin_43 (lv_at hl 0 rfl) ?_
    obtain ⟨r45, e45, hv⟩ := bsome hv
    refine qVl (rest := []) ⟨hx, hb, hml, hown, hts⟩ (kR_kinOf l D Y h n hn S ((g_rmo S) (x2 : Int32).toNatClampNeg) ((g_rro S) ((nI i) : Int32).toNatClampNeg) r45 e45) (cwV 2 hts (gV uw223 uw224 uw225 uw213 ucR_kinOf) rfl rfl rfl hvR_kinOf ⟨Nat.le_of_ble_eq_true rfl, Nat.le_of_ble_eq_true rfl⟩) hK hP (va_recv hK hP (ci := 3) (q0 := 0) rfl rfl) rfl hl.1 rfl (Nat.le_of_ble_eq_true rfl) dR_findKin_45 ⟨Nat.le_of_ble_eq_true rfl, Nat.le_of_ble_eq_true rfl⟩ ?_
    refine lv_aload_n hx hb dR_findKin_48 rfl (lv_at hl 1 rfl) ?_
    refine lv_aload_n hx hb dR_findKin_49 rfl (lv_at hl 1 rfl) ?_
    refine va_get (D := D) (ci := 3) (v := .ref (h 2)) (C := RR) (T := TR) (N := 13) hx hb hts hinR hown hK hP 0 rfl rfl 2 (by decide) (hts _ uw218) (fun _ h9 => h9) rfl dR_findKin_50 ?_
    refine lv_iload_n hx hb dR_findKin_53 rfl (lv_at hl 3 rfl) ?_
    have k54 : ¬ (ob (x2 : Int32) 24) := fun z => by rw [if_pos z] at hv; cases hv
    rw [if_neg k54] at hv
    refine va_iald hx hb hK hP 2 0 rfl rfl (k54) dR_findKin_54 ?_
    refine lv_iload hx hb dR_findKin_55 (lv_at hl 0 rfl) ?_
    obtain ⟨r57, e57, hv⟩ := bsome hv
    refine qVl (rest := [.long r45]) ⟨hx, hb, hml, hown, hts⟩ (kR_kinOf l D Y h n hn S ((g_rfa S) (x2 : Int32).toNatClampNeg) ((g_rro S) ((nI i) : Int32).toNatClampNeg) r57 e57) (cwV 2 hts (gV uw223 uw224 uw225 uw213 ucR_kinOf) rfl rfl rfl hvR_kinOf ⟨Nat.le_of_ble_eq_true rfl, Nat.le_of_ble_eq_true rfl⟩) hK hP (va_recv hK hP (ci := 3) (q0 := 0) rfl rfl) rfl hl.1 rfl (Nat.le_of_ble_eq_true rfl) dR_findKin_57 ⟨Nat.le_of_ble_eq_true rfl, Nat.le_of_ble_eq_true rfl⟩ ?_
    refine lv_ladd hx hb dR_findKin_60 ?_
    refine lv_ldc2 (v := 2) hx hb hown (hts _ uw226) dR_findKin_61 ?_
    refine lv_ldiv hx hb dR_findKin_64 (by decide) ?_
    refine lv_lstore (lv' := [(5, .long ((r45 + r57) / 2)), (4, .int ((g_rro S) ((nI i) : Int32).toNatClampNeg)), (0, .ref (h 0)), (1, .int (nI x1)), (2, .int x2), (3, .int (nI i))]) hx hb dR_findKin_65 hl (by decide) rfl (fun ls hl => ?_)
    refine lv_aload_n hx hb dR_findKin_67 rfl (lv_at hl 2 rfl) ?_
    refine va_get (D := D) (ci := 3) (v := .ref (h 11)) (C := RR) (T := TR) (N := 13) hx hb hts hinR hown hK hP 0 rfl rfl 12 (by decide) (hts _ uw214) (fun _ h9 => h9) rfl dR_findKin_68 ?_
    refine lv_bipush (v := 24) hx hb dR_findKin_71 (by decide) ?_
    refine lv_iload_n hx hb dR_findKin_73 rfl (lv_at hl 4 rfl) ?_
    refine lv_imul hx hb dR_findKin_74 ?_
    refine lv_iload hx hb dR_findKin_75 (lv_at hl 1 rfl) ?_
    refine lv_iadd hx hb dR_findKin_77 ?_
    refine lv_lload hx hb dR_findKin_78 (lv_at hl 0 rfl) ?_
    have k80 : ¬ (ob (((24 * x2) + ((g_rro S) ((nI i) : Int32).toNatClampNeg)) : Int32) 576) := fun z => by rw [if_pos z] at hv; cases hv
    rw [if_neg k80] at hv
    refine va_last hx hb hK hP hD hS 11 1 rfl rfl (k80) dR_findKin_80 (fun H locs hP hD hS => ?_)
    have hP : va_P D vwCl (wR Y h n (r_rki S (vp_updL (g_rki S) (((24 * x2) + ((g_rro S) ((nI i) : Int32).toNatClampNeg)) : Int32).toNatClampNeg ((r45 + r57) / 2)))) H := hP
    have hD : va_D A (wR Y h n (r_rki S (vp_updL (g_rki S) (((24 * x2) + ((g_rro S) ((nI i) : Int32).toNatClampNeg)) : Int32).toNatClampNeg ((r45 + r57) / 2)))) := hD
    refine lv_aload_n hx hb dR_findKin_81 rfl (lv_at hl 2 rfl) ?_
    refine va_get (D := D) (ci := 3) (v := .ref (h 11)) (C := RR) (T := TR) (N := 13) hx hb hts hinR hown hK hP 0 rfl rfl 12 (by decide) (hts _ uw214) (fun _ h9 => h9) rfl dR_findKin_82 ?_
    refine lv_bipush (v := 24) hx hb dR_findKin_85 (by decide) ?_
    refine lv_iload hx hb dR_findKin_87 (lv_at hl 1 rfl) ?_
    refine lv_imul hx hb dR_findKin_89 ?_
    refine lv_iload_n hx hb dR_findKin_90 rfl (lv_at hl 4 rfl) ?_
    refine lv_iadd hx hb dR_findKin_91 ?_
    refine lv_lload hx hb dR_findKin_92 (lv_at hl 0 rfl) ?_
    have k94 : ¬ (ob (((24 * ((g_rro S) ((nI i) : Int32).toNatClampNeg)) + x2) : Int32) 576) := fun z => by rw [if_pos z] at hv; cases hv
    rw [if_neg k94] at hv
    refine va_last hx hb hK hP hD hS 11 1 rfl rfl (k94) dR_findKin_94 (fun H locs hP hD hS => ?_)
    have hP : va_P D vwCl (wR Y h n (r_rki (r_rki S (vp_updL (g_rki S) (((24 * x2) + ((g_rro S) ((nI i) : Int32).toNatClampNeg)) : Int32).toNatClampNeg ((r45 + r57) / 2))) (vp_updL (g_rki (r_rki S (vp_updL (g_rki S) (((24 * x2) + ((g_rro S) ((nI i) : Int32).toNatClampNeg)) : Int32).toNatClampNeg ((r45 + r57) / 2)))) (((24 * ((g_rro S) ((nI i) : Int32).toNatClampNeg)) + x2) : Int32).toNatClampNeg ((r45 + r57) / 2)))) H := hP
    have hD : va_D A (wR Y h n (r_rki (r_rki S (vp_updL (g_rki S) (((24 * x2) + ((g_rro S) ((nI i) : Int32).toNatClampNeg)) : Int32).toNatClampNeg ((r45 + r57) / 2))) (vp_updL (g_rki (r_rki S (vp_updL (g_rki S) (((24 * x2) + ((g_rro S) ((nI i) : Int32).toNatClampNeg)) : Int32).toNatClampNeg ((r45 + r57) / 2)))) (((24 * ((g_rro S) ((nI i) : Int32).toNatClampNeg)) + x2) : Int32).toNatClampNeg ((r45 + r57) / 2)))) := hD
    refine lv_iinc (v := (nI (i + 1))) (lv' := [(3, .int (nI (i + 1))), (5, .long ((r45 + r57) / 2)), (4, .int ((g_rro S) ((nI i) : Int32).toNatClampNeg)), (0, .ref (h 0)), (1, .int (nI x1)), (2, .int x2)]) hx hb dR_findKin_95 hl (k := 5) rfl (nI_1 _) (by decide) rfl (fun ls hl => ?_)
    refine lv_goto (tgt := 23) hx hb dR_findKin_98 (by decide) ?_
    exact ih (i + 1) x1 x2 (r_rki (r_rki S (vp_updL (g_rki S) (((24 * x2) + ((g_rro S) ((nI i) : Int32).toNatClampNeg)) : Int32).toNatClampNeg ((r45 + r57) / 2))) (vp_updL (g_rki (r_rki S (vp_updL (g_rki S) (((24 * x2) + ((g_rro S) ((nI i) : Int32).toNatClampNeg)) : Int32).toNatClampNeg ((r45 + r57) / 2)))) (((24 * ((g_rro S) ((nI i) : Int32).toNatClampNeg)) + x2) : Int32).toNatClampNeg ((r45 + r57) / 2))) _ (by omega) (hx1) hv _ _ hP hD hS ls (lv_sub hl [3, 4, 5, 0] rfl) kk
set_option maxHeartbeats 4000000 in
set_option maxRecDepth 100000 in
theorem tR_findKin_6 {p : Program} {l : Launch} {e : Env} {s : State} {m : MethodId} {args : Array Value} {below : List Frame} {meth : Method} {c : Code} {D : va_G} {Y : Nat → ClassId} {h : Nat → Nat} {n : Nat} (hn : n ≤ 24) {A : Nat → Prop} (hA : ∀ q : Nat, s.heap.size ≤ q → A q) (CF : CallFix p m c cR_findKin 7 s args uT RR) (hr : meth.sig.returnType = none) (hlocks : meth.locks = false) (hK : va_K D vwCl (tysK Y) s) : ∀ (k : Nat) (i : Nat) (S : vR) (v : vR), i + k = n → (fR_findKin_6 n k i S) = some v → ∀ (H : Heap) (locs : List Loc), va_P D vwCl (wR Y h n S) H → va_D A (wR Y h n S) → va_S A s.heap H locs → ∀ ls : Array Slot, lv_has ls 7 [(0, .ref (h 0)), (1, .int (nI i))] → W p l e rmR_findKin s m args below meth c H locs 0 0 (zMv D vwCl (tysK Y) A (wR Y h n) below args s 0 0 v) (F0 m 6 ls []) := by
  obtain ⟨hx, hb, hml, hown, hts⟩ := CF
  intro k
  induction k with
  | zero =>
    intro i  S v hi hv H locs hP hD hS ls hl
    rw [fR_findKin_6] at hv
    refine lv_iload_n hx hb dR_findKin_6 rfl (lv_at hl 1 rfl) ?_
    refine lv_aload_n hx hb dR_findKin_7 rfl (lv_at hl 0 rfl) ?_
    refine va_get (D := D) (ci := 3) (v := .int (nI n)) (C := RR) (T := TR) (N := 13) hx hb hts hinR hown hK hP 0 rfl rfl 0 (by decide) (hts _ uw209) (fun _ h9 => h9) rfl dR_findKin_8 ?_
    refine lv_icmp_ge (tgt := 142) hx hb dR_findKin_11 (by decide) (fun _ => ?_) (fun z => absurd (lp_ge (n := n) hi) z)
    cases hv
    exact zMv_ret (u := S) hx hb hr hlocks hK hP hD hS dR_findKin_142
  | succ k ih =>
    intro i  S v hi hv H locs hP hD hS ls hl
    rw [fR_findKin_6] at hv
    refine lv_iload_n hx hb dR_findKin_6 rfl (lv_at hl 1 rfl) ?_
    refine lv_aload_n hx hb dR_findKin_7 rfl (lv_at hl 0 rfl) ?_
    refine va_get (D := D) (ci := 3) (v := .int (nI n)) (C := RR) (T := TR) (N := 13) hx hb hts hinR hown hK hP 0 rfl rfl 0 (by decide) (hts _ uw209) (fun _ h9 => h9) rfl dR_findKin_8 ?_
    refine lv_icmp_ge (tgt := 142) hx hb dR_findKin_11 (by decide) (fun z => absurd z (lp_lt (n := n) hi (by omega))) (fun _ => ?_)
    refine lv_aload_n hx hb dR_findKin_14 rfl (lv_at hl 0 rfl) ?_
    refine va_get (D := D) (ci := 3) (v := .ref (h 10)) (C := RR) (T := TR) (N := 13) hx hb hts hinR hown hK hP 0 rfl rfl 11 (by decide) (hts _ uw219) (fun _ h9 => h9) rfl dR_findKin_15 ?_
    refine lv_iload_n hx hb dR_findKin_18 rfl (lv_at hl 1 rfl) ?_
    refine va_iald hx hb hK hP 10 0 rfl rfl (vp_in_nI (n := i) (by omega) (by omega)) dR_findKin_19 ?_
    refine lv_istore_n (lv' := [(2, .int ((g_rro S) ((nI i) : Int32).toNatClampNeg)), (0, .ref (h 0)), (1, .int (nI i))]) hx hb dR_findKin_20 rfl hl (by decide) rfl (fun ls hl => ?_)
    refine lv_iconst (v := 0) hx hb dR_findKin_21 (by decide) ?_
    refine lv_istore_n (lv' := [(3, .int 0), (2, .int ((g_rro S) ((nI i) : Int32).toNatClampNeg)), (0, .ref (h 0)), (1, .int (nI i))]) hx hb dR_findKin_22 rfl hl (by decide) rfl (fun ls hl => ?_)
    obtain ⟨r23, e23, hv⟩ := bsome hv
    refine tR_findKin_23 hn hA ⟨hx, hb, hml, hown, hts⟩ hr hlocks hK i 0 i ((g_rro S) ((nI i) : Int32).toNatClampNeg) S _ (by omega) (by omega) e23 _ _ hP hD hS ls (lv_sub hl [2, 3, 1, 0] rfl) (fun H locs hP hD hS ls hl => ?_)
    refine lv_aload_n hx hb dR_findKin_101 rfl (lv_at hl 0 rfl) ?_
    refine va_get (D := D) (ci := 3) (v := .ref (h 11)) (C := RR) (T := TR) (N := 13) hx hb hts hinR hown hK hP 0 rfl rfl 12 (by decide) (hts _ uw214) (fun _ h9 => h9) rfl dR_findKin_102 ?_
    refine lv_bipush (v := 24) hx hb dR_findKin_105 (by decide) ?_
    refine lv_iload_n hx hb dR_findKin_107 rfl (lv_at hl 2 rfl) ?_
    refine lv_imul hx hb dR_findKin_108 ?_
    refine lv_iload_n hx hb dR_findKin_109 rfl (lv_at hl 2 rfl) ?_
    refine lv_iadd hx hb dR_findKin_110 ?_
    refine lv_ldc2 (v := 1125899906842624) hx hb hown (hts _ uw227) dR_findKin_111 ?_
    refine lv_aload_n hx hb dR_findKin_114 rfl (lv_at hl 0 rfl) ?_
    refine lv_aload_n hx hb dR_findKin_115 rfl (lv_at hl 0 rfl) ?_
    refine va_get (D := D) (ci := 3) (v := .ref (h 1)) (C := RR) (T := TR) (N := 13) hx hb hts hinR hown hK hP 0 rfl rfl 1 (by decide) (hts _ uw217) (fun _ h9 => h9) rfl dR_findKin_116 ?_
    refine lv_iload_n hx hb dR_findKin_119 rfl (lv_at hl 2 rfl) ?_
    have k120 : ¬ (ob (((g_rro S) ((nI i) : Int32).toNatClampNeg) : Int32) 24) := fun z => by rw [if_pos z] at hv; cases hv
    rw [if_neg k120] at hv
    refine va_iald hx hb hK hP 1 0 rfl rfl (k120) dR_findKin_120 ?_
    refine lv_aload_n hx hb dR_findKin_121 rfl (lv_at hl 0 rfl) ?_
    refine va_get (D := D) (ci := 3) (v := .ref (h 2)) (C := RR) (T := TR) (N := 13) hx hb hts hinR hown hK hP 0 rfl rfl 2 (by decide) (hts _ uw218) (fun _ h9 => h9) rfl dR_findKin_122 ?_
    refine lv_iload_n hx hb dR_findKin_125 rfl (lv_at hl 2 rfl) ?_
    have k126 : ¬ (ob (((g_rro S) ((nI i) : Int32).toNatClampNeg) : Int32) 24) := fun z => by rw [if_pos z] at hv; cases hv
    rw [if_neg k126] at hv
    refine va_iald hx hb hK hP 2 0 rfl rfl (k126) dR_findKin_126 ?_
    obtain ⟨r127, e127, hv⟩ := bsome hv
    refine qVl (rest := [.long 1125899906842624, .int ((24 * ((g_rro S) ((nI i) : Int32).toNatClampNeg)) + ((g_rro S) ((nI i) : Int32).toNatClampNeg)), .ref (h 11)]) ⟨hx, hb, hml, hown, hts⟩ (kR_kinOf l D Y h n hn r23 ((g_rmo r23) (((g_rro S) ((nI i) : Int32).toNatClampNeg) : Int32).toNatClampNeg) ((g_rfa r23) (((g_rro S) ((nI i) : Int32).toNatClampNeg) : Int32).toNatClampNeg) r127 e127) (cwV 2 hts (gV uw223 uw224 uw225 uw213 ucR_kinOf) rfl rfl rfl hvR_kinOf ⟨Nat.le_of_ble_eq_true rfl, Nat.le_of_ble_eq_true rfl⟩) hK hP (va_recv hK hP (ci := 3) (q0 := 0) rfl rfl) rfl hl.1 rfl (Nat.le_of_ble_eq_true rfl) dR_findKin_127 ⟨Nat.le_of_ble_eq_true rfl, Nat.le_of_ble_eq_true rfl⟩ ?_
    refine lv_ladd hx hb dR_findKin_130 ?_
    refine lv_ldc2 (v := 2) hx hb hown (hts _ uw226) dR_findKin_131 ?_
    refine lv_ldiv hx hb dR_findKin_134 (by decide) ?_
    have k135 : ¬ (ob (((24 * ((g_rro S) ((nI i) : Int32).toNatClampNeg)) + ((g_rro S) ((nI i) : Int32).toNatClampNeg)) : Int32) 576) := fun z => by rw [if_pos z] at hv; cases hv
    rw [if_neg k135] at hv
    refine va_last hx hb hK hP hD hS 11 1 rfl rfl (k135) dR_findKin_135 (fun H locs hP hD hS => ?_)
    have hP : va_P D vwCl (wR Y h n (r_rki r23 (vp_updL (g_rki r23) (((24 * ((g_rro S) ((nI i) : Int32).toNatClampNeg)) + ((g_rro S) ((nI i) : Int32).toNatClampNeg)) : Int32).toNatClampNeg ((1125899906842624 + r127) / 2)))) H := hP
    have hD : va_D A (wR Y h n (r_rki r23 (vp_updL (g_rki r23) (((24 * ((g_rro S) ((nI i) : Int32).toNatClampNeg)) + ((g_rro S) ((nI i) : Int32).toNatClampNeg)) : Int32).toNatClampNeg ((1125899906842624 + r127) / 2)))) := hD
    refine lv_iinc (v := (nI (i + 1))) (lv' := [(1, .int (nI (i + 1))), (0, .ref (h 0)), (2, .int ((g_rro S) ((nI i) : Int32).toNatClampNeg))]) hx hb dR_findKin_136 hl (k := 1) rfl (nI_1 _) (by decide) rfl (fun ls hl => ?_)
    refine lv_goto (tgt := 6) hx hb dR_findKin_139 (by decide) ?_
    exact ih (i + 1) (r_rki r23 (vp_updL (g_rki r23) (((24 * ((g_rro S) ((nI i) : Int32).toNatClampNeg)) + ((g_rro S) ((nI i) : Int32).toNatClampNeg)) : Int32).toNatClampNeg ((1125899906842624 + r127) / 2))) _ (by omega) hv _ _ hP hD hS ls (lv_sub hl [1, 0] rfl)
set_option maxHeartbeats 4000000 in
set_option maxRecDepth 100000 in
theorem kR_findKin (l : Launch) (D : va_G) (Y : Nat → ClassId) (h : Nat → Nat) (n : Nat) (hn : n ≤ 24) (S : vR) (v : vR) (hv : (fR_findKin n S) = some v) (sz : Nat) : Met l yR_findKin wsR_findKin rmR_findKin (va_Pc [.ref (h 0)] (zPreM D vwCl (tysK Y) (wR Y h n S) sz)) (va_Qv (fun u => u = v) (zAt D vwCl (tysK Y) (va_A (wR Y h n S) sz) (wR Y h n)) (va_A (wR Y h n S) sz)) 0 0 (va_A (wR Y h n S) sz) := by
  refine Met.ofW (cc := cR_findKin) (maxL := 7) (ret := none) (by decide) rfl ?_
  intro p e s m args below meth c s₁ B hml hvv
  obtain ⟨rfl, hsz, hP, hK, hD0⟩ := hvv
  have hx := B.exec
  have hb := B.bytes
  have hr := B.returns
  have hts : ∀ w ∈ uT, w.before _ s = true := fun w hw => atoms_spec (ws := wsR_findKin) B.pre w (List.mem_cons_of_mem _ hw)
  have hown : s.vm.findClass RR = some m.cls := findClass_of_methodNamed B.named
  have hlocks := B.notSynchronized
  subst hsz
  have hD := hD0.self (sz := s.heap.size)
  generalize hAe : va_A (wR Y h n S) s.heap.size = A at hD ⊢
  have hA : ∀ q : Nat, s.heap.size ≤ q → A q := fun q h => by rw [← hAe]; exact Or.inr h
  have hS : va_S A s.heap s.heap [] := va_S.rf
  have hl := lv_entry ([.ref (h 0)]) (n := 7) (Nat.le_of_ble_eq_true rfl)
  rw [lg_entry_eq]
  generalize (lg_sl ([.ref (h 0)]) ++ List.replicate (7 - (lg_sl ([.ref (h 0)])).length) Slot.unset).toArray = ls at hl ⊢
  have hl : lv_has ls 7 [(0, .ref (h 0))] := hl
  unfold fR_findKin at hv
  show W p l e rmR_findKin s m _ below meth c s.heap [] 0 0 (zMv D vwCl (tysK Y) A (wR Y h n) below _ s 0 0 v) (F0 m 0 ls [])
  refine lv_aload_n hx hb dR_findKin_0 rfl (lv_at hl 0 rfl) ?_
  obtain ⟨r1, e1, hv⟩ := bsome hv
  refine qNVv (w := wR Y h n) (rest := []) ⟨hx, hb, hml, hown, hts⟩ (kR_find l D Y h n hn S r1 e1 _) (cwV 0 hts (gV uw220 uw221 uw222 uw213 ucR_find) rfl rfl rfl hvR_find ⟨Nat.le_of_ble_eq_true rfl, Nat.le_of_ble_eq_true rfl⟩) hK hP hD hS hA (va_recv hK hP (ci := 3) (q0 := 0) rfl rfl) rfl hl.1 rfl (Nat.le_of_ble_eq_true rfl) dR_findKin_1 ⟨Nat.le_of_ble_eq_true rfl, Nat.le_of_ble_eq_true rfl⟩ (fun H locs hP hD hS => ?_)
  refine lv_iconst (v := 0) hx hb dR_findKin_4 (by decide) ?_
  refine lv_istore_n (lv' := [(1, .int 0), (0, .ref (h 0))]) hx hb dR_findKin_5 rfl hl (by decide) rfl (fun ls hl => ?_)
  exact tR_findKin_6 hn hA ⟨hx, hb, hml, hown, hts⟩ hr hlocks hK n 0 r1 _ (by omega) hv _ _ hP hD hS ls (lv_sub hl [1, 0] rfl)
