theorem dL_cell_0 : decode cL_cell 0 = .ok (.iload_n 1, 1) := by decide +kernel
theorem dL_cell_1 : decode cL_cell 1 = .ok (.aload_n 0, 1) := by decide +kernel
theorem dL_cell_2 : decode cL_cell 2 = .ok (.arraylength, 1) := by decide +kernel
theorem dL_cell_3 : decode cL_cell 3 = .ok (.if_icmp .ge 9, 3) := by decide +kernel
theorem dL_cell_6 : decode cL_cell 6 = .ok (.aload_n 0, 1) := by decide +kernel
theorem dL_cell_7 : decode cL_cell 7 = .ok (.iload_n 1, 1) := by decide +kernel
theorem dL_cell_8 : decode cL_cell 8 = .ok (.iaload, 1) := by decide +kernel
theorem dL_cell_9 : decode cL_cell 9 = .ok (.goto 4, 3) := by decide +kernel
theorem dL_cell_12 : decode cL_cell 12 = .ok (.iconst 0, 1) := by decide +kernel
theorem dL_cell_13 : decode cL_cell 13 = .ok (.ireturn, 1) := by decide +kernel
abbrev rmL_cell : Room := { frames := 0, cells := 0, slots := 0, locals := 0 }
def fL_cell (L : Nat) (xs : Nat → Int32) : Int32 := if nI L ≤ 0 then 0 else xs (0 : Int32).toNatClampNeg
set_option maxHeartbeats 4000000 in
set_option maxRecDepth 100000 in
theorem kL_cell (l : Launch) (b L : Nat) (xs : Nat → Int32) (hL : L ≤ 2049) : Met l yL_cell wsL_cell rmL_cell (va_Pc [.ref b, .int 0] (fun U => va_X b L xs U U.heap)) (vp_Si (fun r => r = fL_cell L xs)) 0 0 (fun _ => False) := by
  refine Met.ofW (cc := cL_cell) (maxL := 2) (ret := (some .int)) (by decide) rfl ?_
  intro p e s m args below meth c s₁ B hml hv
  obtain ⟨rfl, hX⟩ := hv
  have hx := B.exec
  have hb := B.bytes
  have hr := B.returns
  have hlocks := B.notSynchronized
  have hbl : b < s.heap.size := by
    obtain ⟨scr, h1, -⟩ := hX
    exact (Array.getElem?_eq_some_iff.mp h1).1
  have hbA : ¬ (fun q : Nat => s.heap.size ≤ q) b := Nat.not_le.mpr hbl
  have hS : va_S (fun q : Nat => s.heap.size ≤ q) s.heap s.heap [] := va_S.rf
  have hl := lv_entry ([.ref b, .int 0]) (n := 2) (Nat.le_of_ble_eq_true rfl)
  rw [lg_entry_eq]
  generalize (lg_sl ([.ref b, .int 0]) ++ List.replicate (2 - (lg_sl ([.ref b, .int 0])).length) Slot.unset).toArray = ls at hl ⊢
  have hl : lv_has ls 2 [(0, .ref b), (1, .int 0)] := hl
  show W p l e rmL_cell s m _ below meth c s.heap [] 0 0 (zI below _ s (fL_cell L xs)) (F0 m 0 ls [])
  unfold fL_cell
  refine lv_iload_n hx hb dL_cell_0 rfl (lv_at hl 1 rfl) ?_
  refine lv_aload_n hx hb dL_cell_1 rfl (lv_at hl 0 rfl) ?_
  refine va_slen hx hb hX hbl hbA hS dL_cell_2 ?_
  refine zif (C := nI L ≤ 0) (fun c3 => ?_) (fun c3 => ?_)
  · refine lv_icmp_ge (tgt := 12) hx hb dL_cell_3 (by decide) (fun _ => ?_) (fun z => absurd c3 z)
    refine lv_iconst (v := 0) hx hb dL_cell_12 (by decide) ?_
    exact zI_ret hx hb hr hlocks dL_cell_13
  · refine lv_icmp_ge (tgt := 12) hx hb dL_cell_3 (by decide) (fun z => absurd z c3) (fun _ => ?_)
    refine lv_aload_n hx hb dL_cell_6 rfl (lv_at hl 0 rfl) ?_
    refine lv_iload_n hx hb dL_cell_7 rfl (lv_at hl 1 rfl) ?_
    have h0 : vp_in 0 L := by
      rcases Nat.eq_zero_or_pos L with q | q
      · subst q; exact absurd (by decide) c3
      · exact vp_in_nI (n := 0) q (by omega)
    refine va_sld hx hb hX hbl hbA hS h0 dL_cell_8 ?_
    refine lv_goto (tgt := 13) hx hb dL_cell_9 (by decide) ?_
    exact zI_ret hx hb hr hlocks dL_cell_13
theorem cell_blind {b L : Nat} {xs : Nat → Int32} : FrameBlind (va_Pc [.ref b, .int 0] (fun U => va_X b L xs U U.heap)) := fun a U g mk q => ⟨q.1, va_X.moved (u := U) (U := U.calling g mk a) (Vm.Alike.refl U.vm) q.2⟩
theorem cell_at {s : State} {H : Heap} {locs : List Loc} {A : Nat → Prop} {b L : Nat} {xs : Nat → Int32} (hX : va_X b L xs s s.heap) (hbl : b < s.heap.size) (hbA : ¬ A b) (hS : va_S A s.heap H locs) : ∀ U : State, U.heap = H → s.WarmedH U.vm → va_Pc [.ref b, .int 0] (fun U => va_X b L xs U U.heap) ([.ref b, .int 0] : List Value).toArray U := fun U hU hW => ⟨rfl, by show va_X b L xs U U.heap; rw [hU]; exact va_X.moved hW.alike (hX.kept (hS.2.1 b hbl hbA))⟩
theorem q_cell {p : Program} {l : Launch} {e : Env} {R : Room} {s : State} {m : MethodId} {below : List Frame} {meth : Method} {c : Code} {H : Heap} {locs : List Loc} {cells slots : Nat} {Q : State → Prop} {pc : Nat} {ls : Array Slot} {rest : List Value} {b L idx : Nat} {xs : Nat → Int32} {A : Nat → Prop} (hL : L ≤ 2049) (CF : CallFix p m c code 4 s #[Value.ref b] uT RL) (cw : CallB R s #[Value.ref b] RL idx yL_cell cL_cell 2 (some .int) wsL_cell rmL_cell 0 0 2 ∧ (Cond.static yL_cell).before #[Value.ref b] s = true) (hX : va_X b L xs s s.heap) (hbl : b < s.heap.size) (hbA : ¬ A b) (hS : va_S A s.heap H locs) (hsz : ls.size = 4) (hW : (rest.map fun v => v.category).sum ≤ 8) (hdg : decode code pc = .ok (.invokestatic idx, 3)) (hf : cells ≤ R.cells ∧ slots ≤ R.slots)
    (kk : W p l e R s m #[Value.ref b] below meth c H locs cells slots Q (F0 m (pc + 3) ls (.int (fL_cell L xs) :: rest))) : W p l e R s m #[Value.ref b] below meth c H locs cells slots Q (F0 m pc ls (.int 0 :: .ref b :: rest)) :=
  vp_callSi (W.runS CF (kL_cell l b L xs hL) cw ⟨cell_blind, cell_at hX hbl hbA hS⟩ rfl rfl hsz rfl (lv_room hW) hdg hf) (fun r hr => by subst hr; exact kk)
theorem law_n (a : Int32) : ∃ n : Nat, 1 ≤ n ∧ n ≤ 24 ∧ fJ_max 1 (fJ_min a 24) = nI n ∧ (if (1 : Int32) ≤ a then (if a ≤ 24 then a else 24) else 1) = nI n := by
  have t1 : (1 : Int32).toInt = 1 := by decide
  have t24 : (24 : Int32).toInt = 24 := by decide
  by_cases h1 : (1 : Int32) ≤ a
  · have h0 : ¬ a < 0 := by
      rw [Int32.lt_iff_toInt_lt]
      rw [Int32.le_iff_toInt_le] at h1
      have : (0 : Int32).toInt = 0 := by decide
      omega
    obtain ⟨j, hj, rfl⟩ := nI_of h0
    have ej := nI_toInt hj
    rw [if_pos h1]
    rw [Int32.le_iff_toInt_le, t1, ej] at h1
    by_cases h2 : nI j ≤ 24
    · rw [if_pos h2]
      rw [Int32.le_iff_toInt_le, t24, ej] at h2
      refine ⟨j, by omega, by omega, ?_, rfl⟩
      have h3 : ¬ (24 : Int32) < nI j := by rw [Int32.lt_iff_toInt_lt, t24, ej]; omega
      rw [fJ_min, if_neg h3, fJ_max]
      split
      · rfl
      · rename_i h4
        rw [Int32.lt_iff_toInt_lt, t1, ej] at h4
        have : j = 1 := by omega
        subst this
        rfl
    · rw [if_neg h2]
      rw [Int32.le_iff_toInt_le, t24, ej] at h2
      have h3 : (24 : Int32) < nI j := by rw [Int32.lt_iff_toInt_lt, t24, ej]; omega
      refine ⟨24, by omega, by omega, ?_, rfl⟩
      rw [fJ_min, if_pos h3]
      rfl
  · rw [if_neg h1]
    rw [Int32.le_iff_toInt_le, t1] at h1
    have h3 : ¬ (24 : Int32) < a := by rw [Int32.lt_iff_toInt_lt, t24]; omega
    have h4 : ¬ (1 : Int32) < a := by rw [Int32.lt_iff_toInt_lt, t1]; omega
    refine ⟨1, by omega, by omega, ?_, rfl⟩
    rw [fJ_min, if_neg h3, fJ_max, if_neg h4]
    rfl
theorem law_arr {s : State} {args : Array Value} {ty : FieldType} (h : (Cond.arrayClass ty).before args s = true) : ∃ cA : ClassId, ArrOfT s cA ty ∧ s.vm.findClass ("[" ++ ty.toString) = some cA := by
  obtain ⟨cA, kA, comp, h1, h2, h3⟩ := Cond.arrayClass_spec h
  exact ⟨cA, fun n z => ⟨fun k h => (by cases h), kA, h2, comp, h3⟩, h1⟩

set_option maxHeartbeats 4000000 in
set_option maxRecDepth 100000 in
/-- THE LAW, from its entry -/
theorem whole_start {p : Program} {e : Env} {s : State} {m : MethodId} {below : List Frame} {meth : Method} {c : Code} (l : Launch) {b L : Nat} {xs : Nat → Int32} (hL : L ≤ 2049) (C0 : lw_At p s m meth c b L xs) : W p l e room_1 s m #[Value.ref b] below meth c s.heap [] 0 0 (lw_Z below #[Value.ref b] s) (entryFrame m ([Value.ref b] : List Value).toArray 4) := by
  obtain ⟨hx, hb, hr, hml, hown, hts0, hX, hbl, hlocks, hgv⟩ := id C0
  have hts : ∀ w ∈ uT, w.before #[Value.ref b] s = true := fun w h => hts0 w (List.mem_filter.mp h).1
  have hA : ∀ q : Nat, s.heap.size ≤ q → (fun q : Nat => s.heap.size ≤ q) q := fun _ h => h
  have hbA : ¬ (fun q : Nat => s.heap.size ≤ q) b := Nat.not_le.mpr hbl
  obtain ⟨c0, iS0, hKn0⟩ := u_known (C := RK) (T := TK) (N := 6) (n := 6) hts hinK (hts _ uw369)
  obtain ⟨c1, iS1, hKn1⟩ := u_known (C := RP) (T := TP) (N := 10) (n := 10) hts hinP (hts _ uw201)
  obtain ⟨c2, iS2, hKn2⟩ := u_known (C := RM) (T := TM) (N := 2) (n := 2) hts hinM (hts _ uw205)
  obtain ⟨c3, iS3, hKn3⟩ := u_known (C := RR) (T := TR) (N := 13) (n := 13) hts hinR (hts _ uw370)
  obtain ⟨cI, aI, rI⟩ := law_arr (hts _ uw191)
  obtain ⟨cJ, aJ, rJ⟩ := law_arr (hts _ uw192)
  obtain ⟨cZ, aZ, rZ⟩ := law_arr (hts _ uw196)
  obtain ⟨D, hKc⟩ : ∃ D : va_G, ∀ (k : Nat) (q : vw_C), vwCl[k]? = some q → u_Kn s q.1 q.2.1 q.2.2 (D.1 k) (D.2 k) := by
    refine ⟨(fun k => if k = 0 then c0 else if k = 1 then c1 else if k = 2 then c2 else c3, fun k => if k = 0 then iS0 else if k = 1 then iS1 else if k = 2 then iS2 else iS3), ?_⟩
    intro k q hq
    match k, hq with
    | 0, hq => cases hq; exact hKn0
    | 1, hq => cases hq; exact hKn1
    | 2, hq => cases hq; exact hKn2
    | 3, hq => cases hq; exact hKn3
    | k + 4, hq => simp [vwCl] at hq
  obtain ⟨Y, hKt⟩ : ∃ Y : Nat → ClassId, ∀ (k : Nat) (q : ClassId × FieldType), (tysK Y)[k]? = some q → ArrOfT s q.1 q.2 ∧ va_RA s q.1 q.2 := by
    refine ⟨fun k => if k = 0 then cI else if k = 1 then cJ else cZ, ?_⟩
    intro k q hq
    match k, hq with
    | 0, hq => cases hq; exact ⟨aI, rI⟩
    | 1, hq => cases hq; exact ⟨aJ, rJ⟩
    | 2, hq => cases hq; exact ⟨aZ, rZ⟩
    | k + 3, hq => simp [tysK] at hq
  have hK : va_K D vwCl (tysK Y) s := ⟨hKc, hKt⟩
  have hS : va_S (fun q : Nat => s.heap.size ≤ q) s.heap s.heap [] := va_S.rf
  have hP : va_P D vwCl [] s.heap := fun k q h => by simp at h
  have hD : va_D (fun q : Nat => s.heap.size ≤ q) [] := ⟨fun i j p q h => by simp at h, fun k q h => by simp at h⟩
  have hl := lv_entry ([.ref b]) (n := 4) (Nat.le_of_ble_eq_true rfl)
  rw [lg_entry_eq]
  generalize (lg_sl ([.ref b]) ++ List.replicate (4 - (lg_sl ([.ref b])).length) Slot.unset).toArray = ls at hl ⊢
  have hl : lv_has ls 4 [(0, .ref b)] := hl
  obtain ⟨n, h1n, hn, en, en2⟩ := law_n (fL_cell L xs)
  refine va_new (ci := 0) (fs := [.null, .null, .int 0, .null, .null, .null]) (C := RK) (T := TK) (N := 6) hx hb hts hinK tyK tyK_ok hown (hts _ uw371) (hts _ uw369) (hts _ uw116) hK hP hD hS hA rfl (fun j hj => by rcases (show j = 0 ∨ j = 1 ∨ j = 2 ∨ j = 3 ∨ j = 4 ∨ j = 5 by omega) with rfl | rfl | rfl | rfl | rfl | rfl <;> rfl) (Nat.le_of_ble_eq_true rfl) (Nat.le_of_ble_eq_true rfl) dL_law_0 (fun q H hP hD hS => ?_)
  have hP : va_P D vwCl [(q, .inr (0, [.null, .null, .int 0, .null, .null, .null]))] H := hP
  have hD : va_D (fun q : Nat => s.heap.size ≤ q) [(q, .inr (0, [.null, .null, .int 0, .null, .null, .null]))] := hD
  refine lv_dup hx hb dL_law_3 rfl ?_
  refine lv_aload_n hx hb dL_law_4 rfl (lv_at hl 0 rfl) ?_
  refine lv_iconst (v := 0) hx hb dL_law_5 (by decide) ?_
  refine q_cell (rest := [.ref q, .ref q]) hL ⟨hx, hb, hml, hown, hts⟩ (va_cwS 2 hts (gS uw372 uw373 uw374 ucL_cell) rfl rfl rfl hsL_cell ⟨Nat.le_of_ble_eq_true rfl, Nat.le_of_ble_eq_true rfl⟩) hX hbl hbA hS hl.1 (Nat.le_of_ble_eq_true rfl) dL_law_6 ⟨Nat.le_of_ble_eq_true rfl, Nat.le_of_ble_eq_true rfl⟩ ?_
  refine qMIc (w := fun h S => wK Y h n S) (b := q) (As := [.int (fL_cell L xs)]) (mc := 14) (ms := 925) (ws := [(q, .inr (0, [.null, .null, .int 0, .null, .null, .null]))]) (wc := [(q, .inr (0, [.null, .null, .int 0, .null, .null, .null]))]) (wr := []) (rest := [.ref q]) ⟨hx, hb, hml, hown, hts⟩ (kK_init l D Y q (fL_cell L xs) n hn en _) (cwI 1 hts (gI ucK_init) rfl rfl rfl (hts _ uw116) (hts _ uw375) (hts _ uw376) rfl hsK_init ⟨Nat.le_of_ble_eq_true rfl, Nat.le_of_ble_eq_true rfl⟩) hK hP hD hS hA [0] [] rfl rfl (by decide) (by decide) (by decide) rfl hl.1 rfl (Nat.le_of_ble_eq_true rfl) dL_law_9 ⟨Nat.le_of_ble_eq_true rfl, Nat.le_of_ble_eq_true rfl⟩ (fun h eh H locs hP2 hD2 hS2 => ?_)
  clear hP hD hS
  have eh : q = h 0 := eh.symm
  subst eh
  have hP : va_P D vwCl (wK Y h n (fK_init n)) H := hP2
  have hD : va_D (fun q : Nat => s.heap.size ≤ q) (wK Y h n (fK_init n)) := hD2
  have hS := hS2
  refine lv_astore_n (lv' := [(1, .ref (h 0)), (0, .ref b)]) hx hb dL_law_12 rfl hl (by decide) rfl (fun ls hl => ?_)
  refine va_new (ci := 3) (fs := [.int 0, .null, .null, .null, .null, .null, .null, .int 0, .null, .null, .null, .null, .null]) (C := RR) (T := TR) (N := 13) hx hb hts hinR tyR tyR_ok hown (hts _ uw377) (hts _ uw370) (hts _ uw213) hK hP hD hS hA rfl (fun j hj => by rcases (show j = 0 ∨ j = 1 ∨ j = 2 ∨ j = 3 ∨ j = 4 ∨ j = 5 ∨ j = 6 ∨ j = 7 ∨ j = 8 ∨ j = 9 ∨ j = 10 ∨ j = 11 ∨ j = 12 by omega) with rfl | rfl | rfl | rfl | rfl | rfl | rfl | rfl | rfl | rfl | rfl | rfl | rfl <;> rfl) (Nat.le_of_ble_eq_true rfl) (Nat.le_of_ble_eq_true rfl) dL_law_13 (fun q H hP hD hS => ?_)
  have hP : va_P D vwCl (wK Y h n (fK_init n) ++ [(q, .inr (3, [.int 0, .null, .null, .null, .null, .null, .null, .int 0, .null, .null, .null, .null, .null]))]) H := hP
  have hD : va_D (fun q : Nat => s.heap.size ≤ q) (wK Y h n (fK_init n) ++ [(q, .inr (3, [.int 0, .null, .null, .null, .null, .null, .null, .int 0, .null, .null, .null, .null, .null]))]) := hD
  refine lv_dup hx hb dL_law_16 rfl ?_
  refine lv_aload_n hx hb dL_law_17 rfl (lv_at hl 1 rfl) ?_
  refine lv_iconst (v := 0) hx hb dL_law_18 (by decide) ?_
  refine q_cell (rest := [.ref q, .ref q]) hL ⟨hx, hb, hml, hown, hts⟩ (va_cwS 2 hts (gS uw372 uw373 uw374 ucL_cell) rfl rfl rfl hsL_cell ⟨Nat.le_of_ble_eq_true rfl, Nat.le_of_ble_eq_true rfl⟩) hX hbl hbA hS hl.1 (Nat.le_of_ble_eq_true rfl) dL_law_19 ⟨Nat.le_of_ble_eq_true rfl, Nat.le_of_ble_eq_true rfl⟩ ?_
  refine qMIc (w := fun h S => wR Y h n S) (b := q) (As := [.int (fL_cell L xs)]) (mc := 11) (ms := 1446) (ws := wK Y h n (fK_init n) ++ [(q, .inr (3, [.int 0, .null, .null, .null, .null, .null, .null, .int 0, .null, .null, .null, .null, .null]))]) (wc := [(q, .inr (3, [.int 0, .null, .null, .null, .null, .null, .null, .int 0, .null, .null, .null, .null, .null]))]) (wr := wK Y h n (fK_init n)) (rest := [.ref q]) ⟨hx, hb, hml, hown, hts⟩ (kR_init l D Y q (fL_cell L xs) n hn en2 _) (cwI 1 hts (gI ucR_init) rfl rfl rfl (hts _ uw213) (hts _ uw378) (hts _ uw379) rfl hsR_init ⟨Nat.le_of_ble_eq_true rfl, Nat.le_of_ble_eq_true rfl⟩) hK hP hD hS hA [15] [0, 1, 2, 3, 4, 5, 6, 7, 8, 9, 10, 11, 12, 13, 14] rfl rfl (by decide) (by decide) (by decide) rfl hl.1 rfl (Nat.le_of_ble_eq_true rfl) dL_law_22 ⟨Nat.le_of_ble_eq_true rfl, Nat.le_of_ble_eq_true rfl⟩ (fun h' eh H locs hP2 hD2 hS2 => ?_)
  clear hP hD hS
  have eh : q = h' 0 := eh.symm
  subst eh
  refine lv_astore_n (lv' := [(2, .ref (h' 0)), (1, .ref (h 0)), (0, .ref b)]) hx hb dL_law_25 rfl hl (by decide) rfl (fun ls hl => ?_)
  refine lv_iconst (v := 1) hx hb dL_law_26 (by decide) ?_
  refine lv_istore_n (lv' := [(3, .int 1), (2, .ref (h' 0)), (1, .ref (h 0)), (0, .ref b)]) hx hb dL_law_27 rfl hl (by decide) rfl (fun ls hl => ?_)
  exact law_loop hL hn C0 hK (L + 1) 1 (fK_init n) (fR_init n) (by omega) (by omega) (rel_init h1n hn) h h' _ _ hP2 hD2 hS2 ls (lv_sub hl [3, 2, 1, 0] rfl)
