/-- behind a call that was answered alike: the next one -/
theorem law_next {p : Program} {l : Launch} {e : Env} {s : State} {m : MethodId} {args : Array Value} {below : List Frame} {meth : Method} {c : Code} {H : Heap} {locs : List Loc} {cells slots : Nat} {Q : State → Prop} {b a1 a2 j : Nat} {ls : Array Slot} (hx : p.tables.exec = Jvm.exec) (hb : c.code = code)
    (kk : ∀ ls : Array Slot, lv_has ls 4 [(0, .ref b), (1, .ref a1), (2, .ref a2), (3, .int (nI (j + 4)))] → W p l e room_1 s m args below meth c H locs cells slots Q (F0 m 28 ls [])) (hl : lv_has ls 4 [(0, .ref b), (1, .ref a1), (2, .ref a2), (3, .int (nI j))]) : W p l e room_1 s m args below meth c H locs cells slots Q (F0 m 738 ls []) := by
  refine lv_iinc (v := nI (j + 4)) (lv' := [(3, .int (nI (j + 4))), (0, .ref b), (1, .ref a1), (2, .ref a2)]) hx hb dL_law_738 hl (k := 3) rfl (nI_add j 4) (by decide) rfl (fun ls hl => ?_)
  refine lv_goto (tgt := 28) hx hb dL_law_741 (by decide) ?_
  exact kk ls (lv_sub hl [1, 2, 3, 0] rfl)
theorem lgc_eq {x y : Int64} (h : x = y) : lg_cmp x y = 0 := by subst h; simp [lg_cmp]
theorem zlK {D : va_G} {cl : List vw_C} {Y : Nat → ClassId} {h h' : Nat → Nat} {n : Nat} {S : vK} {T : vR} {H : Heap} (hP : va_P D cl (wK Y h n S ++ wR Y h' n T) H) : va_P D cl (wK Y h n S) H := zsub [0, 1, 2, 3, 4, 5, 6, 7, 8, 9, 10, 11, 12, 13, 14] hP rfl
theorem zlR {D : va_G} {cl : List vw_C} {Y : Nat → ClassId} {h h' : Nat → Nat} {n : Nat} {S : vK} {T : vR} {H : Heap} (hP : va_P D cl (wK Y h n S ++ wR Y h' n T) H) : va_P D cl (wR Y h' n T) H := zsub [15, 16, 17, 18, 19, 20, 21, 22, 23, 24, 25, 26] hP rfl
theorem law_len {L j : Nat} (hL : L ≤ 2049) (hj : j ≤ 2053) (h : ¬ nI L - 4 < nI j) : j + 4 ≤ L := by
  rcases Nat.lt_or_ge L (j + 4) with q | q
  · refine absurd ?_ h
    rw [Int32.lt_iff_toInt_lt, nI_toInt (by omega)]
    show (nI L - nI 4).toInt < _
    rw [pk_sub_toInt (by omega) (by decide)]
    omega
  · exact q
theorem law_in {L j c : Nat} (hL : L ≤ 2049) (h : j + 4 ≤ L) (hc : c < 4) : vp_in (nI j + nI c) L := by
  rw [nI_add]
  exact vp_in_nI (by omega) (by omega)
theorem sw_out17 {x : Int32} (h0 : ¬ x = 0) (h1 : ¬ x = 1) (h2 : ¬ x = 2) (h3 : ¬ x = 3) (h4 : ¬ x = 4) (h5 : ¬ x = 5) (h6 : ¬ x = 6) (h7 : ¬ x = 7) (h8 : ¬ x = 8) (h9 : ¬ x = 9) (h10 : ¬ x = 10) (h11 : ¬ x = 11) (h12 : ¬ x = 12) (h13 : ¬ x = 13) (h14 : ¬ x = 14) (h15 : ¬ x = 15) (h16 : ¬ x = 16) : x.toInt < 0 ∨ 16 < x.toInt := by
  have a0 := sw_i (a := 0) h0 rfl
  have a1 := sw_i (a := 1) h1 rfl
  have a2 := sw_i (a := 2) h2 rfl
  have a3 := sw_i (a := 3) h3 rfl
  have a4 := sw_i (a := 4) h4 rfl
  have a5 := sw_i (a := 5) h5 rfl
  have a6 := sw_i (a := 6) h6 rfl
  have a7 := sw_i (a := 7) h7 rfl
  have a8 := sw_i (a := 8) h8 rfl
  have a9 := sw_i (a := 9) h9 rfl
  have a10 := sw_i (a := 10) h10 rfl
  have a11 := sw_i (a := 11) h11 rfl
  have a12 := sw_i (a := 12) h12 rfl
  have a13 := sw_i (a := 13) h13 rfl
  have a14 := sw_i (a := 14) h14 rfl
  have a15 := sw_i (a := 15) h15 rfl
  have a16 := sw_i (a := 16) h16 rfl
  omega
set_option maxHeartbeats 4000000 in
set_option maxRecDepth 100000 in
theorem law_c0 {p : Program} {l : Launch} {e : Env} {s : State} {m : MethodId} {below : List Frame} {meth : Method} {c : Code} {D : va_G} {Y : Nat → ClassId} {b L n : Nat} {xs : Nat → Int32} (hL : L ≤ 2049) (hn : n ≤ 24) (C0 : lw_At p s m meth c b L xs) (hK : va_K D vwCl (tysK Y) s) {k : Nat} (ih : ∀ (j : Nat) (S : vK) (T : vR), L + 1 ≤ j + k → j ≤ 2053 → Rel n S T → ∀ (h h' : Nat → Nat) (H : Heap) (locs : List Loc), va_P D vwCl (wK Y h n S ++ wR Y h' n T) H → va_D (fun q : Nat => s.heap.size ≤ q) (wK Y h n S ++ wR Y h' n T) → va_S (fun q : Nat => s.heap.size ≤ q) s.heap H locs → ∀ ls : Array Slot, lv_has ls 4 [(0, .ref b), (1, .ref (h 0)), (2, .ref (h' 0)), (3, .int (nI j))] → W p l e room_1 s m #[Value.ref b] below meth c H locs 27 2390 (lw_Z below #[Value.ref b] s) (F0 m 28 ls [])) (j : Nat) (S : vK) (T : vR) (hj : L + 1 ≤ j + (k + 1)) (hj2 : j ≤ 2053) (hR : Rel n S T) (hjL : j + 4 ≤ L) (h h' : Nat → Nat) (H : Heap) (locs : List Loc) (hP : va_P D vwCl (wK Y h n S ++ wR Y h' n T) H) (hD : va_D (fun q : Nat => s.heap.size ≤ q) (wK Y h n S ++ wR Y h' n T)) (hS : va_S (fun q : Nat => s.heap.size ≤ q) s.heap H locs) (ls : Array Slot) (hl : lv_has ls 4 [(0, .ref b), (1, .ref (h 0)), (2, .ref (h' 0)), (3, .int (nI j))]) : W p l e room_1 s m #[Value.ref b] below meth c H locs 27 2390 (lw_Z below #[Value.ref b] s) (F0 m 124 ls []) := by
      obtain ⟨hx, hb, hr, hml, hown, hts0, hX, hbl, hlocks, hgv⟩ := C0
      have hts : ∀ w ∈ uT, w.before #[Value.ref b] s = true := fun w h => hts0 w (List.mem_filter.mp h).1
      have hA : ∀ q : Nat, s.heap.size ≤ q → (fun q : Nat => s.heap.size ≤ q) q := fun _ h => h
      have hbA : ¬ (fun q : Nat => s.heap.size ≤ q) b := Nat.not_le.mpr hbl
      have hi1 : vp_in (nI j + 1) L := law_in (c := 1) hL hjL (by decide)
      have hi2 : vp_in (nI j + 2) L := law_in (c := 2) hL hjL (by decide)
      have hi3 : vp_in (nI j + 3) L := law_in (c := 3) hL hjL (by decide)
      obtain ⟨v, ev, e1, hR⟩ := rel_parents hR (xs (nI j + 1).toNatClampNeg) (xs (nI j + 2).toNatClampNeg) (xs (nI j + 3).toNatClampNeg)
      refine lv_aload_n hx hb dL_law_124 rfl (lv_at hl 1 rfl) ?_
      refine lv_aload_n hx hb dL_law_125 rfl (lv_at hl 0 rfl) ?_
      refine lv_iload_n hx hb dL_law_126 rfl (lv_at hl 3 rfl) ?_
      refine lv_iconst (v := 1) hx hb dL_law_127 (by decide) ?_
      refine lv_iadd hx hb dL_law_128 ?_
      refine va_sld hx hb hX hbl hbA hS hi1 dL_law_129 ?_
      refine lv_aload_n hx hb dL_law_130 rfl (lv_at hl 0 rfl) ?_
      refine lv_iload_n hx hb dL_law_131 rfl (lv_at hl 3 rfl) ?_
      refine lv_iconst (v := 2) hx hb dL_law_132 (by decide) ?_
      refine lv_iadd hx hb dL_law_133 ?_
      refine va_sld hx hb hX hbl hbA hS hi2 dL_law_134 ?_
      refine lv_aload_n hx hb dL_law_135 rfl (lv_at hl 0 rfl) ?_
      refine lv_iload_n hx hb dL_law_136 rfl (lv_at hl 3 rfl) ?_
      refine lv_iconst (v := 3) hx hb dL_law_137 (by decide) ?_
      refine lv_iadd hx hb dL_law_138 ?_
      refine va_sld hx hb hX hbl hbA hS hi3 dL_law_139 ?_
      refine qMVi (w := wK Y h n) (ws := wK Y h n S ++ wR Y h' n T) (wc := wK Y h n S) (wr := wR Y h' n T) (ws' := wK Y h n ((fK_parents n S (xs (nI j + 1).toNatClampNeg) (xs (nI j + 2).toNatClampNeg) (xs (nI j + 3).toNatClampNeg)).2) ++ wR Y h' n T) (rest := []) ⟨hx, hb, hml, hown, hts⟩ (kK_parents l D Y h n hn S (xs (nI j + 1).toNatClampNeg) (xs (nI j + 2).toNatClampNeg) (xs (nI j + 3).toNatClampNeg) _) (cwV 3 hts (gV uw267 uw268 uw269 uw116 ucK_parents) rfl rfl rfl hvK_parents ⟨Nat.le_of_ble_eq_true rfl, Nat.le_of_ble_eq_true rfl⟩) hK hP hD hS hA [0, 1, 2, 3, 4, 5, 6, 7, 8, 9, 10, 11, 12, 13, 14] [15, 16, 17, 18, 19, 20, 21, 22, 23, 24, 25, 26] [12, 13, 14, 15, 16, 17, 18, 19, 20, 21, 22, 23, 24, 25, 26, 0, 1, 2, 3, 4, 5, 6, 7, 8, 9, 10, 11] rfl rfl (by decide) (by decide) (by decide) rfl (by decide) (va_recv hK (zlK hP) (ci := 0) (q0 := 0) rfl rfl) rfl hl.1 rfl (Nat.le_of_ble_eq_true rfl) dL_law_140 ⟨Nat.le_of_ble_eq_true rfl, Nat.le_of_ble_eq_true rfl⟩ (fun H locs hP hD hS => ?_)
      refine lv_aload_n hx hb dL_law_143 rfl (lv_at hl 2 rfl) ?_
      refine lv_aload_n hx hb dL_law_144 rfl (lv_at hl 0 rfl) ?_
      refine lv_iload_n hx hb dL_law_145 rfl (lv_at hl 3 rfl) ?_
      refine lv_iconst (v := 1) hx hb dL_law_146 (by decide) ?_
      refine lv_iadd hx hb dL_law_147 ?_
      refine va_sld hx hb hX hbl hbA hS hi1 dL_law_148 ?_
      refine lv_aload_n hx hb dL_law_149 rfl (lv_at hl 0 rfl) ?_
      refine lv_iload_n hx hb dL_law_150 rfl (lv_at hl 3 rfl) ?_
      refine lv_iconst (v := 2) hx hb dL_law_151 (by decide) ?_
      refine lv_iadd hx hb dL_law_152 ?_
      refine va_sld hx hb hX hbl hbA hS hi2 dL_law_153 ?_
      refine lv_aload_n hx hb dL_law_154 rfl (lv_at hl 0 rfl) ?_
      refine lv_iload_n hx hb dL_law_155 rfl (lv_at hl 3 rfl) ?_
      refine lv_iconst (v := 3) hx hb dL_law_156 (by decide) ?_
      refine lv_iadd hx hb dL_law_157 ?_
      refine va_sld hx hb hX hbl hbA hS hi3 dL_law_158 ?_
      refine qMVi (w := wR Y h' n) (ws := wK Y h n ((fK_parents n S (xs (nI j + 1).toNatClampNeg) (xs (nI j + 2).toNatClampNeg) (xs (nI j + 3).toNatClampNeg)).2) ++ wR Y h' n T) (wc := wR Y h' n T) (wr := wK Y h n ((fK_parents n S (xs (nI j + 1).toNatClampNeg) (xs (nI j + 2).toNatClampNeg) (xs (nI j + 3).toNatClampNeg)).2)) (ws' := wK Y h n ((fK_parents n S (xs (nI j + 1).toNatClampNeg) (xs (nI j + 2).toNatClampNeg) (xs (nI j + 3).toNatClampNeg)).2) ++ wR Y h' n v.2) (rest := [.int (fK_parents n S (xs (nI j + 1).toNatClampNeg) (xs (nI j + 2).toNatClampNeg) (xs (nI j + 3).toNatClampNeg)).1]) ⟨hx, hb, hml, hown, hts⟩ (kR_parents l D Y h' n hn T (xs (nI j + 1).toNatClampNeg) (xs (nI j + 2).toNatClampNeg) (xs (nI j + 3).toNatClampNeg) v ev _) (cwV 3 hts (gV uw270 uw271 uw272 uw213 ucR_parents) rfl rfl rfl hvR_parents ⟨Nat.le_of_ble_eq_true rfl, Nat.le_of_ble_eq_true rfl⟩) hK hP hD hS hA [15, 16, 17, 18, 19, 20, 21, 22, 23, 24, 25, 26] [0, 1, 2, 3, 4, 5, 6, 7, 8, 9, 10, 11, 12, 13, 14] [0, 1, 2, 3, 4, 5, 6, 7, 8, 9, 10, 11, 12, 13, 14, 15, 16, 17, 18, 19, 20, 21, 22, 23, 24, 25, 26] rfl rfl (by decide) (by decide) (by decide) rfl (by decide) (va_recv hK (zlR hP) (ci := 3) (q0 := 0) rfl rfl) rfl hl.1 rfl (Nat.le_of_ble_eq_true rfl) dL_law_159 ⟨Nat.le_of_ble_eq_true rfl, Nat.le_of_ble_eq_true rfl⟩ (fun H locs hP hD hS => ?_)
      refine lv_icmp_eq (tgt := 738) hx hb dL_law_162 (by decide) (fun _ => ?_) (fun z => absurd e1.symm z)
      exact law_next hx hb (fun ls hl => ih (j + 4) ((fK_parents n S (xs (nI j + 1).toNatClampNeg) (xs (nI j + 2).toNatClampNeg) (xs (nI j + 3).toNatClampNeg)).2) v.2 (by omega) (by omega) hR h h' _ _ hP hD hS ls hl) hl
set_option maxHeartbeats 4000000 in
set_option maxRecDepth 100000 in
theorem law_c1 {p : Program} {l : Launch} {e : Env} {s : State} {m : MethodId} {below : List Frame} {meth : Method} {c : Code} {D : va_G} {Y : Nat → ClassId} {b L n : Nat} {xs : Nat → Int32} (hL : L ≤ 2049) (hn : n ≤ 24) (C0 : lw_At p s m meth c b L xs) (hK : va_K D vwCl (tysK Y) s) {k : Nat} (ih : ∀ (j : Nat) (S : vK) (T : vR), L + 1 ≤ j + k → j ≤ 2053 → Rel n S T → ∀ (h h' : Nat → Nat) (H : Heap) (locs : List Loc), va_P D vwCl (wK Y h n S ++ wR Y h' n T) H → va_D (fun q : Nat => s.heap.size ≤ q) (wK Y h n S ++ wR Y h' n T) → va_S (fun q : Nat => s.heap.size ≤ q) s.heap H locs → ∀ ls : Array Slot, lv_has ls 4 [(0, .ref b), (1, .ref (h 0)), (2, .ref (h' 0)), (3, .int (nI j))] → W p l e room_1 s m #[Value.ref b] below meth c H locs 27 2390 (lw_Z below #[Value.ref b] s) (F0 m 28 ls [])) (j : Nat) (S : vK) (T : vR) (hj : L + 1 ≤ j + (k + 1)) (hj2 : j ≤ 2053) (hR : Rel n S T) (hjL : j + 4 ≤ L) (h h' : Nat → Nat) (H : Heap) (locs : List Loc) (hP : va_P D vwCl (wK Y h n S ++ wR Y h' n T) H) (hD : va_D (fun q : Nat => s.heap.size ≤ q) (wK Y h n S ++ wR Y h' n T)) (hS : va_S (fun q : Nat => s.heap.size ≤ q) s.heap H locs) (ls : Array Slot) (hl : lv_has ls 4 [(0, .ref b), (1, .ref (h 0)), (2, .ref (h' 0)), (3, .int (nI j))]) : W p l e room_1 s m #[Value.ref b] below meth c H locs 27 2390 (lw_Z below #[Value.ref b] s) (F0 m 167 ls []) := by
      obtain ⟨hx, hb, hr, hml, hown, hts0, hX, hbl, hlocks, hgv⟩ := C0
      have hts : ∀ w ∈ uT, w.before #[Value.ref b] s = true := fun w h => hts0 w (List.mem_filter.mp h).1
      have hA : ∀ q : Nat, s.heap.size ≤ q → (fun q : Nat => s.heap.size ≤ q) q := fun _ h => h
      have hbA : ¬ (fun q : Nat => s.heap.size ≤ q) b := Nat.not_le.mpr hbl
      have hi1 : vp_in (nI j + 1) L := law_in (c := 1) hL hjL (by decide)
      have hi2 : vp_in (nI j + 2) L := law_in (c := 2) hL hjL (by decide)
      have hi3 : vp_in (nI j + 3) L := law_in (c := 3) hL hjL (by decide)
      have e1 := rel_ring hR (xs (nI j + 1).toNatClampNeg)
      refine lv_aload_n hx hb dL_law_167 rfl (lv_at hl 1 rfl) ?_
      refine lv_aload_n hx hb dL_law_168 rfl (lv_at hl 0 rfl) ?_
      refine lv_iload_n hx hb dL_law_169 rfl (lv_at hl 3 rfl) ?_
      refine lv_iconst (v := 1) hx hb dL_law_170 (by decide) ?_
      refine lv_iadd hx hb dL_law_171 ?_
      refine va_sld hx hb hX hbl hbA hS hi1 dL_law_172 ?_
      refine qVi (rest := []) ⟨hx, hb, hml, hown, hts⟩ (kK_ring l D Y h n hn S (xs (nI j + 1).toNatClampNeg)) (cwV 1 hts (gV uw273 uw274 uw275 uw116 ucK_ring) rfl rfl rfl hvK_ring ⟨Nat.le_of_ble_eq_true rfl, Nat.le_of_ble_eq_true rfl⟩) hK (zlK hP) (va_recv hK (zlK hP) (ci := 0) (q0 := 0) rfl rfl) rfl hl.1 rfl (Nat.le_of_ble_eq_true rfl) dL_law_173 ⟨Nat.le_of_ble_eq_true rfl, Nat.le_of_ble_eq_true rfl⟩ ?_
      refine lv_aload_n hx hb dL_law_176 rfl (lv_at hl 2 rfl) ?_
      refine lv_aload_n hx hb dL_law_177 rfl (lv_at hl 0 rfl) ?_
      refine lv_iload_n hx hb dL_law_178 rfl (lv_at hl 3 rfl) ?_
      refine lv_iconst (v := 1) hx hb dL_law_179 (by decide) ?_
      refine lv_iadd hx hb dL_law_180 ?_
      refine va_sld hx hb hX hbl hbA hS hi1 dL_law_181 ?_
      refine qVi (rest := [.int (fK_ring n S (xs (nI j + 1).toNatClampNeg))]) ⟨hx, hb, hml, hown, hts⟩ (kR_ring l D Y h' n hn T (xs (nI j + 1).toNatClampNeg) _ e1) (cwV 1 hts (gV uw276 uw277 uw278 uw213 ucR_ring) rfl rfl rfl hvR_ring ⟨Nat.le_of_ble_eq_true rfl, Nat.le_of_ble_eq_true rfl⟩) hK (zlR hP) (va_recv hK (zlR hP) (ci := 3) (q0 := 0) rfl rfl) rfl hl.1 rfl (Nat.le_of_ble_eq_true rfl) dL_law_182 ⟨Nat.le_of_ble_eq_true rfl, Nat.le_of_ble_eq_true rfl⟩ ?_
      refine lv_icmp_eq (tgt := 738) hx hb dL_law_185 (by decide) (fun _ => ?_) (fun z => absurd rfl z)
      exact law_next hx hb (fun ls hl => ih (j + 4) S T (by omega) (by omega) hR h h' _ _ hP hD hS ls hl) hl
set_option maxHeartbeats 4000000 in
set_option maxRecDepth 100000 in
theorem law_c2 {p : Program} {l : Launch} {e : Env} {s : State} {m : MethodId} {below : List Frame} {meth : Method} {c : Code} {D : va_G} {Y : Nat → ClassId} {b L n : Nat} {xs : Nat → Int32} (hL : L ≤ 2049) (hn : n ≤ 24) (C0 : lw_At p s m meth c b L xs) (hK : va_K D vwCl (tysK Y) s) {k : Nat} (ih : ∀ (j : Nat) (S : vK) (T : vR), L + 1 ≤ j + k → j ≤ 2053 → Rel n S T → ∀ (h h' : Nat → Nat) (H : Heap) (locs : List Loc), va_P D vwCl (wK Y h n S ++ wR Y h' n T) H → va_D (fun q : Nat => s.heap.size ≤ q) (wK Y h n S ++ wR Y h' n T) → va_S (fun q : Nat => s.heap.size ≤ q) s.heap H locs → ∀ ls : Array Slot, lv_has ls 4 [(0, .ref b), (1, .ref (h 0)), (2, .ref (h' 0)), (3, .int (nI j))] → W p l e room_1 s m #[Value.ref b] below meth c H locs 27 2390 (lw_Z below #[Value.ref b] s) (F0 m 28 ls [])) (j : Nat) (S : vK) (T : vR) (hj : L + 1 ≤ j + (k + 1)) (hj2 : j ≤ 2053) (hR : Rel n S T) (hjL : j + 4 ≤ L) (h h' : Nat → Nat) (H : Heap) (locs : List Loc) (hP : va_P D vwCl (wK Y h n S ++ wR Y h' n T) H) (hD : va_D (fun q : Nat => s.heap.size ≤ q) (wK Y h n S ++ wR Y h' n T)) (hS : va_S (fun q : Nat => s.heap.size ≤ q) s.heap H locs) (ls : Array Slot) (hl : lv_has ls 4 [(0, .ref b), (1, .ref (h 0)), (2, .ref (h' 0)), (3, .int (nI j))]) : W p l e room_1 s m #[Value.ref b] below meth c H locs 27 2390 (lw_Z below #[Value.ref b] s) (F0 m 190 ls []) := by
      obtain ⟨hx, hb, hr, hml, hown, hts0, hX, hbl, hlocks, hgv⟩ := C0
      have hts : ∀ w ∈ uT, w.before #[Value.ref b] s = true := fun w h => hts0 w (List.mem_filter.mp h).1
      have hA : ∀ q : Nat, s.heap.size ≤ q → (fun q : Nat => s.heap.size ≤ q) q := fun _ h => h
      have hbA : ¬ (fun q : Nat => s.heap.size ≤ q) b := Nat.not_le.mpr hbl
      have hi1 : vp_in (nI j + 1) L := law_in (c := 1) hL hjL (by decide)
      have hi2 : vp_in (nI j + 2) L := law_in (c := 2) hL hjL (by decide)
      have hi3 : vp_in (nI j + 3) L := law_in (c := 3) hL hjL (by decide)
      obtain ⟨v, ev, e1, hR⟩ := rel_told hR (xs (nI j + 1).toNatClampNeg) (xs (nI j + 2).toNatClampNeg) (xs (nI j + 3).toNatClampNeg)
      refine lv_aload_n hx hb dL_law_190 rfl (lv_at hl 1 rfl) ?_
      refine lv_aload_n hx hb dL_law_191 rfl (lv_at hl 0 rfl) ?_
      refine lv_iload_n hx hb dL_law_192 rfl (lv_at hl 3 rfl) ?_
      refine lv_iconst (v := 1) hx hb dL_law_193 (by decide) ?_
      refine lv_iadd hx hb dL_law_194 ?_
      refine va_sld hx hb hX hbl hbA hS hi1 dL_law_195 ?_
      refine lv_aload_n hx hb dL_law_196 rfl (lv_at hl 0 rfl) ?_
      refine lv_iload_n hx hb dL_law_197 rfl (lv_at hl 3 rfl) ?_
      refine lv_iconst (v := 2) hx hb dL_law_198 (by decide) ?_
      refine lv_iadd hx hb dL_law_199 ?_
      refine va_sld hx hb hX hbl hbA hS hi2 dL_law_200 ?_
      refine lv_aload_n hx hb dL_law_201 rfl (lv_at hl 0 rfl) ?_
      refine lv_iload_n hx hb dL_law_202 rfl (lv_at hl 3 rfl) ?_
      refine lv_iconst (v := 3) hx hb dL_law_203 (by decide) ?_
      refine lv_iadd hx hb dL_law_204 ?_
      refine va_sld hx hb hX hbl hbA hS hi3 dL_law_205 ?_
      refine qMVi (w := wK Y h n) (ws := wK Y h n S ++ wR Y h' n T) (wc := wK Y h n S) (wr := wR Y h' n T) (ws' := wK Y h n ((fK_told n S (xs (nI j + 1).toNatClampNeg) (xs (nI j + 2).toNatClampNeg) (xs (nI j + 3).toNatClampNeg)).2) ++ wR Y h' n T) (rest := []) ⟨hx, hb, hml, hown, hts⟩ (kK_told l D Y h n hn S (xs (nI j + 1).toNatClampNeg) (xs (nI j + 2).toNatClampNeg) (xs (nI j + 3).toNatClampNeg) _) (cwV 3 hts (gV uw279 uw280 uw281 uw116 ucK_told) rfl rfl rfl hvK_told ⟨Nat.le_of_ble_eq_true rfl, Nat.le_of_ble_eq_true rfl⟩) hK hP hD hS hA [0, 1, 2, 3, 4, 5, 6, 7, 8, 9, 10, 11, 12, 13, 14] [15, 16, 17, 18, 19, 20, 21, 22, 23, 24, 25, 26] [12, 13, 14, 15, 16, 17, 18, 19, 20, 21, 22, 23, 24, 25, 26, 0, 1, 2, 3, 4, 5, 6, 7, 8, 9, 10, 11] rfl rfl (by decide) (by decide) (by decide) rfl (by decide) (va_recv hK (zlK hP) (ci := 0) (q0 := 0) rfl rfl) rfl hl.1 rfl (Nat.le_of_ble_eq_true rfl) dL_law_206 ⟨Nat.le_of_ble_eq_true rfl, Nat.le_of_ble_eq_true rfl⟩ (fun H locs hP hD hS => ?_)
      refine lv_aload_n hx hb dL_law_209 rfl (lv_at hl 2 rfl) ?_
      refine lv_aload_n hx hb dL_law_210 rfl (lv_at hl 0 rfl) ?_
      refine lv_iload_n hx hb dL_law_211 rfl (lv_at hl 3 rfl) ?_
      refine lv_iconst (v := 1) hx hb dL_law_212 (by decide) ?_
      refine lv_iadd hx hb dL_law_213 ?_
      refine va_sld hx hb hX hbl hbA hS hi1 dL_law_214 ?_
      refine lv_aload_n hx hb dL_law_215 rfl (lv_at hl 0 rfl) ?_
      refine lv_iload_n hx hb dL_law_216 rfl (lv_at hl 3 rfl) ?_
      refine lv_iconst (v := 2) hx hb dL_law_217 (by decide) ?_
      refine lv_iadd hx hb dL_law_218 ?_
      refine va_sld hx hb hX hbl hbA hS hi2 dL_law_219 ?_
      refine lv_aload_n hx hb dL_law_220 rfl (lv_at hl 0 rfl) ?_
      refine lv_iload_n hx hb dL_law_221 rfl (lv_at hl 3 rfl) ?_
      refine lv_iconst (v := 3) hx hb dL_law_222 (by decide) ?_
      refine lv_iadd hx hb dL_law_223 ?_
      refine va_sld hx hb hX hbl hbA hS hi3 dL_law_224 ?_
      refine qMVi (w := wR Y h' n) (ws := wK Y h n ((fK_told n S (xs (nI j + 1).toNatClampNeg) (xs (nI j + 2).toNatClampNeg) (xs (nI j + 3).toNatClampNeg)).2) ++ wR Y h' n T) (wc := wR Y h' n T) (wr := wK Y h n ((fK_told n S (xs (nI j + 1).toNatClampNeg) (xs (nI j + 2).toNatClampNeg) (xs (nI j + 3).toNatClampNeg)).2)) (ws' := wK Y h n ((fK_told n S (xs (nI j + 1).toNatClampNeg) (xs (nI j + 2).toNatClampNeg) (xs (nI j + 3).toNatClampNeg)).2) ++ wR Y h' n v.2) (rest := [.int (fK_told n S (xs (nI j + 1).toNatClampNeg) (xs (nI j + 2).toNatClampNeg) (xs (nI j + 3).toNatClampNeg)).1]) ⟨hx, hb, hml, hown, hts⟩ (kR_told l D Y h' n hn T (xs (nI j + 1).toNatClampNeg) (xs (nI j + 2).toNatClampNeg) (xs (nI j + 3).toNatClampNeg) v ev _) (cwV 3 hts (gV uw282 uw283 uw284 uw213 ucR_told) rfl rfl rfl hvR_told ⟨Nat.le_of_ble_eq_true rfl, Nat.le_of_ble_eq_true rfl⟩) hK hP hD hS hA [15, 16, 17, 18, 19, 20, 21, 22, 23, 24, 25, 26] [0, 1, 2, 3, 4, 5, 6, 7, 8, 9, 10, 11, 12, 13, 14] [0, 1, 2, 3, 4, 5, 6, 7, 8, 9, 10, 11, 12, 13, 14, 15, 16, 17, 18, 19, 20, 21, 22, 23, 24, 25, 26] rfl rfl (by decide) (by decide) (by decide) rfl (by decide) (va_recv hK (zlR hP) (ci := 3) (q0 := 0) rfl rfl) rfl hl.1 rfl (Nat.le_of_ble_eq_true rfl) dL_law_225 ⟨Nat.le_of_ble_eq_true rfl, Nat.le_of_ble_eq_true rfl⟩ (fun H locs hP hD hS => ?_)
      refine lv_icmp_eq (tgt := 738) hx hb dL_law_228 (by decide) (fun _ => ?_) (fun z => absurd e1.symm z)
      exact law_next hx hb (fun ls hl => ih (j + 4) ((fK_told n S (xs (nI j + 1).toNatClampNeg) (xs (nI j + 2).toNatClampNeg) (xs (nI j + 3).toNatClampNeg)).2) v.2 (by omega) (by omega) hR h h' _ _ hP hD hS ls hl) hl
set_option maxHeartbeats 4000000 in
set_option maxRecDepth 100000 in
theorem law_c3 {p : Program} {l : Launch} {e : Env} {s : State} {m : MethodId} {below : List Frame} {meth : Method} {c : Code} {D : va_G} {Y : Nat → ClassId} {b L n : Nat} {xs : Nat → Int32} (hL : L ≤ 2049) (hn : n ≤ 24) (C0 : lw_At p s m meth c b L xs) (hK : va_K D vwCl (tysK Y) s) {k : Nat} (ih : ∀ (j : Nat) (S : vK) (T : vR), L + 1 ≤ j + k → j ≤ 2053 → Rel n S T → ∀ (h h' : Nat → Nat) (H : Heap) (locs : List Loc), va_P D vwCl (wK Y h n S ++ wR Y h' n T) H → va_D (fun q : Nat => s.heap.size ≤ q) (wK Y h n S ++ wR Y h' n T) → va_S (fun q : Nat => s.heap.size ≤ q) s.heap H locs → ∀ ls : Array Slot, lv_has ls 4 [(0, .ref b), (1, .ref (h 0)), (2, .ref (h' 0)), (3, .int (nI j))] → W p l e room_1 s m #[Value.ref b] below meth c H locs 27 2390 (lw_Z below #[Value.ref b] s) (F0 m 28 ls [])) (j : Nat) (S : vK) (T : vR) (hj : L + 1 ≤ j + (k + 1)) (hj2 : j ≤ 2053) (hR : Rel n S T) (hjL : j + 4 ≤ L) (h h' : Nat → Nat) (H : Heap) (locs : List Loc) (hP : va_P D vwCl (wK Y h n S ++ wR Y h' n T) H) (hD : va_D (fun q : Nat => s.heap.size ≤ q) (wK Y h n S ++ wR Y h' n T)) (hS : va_S (fun q : Nat => s.heap.size ≤ q) s.heap H locs) (ls : Array Slot) (hl : lv_has ls 4 [(0, .ref b), (1, .ref (h 0)), (2, .ref (h' 0)), (3, .int (nI j))]) : W p l e room_1 s m #[Value.ref b] below meth c H locs 27 2390 (lw_Z below #[Value.ref b] s) (F0 m 233 ls []) := by
      obtain ⟨hx, hb, hr, hml, hown, hts0, hX, hbl, hlocks, hgv⟩ := C0
      have hts : ∀ w ∈ uT, w.before #[Value.ref b] s = true := fun w h => hts0 w (List.mem_filter.mp h).1
      have hA : ∀ q : Nat, s.heap.size ≤ q → (fun q : Nat => s.heap.size ≤ q) q := fun _ h => h
      have hbA : ¬ (fun q : Nat => s.heap.size ≤ q) b := Nat.not_le.mpr hbl
      have hi1 : vp_in (nI j + 1) L := law_in (c := 1) hL hjL (by decide)
      have hi2 : vp_in (nI j + 2) L := law_in (c := 2) hL hjL (by decide)
      have hi3 : vp_in (nI j + 3) L := law_in (c := 3) hL hjL (by decide)
      obtain ⟨b2, hb2, hb01⟩ : ∃ y : Int32, y = (if (xs (nI j + 2).toNatClampNeg) = 0 then 0 else 1) ∧ (y = 0 ∨ y = 1) := ⟨_, rfl, by split <;> first | exact Or.inl rfl | exact Or.inr rfl⟩
      obtain ⟨e1, hR⟩ := rel_lives hR (xs (nI j + 1).toNatClampNeg) b2 hb01
      refine lv_aload_n hx hb dL_law_233 rfl (lv_at hl 1 rfl) ?_
      refine lv_aload_n hx hb dL_law_234 rfl (lv_at hl 0 rfl) ?_
      refine lv_iload_n hx hb dL_law_235 rfl (lv_at hl 3 rfl) ?_
      refine lv_iconst (v := 1) hx hb dL_law_236 (by decide) ?_
      refine lv_iadd hx hb dL_law_237 ?_
      refine va_sld hx hb hX hbl hbA hS hi1 dL_law_238 ?_
      refine lv_aload_n hx hb dL_law_239 rfl (lv_at hl 0 rfl) ?_
      refine lv_iload_n hx hb dL_law_240 rfl (lv_at hl 3 rfl) ?_
      refine lv_iconst (v := 2) hx hb dL_law_241 (by decide) ?_
      refine lv_iadd hx hb dL_law_242 ?_
      refine va_sld hx hb hX hbl hbA hS hi2 dL_law_243 ?_
      have hc244 : W p l e room_1 s m #[Value.ref b] below meth c H locs 27 2390 (lw_Z below #[Value.ref b] s) (F0 m 252 ls (.int b2 :: [.int (xs (nI j + 1).toNatClampNeg), .ref (h 0)])) := by
        refine qMVi (w := wK Y h n) (ws := wK Y h n S ++ wR Y h' n T) (wc := wK Y h n S) (wr := wR Y h' n T) (ws' := wK Y h n ((fK_lives n S (xs (nI j + 1).toNatClampNeg) b2).2) ++ wR Y h' n T) (rest := []) ⟨hx, hb, hml, hown, hts⟩ (kK_lives l D Y h n hn S (xs (nI j + 1).toNatClampNeg) b2 _) (cwV 2 hts (gV uw285 uw286 uw287 uw116 ucK_lives) rfl rfl rfl hvK_lives ⟨Nat.le_of_ble_eq_true rfl, Nat.le_of_ble_eq_true rfl⟩) hK hP hD hS hA [0, 1, 2, 3, 4, 5, 6, 7, 8, 9, 10, 11, 12, 13, 14] [15, 16, 17, 18, 19, 20, 21, 22, 23, 24, 25, 26] [12, 13, 14, 15, 16, 17, 18, 19, 20, 21, 22, 23, 24, 25, 26, 0, 1, 2, 3, 4, 5, 6, 7, 8, 9, 10, 11] rfl rfl (by decide) (by decide) (by decide) rfl (by decide) (va_recv hK (zlK hP) (ci := 0) (q0 := 0) rfl rfl) rfl hl.1 rfl (Nat.le_of_ble_eq_true rfl) dL_law_252 ⟨Nat.le_of_ble_eq_true rfl, Nat.le_of_ble_eq_true rfl⟩ (fun H locs hP hD hS => ?_)
        refine lv_aload_n hx hb dL_law_255 rfl (lv_at hl 2 rfl) ?_
        refine lv_aload_n hx hb dL_law_256 rfl (lv_at hl 0 rfl) ?_
        refine lv_iload_n hx hb dL_law_257 rfl (lv_at hl 3 rfl) ?_
        refine lv_iconst (v := 1) hx hb dL_law_258 (by decide) ?_
        refine lv_iadd hx hb dL_law_259 ?_
        refine va_sld hx hb hX hbl hbA hS hi1 dL_law_260 ?_
        refine lv_aload_n hx hb dL_law_261 rfl (lv_at hl 0 rfl) ?_
        refine lv_iload_n hx hb dL_law_262 rfl (lv_at hl 3 rfl) ?_
        refine lv_iconst (v := 2) hx hb dL_law_263 (by decide) ?_
        refine lv_iadd hx hb dL_law_264 ?_
        refine va_sld hx hb hX hbl hbA hS hi2 dL_law_265 ?_
        have hc266 : W p l e room_1 s m #[Value.ref b] below meth c H locs 27 2390 (lw_Z below #[Value.ref b] s) (F0 m 274 ls (.int b2 :: [.int (xs (nI j + 1).toNatClampNeg), .ref (h' 0), .int (fK_lives n S (xs (nI j + 1).toNatClampNeg) b2).1])) := by
          refine qMVi (w := wR Y h' n) (ws := wK Y h n ((fK_lives n S (xs (nI j + 1).toNatClampNeg) b2).2) ++ wR Y h' n T) (wc := wR Y h' n T) (wr := wK Y h n ((fK_lives n S (xs (nI j + 1).toNatClampNeg) b2).2)) (ws' := wK Y h n ((fK_lives n S (xs (nI j + 1).toNatClampNeg) b2).2) ++ wR Y h' n ((fR_lives n T (xs (nI j + 1).toNatClampNeg) b2).2)) (rest := [.int (fK_lives n S (xs (nI j + 1).toNatClampNeg) b2).1]) ⟨hx, hb, hml, hown, hts⟩ (kR_lives l D Y h' n hn T (xs (nI j + 1).toNatClampNeg) b2 _) (cwV 2 hts (gV uw288 uw289 uw290 uw213 ucR_lives) rfl rfl rfl hvR_lives ⟨Nat.le_of_ble_eq_true rfl, Nat.le_of_ble_eq_true rfl⟩) hK hP hD hS hA [15, 16, 17, 18, 19, 20, 21, 22, 23, 24, 25, 26] [0, 1, 2, 3, 4, 5, 6, 7, 8, 9, 10, 11, 12, 13, 14] [0, 1, 2, 3, 4, 5, 6, 7, 8, 9, 10, 11, 12, 13, 14, 15, 16, 17, 18, 19, 20, 21, 22, 23, 24, 25, 26] rfl rfl (by decide) (by decide) (by decide) rfl (by decide) (va_recv hK (zlR hP) (ci := 3) (q0 := 0) rfl rfl) rfl hl.1 rfl (Nat.le_of_ble_eq_true rfl) dL_law_274 ⟨Nat.le_of_ble_eq_true rfl, Nat.le_of_ble_eq_true rfl⟩ (fun H locs hP hD hS => ?_)
          refine lv_icmp_eq (tgt := 738) hx hb dL_law_277 (by decide) (fun _ => ?_) (fun z => absurd e1.symm z)
          exact law_next hx hb (fun ls hl => ih (j + 4) ((fK_lives n S (xs (nI j + 1).toNatClampNeg) b2).2) ((fR_lives n T (xs (nI j + 1).toNatClampNeg) b2).2) (by omega) (by omega) hR h h' _ _ hP hD hS ls hl) hl
        by_cases c266 : (xs (nI j + 2).toNatClampNeg) = 0
        · rw [if_pos c266] at hb2
          refine lv_if_eq (tgt := 273) hx hb dL_law_266 (by decide) (fun _ => ?_) (fun z => absurd c266 z)
          refine lv_iconst (v := 0) hx hb dL_law_273 (by decide) ?_
          exact W.eq (by rw [hb2]) hc266
        · rw [if_neg c266] at hb2
          refine lv_if_eq (tgt := 273) hx hb dL_law_266 (by decide) (fun z => absurd z c266) (fun _ => ?_)
          refine lv_iconst (v := 1) hx hb dL_law_269 (by decide) ?_
          refine lv_goto (tgt := 274) hx hb dL_law_270 (by decide) ?_
          exact W.eq (by rw [hb2]) hc266
      by_cases c244 : (xs (nI j + 2).toNatClampNeg) = 0
      · rw [if_pos c244] at hb2
        refine lv_if_eq (tgt := 251) hx hb dL_law_244 (by decide) (fun _ => ?_) (fun z => absurd c244 z)
        refine lv_iconst (v := 0) hx hb dL_law_251 (by decide) ?_
        rw [hb2] at hc244
        exact hc244
      · rw [if_neg c244] at hb2
        refine lv_if_eq (tgt := 251) hx hb dL_law_244 (by decide) (fun z => absurd z c244) (fun _ => ?_)
        refine lv_iconst (v := 1) hx hb dL_law_247 (by decide) ?_
        refine lv_goto (tgt := 252) hx hb dL_law_248 (by decide) ?_
        rw [hb2] at hc244
        exact hc244
set_option maxHeartbeats 4000000 in
set_option maxRecDepth 100000 in
theorem law_c4 {p : Program} {l : Launch} {e : Env} {s : State} {m : MethodId} {below : List Frame} {meth : Method} {c : Code} {D : va_G} {Y : Nat → ClassId} {b L n : Nat} {xs : Nat → Int32} (hL : L ≤ 2049) (hn : n ≤ 24) (C0 : lw_At p s m meth c b L xs) (hK : va_K D vwCl (tysK Y) s) {k : Nat} (ih : ∀ (j : Nat) (S : vK) (T : vR), L + 1 ≤ j + k → j ≤ 2053 → Rel n S T → ∀ (h h' : Nat → Nat) (H : Heap) (locs : List Loc), va_P D vwCl (wK Y h n S ++ wR Y h' n T) H → va_D (fun q : Nat => s.heap.size ≤ q) (wK Y h n S ++ wR Y h' n T) → va_S (fun q : Nat => s.heap.size ≤ q) s.heap H locs → ∀ ls : Array Slot, lv_has ls 4 [(0, .ref b), (1, .ref (h 0)), (2, .ref (h' 0)), (3, .int (nI j))] → W p l e room_1 s m #[Value.ref b] below meth c H locs 27 2390 (lw_Z below #[Value.ref b] s) (F0 m 28 ls [])) (j : Nat) (S : vK) (T : vR) (hj : L + 1 ≤ j + (k + 1)) (hj2 : j ≤ 2053) (hR : Rel n S T) (hjL : j + 4 ≤ L) (h h' : Nat → Nat) (H : Heap) (locs : List Loc) (hP : va_P D vwCl (wK Y h n S ++ wR Y h' n T) H) (hD : va_D (fun q : Nat => s.heap.size ≤ q) (wK Y h n S ++ wR Y h' n T)) (hS : va_S (fun q : Nat => s.heap.size ≤ q) s.heap H locs) (ls : Array Slot) (hl : lv_has ls 4 [(0, .ref b), (1, .ref (h 0)), (2, .ref (h' 0)), (3, .int (nI j))]) : W p l e room_1 s m #[Value.ref b] below meth c H locs 27 2390 (lw_Z below #[Value.ref b] s) (F0 m 282 ls []) := by
      obtain ⟨hx, hb, hr, hml, hown, hts0, hX, hbl, hlocks, hgv⟩ := C0
      have hts : ∀ w ∈ uT, w.before #[Value.ref b] s = true := fun w h => hts0 w (List.mem_filter.mp h).1
      have hA : ∀ q : Nat, s.heap.size ≤ q → (fun q : Nat => s.heap.size ≤ q) q := fun _ h => h
      have hbA : ¬ (fun q : Nat => s.heap.size ≤ q) b := Nat.not_le.mpr hbl
      have hi1 : vp_in (nI j + 1) L := law_in (c := 1) hL hjL (by decide)
      have hi2 : vp_in (nI j + 2) L := law_in (c := 2) hL hjL (by decide)
      have hi3 : vp_in (nI j + 3) L := law_in (c := 3) hL hjL (by decide)
      obtain ⟨v, ev, e1, hR⟩ := rel_kin hR (xs (nI j + 1).toNatClampNeg) (xs (nI j + 2).toNatClampNeg) (xs (nI j + 3).toNatClampNeg)
      refine lv_aload_n hx hb dL_law_282 rfl (lv_at hl 1 rfl) ?_
      refine lv_aload_n hx hb dL_law_283 rfl (lv_at hl 0 rfl) ?_
      refine lv_iload_n hx hb dL_law_284 rfl (lv_at hl 3 rfl) ?_
      refine lv_iconst (v := 1) hx hb dL_law_285 (by decide) ?_
      refine lv_iadd hx hb dL_law_286 ?_
      refine va_sld hx hb hX hbl hbA hS hi1 dL_law_287 ?_
      refine lv_aload_n hx hb dL_law_288 rfl (lv_at hl 0 rfl) ?_
      refine lv_iload_n hx hb dL_law_289 rfl (lv_at hl 3 rfl) ?_
      refine lv_iconst (v := 2) hx hb dL_law_290 (by decide) ?_
      refine lv_iadd hx hb dL_law_291 ?_
      refine va_sld hx hb hX hbl hbA hS hi2 dL_law_292 ?_
      refine lv_aload_n hx hb dL_law_293 rfl (lv_at hl 0 rfl) ?_
      refine lv_iload_n hx hb dL_law_294 rfl (lv_at hl 3 rfl) ?_
      refine lv_iconst (v := 3) hx hb dL_law_295 (by decide) ?_
      refine lv_iadd hx hb dL_law_296 ?_
      refine va_sld hx hb hX hbl hbA hS hi3 dL_law_297 ?_
      refine qVl (rest := []) ⟨hx, hb, hml, hown, hts⟩ (kK_kin l D Y h n hn S (xs (nI j + 1).toNatClampNeg) (xs (nI j + 2).toNatClampNeg) (xs (nI j + 3).toNatClampNeg)) (cwV 3 hts (gV uw291 uw292 uw293 uw116 ucK_kin) rfl rfl rfl hvK_kin ⟨Nat.le_of_ble_eq_true rfl, Nat.le_of_ble_eq_true rfl⟩) hK (zlK hP) (va_recv hK (zlK hP) (ci := 0) (q0 := 0) rfl rfl) rfl hl.1 rfl (Nat.le_of_ble_eq_true rfl) dL_law_298 ⟨Nat.le_of_ble_eq_true rfl, Nat.le_of_ble_eq_true rfl⟩ ?_
      refine lv_aload_n hx hb dL_law_301 rfl (lv_at hl 2 rfl) ?_
      refine lv_aload_n hx hb dL_law_302 rfl (lv_at hl 0 rfl) ?_
      refine lv_iload_n hx hb dL_law_303 rfl (lv_at hl 3 rfl) ?_
      refine lv_iconst (v := 1) hx hb dL_law_304 (by decide) ?_
      refine lv_iadd hx hb dL_law_305 ?_
      refine va_sld hx hb hX hbl hbA hS hi1 dL_law_306 ?_
      refine lv_aload_n hx hb dL_law_307 rfl (lv_at hl 0 rfl) ?_
      refine lv_iload_n hx hb dL_law_308 rfl (lv_at hl 3 rfl) ?_
      refine lv_iconst (v := 2) hx hb dL_law_309 (by decide) ?_
      refine lv_iadd hx hb dL_law_310 ?_
      refine va_sld hx hb hX hbl hbA hS hi2 dL_law_311 ?_
      refine lv_aload_n hx hb dL_law_312 rfl (lv_at hl 0 rfl) ?_
      refine lv_iload_n hx hb dL_law_313 rfl (lv_at hl 3 rfl) ?_
      refine lv_iconst (v := 3) hx hb dL_law_314 (by decide) ?_
      refine lv_iadd hx hb dL_law_315 ?_
      refine va_sld hx hb hX hbl hbA hS hi3 dL_law_316 ?_
      refine qMVl (w := wR Y h' n) (ws := wK Y h n S ++ wR Y h' n T) (wc := wR Y h' n T) (wr := wK Y h n S) (ws' := wK Y h n S ++ wR Y h' n v.2) (rest := [.long (fK_kin n S (xs (nI j + 1).toNatClampNeg) (xs (nI j + 2).toNatClampNeg) (xs (nI j + 3).toNatClampNeg))]) ⟨hx, hb, hml, hown, hts⟩ (kR_kin l D Y h' n hn T (xs (nI j + 1).toNatClampNeg) (xs (nI j + 2).toNatClampNeg) (xs (nI j + 3).toNatClampNeg) v ev _) (cwV 3 hts (gV uw294 uw295 uw296 uw213 ucR_kin) rfl rfl rfl hvR_kin ⟨Nat.le_of_ble_eq_true rfl, Nat.le_of_ble_eq_true rfl⟩) hK hP hD hS hA [15, 16, 17, 18, 19, 20, 21, 22, 23, 24, 25, 26] [0, 1, 2, 3, 4, 5, 6, 7, 8, 9, 10, 11, 12, 13, 14] [0, 1, 2, 3, 4, 5, 6, 7, 8, 9, 10, 11, 12, 13, 14, 15, 16, 17, 18, 19, 20, 21, 22, 23, 24, 25, 26] rfl rfl (by decide) (by decide) (by decide) rfl (by decide) (va_recv hK (zlR hP) (ci := 3) (q0 := 0) rfl rfl) rfl hl.1 rfl (Nat.le_of_ble_eq_true rfl) dL_law_317 ⟨Nat.le_of_ble_eq_true rfl, Nat.le_of_ble_eq_true rfl⟩ (fun H locs hP hD hS => ?_)
      refine W.lcmp hx hb dL_law_320 ?_
      refine lv_if_eq (tgt := 738) hx hb dL_law_321 (by decide) (fun _ => ?_) (fun z => absurd (lgc_eq e1.symm) z)
      exact law_next hx hb (fun ls hl => ih (j + 4) S v.2 (by omega) (by omega) hR h h' _ _ hP hD hS ls hl) hl
set_option maxHeartbeats 4000000 in
set_option maxRecDepth 100000 in
theorem law_c5 {p : Program} {l : Launch} {e : Env} {s : State} {m : MethodId} {below : List Frame} {meth : Method} {c : Code} {D : va_G} {Y : Nat → ClassId} {b L n : Nat} {xs : Nat → Int32} (hL : L ≤ 2049) (hn : n ≤ 24) (C0 : lw_At p s m meth c b L xs) (hK : va_K D vwCl (tysK Y) s) {k : Nat} (ih : ∀ (j : Nat) (S : vK) (T : vR), L + 1 ≤ j + k → j ≤ 2053 → Rel n S T → ∀ (h h' : Nat → Nat) (H : Heap) (locs : List Loc), va_P D vwCl (wK Y h n S ++ wR Y h' n T) H → va_D (fun q : Nat => s.heap.size ≤ q) (wK Y h n S ++ wR Y h' n T) → va_S (fun q : Nat => s.heap.size ≤ q) s.heap H locs → ∀ ls : Array Slot, lv_has ls 4 [(0, .ref b), (1, .ref (h 0)), (2, .ref (h' 0)), (3, .int (nI j))] → W p l e room_1 s m #[Value.ref b] below meth c H locs 27 2390 (lw_Z below #[Value.ref b] s) (F0 m 28 ls [])) (j : Nat) (S : vK) (T : vR) (hj : L + 1 ≤ j + (k + 1)) (hj2 : j ≤ 2053) (hR : Rel n S T) (hjL : j + 4 ≤ L) (h h' : Nat → Nat) (H : Heap) (locs : List Loc) (hP : va_P D vwCl (wK Y h n S ++ wR Y h' n T) H) (hD : va_D (fun q : Nat => s.heap.size ≤ q) (wK Y h n S ++ wR Y h' n T)) (hS : va_S (fun q : Nat => s.heap.size ≤ q) s.heap H locs) (ls : Array Slot) (hl : lv_has ls 4 [(0, .ref b), (1, .ref (h 0)), (2, .ref (h' 0)), (3, .int (nI j))]) : W p l e room_1 s m #[Value.ref b] below meth c H locs 27 2390 (lw_Z below #[Value.ref b] s) (F0 m 326 ls []) := by
      obtain ⟨hx, hb, hr, hml, hown, hts0, hX, hbl, hlocks, hgv⟩ := C0
      have hts : ∀ w ∈ uT, w.before #[Value.ref b] s = true := fun w h => hts0 w (List.mem_filter.mp h).1
      have hA : ∀ q : Nat, s.heap.size ≤ q → (fun q : Nat => s.heap.size ≤ q) q := fun _ h => h
      have hbA : ¬ (fun q : Nat => s.heap.size ≤ q) b := Nat.not_le.mpr hbl
      have hi1 : vp_in (nI j + 1) L := law_in (c := 1) hL hjL (by decide)
      have hi2 : vp_in (nI j + 2) L := law_in (c := 2) hL hjL (by decide)
      have hi3 : vp_in (nI j + 3) L := law_in (c := 3) hL hjL (by decide)
      obtain ⟨v, ev, e1, hR⟩ := rel_inbred hR (xs (nI j + 1).toNatClampNeg) (xs (nI j + 2).toNatClampNeg)
      refine lv_aload_n hx hb dL_law_326 rfl (lv_at hl 1 rfl) ?_
      refine lv_aload_n hx hb dL_law_327 rfl (lv_at hl 0 rfl) ?_
      refine lv_iload_n hx hb dL_law_328 rfl (lv_at hl 3 rfl) ?_
      refine lv_iconst (v := 1) hx hb dL_law_329 (by decide) ?_
      refine lv_iadd hx hb dL_law_330 ?_
      refine va_sld hx hb hX hbl hbA hS hi1 dL_law_331 ?_
      refine lv_aload_n hx hb dL_law_332 rfl (lv_at hl 0 rfl) ?_
      refine lv_iload_n hx hb dL_law_333 rfl (lv_at hl 3 rfl) ?_
      refine lv_iconst (v := 2) hx hb dL_law_334 (by decide) ?_
      refine lv_iadd hx hb dL_law_335 ?_
      refine va_sld hx hb hX hbl hbA hS hi2 dL_law_336 ?_
      refine qVl (rest := []) ⟨hx, hb, hml, hown, hts⟩ (kK_inbred l D Y h n hn S (xs (nI j + 1).toNatClampNeg) (xs (nI j + 2).toNatClampNeg)) (cwV 2 hts (gV uw297 uw298 uw299 uw116 ucK_inbred) rfl rfl rfl hvK_inbred ⟨Nat.le_of_ble_eq_true rfl, Nat.le_of_ble_eq_true rfl⟩) hK (zlK hP) (va_recv hK (zlK hP) (ci := 0) (q0 := 0) rfl rfl) rfl hl.1 rfl (Nat.le_of_ble_eq_true rfl) dL_law_337 ⟨Nat.le_of_ble_eq_true rfl, Nat.le_of_ble_eq_true rfl⟩ ?_
      refine lv_aload_n hx hb dL_law_340 rfl (lv_at hl 2 rfl) ?_
      refine lv_aload_n hx hb dL_law_341 rfl (lv_at hl 0 rfl) ?_
      refine lv_iload_n hx hb dL_law_342 rfl (lv_at hl 3 rfl) ?_
      refine lv_iconst (v := 1) hx hb dL_law_343 (by decide) ?_
      refine lv_iadd hx hb dL_law_344 ?_
      refine va_sld hx hb hX hbl hbA hS hi1 dL_law_345 ?_
      refine lv_aload_n hx hb dL_law_346 rfl (lv_at hl 0 rfl) ?_
      refine lv_iload_n hx hb dL_law_347 rfl (lv_at hl 3 rfl) ?_
      refine lv_iconst (v := 2) hx hb dL_law_348 (by decide) ?_
      refine lv_iadd hx hb dL_law_349 ?_
      refine va_sld hx hb hX hbl hbA hS hi2 dL_law_350 ?_
      refine qMVl (w := wR Y h' n) (ws := wK Y h n S ++ wR Y h' n T) (wc := wR Y h' n T) (wr := wK Y h n S) (ws' := wK Y h n S ++ wR Y h' n v.2) (rest := [.long (fK_inbred n S (xs (nI j + 1).toNatClampNeg) (xs (nI j + 2).toNatClampNeg))]) ⟨hx, hb, hml, hown, hts⟩ (kR_inbred l D Y h' n hn T (xs (nI j + 1).toNatClampNeg) (xs (nI j + 2).toNatClampNeg) v ev _) (cwV 2 hts (gV uw300 uw301 uw302 uw213 ucR_inbred) rfl rfl rfl hvR_inbred ⟨Nat.le_of_ble_eq_true rfl, Nat.le_of_ble_eq_true rfl⟩) hK hP hD hS hA [15, 16, 17, 18, 19, 20, 21, 22, 23, 24, 25, 26] [0, 1, 2, 3, 4, 5, 6, 7, 8, 9, 10, 11, 12, 13, 14] [0, 1, 2, 3, 4, 5, 6, 7, 8, 9, 10, 11, 12, 13, 14, 15, 16, 17, 18, 19, 20, 21, 22, 23, 24, 25, 26] rfl rfl (by decide) (by decide) (by decide) rfl (by decide) (va_recv hK (zlR hP) (ci := 3) (q0 := 0) rfl rfl) rfl hl.1 rfl (Nat.le_of_ble_eq_true rfl) dL_law_351 ⟨Nat.le_of_ble_eq_true rfl, Nat.le_of_ble_eq_true rfl⟩ (fun H locs hP hD hS => ?_)
      refine W.lcmp hx hb dL_law_354 ?_
      refine lv_if_eq (tgt := 738) hx hb dL_law_355 (by decide) (fun _ => ?_) (fun z => absurd (lgc_eq e1.symm) z)
      exact law_next hx hb (fun ls hl => ih (j + 4) S v.2 (by omega) (by omega) hR h h' _ _ hP hD hS ls hl) hl
set_option maxHeartbeats 4000000 in
set_option maxRecDepth 100000 in
theorem law_c6 {p : Program} {l : Launch} {e : Env} {s : State} {m : MethodId} {below : List Frame} {meth : Method} {c : Code} {D : va_G} {Y : Nat → ClassId} {b L n : Nat} {xs : Nat → Int32} (hL : L ≤ 2049) (hn : n ≤ 24) (C0 : lw_At p s m meth c b L xs) (hK : va_K D vwCl (tysK Y) s) {k : Nat} (ih : ∀ (j : Nat) (S : vK) (T : vR), L + 1 ≤ j + k → j ≤ 2053 → Rel n S T → ∀ (h h' : Nat → Nat) (H : Heap) (locs : List Loc), va_P D vwCl (wK Y h n S ++ wR Y h' n T) H → va_D (fun q : Nat => s.heap.size ≤ q) (wK Y h n S ++ wR Y h' n T) → va_S (fun q : Nat => s.heap.size ≤ q) s.heap H locs → ∀ ls : Array Slot, lv_has ls 4 [(0, .ref b), (1, .ref (h 0)), (2, .ref (h' 0)), (3, .int (nI j))] → W p l e room_1 s m #[Value.ref b] below meth c H locs 27 2390 (lw_Z below #[Value.ref b] s) (F0 m 28 ls [])) (j : Nat) (S : vK) (T : vR) (hj : L + 1 ≤ j + (k + 1)) (hj2 : j ≤ 2053) (hR : Rel n S T) (hjL : j + 4 ≤ L) (h h' : Nat → Nat) (H : Heap) (locs : List Loc) (hP : va_P D vwCl (wK Y h n S ++ wR Y h' n T) H) (hD : va_D (fun q : Nat => s.heap.size ≤ q) (wK Y h n S ++ wR Y h' n T)) (hS : va_S (fun q : Nat => s.heap.size ≤ q) s.heap H locs) (ls : Array Slot) (hl : lv_has ls 4 [(0, .ref b), (1, .ref (h 0)), (2, .ref (h' 0)), (3, .int (nI j))]) : W p l e room_1 s m #[Value.ref b] below meth c H locs 27 2390 (lw_Z below #[Value.ref b] s) (F0 m 360 ls []) := by
      obtain ⟨hx, hb, hr, hml, hown, hts0, hX, hbl, hlocks, hgv⟩ := C0
      have hts : ∀ w ∈ uT, w.before #[Value.ref b] s = true := fun w h => hts0 w (List.mem_filter.mp h).1
      have hA : ∀ q : Nat, s.heap.size ≤ q → (fun q : Nat => s.heap.size ≤ q) q := fun _ h => h
      have hbA : ¬ (fun q : Nat => s.heap.size ≤ q) b := Nat.not_le.mpr hbl
      have hi1 : vp_in (nI j + 1) L := law_in (c := 1) hL hjL (by decide)
      have hi2 : vp_in (nI j + 2) L := law_in (c := 2) hL hjL (by decide)
      have hi3 : vp_in (nI j + 3) L := law_in (c := 3) hL hjL (by decide)
      obtain ⟨v, ev, e1, hR⟩ := rel_chance hR (xs (nI j + 1).toNatClampNeg) (xs (nI j + 2).toNatClampNeg)
      refine lv_aload_n hx hb dL_law_360 rfl (lv_at hl 1 rfl) ?_
      refine lv_aload_n hx hb dL_law_361 rfl (lv_at hl 0 rfl) ?_
      refine lv_iload_n hx hb dL_law_362 rfl (lv_at hl 3 rfl) ?_
      refine lv_iconst (v := 1) hx hb dL_law_363 (by decide) ?_
      refine lv_iadd hx hb dL_law_364 ?_
      refine va_sld hx hb hX hbl hbA hS hi1 dL_law_365 ?_
      refine lv_aload_n hx hb dL_law_366 rfl (lv_at hl 0 rfl) ?_
      refine lv_iload_n hx hb dL_law_367 rfl (lv_at hl 3 rfl) ?_
      refine lv_iconst (v := 2) hx hb dL_law_368 (by decide) ?_
      refine lv_iadd hx hb dL_law_369 ?_
      refine va_sld hx hb hX hbl hbA hS hi2 dL_law_370 ?_
      refine qVl (rest := []) ⟨hx, hb, hml, hown, hts⟩ (kK_chance l D Y h n hn S (xs (nI j + 1).toNatClampNeg) (xs (nI j + 2).toNatClampNeg)) (cwV 2 hts (gV uw303 uw304 uw305 uw116 ucK_chance) rfl rfl rfl hvK_chance ⟨Nat.le_of_ble_eq_true rfl, Nat.le_of_ble_eq_true rfl⟩) hK (zlK hP) (va_recv hK (zlK hP) (ci := 0) (q0 := 0) rfl rfl) rfl hl.1 rfl (Nat.le_of_ble_eq_true rfl) dL_law_371 ⟨Nat.le_of_ble_eq_true rfl, Nat.le_of_ble_eq_true rfl⟩ ?_
      refine lv_aload_n hx hb dL_law_374 rfl (lv_at hl 2 rfl) ?_
      refine lv_aload_n hx hb dL_law_375 rfl (lv_at hl 0 rfl) ?_
      refine lv_iload_n hx hb dL_law_376 rfl (lv_at hl 3 rfl) ?_
      refine lv_iconst (v := 1) hx hb dL_law_377 (by decide) ?_
      refine lv_iadd hx hb dL_law_378 ?_
      refine va_sld hx hb hX hbl hbA hS hi1 dL_law_379 ?_
      refine lv_aload_n hx hb dL_law_380 rfl (lv_at hl 0 rfl) ?_
      refine lv_iload_n hx hb dL_law_381 rfl (lv_at hl 3 rfl) ?_
      refine lv_iconst (v := 2) hx hb dL_law_382 (by decide) ?_
      refine lv_iadd hx hb dL_law_383 ?_
      refine va_sld hx hb hX hbl hbA hS hi2 dL_law_384 ?_
      refine qMVl (w := wR Y h' n) (ws := wK Y h n S ++ wR Y h' n T) (wc := wR Y h' n T) (wr := wK Y h n S) (ws' := wK Y h n S ++ wR Y h' n v.2) (rest := [.long (fK_chance n S (xs (nI j + 1).toNatClampNeg) (xs (nI j + 2).toNatClampNeg))]) ⟨hx, hb, hml, hown, hts⟩ (kR_chance l D Y h' n hn T (xs (nI j + 1).toNatClampNeg) (xs (nI j + 2).toNatClampNeg) v ev _) (cwV 2 hts (gV uw306 uw307 uw308 uw213 ucR_chance) rfl rfl rfl hvR_chance ⟨Nat.le_of_ble_eq_true rfl, Nat.le_of_ble_eq_true rfl⟩) hK hP hD hS hA [15, 16, 17, 18, 19, 20, 21, 22, 23, 24, 25, 26] [0, 1, 2, 3, 4, 5, 6, 7, 8, 9, 10, 11, 12, 13, 14] [0, 1, 2, 3, 4, 5, 6, 7, 8, 9, 10, 11, 12, 13, 14, 15, 16, 17, 18, 19, 20, 21, 22, 23, 24, 25, 26] rfl rfl (by decide) (by decide) (by decide) rfl (by decide) (va_recv hK (zlR hP) (ci := 3) (q0 := 0) rfl rfl) rfl hl.1 rfl (Nat.le_of_ble_eq_true rfl) dL_law_385 ⟨Nat.le_of_ble_eq_true rfl, Nat.le_of_ble_eq_true rfl⟩ (fun H locs hP hD hS => ?_)
      refine W.lcmp hx hb dL_law_388 ?_
      refine lv_if_eq (tgt := 738) hx hb dL_law_389 (by decide) (fun _ => ?_) (fun z => absurd (lgc_eq e1.symm) z)
      exact law_next hx hb (fun ls hl => ih (j + 4) S v.2 (by omega) (by omega) hR h h' _ _ hP hD hS ls hl) hl
set_option maxHeartbeats 4000000 in
set_option maxRecDepth 100000 in
theorem law_c7 {p : Program} {l : Launch} {e : Env} {s : State} {m : MethodId} {below : List Frame} {meth : Method} {c : Code} {D : va_G} {Y : Nat → ClassId} {b L n : Nat} {xs : Nat → Int32} (hL : L ≤ 2049) (hn : n ≤ 24) (C0 : lw_At p s m meth c b L xs) (hK : va_K D vwCl (tysK Y) s) {k : Nat} (ih : ∀ (j : Nat) (S : vK) (T : vR), L + 1 ≤ j + k → j ≤ 2053 → Rel n S T → ∀ (h h' : Nat → Nat) (H : Heap) (locs : List Loc), va_P D vwCl (wK Y h n S ++ wR Y h' n T) H → va_D (fun q : Nat => s.heap.size ≤ q) (wK Y h n S ++ wR Y h' n T) → va_S (fun q : Nat => s.heap.size ≤ q) s.heap H locs → ∀ ls : Array Slot, lv_has ls 4 [(0, .ref b), (1, .ref (h 0)), (2, .ref (h' 0)), (3, .int (nI j))] → W p l e room_1 s m #[Value.ref b] below meth c H locs 27 2390 (lw_Z below #[Value.ref b] s) (F0 m 28 ls [])) (j : Nat) (S : vK) (T : vR) (hj : L + 1 ≤ j + (k + 1)) (hj2 : j ≤ 2053) (hR : Rel n S T) (hjL : j + 4 ≤ L) (h h' : Nat → Nat) (H : Heap) (locs : List Loc) (hP : va_P D vwCl (wK Y h n S ++ wR Y h' n T) H) (hD : va_D (fun q : Nat => s.heap.size ≤ q) (wK Y h n S ++ wR Y h' n T)) (hS : va_S (fun q : Nat => s.heap.size ≤ q) s.heap H locs) (ls : Array Slot) (hl : lv_has ls 4 [(0, .ref b), (1, .ref (h 0)), (2, .ref (h' 0)), (3, .int (nI j))]) : W p l e room_1 s m #[Value.ref b] below meth c H locs 27 2390 (lw_Z below #[Value.ref b] s) (F0 m 394 ls []) := by
      obtain ⟨hx, hb, hr, hml, hown, hts0, hX, hbl, hlocks, hgv⟩ := C0
      have hts : ∀ w ∈ uT, w.before #[Value.ref b] s = true := fun w h => hts0 w (List.mem_filter.mp h).1
      have hA : ∀ q : Nat, s.heap.size ≤ q → (fun q : Nat => s.heap.size ≤ q) q := fun _ h => h
      have hbA : ¬ (fun q : Nat => s.heap.size ≤ q) b := Nat.not_le.mpr hbl
      have hi1 : vp_in (nI j + 1) L := law_in (c := 1) hL hjL (by decide)
      have hi2 : vp_in (nI j + 2) L := law_in (c := 2) hL hjL (by decide)
      have hi3 : vp_in (nI j + 3) L := law_in (c := 3) hL hjL (by decide)
      obtain ⟨v, ev, e1, hR⟩ := rel_share hR (xs (nI j + 1).toNatClampNeg) (xs (nI j + 2).toNatClampNeg) (xs (nI j + 3).toNatClampNeg)
      refine lv_aload_n hx hb dL_law_394 rfl (lv_at hl 1 rfl) ?_
      refine lv_aload_n hx hb dL_law_395 rfl (lv_at hl 0 rfl) ?_
      refine lv_iload_n hx hb dL_law_396 rfl (lv_at hl 3 rfl) ?_
      refine lv_iconst (v := 1) hx hb dL_law_397 (by decide) ?_
      refine lv_iadd hx hb dL_law_398 ?_
      refine va_sld hx hb hX hbl hbA hS hi1 dL_law_399 ?_
      refine lv_aload_n hx hb dL_law_400 rfl (lv_at hl 0 rfl) ?_
      refine lv_iload_n hx hb dL_law_401 rfl (lv_at hl 3 rfl) ?_
      refine lv_iconst (v := 2) hx hb dL_law_402 (by decide) ?_
      refine lv_iadd hx hb dL_law_403 ?_
      refine va_sld hx hb hX hbl hbA hS hi2 dL_law_404 ?_
      refine lv_aload_n hx hb dL_law_405 rfl (lv_at hl 0 rfl) ?_
      refine lv_iload_n hx hb dL_law_406 rfl (lv_at hl 3 rfl) ?_
      refine lv_iconst (v := 3) hx hb dL_law_407 (by decide) ?_
      refine lv_iadd hx hb dL_law_408 ?_
      refine va_sld hx hb hX hbl hbA hS hi3 dL_law_409 ?_
      refine qMVl (w := wK Y h n) (ws := wK Y h n S ++ wR Y h' n T) (wc := wK Y h n S) (wr := wR Y h' n T) (ws' := wK Y h n ((fK_share n S (xs (nI j + 1).toNatClampNeg) (xs (nI j + 2).toNatClampNeg) (xs (nI j + 3).toNatClampNeg)).2) ++ wR Y h' n T) (rest := []) ⟨hx, hb, hml, hown, hts⟩ (kK_share l D Y h n hn S (xs (nI j + 1).toNatClampNeg) (xs (nI j + 2).toNatClampNeg) (xs (nI j + 3).toNatClampNeg) _) (cwV 3 hts (gV uw309 uw310 uw311 uw116 ucK_share) rfl rfl rfl hvK_share ⟨Nat.le_of_ble_eq_true rfl, Nat.le_of_ble_eq_true rfl⟩) hK hP hD hS hA [0, 1, 2, 3, 4, 5, 6, 7, 8, 9, 10, 11, 12, 13, 14] [15, 16, 17, 18, 19, 20, 21, 22, 23, 24, 25, 26] [12, 13, 14, 15, 16, 17, 18, 19, 20, 21, 22, 23, 24, 25, 26, 0, 1, 2, 3, 4, 5, 6, 7, 8, 9, 10, 11] rfl rfl (by decide) (by decide) (by decide) rfl (by decide) (va_recv hK (zlK hP) (ci := 0) (q0 := 0) rfl rfl) rfl hl.1 rfl (Nat.le_of_ble_eq_true rfl) dL_law_410 ⟨Nat.le_of_ble_eq_true rfl, Nat.le_of_ble_eq_true rfl⟩ (fun H locs hP hD hS => ?_)
      refine lv_aload_n hx hb dL_law_413 rfl (lv_at hl 2 rfl) ?_
      refine lv_aload_n hx hb dL_law_414 rfl (lv_at hl 0 rfl) ?_
      refine lv_iload_n hx hb dL_law_415 rfl (lv_at hl 3 rfl) ?_
      refine lv_iconst (v := 1) hx hb dL_law_416 (by decide) ?_
      refine lv_iadd hx hb dL_law_417 ?_
      refine va_sld hx hb hX hbl hbA hS hi1 dL_law_418 ?_
      refine lv_aload_n hx hb dL_law_419 rfl (lv_at hl 0 rfl) ?_
      refine lv_iload_n hx hb dL_law_420 rfl (lv_at hl 3 rfl) ?_
      refine lv_iconst (v := 2) hx hb dL_law_421 (by decide) ?_
      refine lv_iadd hx hb dL_law_422 ?_
      refine va_sld hx hb hX hbl hbA hS hi2 dL_law_423 ?_
      refine lv_aload_n hx hb dL_law_424 rfl (lv_at hl 0 rfl) ?_
      refine lv_iload_n hx hb dL_law_425 rfl (lv_at hl 3 rfl) ?_
      refine lv_iconst (v := 3) hx hb dL_law_426 (by decide) ?_
      refine lv_iadd hx hb dL_law_427 ?_
      refine va_sld hx hb hX hbl hbA hS hi3 dL_law_428 ?_
      refine qMVl (w := wR Y h' n) (ws := wK Y h n ((fK_share n S (xs (nI j + 1).toNatClampNeg) (xs (nI j + 2).toNatClampNeg) (xs (nI j + 3).toNatClampNeg)).2) ++ wR Y h' n T) (wc := wR Y h' n T) (wr := wK Y h n ((fK_share n S (xs (nI j + 1).toNatClampNeg) (xs (nI j + 2).toNatClampNeg) (xs (nI j + 3).toNatClampNeg)).2)) (ws' := wK Y h n ((fK_share n S (xs (nI j + 1).toNatClampNeg) (xs (nI j + 2).toNatClampNeg) (xs (nI j + 3).toNatClampNeg)).2) ++ wR Y h' n v.2) (rest := [.long (fK_share n S (xs (nI j + 1).toNatClampNeg) (xs (nI j + 2).toNatClampNeg) (xs (nI j + 3).toNatClampNeg)).1]) ⟨hx, hb, hml, hown, hts⟩ (kR_share l D Y h' n hn T (xs (nI j + 1).toNatClampNeg) (xs (nI j + 2).toNatClampNeg) (xs (nI j + 3).toNatClampNeg) v ev _) (cwV 3 hts (gV uw312 uw313 uw314 uw213 ucR_share) rfl rfl rfl hvR_share ⟨Nat.le_of_ble_eq_true rfl, Nat.le_of_ble_eq_true rfl⟩) hK hP hD hS hA [15, 16, 17, 18, 19, 20, 21, 22, 23, 24, 25, 26] [0, 1, 2, 3, 4, 5, 6, 7, 8, 9, 10, 11, 12, 13, 14] [0, 1, 2, 3, 4, 5, 6, 7, 8, 9, 10, 11, 12, 13, 14, 15, 16, 17, 18, 19, 20, 21, 22, 23, 24, 25, 26] rfl rfl (by decide) (by decide) (by decide) rfl (by decide) (va_recv hK (zlR hP) (ci := 3) (q0 := 0) rfl rfl) rfl hl.1 rfl (Nat.le_of_ble_eq_true rfl) dL_law_429 ⟨Nat.le_of_ble_eq_true rfl, Nat.le_of_ble_eq_true rfl⟩ (fun H locs hP hD hS => ?_)
      refine W.lcmp hx hb dL_law_432 ?_
      refine lv_if_eq (tgt := 738) hx hb dL_law_433 (by decide) (fun _ => ?_) (fun z => absurd (lgc_eq e1.symm) z)
      exact law_next hx hb (fun ls hl => ih (j + 4) ((fK_share n S (xs (nI j + 1).toNatClampNeg) (xs (nI j + 2).toNatClampNeg) (xs (nI j + 3).toNatClampNeg)).2) v.2 (by omega) (by omega) hR h h' _ _ hP hD hS ls hl) hl
set_option maxHeartbeats 4000000 in
set_option maxRecDepth 100000 in
theorem law_c8 {p : Program} {l : Launch} {e : Env} {s : State} {m : MethodId} {below : List Frame} {meth : Method} {c : Code} {D : va_G} {Y : Nat → ClassId} {b L n : Nat} {xs : Nat → Int32} (hL : L ≤ 2049) (hn : n ≤ 24) (C0 : lw_At p s m meth c b L xs) (hK : va_K D vwCl (tysK Y) s) {k : Nat} (ih : ∀ (j : Nat) (S : vK) (T : vR), L + 1 ≤ j + k → j ≤ 2053 → Rel n S T → ∀ (h h' : Nat → Nat) (H : Heap) (locs : List Loc), va_P D vwCl (wK Y h n S ++ wR Y h' n T) H → va_D (fun q : Nat => s.heap.size ≤ q) (wK Y h n S ++ wR Y h' n T) → va_S (fun q : Nat => s.heap.size ≤ q) s.heap H locs → ∀ ls : Array Slot, lv_has ls 4 [(0, .ref b), (1, .ref (h 0)), (2, .ref (h' 0)), (3, .int (nI j))] → W p l e room_1 s m #[Value.ref b] below meth c H locs 27 2390 (lw_Z below #[Value.ref b] s) (F0 m 28 ls [])) (j : Nat) (S : vK) (T : vR) (hj : L + 1 ≤ j + (k + 1)) (hj2 : j ≤ 2053) (hR : Rel n S T) (hjL : j + 4 ≤ L) (h h' : Nat → Nat) (H : Heap) (locs : List Loc) (hP : va_P D vwCl (wK Y h n S ++ wR Y h' n T) H) (hD : va_D (fun q : Nat => s.heap.size ≤ q) (wK Y h n S ++ wR Y h' n T)) (hS : va_S (fun q : Nat => s.heap.size ≤ q) s.heap H locs) (ls : Array Slot) (hl : lv_has ls 4 [(0, .ref b), (1, .ref (h 0)), (2, .ref (h' 0)), (3, .int (nI j))]) : W p l e room_1 s m #[Value.ref b] below meth c H locs 27 2390 (lw_Z below #[Value.ref b] s) (F0 m 438 ls []) := by
      obtain ⟨hx, hb, hr, hml, hown, hts0, hX, hbl, hlocks, hgv⟩ := C0
      have hts : ∀ w ∈ uT, w.before #[Value.ref b] s = true := fun w h => hts0 w (List.mem_filter.mp h).1
      have hA : ∀ q : Nat, s.heap.size ≤ q → (fun q : Nat => s.heap.size ≤ q) q := fun _ h => h
      have hbA : ¬ (fun q : Nat => s.heap.size ≤ q) b := Nat.not_le.mpr hbl
      have hi1 : vp_in (nI j + 1) L := law_in (c := 1) hL hjL (by decide)
      have hi2 : vp_in (nI j + 2) L := law_in (c := 2) hL hjL (by decide)
      have hi3 : vp_in (nI j + 3) L := law_in (c := 3) hL hjL (by decide)
      obtain ⟨v, ev, e1, hR⟩ := rel_isForbear hR (xs (nI j + 1).toNatClampNeg) (xs (nI j + 2).toNatClampNeg)
      refine lv_aload_n hx hb dL_law_438 rfl (lv_at hl 1 rfl) ?_
      refine lv_aload_n hx hb dL_law_439 rfl (lv_at hl 0 rfl) ?_
      refine lv_iload_n hx hb dL_law_440 rfl (lv_at hl 3 rfl) ?_
      refine lv_iconst (v := 1) hx hb dL_law_441 (by decide) ?_
      refine lv_iadd hx hb dL_law_442 ?_
      refine va_sld hx hb hX hbl hbA hS hi1 dL_law_443 ?_
      refine lv_aload_n hx hb dL_law_444 rfl (lv_at hl 0 rfl) ?_
      refine lv_iload_n hx hb dL_law_445 rfl (lv_at hl 3 rfl) ?_
      refine lv_iconst (v := 2) hx hb dL_law_446 (by decide) ?_
      refine lv_iadd hx hb dL_law_447 ?_
      refine va_sld hx hb hX hbl hbA hS hi2 dL_law_448 ?_
      refine qVi (rest := []) ⟨hx, hb, hml, hown, hts⟩ (kK_isForbear l D Y h n hn S (xs (nI j + 1).toNatClampNeg) (xs (nI j + 2).toNatClampNeg)) (cwV 2 hts (gV uw315 uw316 uw317 uw116 ucK_isForbear) rfl rfl rfl hvK_isForbear ⟨Nat.le_of_ble_eq_true rfl, Nat.le_of_ble_eq_true rfl⟩) hK (zlK hP) (va_recv hK (zlK hP) (ci := 0) (q0 := 0) rfl rfl) rfl hl.1 rfl (Nat.le_of_ble_eq_true rfl) dL_law_449 ⟨Nat.le_of_ble_eq_true rfl, Nat.le_of_ble_eq_true rfl⟩ ?_
      refine lv_aload_n hx hb dL_law_452 rfl (lv_at hl 2 rfl) ?_
      refine lv_aload_n hx hb dL_law_453 rfl (lv_at hl 0 rfl) ?_
      refine lv_iload_n hx hb dL_law_454 rfl (lv_at hl 3 rfl) ?_
      refine lv_iconst (v := 1) hx hb dL_law_455 (by decide) ?_
      refine lv_iadd hx hb dL_law_456 ?_
      refine va_sld hx hb hX hbl hbA hS hi1 dL_law_457 ?_
      refine lv_aload_n hx hb dL_law_458 rfl (lv_at hl 0 rfl) ?_
      refine lv_iload_n hx hb dL_law_459 rfl (lv_at hl 3 rfl) ?_
      refine lv_iconst (v := 2) hx hb dL_law_460 (by decide) ?_
      refine lv_iadd hx hb dL_law_461 ?_
      refine va_sld hx hb hX hbl hbA hS hi2 dL_law_462 ?_
      refine qMVi (w := wR Y h' n) (ws := wK Y h n S ++ wR Y h' n T) (wc := wR Y h' n T) (wr := wK Y h n S) (ws' := wK Y h n S ++ wR Y h' n v.2) (rest := [.int (fK_isForbear n S (xs (nI j + 1).toNatClampNeg) (xs (nI j + 2).toNatClampNeg))]) ⟨hx, hb, hml, hown, hts⟩ (kR_isForbear l D Y h' n hn T (xs (nI j + 1).toNatClampNeg) (xs (nI j + 2).toNatClampNeg) v ev _) (cwV 2 hts (gV uw318 uw319 uw320 uw213 ucR_isForbear) rfl rfl rfl hvR_isForbear ⟨Nat.le_of_ble_eq_true rfl, Nat.le_of_ble_eq_true rfl⟩) hK hP hD hS hA [15, 16, 17, 18, 19, 20, 21, 22, 23, 24, 25, 26] [0, 1, 2, 3, 4, 5, 6, 7, 8, 9, 10, 11, 12, 13, 14] [0, 1, 2, 3, 4, 5, 6, 7, 8, 9, 10, 11, 12, 13, 14, 15, 16, 17, 18, 19, 20, 21, 22, 23, 24, 25, 26] rfl rfl (by decide) (by decide) (by decide) rfl (by decide) (va_recv hK (zlR hP) (ci := 3) (q0 := 0) rfl rfl) rfl hl.1 rfl (Nat.le_of_ble_eq_true rfl) dL_law_463 ⟨Nat.le_of_ble_eq_true rfl, Nat.le_of_ble_eq_true rfl⟩ (fun H locs hP hD hS => ?_)
      refine lv_icmp_eq (tgt := 738) hx hb dL_law_466 (by decide) (fun _ => ?_) (fun z => absurd e1.symm z)
      exact law_next hx hb (fun ls hl => ih (j + 4) S v.2 (by omega) (by omega) hR h h' _ _ hP hD hS ls hl) hl
set_option maxHeartbeats 4000000 in
set_option maxRecDepth 100000 in
theorem law_c9 {p : Program} {l : Launch} {e : Env} {s : State} {m : MethodId} {below : List Frame} {meth : Method} {c : Code} {D : va_G} {Y : Nat → ClassId} {b L n : Nat} {xs : Nat → Int32} (hL : L ≤ 2049) (hn : n ≤ 24) (C0 : lw_At p s m meth c b L xs) (hK : va_K D vwCl (tysK Y) s) {k : Nat} (ih : ∀ (j : Nat) (S : vK) (T : vR), L + 1 ≤ j + k → j ≤ 2053 → Rel n S T → ∀ (h h' : Nat → Nat) (H : Heap) (locs : List Loc), va_P D vwCl (wK Y h n S ++ wR Y h' n T) H → va_D (fun q : Nat => s.heap.size ≤ q) (wK Y h n S ++ wR Y h' n T) → va_S (fun q : Nat => s.heap.size ≤ q) s.heap H locs → ∀ ls : Array Slot, lv_has ls 4 [(0, .ref b), (1, .ref (h 0)), (2, .ref (h' 0)), (3, .int (nI j))] → W p l e room_1 s m #[Value.ref b] below meth c H locs 27 2390 (lw_Z below #[Value.ref b] s) (F0 m 28 ls [])) (j : Nat) (S : vK) (T : vR) (hj : L + 1 ≤ j + (k + 1)) (hj2 : j ≤ 2053) (hR : Rel n S T) (hjL : j + 4 ≤ L) (h h' : Nat → Nat) (H : Heap) (locs : List Loc) (hP : va_P D vwCl (wK Y h n S ++ wR Y h' n T) H) (hD : va_D (fun q : Nat => s.heap.size ≤ q) (wK Y h n S ++ wR Y h' n T)) (hS : va_S (fun q : Nat => s.heap.size ≤ q) s.heap H locs) (ls : Array Slot) (hl : lv_has ls 4 [(0, .ref b), (1, .ref (h 0)), (2, .ref (h' 0)), (3, .int (nI j))]) : W p l e room_1 s m #[Value.ref b] below meth c H locs 27 2390 (lw_Z below #[Value.ref b] s) (F0 m 471 ls []) := by
      obtain ⟨hx, hb, hr, hml, hown, hts0, hX, hbl, hlocks, hgv⟩ := C0
      have hts : ∀ w ∈ uT, w.before #[Value.ref b] s = true := fun w h => hts0 w (List.mem_filter.mp h).1
      have hA : ∀ q : Nat, s.heap.size ≤ q → (fun q : Nat => s.heap.size ≤ q) q := fun _ h => h
      have hbA : ¬ (fun q : Nat => s.heap.size ≤ q) b := Nat.not_le.mpr hbl
      have hi1 : vp_in (nI j + 1) L := law_in (c := 1) hL hjL (by decide)
      have hi2 : vp_in (nI j + 2) L := law_in (c := 2) hL hjL (by decide)
      have hi3 : vp_in (nI j + 3) L := law_in (c := 3) hL hjL (by decide)
      obtain ⟨v, ev, e1, hR⟩ := rel_order hR (xs (nI j + 1).toNatClampNeg)
      refine lv_aload_n hx hb dL_law_471 rfl (lv_at hl 1 rfl) ?_
      refine lv_aload_n hx hb dL_law_472 rfl (lv_at hl 0 rfl) ?_
      refine lv_iload_n hx hb dL_law_473 rfl (lv_at hl 3 rfl) ?_
      refine lv_iconst (v := 1) hx hb dL_law_474 (by decide) ?_
      refine lv_iadd hx hb dL_law_475 ?_
      refine va_sld hx hb hX hbl hbA hS hi1 dL_law_476 ?_
      refine qVi (rest := []) ⟨hx, hb, hml, hown, hts⟩ (kK_order l D Y h n hn S (xs (nI j + 1).toNatClampNeg)) (cwV 1 hts (gV uw321 uw322 uw323 uw116 ucK_order) rfl rfl rfl hvK_order ⟨Nat.le_of_ble_eq_true rfl, Nat.le_of_ble_eq_true rfl⟩) hK (zlK hP) (va_recv hK (zlK hP) (ci := 0) (q0 := 0) rfl rfl) rfl hl.1 rfl (Nat.le_of_ble_eq_true rfl) dL_law_477 ⟨Nat.le_of_ble_eq_true rfl, Nat.le_of_ble_eq_true rfl⟩ ?_
      refine lv_aload_n hx hb dL_law_480 rfl (lv_at hl 2 rfl) ?_
      refine lv_aload_n hx hb dL_law_481 rfl (lv_at hl 0 rfl) ?_
      refine lv_iload_n hx hb dL_law_482 rfl (lv_at hl 3 rfl) ?_
      refine lv_iconst (v := 1) hx hb dL_law_483 (by decide) ?_
      refine lv_iadd hx hb dL_law_484 ?_
      refine va_sld hx hb hX hbl hbA hS hi1 dL_law_485 ?_
      refine qMVi (w := wR Y h' n) (ws := wK Y h n S ++ wR Y h' n T) (wc := wR Y h' n T) (wr := wK Y h n S) (ws' := wK Y h n S ++ wR Y h' n v.2) (rest := [.int (fK_order n S (xs (nI j + 1).toNatClampNeg))]) ⟨hx, hb, hml, hown, hts⟩ (kR_order l D Y h' n hn T (xs (nI j + 1).toNatClampNeg) v ev _) (cwV 1 hts (gV uw324 uw325 uw326 uw213 ucR_order) rfl rfl rfl hvR_order ⟨Nat.le_of_ble_eq_true rfl, Nat.le_of_ble_eq_true rfl⟩) hK hP hD hS hA [15, 16, 17, 18, 19, 20, 21, 22, 23, 24, 25, 26] [0, 1, 2, 3, 4, 5, 6, 7, 8, 9, 10, 11, 12, 13, 14] [0, 1, 2, 3, 4, 5, 6, 7, 8, 9, 10, 11, 12, 13, 14, 15, 16, 17, 18, 19, 20, 21, 22, 23, 24, 25, 26] rfl rfl (by decide) (by decide) (by decide) rfl (by decide) (va_recv hK (zlR hP) (ci := 3) (q0 := 0) rfl rfl) rfl hl.1 rfl (Nat.le_of_ble_eq_true rfl) dL_law_486 ⟨Nat.le_of_ble_eq_true rfl, Nat.le_of_ble_eq_true rfl⟩ (fun H locs hP hD hS => ?_)
      refine lv_icmp_eq (tgt := 738) hx hb dL_law_489 (by decide) (fun _ => ?_) (fun z => absurd e1.symm z)
      exact law_next hx hb (fun ls hl => ih (j + 4) S v.2 (by omega) (by omega) hR h h' _ _ hP hD hS ls hl) hl
set_option maxHeartbeats 4000000 in
set_option maxRecDepth 100000 in
theorem law_c10 {p : Program} {l : Launch} {e : Env} {s : State} {m : MethodId} {below : List Frame} {meth : Method} {c : Code} {D : va_G} {Y : Nat → ClassId} {b L n : Nat} {xs : Nat → Int32} (hL : L ≤ 2049) (hn : n ≤ 24) (C0 : lw_At p s m meth c b L xs) (hK : va_K D vwCl (tysK Y) s) {k : Nat} (ih : ∀ (j : Nat) (S : vK) (T : vR), L + 1 ≤ j + k → j ≤ 2053 → Rel n S T → ∀ (h h' : Nat → Nat) (H : Heap) (locs : List Loc), va_P D vwCl (wK Y h n S ++ wR Y h' n T) H → va_D (fun q : Nat => s.heap.size ≤ q) (wK Y h n S ++ wR Y h' n T) → va_S (fun q : Nat => s.heap.size ≤ q) s.heap H locs → ∀ ls : Array Slot, lv_has ls 4 [(0, .ref b), (1, .ref (h 0)), (2, .ref (h' 0)), (3, .int (nI j))] → W p l e room_1 s m #[Value.ref b] below meth c H locs 27 2390 (lw_Z below #[Value.ref b] s) (F0 m 28 ls [])) (j : Nat) (S : vK) (T : vR) (hj : L + 1 ≤ j + (k + 1)) (hj2 : j ≤ 2053) (hR : Rel n S T) (hjL : j + 4 ≤ L) (h h' : Nat → Nat) (H : Heap) (locs : List Loc) (hP : va_P D vwCl (wK Y h n S ++ wR Y h' n T) H) (hD : va_D (fun q : Nat => s.heap.size ≤ q) (wK Y h n S ++ wR Y h' n T)) (hS : va_S (fun q : Nat => s.heap.size ≤ q) s.heap H locs) (ls : Array Slot) (hl : lv_has ls 4 [(0, .ref b), (1, .ref (h 0)), (2, .ref (h' 0)), (3, .int (nI j))]) : W p l e room_1 s m #[Value.ref b] below meth c H locs 27 2390 (lw_Z below #[Value.ref b] s) (F0 m 494 ls []) := by
      obtain ⟨hx, hb, hr, hml, hown, hts0, hX, hbl, hlocks, hgv⟩ := C0
      have hts : ∀ w ∈ uT, w.before #[Value.ref b] s = true := fun w h => hts0 w (List.mem_filter.mp h).1
      have hA : ∀ q : Nat, s.heap.size ≤ q → (fun q : Nat => s.heap.size ≤ q) q := fun _ h => h
      have hbA : ¬ (fun q : Nat => s.heap.size ≤ q) b := Nat.not_le.mpr hbl
      have hi1 : vp_in (nI j + 1) L := law_in (c := 1) hL hjL (by decide)
      have hi2 : vp_in (nI j + 2) L := law_in (c := 2) hL hjL (by decide)
      have hi3 : vp_in (nI j + 3) L := law_in (c := 3) hL hjL (by decide)
      obtain ⟨v, ev, e1, hR⟩ := rel_mark hR (xs (nI j + 1).toNatClampNeg) (xs (nI j + 2).toNatClampNeg) (xs (nI j + 3).toNatClampNeg)
      refine lv_aload_n hx hb dL_law_494 rfl (lv_at hl 1 rfl) ?_
      refine lv_aload_n hx hb dL_law_495 rfl (lv_at hl 0 rfl) ?_
      refine lv_iload_n hx hb dL_law_496 rfl (lv_at hl 3 rfl) ?_
      refine lv_iconst (v := 1) hx hb dL_law_497 (by decide) ?_
      refine lv_iadd hx hb dL_law_498 ?_
      refine va_sld hx hb hX hbl hbA hS hi1 dL_law_499 ?_
      refine lv_aload_n hx hb dL_law_500 rfl (lv_at hl 0 rfl) ?_
      refine lv_iload_n hx hb dL_law_501 rfl (lv_at hl 3 rfl) ?_
      refine lv_iconst (v := 2) hx hb dL_law_502 (by decide) ?_
      refine lv_iadd hx hb dL_law_503 ?_
      refine va_sld hx hb hX hbl hbA hS hi2 dL_law_504 ?_
      refine lv_aload_n hx hb dL_law_505 rfl (lv_at hl 0 rfl) ?_
      refine lv_iload_n hx hb dL_law_506 rfl (lv_at hl 3 rfl) ?_
      refine lv_iconst (v := 3) hx hb dL_law_507 (by decide) ?_
      refine lv_iadd hx hb dL_law_508 ?_
      refine va_sld hx hb hX hbl hbA hS hi3 dL_law_509 ?_
      refine qMVi (w := wK Y h n) (ws := wK Y h n S ++ wR Y h' n T) (wc := wK Y h n S) (wr := wR Y h' n T) (ws' := wK Y h n ((fK_mark n S (xs (nI j + 1).toNatClampNeg) (xs (nI j + 2).toNatClampNeg) (xs (nI j + 3).toNatClampNeg)).2) ++ wR Y h' n T) (rest := []) ⟨hx, hb, hml, hown, hts⟩ (kK_mark l D Y h n hn S (xs (nI j + 1).toNatClampNeg) (xs (nI j + 2).toNatClampNeg) (xs (nI j + 3).toNatClampNeg) _) (cwV 3 hts (gV uw327 uw328 uw329 uw116 ucK_mark) rfl rfl rfl hvK_mark ⟨Nat.le_of_ble_eq_true rfl, Nat.le_of_ble_eq_true rfl⟩) hK hP hD hS hA [0, 1, 2, 3, 4, 5, 6, 7, 8, 9, 10, 11, 12, 13, 14] [15, 16, 17, 18, 19, 20, 21, 22, 23, 24, 25, 26] [12, 13, 14, 15, 16, 17, 18, 19, 20, 21, 22, 23, 24, 25, 26, 0, 1, 2, 3, 4, 5, 6, 7, 8, 9, 10, 11] rfl rfl (by decide) (by decide) (by decide) rfl (by decide) (va_recv hK (zlK hP) (ci := 0) (q0 := 0) rfl rfl) rfl hl.1 rfl (Nat.le_of_ble_eq_true rfl) dL_law_510 ⟨Nat.le_of_ble_eq_true rfl, Nat.le_of_ble_eq_true rfl⟩ (fun H locs hP hD hS => ?_)
      refine lv_aload_n hx hb dL_law_513 rfl (lv_at hl 2 rfl) ?_
      refine lv_aload_n hx hb dL_law_514 rfl (lv_at hl 0 rfl) ?_
      refine lv_iload_n hx hb dL_law_515 rfl (lv_at hl 3 rfl) ?_
      refine lv_iconst (v := 1) hx hb dL_law_516 (by decide) ?_
      refine lv_iadd hx hb dL_law_517 ?_
      refine va_sld hx hb hX hbl hbA hS hi1 dL_law_518 ?_
      refine lv_aload_n hx hb dL_law_519 rfl (lv_at hl 0 rfl) ?_
      refine lv_iload_n hx hb dL_law_520 rfl (lv_at hl 3 rfl) ?_
      refine lv_iconst (v := 2) hx hb dL_law_521 (by decide) ?_
      refine lv_iadd hx hb dL_law_522 ?_
      refine va_sld hx hb hX hbl hbA hS hi2 dL_law_523 ?_
      refine lv_aload_n hx hb dL_law_524 rfl (lv_at hl 0 rfl) ?_
      refine lv_iload_n hx hb dL_law_525 rfl (lv_at hl 3 rfl) ?_
      refine lv_iconst (v := 3) hx hb dL_law_526 (by decide) ?_
      refine lv_iadd hx hb dL_law_527 ?_
      refine va_sld hx hb hX hbl hbA hS hi3 dL_law_528 ?_
      refine qMVi (w := wR Y h' n) (ws := wK Y h n ((fK_mark n S (xs (nI j + 1).toNatClampNeg) (xs (nI j + 2).toNatClampNeg) (xs (nI j + 3).toNatClampNeg)).2) ++ wR Y h' n T) (wc := wR Y h' n T) (wr := wK Y h n ((fK_mark n S (xs (nI j + 1).toNatClampNeg) (xs (nI j + 2).toNatClampNeg) (xs (nI j + 3).toNatClampNeg)).2)) (ws' := wK Y h n ((fK_mark n S (xs (nI j + 1).toNatClampNeg) (xs (nI j + 2).toNatClampNeg) (xs (nI j + 3).toNatClampNeg)).2) ++ wR Y h' n v.2) (rest := [.int (fK_mark n S (xs (nI j + 1).toNatClampNeg) (xs (nI j + 2).toNatClampNeg) (xs (nI j + 3).toNatClampNeg)).1]) ⟨hx, hb, hml, hown, hts⟩ (kR_mark l D Y h' n hn T (xs (nI j + 1).toNatClampNeg) (xs (nI j + 2).toNatClampNeg) (xs (nI j + 3).toNatClampNeg) v ev _) (cwV 3 hts (gV uw330 uw331 uw332 uw213 ucR_mark) rfl rfl rfl hvR_mark ⟨Nat.le_of_ble_eq_true rfl, Nat.le_of_ble_eq_true rfl⟩) hK hP hD hS hA [15, 16, 17, 18, 19, 20, 21, 22, 23, 24, 25, 26] [0, 1, 2, 3, 4, 5, 6, 7, 8, 9, 10, 11, 12, 13, 14] [0, 1, 2, 3, 4, 5, 6, 7, 8, 9, 10, 11, 12, 13, 14, 15, 16, 17, 18, 19, 20, 21, 22, 23, 24, 25, 26] rfl rfl (by decide) (by decide) (by decide) rfl (by decide) (va_recv hK (zlR hP) (ci := 3) (q0 := 0) rfl rfl) rfl hl.1 rfl (Nat.le_of_ble_eq_true rfl) dL_law_529 ⟨Nat.le_of_ble_eq_true rfl, Nat.le_of_ble_eq_true rfl⟩ (fun H locs hP hD hS => ?_)
      refine lv_icmp_eq (tgt := 738) hx hb dL_law_532 (by decide) (fun _ => ?_) (fun z => absurd e1.symm z)
      exact law_next hx hb (fun ls hl => ih (j + 4) ((fK_mark n S (xs (nI j + 1).toNatClampNeg) (xs (nI j + 2).toNatClampNeg) (xs (nI j + 3).toNatClampNeg)).2) v.2 (by omega) (by omega) hR h h' _ _ hP hD hS ls hl) hl
set_option maxHeartbeats 4000000 in
set_option maxRecDepth 100000 in
theorem law_c11 {p : Program} {l : Launch} {e : Env} {s : State} {m : MethodId} {below : List Frame} {meth : Method} {c : Code} {D : va_G} {Y : Nat → ClassId} {b L n : Nat} {xs : Nat → Int32} (hL : L ≤ 2049) (hn : n ≤ 24) (C0 : lw_At p s m meth c b L xs) (hK : va_K D vwCl (tysK Y) s) {k : Nat} (ih : ∀ (j : Nat) (S : vK) (T : vR), L + 1 ≤ j + k → j ≤ 2053 → Rel n S T → ∀ (h h' : Nat → Nat) (H : Heap) (locs : List Loc), va_P D vwCl (wK Y h n S ++ wR Y h' n T) H → va_D (fun q : Nat => s.heap.size ≤ q) (wK Y h n S ++ wR Y h' n T) → va_S (fun q : Nat => s.heap.size ≤ q) s.heap H locs → ∀ ls : Array Slot, lv_has ls 4 [(0, .ref b), (1, .ref (h 0)), (2, .ref (h' 0)), (3, .int (nI j))] → W p l e room_1 s m #[Value.ref b] below meth c H locs 27 2390 (lw_Z below #[Value.ref b] s) (F0 m 28 ls [])) (j : Nat) (S : vK) (T : vR) (hj : L + 1 ≤ j + (k + 1)) (hj2 : j ≤ 2053) (hR : Rel n S T) (hjL : j + 4 ≤ L) (h h' : Nat → Nat) (H : Heap) (locs : List Loc) (hP : va_P D vwCl (wK Y h n S ++ wR Y h' n T) H) (hD : va_D (fun q : Nat => s.heap.size ≤ q) (wK Y h n S ++ wR Y h' n T)) (hS : va_S (fun q : Nat => s.heap.size ≤ q) s.heap H locs) (ls : Array Slot) (hl : lv_has ls 4 [(0, .ref b), (1, .ref (h 0)), (2, .ref (h' 0)), (3, .int (nI j))]) : W p l e room_1 s m #[Value.ref b] below meth c H locs 27 2390 (lw_Z below #[Value.ref b] s) (F0 m 537 ls []) := by
      obtain ⟨hx, hb, hr, hml, hown, hts0, hX, hbl, hlocks, hgv⟩ := C0
      have hts : ∀ w ∈ uT, w.before #[Value.ref b] s = true := fun w h => hts0 w (List.mem_filter.mp h).1
      have hA : ∀ q : Nat, s.heap.size ≤ q → (fun q : Nat => s.heap.size ≤ q) q := fun _ h => h
      have hbA : ¬ (fun q : Nat => s.heap.size ≤ q) b := Nat.not_le.mpr hbl
      have hi1 : vp_in (nI j + 1) L := law_in (c := 1) hL hjL (by decide)
      have hi2 : vp_in (nI j + 2) L := law_in (c := 2) hL hjL (by decide)
      have hi3 : vp_in (nI j + 3) L := law_in (c := 3) hL hjL (by decide)
      have e1 := rel_left hR (xs (nI j + 1).toNatClampNeg) (xs (nI j + 2).toNatClampNeg)
      refine lv_aload_n hx hb dL_law_537 rfl (lv_at hl 1 rfl) ?_
      refine lv_aload_n hx hb dL_law_538 rfl (lv_at hl 0 rfl) ?_
      refine lv_iload_n hx hb dL_law_539 rfl (lv_at hl 3 rfl) ?_
      refine lv_iconst (v := 1) hx hb dL_law_540 (by decide) ?_
      refine lv_iadd hx hb dL_law_541 ?_
      refine va_sld hx hb hX hbl hbA hS hi1 dL_law_542 ?_
      refine lv_aload_n hx hb dL_law_543 rfl (lv_at hl 0 rfl) ?_
      refine lv_iload_n hx hb dL_law_544 rfl (lv_at hl 3 rfl) ?_
      refine lv_iconst (v := 2) hx hb dL_law_545 (by decide) ?_
      refine lv_iadd hx hb dL_law_546 ?_
      refine va_sld hx hb hX hbl hbA hS hi2 dL_law_547 ?_
      refine qVi (rest := []) ⟨hx, hb, hml, hown, hts⟩ (kK_left l D Y h n hn S (xs (nI j + 1).toNatClampNeg) (xs (nI j + 2).toNatClampNeg)) (cwV 2 hts (gV uw333 uw334 uw335 uw116 ucK_left) rfl rfl rfl hvK_left ⟨Nat.le_of_ble_eq_true rfl, Nat.le_of_ble_eq_true rfl⟩) hK (zlK hP) (va_recv hK (zlK hP) (ci := 0) (q0 := 0) rfl rfl) rfl hl.1 rfl (Nat.le_of_ble_eq_true rfl) dL_law_548 ⟨Nat.le_of_ble_eq_true rfl, Nat.le_of_ble_eq_true rfl⟩ ?_
      refine lv_aload_n hx hb dL_law_551 rfl (lv_at hl 2 rfl) ?_
      refine lv_aload_n hx hb dL_law_552 rfl (lv_at hl 0 rfl) ?_
      refine lv_iload_n hx hb dL_law_553 rfl (lv_at hl 3 rfl) ?_
      refine lv_iconst (v := 1) hx hb dL_law_554 (by decide) ?_
      refine lv_iadd hx hb dL_law_555 ?_
      refine va_sld hx hb hX hbl hbA hS hi1 dL_law_556 ?_
      refine lv_aload_n hx hb dL_law_557 rfl (lv_at hl 0 rfl) ?_
      refine lv_iload_n hx hb dL_law_558 rfl (lv_at hl 3 rfl) ?_
      refine lv_iconst (v := 2) hx hb dL_law_559 (by decide) ?_
      refine lv_iadd hx hb dL_law_560 ?_
      refine va_sld hx hb hX hbl hbA hS hi2 dL_law_561 ?_
      refine qVi (rest := [.int (fK_left n S (xs (nI j + 1).toNatClampNeg) (xs (nI j + 2).toNatClampNeg))]) ⟨hx, hb, hml, hown, hts⟩ (kR_left l D Y h' n hn T (xs (nI j + 1).toNatClampNeg) (xs (nI j + 2).toNatClampNeg) _ e1) (cwV 2 hts (gV uw336 uw337 uw338 uw213 ucR_left) rfl rfl rfl hvR_left ⟨Nat.le_of_ble_eq_true rfl, Nat.le_of_ble_eq_true rfl⟩) hK (zlR hP) (va_recv hK (zlR hP) (ci := 3) (q0 := 0) rfl rfl) rfl hl.1 rfl (Nat.le_of_ble_eq_true rfl) dL_law_562 ⟨Nat.le_of_ble_eq_true rfl, Nat.le_of_ble_eq_true rfl⟩ ?_
      refine lv_icmp_eq (tgt := 738) hx hb dL_law_565 (by decide) (fun _ => ?_) (fun z => absurd rfl z)
      exact law_next hx hb (fun ls hl => ih (j + 4) S T (by omega) (by omega) hR h h' _ _ hP hD hS ls hl) hl
set_option maxHeartbeats 4000000 in
set_option maxRecDepth 100000 in
theorem law_c12 {p : Program} {l : Launch} {e : Env} {s : State} {m : MethodId} {below : List Frame} {meth : Method} {c : Code} {D : va_G} {Y : Nat → ClassId} {b L n : Nat} {xs : Nat → Int32} (hL : L ≤ 2049) (hn : n ≤ 24) (C0 : lw_At p s m meth c b L xs) (hK : va_K D vwCl (tysK Y) s) {k : Nat} (ih : ∀ (j : Nat) (S : vK) (T : vR), L + 1 ≤ j + k → j ≤ 2053 → Rel n S T → ∀ (h h' : Nat → Nat) (H : Heap) (locs : List Loc), va_P D vwCl (wK Y h n S ++ wR Y h' n T) H → va_D (fun q : Nat => s.heap.size ≤ q) (wK Y h n S ++ wR Y h' n T) → va_S (fun q : Nat => s.heap.size ≤ q) s.heap H locs → ∀ ls : Array Slot, lv_has ls 4 [(0, .ref b), (1, .ref (h 0)), (2, .ref (h' 0)), (3, .int (nI j))] → W p l e room_1 s m #[Value.ref b] below meth c H locs 27 2390 (lw_Z below #[Value.ref b] s) (F0 m 28 ls [])) (j : Nat) (S : vK) (T : vR) (hj : L + 1 ≤ j + (k + 1)) (hj2 : j ≤ 2053) (hR : Rel n S T) (hjL : j + 4 ≤ L) (h h' : Nat → Nat) (H : Heap) (locs : List Loc) (hP : va_P D vwCl (wK Y h n S ++ wR Y h' n T) H) (hD : va_D (fun q : Nat => s.heap.size ≤ q) (wK Y h n S ++ wR Y h' n T)) (hS : va_S (fun q : Nat => s.heap.size ≤ q) s.heap H locs) (ls : Array Slot) (hl : lv_has ls 4 [(0, .ref b), (1, .ref (h 0)), (2, .ref (h' 0)), (3, .int (nI j))]) : W p l e room_1 s m #[Value.ref b] below meth c H locs 27 2390 (lw_Z below #[Value.ref b] s) (F0 m 570 ls []) := by
      obtain ⟨hx, hb, hr, hml, hown, hts0, hX, hbl, hlocks, hgv⟩ := C0
      have hts : ∀ w ∈ uT, w.before #[Value.ref b] s = true := fun w h => hts0 w (List.mem_filter.mp h).1
      have hA : ∀ q : Nat, s.heap.size ≤ q → (fun q : Nat => s.heap.size ≤ q) q := fun _ h => h
      have hbA : ¬ (fun q : Nat => s.heap.size ≤ q) b := Nat.not_le.mpr hbl
      have hi1 : vp_in (nI j + 1) L := law_in (c := 1) hL hjL (by decide)
      have hi2 : vp_in (nI j + 2) L := law_in (c := 2) hL hjL (by decide)
      have hi3 : vp_in (nI j + 3) L := law_in (c := 3) hL hjL (by decide)
      have e1 := rel_odds hR (xs (nI j + 1).toNatClampNeg) (xs (nI j + 2).toNatClampNeg) (xs (nI j + 3).toNatClampNeg)
      refine lv_aload_n hx hb dL_law_570 rfl (lv_at hl 1 rfl) ?_
      refine lv_aload_n hx hb dL_law_571 rfl (lv_at hl 0 rfl) ?_
      refine lv_iload_n hx hb dL_law_572 rfl (lv_at hl 3 rfl) ?_
      refine lv_iconst (v := 1) hx hb dL_law_573 (by decide) ?_
      refine lv_iadd hx hb dL_law_574 ?_
      refine va_sld hx hb hX hbl hbA hS hi1 dL_law_575 ?_
      refine lv_aload_n hx hb dL_law_576 rfl (lv_at hl 0 rfl) ?_
      refine lv_iload_n hx hb dL_law_577 rfl (lv_at hl 3 rfl) ?_
      refine lv_iconst (v := 2) hx hb dL_law_578 (by decide) ?_
      refine lv_iadd hx hb dL_law_579 ?_
      refine va_sld hx hb hX hbl hbA hS hi2 dL_law_580 ?_
      refine lv_aload_n hx hb dL_law_581 rfl (lv_at hl 0 rfl) ?_
      refine lv_iload_n hx hb dL_law_582 rfl (lv_at hl 3 rfl) ?_
      refine lv_iconst (v := 3) hx hb dL_law_583 (by decide) ?_
      refine lv_iadd hx hb dL_law_584 ?_
      refine va_sld hx hb hX hbl hbA hS hi3 dL_law_585 ?_
      refine qVl (rest := []) ⟨hx, hb, hml, hown, hts⟩ (kK_odds l D Y h n hn S (xs (nI j + 1).toNatClampNeg) (xs (nI j + 2).toNatClampNeg) (xs (nI j + 3).toNatClampNeg)) (cwV 3 hts (gV uw339 uw340 uw341 uw116 ucK_odds) rfl rfl rfl hvK_odds ⟨Nat.le_of_ble_eq_true rfl, Nat.le_of_ble_eq_true rfl⟩) hK (zlK hP) (va_recv hK (zlK hP) (ci := 0) (q0 := 0) rfl rfl) rfl hl.1 rfl (Nat.le_of_ble_eq_true rfl) dL_law_586 ⟨Nat.le_of_ble_eq_true rfl, Nat.le_of_ble_eq_true rfl⟩ ?_
      refine lv_aload_n hx hb dL_law_589 rfl (lv_at hl 2 rfl) ?_
      refine lv_aload_n hx hb dL_law_590 rfl (lv_at hl 0 rfl) ?_
      refine lv_iload_n hx hb dL_law_591 rfl (lv_at hl 3 rfl) ?_
      refine lv_iconst (v := 1) hx hb dL_law_592 (by decide) ?_
      refine lv_iadd hx hb dL_law_593 ?_
      refine va_sld hx hb hX hbl hbA hS hi1 dL_law_594 ?_
      refine lv_aload_n hx hb dL_law_595 rfl (lv_at hl 0 rfl) ?_
      refine lv_iload_n hx hb dL_law_596 rfl (lv_at hl 3 rfl) ?_
      refine lv_iconst (v := 2) hx hb dL_law_597 (by decide) ?_
      refine lv_iadd hx hb dL_law_598 ?_
      refine va_sld hx hb hX hbl hbA hS hi2 dL_law_599 ?_
      refine lv_aload_n hx hb dL_law_600 rfl (lv_at hl 0 rfl) ?_
      refine lv_iload_n hx hb dL_law_601 rfl (lv_at hl 3 rfl) ?_
      refine lv_iconst (v := 3) hx hb dL_law_602 (by decide) ?_
      refine lv_iadd hx hb dL_law_603 ?_
      refine va_sld hx hb hX hbl hbA hS hi3 dL_law_604 ?_
      refine qVl (rest := [.long (fK_odds n S (xs (nI j + 1).toNatClampNeg) (xs (nI j + 2).toNatClampNeg) (xs (nI j + 3).toNatClampNeg))]) ⟨hx, hb, hml, hown, hts⟩ (kR_odds l D Y h' n hn T (xs (nI j + 1).toNatClampNeg) (xs (nI j + 2).toNatClampNeg) (xs (nI j + 3).toNatClampNeg) _ e1) (cwV 3 hts (gV uw342 uw343 uw344 uw213 ucR_odds) rfl rfl rfl hvR_odds ⟨Nat.le_of_ble_eq_true rfl, Nat.le_of_ble_eq_true rfl⟩) hK (zlR hP) (va_recv hK (zlR hP) (ci := 3) (q0 := 0) rfl rfl) rfl hl.1 rfl (Nat.le_of_ble_eq_true rfl) dL_law_605 ⟨Nat.le_of_ble_eq_true rfl, Nat.le_of_ble_eq_true rfl⟩ ?_
      refine W.lcmp hx hb dL_law_608 ?_
      refine lv_if_eq (tgt := 738) hx hb dL_law_609 (by decide) (fun _ => ?_) (fun z => absurd (lgc_eq rfl) z)
      exact law_next hx hb (fun ls hl => ih (j + 4) S T (by omega) (by omega) hR h h' _ _ hP hD hS ls hl) hl
set_option maxHeartbeats 4000000 in
set_option maxRecDepth 100000 in
theorem law_c13 {p : Program} {l : Launch} {e : Env} {s : State} {m : MethodId} {below : List Frame} {meth : Method} {c : Code} {D : va_G} {Y : Nat → ClassId} {b L n : Nat} {xs : Nat → Int32} (hL : L ≤ 2049) (hn : n ≤ 24) (C0 : lw_At p s m meth c b L xs) (hK : va_K D vwCl (tysK Y) s) {k : Nat} (ih : ∀ (j : Nat) (S : vK) (T : vR), L + 1 ≤ j + k → j ≤ 2053 → Rel n S T → ∀ (h h' : Nat → Nat) (H : Heap) (locs : List Loc), va_P D vwCl (wK Y h n S ++ wR Y h' n T) H → va_D (fun q : Nat => s.heap.size ≤ q) (wK Y h n S ++ wR Y h' n T) → va_S (fun q : Nat => s.heap.size ≤ q) s.heap H locs → ∀ ls : Array Slot, lv_has ls 4 [(0, .ref b), (1, .ref (h 0)), (2, .ref (h' 0)), (3, .int (nI j))] → W p l e room_1 s m #[Value.ref b] below meth c H locs 27 2390 (lw_Z below #[Value.ref b] s) (F0 m 28 ls [])) (j : Nat) (S : vK) (T : vR) (hj : L + 1 ≤ j + (k + 1)) (hj2 : j ≤ 2053) (hR : Rel n S T) (hjL : j + 4 ≤ L) (h h' : Nat → Nat) (H : Heap) (locs : List Loc) (hP : va_P D vwCl (wK Y h n S ++ wR Y h' n T) H) (hD : va_D (fun q : Nat => s.heap.size ≤ q) (wK Y h n S ++ wR Y h' n T)) (hS : va_S (fun q : Nat => s.heap.size ≤ q) s.heap H locs) (ls : Array Slot) (hl : lv_has ls 4 [(0, .ref b), (1, .ref (h 0)), (2, .ref (h' 0)), (3, .int (nI j))]) : W p l e room_1 s m #[Value.ref b] below meth c H locs 27 2390 (lw_Z below #[Value.ref b] s) (F0 m 614 ls []) := by
      obtain ⟨hx, hb, hr, hml, hown, hts0, hX, hbl, hlocks, hgv⟩ := C0
      have hts : ∀ w ∈ uT, w.before #[Value.ref b] s = true := fun w h => hts0 w (List.mem_filter.mp h).1
      have hA : ∀ q : Nat, s.heap.size ≤ q → (fun q : Nat => s.heap.size ≤ q) q := fun _ h => h
      have hbA : ¬ (fun q : Nat => s.heap.size ≤ q) b := Nat.not_le.mpr hbl
      have hi1 : vp_in (nI j + 1) L := law_in (c := 1) hL hjL (by decide)
      have hi2 : vp_in (nI j + 2) L := law_in (c := 2) hL hjL (by decide)
      have hi3 : vp_in (nI j + 3) L := law_in (c := 3) hL hjL (by decide)
      have e1 := rel_like hR (xs (nI j + 1).toNatClampNeg) (xs (nI j + 2).toNatClampNeg) (xs (nI j + 3).toNatClampNeg)
      refine lv_aload_n hx hb dL_law_614 rfl (lv_at hl 1 rfl) ?_
      refine lv_aload_n hx hb dL_law_615 rfl (lv_at hl 0 rfl) ?_
      refine lv_iload_n hx hb dL_law_616 rfl (lv_at hl 3 rfl) ?_
      refine lv_iconst (v := 1) hx hb dL_law_617 (by decide) ?_
      refine lv_iadd hx hb dL_law_618 ?_
      refine va_sld hx hb hX hbl hbA hS hi1 dL_law_619 ?_
      refine lv_aload_n hx hb dL_law_620 rfl (lv_at hl 0 rfl) ?_
      refine lv_iload_n hx hb dL_law_621 rfl (lv_at hl 3 rfl) ?_
      refine lv_iconst (v := 2) hx hb dL_law_622 (by decide) ?_
      refine lv_iadd hx hb dL_law_623 ?_
      refine va_sld hx hb hX hbl hbA hS hi2 dL_law_624 ?_
      refine lv_aload_n hx hb dL_law_625 rfl (lv_at hl 0 rfl) ?_
      refine lv_iload_n hx hb dL_law_626 rfl (lv_at hl 3 rfl) ?_
      refine lv_iconst (v := 3) hx hb dL_law_627 (by decide) ?_
      refine lv_iadd hx hb dL_law_628 ?_
      refine va_sld hx hb hX hbl hbA hS hi3 dL_law_629 ?_
      refine qVl (rest := []) ⟨hx, hb, hml, hown, hts⟩ (kK_like l D Y h n hn S (xs (nI j + 1).toNatClampNeg) (xs (nI j + 2).toNatClampNeg) (xs (nI j + 3).toNatClampNeg)) (cwV 3 hts (gV uw345 uw346 uw347 uw116 ucK_like) rfl rfl rfl hvK_like ⟨Nat.le_of_ble_eq_true rfl, Nat.le_of_ble_eq_true rfl⟩) hK (zlK hP) (va_recv hK (zlK hP) (ci := 0) (q0 := 0) rfl rfl) rfl hl.1 rfl (Nat.le_of_ble_eq_true rfl) dL_law_630 ⟨Nat.le_of_ble_eq_true rfl, Nat.le_of_ble_eq_true rfl⟩ ?_
      refine lv_aload_n hx hb dL_law_633 rfl (lv_at hl 2 rfl) ?_
      refine lv_aload_n hx hb dL_law_634 rfl (lv_at hl 0 rfl) ?_
      refine lv_iload_n hx hb dL_law_635 rfl (lv_at hl 3 rfl) ?_
      refine lv_iconst (v := 1) hx hb dL_law_636 (by decide) ?_
      refine lv_iadd hx hb dL_law_637 ?_
      refine va_sld hx hb hX hbl hbA hS hi1 dL_law_638 ?_
      refine lv_aload_n hx hb dL_law_639 rfl (lv_at hl 0 rfl) ?_
      refine lv_iload_n hx hb dL_law_640 rfl (lv_at hl 3 rfl) ?_
      refine lv_iconst (v := 2) hx hb dL_law_641 (by decide) ?_
      refine lv_iadd hx hb dL_law_642 ?_
      refine va_sld hx hb hX hbl hbA hS hi2 dL_law_643 ?_
      refine lv_aload_n hx hb dL_law_644 rfl (lv_at hl 0 rfl) ?_
      refine lv_iload_n hx hb dL_law_645 rfl (lv_at hl 3 rfl) ?_
      refine lv_iconst (v := 3) hx hb dL_law_646 (by decide) ?_
      refine lv_iadd hx hb dL_law_647 ?_
      refine va_sld hx hb hX hbl hbA hS hi3 dL_law_648 ?_
      refine qVl (rest := [.long (fK_like n S (xs (nI j + 1).toNatClampNeg) (xs (nI j + 2).toNatClampNeg) (xs (nI j + 3).toNatClampNeg))]) ⟨hx, hb, hml, hown, hts⟩ (kR_like l D Y h' n hn T (xs (nI j + 1).toNatClampNeg) (xs (nI j + 2).toNatClampNeg) (xs (nI j + 3).toNatClampNeg) _ e1) (cwV 3 hts (gV uw348 uw349 uw350 uw213 ucR_like) rfl rfl rfl hvR_like ⟨Nat.le_of_ble_eq_true rfl, Nat.le_of_ble_eq_true rfl⟩) hK (zlR hP) (va_recv hK (zlR hP) (ci := 3) (q0 := 0) rfl rfl) rfl hl.1 rfl (Nat.le_of_ble_eq_true rfl) dL_law_649 ⟨Nat.le_of_ble_eq_true rfl, Nat.le_of_ble_eq_true rfl⟩ ?_
      refine W.lcmp hx hb dL_law_652 ?_
      refine lv_if_eq (tgt := 738) hx hb dL_law_653 (by decide) (fun _ => ?_) (fun z => absurd (lgc_eq rfl) z)
      exact law_next hx hb (fun ls hl => ih (j + 4) S T (by omega) (by omega) hR h h' _ _ hP hD hS ls hl) hl
set_option maxHeartbeats 4000000 in
set_option maxRecDepth 100000 in
theorem law_c14 {p : Program} {l : Launch} {e : Env} {s : State} {m : MethodId} {below : List Frame} {meth : Method} {c : Code} {D : va_G} {Y : Nat → ClassId} {b L n : Nat} {xs : Nat → Int32} (hL : L ≤ 2049) (hn : n ≤ 24) (C0 : lw_At p s m meth c b L xs) (hK : va_K D vwCl (tysK Y) s) {k : Nat} (ih : ∀ (j : Nat) (S : vK) (T : vR), L + 1 ≤ j + k → j ≤ 2053 → Rel n S T → ∀ (h h' : Nat → Nat) (H : Heap) (locs : List Loc), va_P D vwCl (wK Y h n S ++ wR Y h' n T) H → va_D (fun q : Nat => s.heap.size ≤ q) (wK Y h n S ++ wR Y h' n T) → va_S (fun q : Nat => s.heap.size ≤ q) s.heap H locs → ∀ ls : Array Slot, lv_has ls 4 [(0, .ref b), (1, .ref (h 0)), (2, .ref (h' 0)), (3, .int (nI j))] → W p l e room_1 s m #[Value.ref b] below meth c H locs 27 2390 (lw_Z below #[Value.ref b] s) (F0 m 28 ls [])) (j : Nat) (S : vK) (T : vR) (hj : L + 1 ≤ j + (k + 1)) (hj2 : j ≤ 2053) (hR : Rel n S T) (hjL : j + 4 ≤ L) (h h' : Nat → Nat) (H : Heap) (locs : List Loc) (hP : va_P D vwCl (wK Y h n S ++ wR Y h' n T) H) (hD : va_D (fun q : Nat => s.heap.size ≤ q) (wK Y h n S ++ wR Y h' n T)) (hS : va_S (fun q : Nat => s.heap.size ≤ q) s.heap H locs) (ls : Array Slot) (hl : lv_has ls 4 [(0, .ref b), (1, .ref (h 0)), (2, .ref (h' 0)), (3, .int (nI j))]) : W p l e room_1 s m #[Value.ref b] below meth c H locs 27 2390 (lw_Z below #[Value.ref b] s) (F0 m 658 ls []) := by
      obtain ⟨hx, hb, hr, hml, hown, hts0, hX, hbl, hlocks, hgv⟩ := C0
      have hts : ∀ w ∈ uT, w.before #[Value.ref b] s = true := fun w h => hts0 w (List.mem_filter.mp h).1
      have hA : ∀ q : Nat, s.heap.size ≤ q → (fun q : Nat => s.heap.size ≤ q) q := fun _ h => h
      have hbA : ¬ (fun q : Nat => s.heap.size ≤ q) b := Nat.not_le.mpr hbl
      have hi1 : vp_in (nI j + 1) L := law_in (c := 1) hL hjL (by decide)
      have hi2 : vp_in (nI j + 2) L := law_in (c := 2) hL hjL (by decide)
      have hi3 : vp_in (nI j + 3) L := law_in (c := 3) hL hjL (by decide)
      obtain ⟨v, ev, e1, hR⟩ := rel_lost hR (xs (nI j + 1).toNatClampNeg)
      refine lv_aload_n hx hb dL_law_658 rfl (lv_at hl 1 rfl) ?_
      refine lv_aload_n hx hb dL_law_659 rfl (lv_at hl 0 rfl) ?_
      refine lv_iload_n hx hb dL_law_660 rfl (lv_at hl 3 rfl) ?_
      refine lv_iconst (v := 1) hx hb dL_law_661 (by decide) ?_
      refine lv_iadd hx hb dL_law_662 ?_
      refine va_sld hx hb hX hbl hbA hS hi1 dL_law_663 ?_
      refine qVi (rest := []) ⟨hx, hb, hml, hown, hts⟩ (kK_lost l D Y h n hn S (xs (nI j + 1).toNatClampNeg)) (cwV 1 hts (gV uw351 uw352 uw353 uw116 ucK_lost) rfl rfl rfl hvK_lost ⟨Nat.le_of_ble_eq_true rfl, Nat.le_of_ble_eq_true rfl⟩) hK (zlK hP) (va_recv hK (zlK hP) (ci := 0) (q0 := 0) rfl rfl) rfl hl.1 rfl (Nat.le_of_ble_eq_true rfl) dL_law_664 ⟨Nat.le_of_ble_eq_true rfl, Nat.le_of_ble_eq_true rfl⟩ ?_
      refine lv_aload_n hx hb dL_law_667 rfl (lv_at hl 2 rfl) ?_
      refine lv_aload_n hx hb dL_law_668 rfl (lv_at hl 0 rfl) ?_
      refine lv_iload_n hx hb dL_law_669 rfl (lv_at hl 3 rfl) ?_
      refine lv_iconst (v := 1) hx hb dL_law_670 (by decide) ?_
      refine lv_iadd hx hb dL_law_671 ?_
      refine va_sld hx hb hX hbl hbA hS hi1 dL_law_672 ?_
      refine qMVi (w := wR Y h' n) (ws := wK Y h n S ++ wR Y h' n T) (wc := wR Y h' n T) (wr := wK Y h n S) (ws' := wK Y h n S ++ wR Y h' n v.2) (rest := [.int (fK_lost n S (xs (nI j + 1).toNatClampNeg))]) ⟨hx, hb, hml, hown, hts⟩ (kR_lost l D Y h' n hn T (xs (nI j + 1).toNatClampNeg) v ev _) (cwV 1 hts (gV uw354 uw355 uw356 uw213 ucR_lost) rfl rfl rfl hvR_lost ⟨Nat.le_of_ble_eq_true rfl, Nat.le_of_ble_eq_true rfl⟩) hK hP hD hS hA [15, 16, 17, 18, 19, 20, 21, 22, 23, 24, 25, 26] [0, 1, 2, 3, 4, 5, 6, 7, 8, 9, 10, 11, 12, 13, 14] [0, 1, 2, 3, 4, 5, 6, 7, 8, 9, 10, 11, 12, 13, 14, 15, 16, 17, 18, 19, 20, 21, 22, 23, 24, 25, 26] rfl rfl (by decide) (by decide) (by decide) rfl (by decide) (va_recv hK (zlR hP) (ci := 3) (q0 := 0) rfl rfl) rfl hl.1 rfl (Nat.le_of_ble_eq_true rfl) dL_law_673 ⟨Nat.le_of_ble_eq_true rfl, Nat.le_of_ble_eq_true rfl⟩ (fun H locs hP hD hS => ?_)
      refine lv_icmp_eq (tgt := 738) hx hb dL_law_676 (by decide) (fun _ => ?_) (fun z => absurd e1.symm z)
      exact law_next hx hb (fun ls hl => ih (j + 4) S v.2 (by omega) (by omega) hR h h' _ _ hP hD hS ls hl) hl
set_option maxHeartbeats 4000000 in
set_option maxRecDepth 100000 in
theorem law_c15 {p : Program} {l : Launch} {e : Env} {s : State} {m : MethodId} {below : List Frame} {meth : Method} {c : Code} {D : va_G} {Y : Nat → ClassId} {b L n : Nat} {xs : Nat → Int32} (hL : L ≤ 2049) (hn : n ≤ 24) (C0 : lw_At p s m meth c b L xs) (hK : va_K D vwCl (tysK Y) s) {k : Nat} (ih : ∀ (j : Nat) (S : vK) (T : vR), L + 1 ≤ j + k → j ≤ 2053 → Rel n S T → ∀ (h h' : Nat → Nat) (H : Heap) (locs : List Loc), va_P D vwCl (wK Y h n S ++ wR Y h' n T) H → va_D (fun q : Nat => s.heap.size ≤ q) (wK Y h n S ++ wR Y h' n T) → va_S (fun q : Nat => s.heap.size ≤ q) s.heap H locs → ∀ ls : Array Slot, lv_has ls 4 [(0, .ref b), (1, .ref (h 0)), (2, .ref (h' 0)), (3, .int (nI j))] → W p l e room_1 s m #[Value.ref b] below meth c H locs 27 2390 (lw_Z below #[Value.ref b] s) (F0 m 28 ls [])) (j : Nat) (S : vK) (T : vR) (hj : L + 1 ≤ j + (k + 1)) (hj2 : j ≤ 2053) (hR : Rel n S T) (hjL : j + 4 ≤ L) (h h' : Nat → Nat) (H : Heap) (locs : List Loc) (hP : va_P D vwCl (wK Y h n S ++ wR Y h' n T) H) (hD : va_D (fun q : Nat => s.heap.size ≤ q) (wK Y h n S ++ wR Y h' n T)) (hS : va_S (fun q : Nat => s.heap.size ≤ q) s.heap H locs) (ls : Array Slot) (hl : lv_has ls 4 [(0, .ref b), (1, .ref (h 0)), (2, .ref (h' 0)), (3, .int (nI j))]) : W p l e room_1 s m #[Value.ref b] below meth c H locs 27 2390 (lw_Z below #[Value.ref b] s) (F0 m 681 ls []) := by
      obtain ⟨hx, hb, hr, hml, hown, hts0, hX, hbl, hlocks, hgv⟩ := C0
      have hts : ∀ w ∈ uT, w.before #[Value.ref b] s = true := fun w h => hts0 w (List.mem_filter.mp h).1
      have hA : ∀ q : Nat, s.heap.size ≤ q → (fun q : Nat => s.heap.size ≤ q) q := fun _ h => h
      have hbA : ¬ (fun q : Nat => s.heap.size ≤ q) b := Nat.not_le.mpr hbl
      have hi1 : vp_in (nI j + 1) L := law_in (c := 1) hL hjL (by decide)
      have hi2 : vp_in (nI j + 2) L := law_in (c := 2) hL hjL (by decide)
      have hi3 : vp_in (nI j + 3) L := law_in (c := 3) hL hjL (by decide)
      obtain ⟨v, ev, e1, hR⟩ := rel_diverse hR (xs (nI j + 1).toNatClampNeg)
      refine lv_aload_n hx hb dL_law_681 rfl (lv_at hl 1 rfl) ?_
      refine lv_aload_n hx hb dL_law_682 rfl (lv_at hl 0 rfl) ?_
      refine lv_iload_n hx hb dL_law_683 rfl (lv_at hl 3 rfl) ?_
      refine lv_iconst (v := 1) hx hb dL_law_684 (by decide) ?_
      refine lv_iadd hx hb dL_law_685 ?_
      refine va_sld hx hb hX hbl hbA hS hi1 dL_law_686 ?_
      refine qVl (rest := []) ⟨hx, hb, hml, hown, hts⟩ (kK_diverse l D Y h n hn S (xs (nI j + 1).toNatClampNeg)) (cwV 1 hts (gV uw357 uw358 uw359 uw116 ucK_diverse) rfl rfl rfl hvK_diverse ⟨Nat.le_of_ble_eq_true rfl, Nat.le_of_ble_eq_true rfl⟩) hK (zlK hP) (va_recv hK (zlK hP) (ci := 0) (q0 := 0) rfl rfl) rfl hl.1 rfl (Nat.le_of_ble_eq_true rfl) dL_law_687 ⟨Nat.le_of_ble_eq_true rfl, Nat.le_of_ble_eq_true rfl⟩ ?_
      refine lv_aload_n hx hb dL_law_690 rfl (lv_at hl 2 rfl) ?_
      refine lv_aload_n hx hb dL_law_691 rfl (lv_at hl 0 rfl) ?_
      refine lv_iload_n hx hb dL_law_692 rfl (lv_at hl 3 rfl) ?_
      refine lv_iconst (v := 1) hx hb dL_law_693 (by decide) ?_
      refine lv_iadd hx hb dL_law_694 ?_
      refine va_sld hx hb hX hbl hbA hS hi1 dL_law_695 ?_
      refine qMVl (w := wR Y h' n) (ws := wK Y h n S ++ wR Y h' n T) (wc := wR Y h' n T) (wr := wK Y h n S) (ws' := wK Y h n S ++ wR Y h' n v.2) (rest := [.long (fK_diverse n S (xs (nI j + 1).toNatClampNeg))]) ⟨hx, hb, hml, hown, hts⟩ (kR_diverse l D Y h' n hn T (xs (nI j + 1).toNatClampNeg) v ev _) (cwV 1 hts (gV uw360 uw361 uw362 uw213 ucR_diverse) rfl rfl rfl hvR_diverse ⟨Nat.le_of_ble_eq_true rfl, Nat.le_of_ble_eq_true rfl⟩) hK hP hD hS hA [15, 16, 17, 18, 19, 20, 21, 22, 23, 24, 25, 26] [0, 1, 2, 3, 4, 5, 6, 7, 8, 9, 10, 11, 12, 13, 14] [0, 1, 2, 3, 4, 5, 6, 7, 8, 9, 10, 11, 12, 13, 14, 15, 16, 17, 18, 19, 20, 21, 22, 23, 24, 25, 26] rfl rfl (by decide) (by decide) (by decide) rfl (by decide) (va_recv hK (zlR hP) (ci := 3) (q0 := 0) rfl rfl) rfl hl.1 rfl (Nat.le_of_ble_eq_true rfl) dL_law_696 ⟨Nat.le_of_ble_eq_true rfl, Nat.le_of_ble_eq_true rfl⟩ (fun H locs hP hD hS => ?_)
      refine W.lcmp hx hb dL_law_699 ?_
      refine lv_if_eq (tgt := 738) hx hb dL_law_700 (by decide) (fun _ => ?_) (fun z => absurd (lgc_eq e1.symm) z)
      exact law_next hx hb (fun ls hl => ih (j + 4) S v.2 (by omega) (by omega) hR h h' _ _ hP hD hS ls hl) hl
set_option maxHeartbeats 4000000 in
set_option maxRecDepth 100000 in
theorem law_c16 {p : Program} {l : Launch} {e : Env} {s : State} {m : MethodId} {below : List Frame} {meth : Method} {c : Code} {D : va_G} {Y : Nat → ClassId} {b L n : Nat} {xs : Nat → Int32} (hL : L ≤ 2049) (hn : n ≤ 24) (C0 : lw_At p s m meth c b L xs) (hK : va_K D vwCl (tysK Y) s) {k : Nat} (ih : ∀ (j : Nat) (S : vK) (T : vR), L + 1 ≤ j + k → j ≤ 2053 → Rel n S T → ∀ (h h' : Nat → Nat) (H : Heap) (locs : List Loc), va_P D vwCl (wK Y h n S ++ wR Y h' n T) H → va_D (fun q : Nat => s.heap.size ≤ q) (wK Y h n S ++ wR Y h' n T) → va_S (fun q : Nat => s.heap.size ≤ q) s.heap H locs → ∀ ls : Array Slot, lv_has ls 4 [(0, .ref b), (1, .ref (h 0)), (2, .ref (h' 0)), (3, .int (nI j))] → W p l e room_1 s m #[Value.ref b] below meth c H locs 27 2390 (lw_Z below #[Value.ref b] s) (F0 m 28 ls [])) (j : Nat) (S : vK) (T : vR) (hj : L + 1 ≤ j + (k + 1)) (hj2 : j ≤ 2053) (hR : Rel n S T) (hjL : j + 4 ≤ L) (h h' : Nat → Nat) (H : Heap) (locs : List Loc) (hP : va_P D vwCl (wK Y h n S ++ wR Y h' n T) H) (hD : va_D (fun q : Nat => s.heap.size ≤ q) (wK Y h n S ++ wR Y h' n T)) (hS : va_S (fun q : Nat => s.heap.size ≤ q) s.heap H locs) (ls : Array Slot) (hl : lv_has ls 4 [(0, .ref b), (1, .ref (h 0)), (2, .ref (h' 0)), (3, .int (nI j))]) : W p l e room_1 s m #[Value.ref b] below meth c H locs 27 2390 (lw_Z below #[Value.ref b] s) (F0 m 705 ls []) := by
      obtain ⟨hx, hb, hr, hml, hown, hts0, hX, hbl, hlocks, hgv⟩ := C0
      have hts : ∀ w ∈ uT, w.before #[Value.ref b] s = true := fun w h => hts0 w (List.mem_filter.mp h).1
      have hA : ∀ q : Nat, s.heap.size ≤ q → (fun q : Nat => s.heap.size ≤ q) q := fun _ h => h
      have hbA : ¬ (fun q : Nat => s.heap.size ≤ q) b := Nat.not_le.mpr hbl
      have hi1 : vp_in (nI j + 1) L := law_in (c := 1) hL hjL (by decide)
      have hi2 : vp_in (nI j + 2) L := law_in (c := 2) hL hjL (by decide)
      have hi3 : vp_in (nI j + 3) L := law_in (c := 3) hL hjL (by decide)
      obtain ⟨v, ev, e1, hR⟩ := rel_animal hR (xs (nI j + 1).toNatClampNeg) (xs (nI j + 2).toNatClampNeg)
      refine lv_aload_n hx hb dL_law_705 rfl (lv_at hl 1 rfl) ?_
      refine lv_aload_n hx hb dL_law_706 rfl (lv_at hl 0 rfl) ?_
      refine lv_iload_n hx hb dL_law_707 rfl (lv_at hl 3 rfl) ?_
      refine lv_iconst (v := 1) hx hb dL_law_708 (by decide) ?_
      refine lv_iadd hx hb dL_law_709 ?_
      refine va_sld hx hb hX hbl hbA hS hi1 dL_law_710 ?_
      refine lv_aload_n hx hb dL_law_711 rfl (lv_at hl 0 rfl) ?_
      refine lv_iload_n hx hb dL_law_712 rfl (lv_at hl 3 rfl) ?_
      refine lv_iconst (v := 2) hx hb dL_law_713 (by decide) ?_
      refine lv_iadd hx hb dL_law_714 ?_
      refine va_sld hx hb hX hbl hbA hS hi2 dL_law_715 ?_
      refine qVi (rest := []) ⟨hx, hb, hml, hown, hts⟩ (kK_animal l D Y h n hn S (xs (nI j + 1).toNatClampNeg) (xs (nI j + 2).toNatClampNeg)) (cwV 2 hts (gV uw363 uw364 uw365 uw116 ucK_animal) rfl rfl rfl hvK_animal ⟨Nat.le_of_ble_eq_true rfl, Nat.le_of_ble_eq_true rfl⟩) hK (zlK hP) (va_recv hK (zlK hP) (ci := 0) (q0 := 0) rfl rfl) rfl hl.1 rfl (Nat.le_of_ble_eq_true rfl) dL_law_716 ⟨Nat.le_of_ble_eq_true rfl, Nat.le_of_ble_eq_true rfl⟩ ?_
      refine lv_aload_n hx hb dL_law_719 rfl (lv_at hl 2 rfl) ?_
      refine lv_aload_n hx hb dL_law_720 rfl (lv_at hl 0 rfl) ?_
      refine lv_iload_n hx hb dL_law_721 rfl (lv_at hl 3 rfl) ?_
      refine lv_iconst (v := 1) hx hb dL_law_722 (by decide) ?_
      refine lv_iadd hx hb dL_law_723 ?_
      refine va_sld hx hb hX hbl hbA hS hi1 dL_law_724 ?_
      refine lv_aload_n hx hb dL_law_725 rfl (lv_at hl 0 rfl) ?_
      refine lv_iload_n hx hb dL_law_726 rfl (lv_at hl 3 rfl) ?_
      refine lv_iconst (v := 2) hx hb dL_law_727 (by decide) ?_
      refine lv_iadd hx hb dL_law_728 ?_
      refine va_sld hx hb hX hbl hbA hS hi2 dL_law_729 ?_
      refine qMVi (w := wR Y h' n) (ws := wK Y h n S ++ wR Y h' n T) (wc := wR Y h' n T) (wr := wK Y h n S) (ws' := wK Y h n S ++ wR Y h' n v.2) (rest := [.int (fK_animal n S (xs (nI j + 1).toNatClampNeg) (xs (nI j + 2).toNatClampNeg))]) ⟨hx, hb, hml, hown, hts⟩ (kR_animal l D Y h' n hn T (xs (nI j + 1).toNatClampNeg) (xs (nI j + 2).toNatClampNeg) v ev _) (cwV 2 hts (gV uw366 uw367 uw368 uw213 ucR_animal) rfl rfl rfl hvR_animal ⟨Nat.le_of_ble_eq_true rfl, Nat.le_of_ble_eq_true rfl⟩) hK hP hD hS hA [15, 16, 17, 18, 19, 20, 21, 22, 23, 24, 25, 26] [0, 1, 2, 3, 4, 5, 6, 7, 8, 9, 10, 11, 12, 13, 14] [0, 1, 2, 3, 4, 5, 6, 7, 8, 9, 10, 11, 12, 13, 14, 15, 16, 17, 18, 19, 20, 21, 22, 23, 24, 25, 26] rfl rfl (by decide) (by decide) (by decide) rfl (by decide) (va_recv hK (zlR hP) (ci := 3) (q0 := 0) rfl rfl) rfl hl.1 rfl (Nat.le_of_ble_eq_true rfl) dL_law_730 ⟨Nat.le_of_ble_eq_true rfl, Nat.le_of_ble_eq_true rfl⟩ (fun H locs hP hD hS => ?_)
      refine lv_icmp_eq (tgt := 738) hx hb dL_law_733 (by decide) (fun _ => ?_) (fun z => absurd e1.symm z)
      exact law_next hx hb (fun ls hl => ih (j + 4) S v.2 (by omega) (by omega) hR h h' _ _ hP hD hS ls hl) hl
set_option maxHeartbeats 4000000 in
set_option maxRecDepth 100000 in
theorem law_loop {p : Program} {l : Launch} {e : Env} {s : State} {m : MethodId} {below : List Frame} {meth : Method} {c : Code} {D : va_G} {Y : Nat → ClassId} {b L n : Nat} {xs : Nat → Int32} (hL : L ≤ 2049) (hn : n ≤ 24) (C0 : lw_At p s m meth c b L xs) (hK : va_K D vwCl (tysK Y) s) : ∀ (k j : Nat) (S : vK) (T : vR), L + 1 ≤ j + k → j ≤ 2053 → Rel n S T → ∀ (h h' : Nat → Nat) (H : Heap) (locs : List Loc), va_P D vwCl (wK Y h n S ++ wR Y h' n T) H → va_D (fun q : Nat => s.heap.size ≤ q) (wK Y h n S ++ wR Y h' n T) → va_S (fun q : Nat => s.heap.size ≤ q) s.heap H locs → ∀ ls : Array Slot, lv_has ls 4 [(0, .ref b), (1, .ref (h 0)), (2, .ref (h' 0)), (3, .int (nI j))] → W p l e room_1 s m #[Value.ref b] below meth c H locs 27 2390 (lw_Z below #[Value.ref b] s) (F0 m 28 ls []) := by
  obtain ⟨hx, hb, hr, hml, hown, hts0, hX, hbl, hlocks, hgv⟩ := id C0
  have hbA : ¬ (fun q : Nat => s.heap.size ≤ q) b := Nat.not_le.mpr hbl
  intro k
  induction k with
  | zero =>
    intro j S T hj hj2 hR h h' H locs hP hD hS ls hl
    refine lv_iload_n hx hb dL_law_28 rfl (lv_at hl 3 rfl) ?_
    refine lv_aload_n hx hb dL_law_29 rfl (lv_at hl 0 rfl) ?_
    refine va_slen hx hb hX hbl hbA hS dL_law_30 ?_
    refine lv_iconst (v := 4) hx hb dL_law_31 (by decide) ?_
    refine lv_isub hx hb dL_law_32 ?_
    refine lv_icmp_gt (tgt := 744) hx hb dL_law_33 (by decide) (fun _ => ?_) (fun z => absurd (law_len hL hj2 z) (by omega))
    refine lv_iconst (v := 1) hx hb dL_law_744 (by decide) ?_
    refine va_forget (fun q hq => hS.2.2 q hq) ?_
    exact lw_ret hx hb hr hlocks dL_law_745
  | succ k ih =>
    intro j S T hj hj2 hR h h' H locs hP hD hS ls hl
    refine lv_iload_n hx hb dL_law_28 rfl (lv_at hl 3 rfl) ?_
    refine lv_aload_n hx hb dL_law_29 rfl (lv_at hl 0 rfl) ?_
    refine va_slen hx hb hX hbl hbA hS dL_law_30 ?_
    refine lv_iconst (v := 4) hx hb dL_law_31 (by decide) ?_
    refine lv_isub hx hb dL_law_32 ?_
    refine lv_icmp_gt (tgt := 744) hx hb dL_law_33 (by decide) (fun _ => ?_) (fun z => ?_)
    · refine lv_iconst (v := 1) hx hb dL_law_744 (by decide) ?_
      refine va_forget (fun q hq => hS.2.2 q hq) ?_
      exact lw_ret hx hb hr hlocks dL_law_745
    · have hjL := law_len hL hj2 z
      refine lv_aload_n hx hb dL_law_36 rfl (lv_at hl 0 rfl) ?_
      refine lv_iload_n hx hb dL_law_37 rfl (lv_at hl 3 rfl) ?_
      refine va_sld hx hb hX hbl hbA hS (vp_in_nI (by omega) (by omega)) dL_law_38 ?_
      refine lv_bipush (v := 31) hx hb dL_law_39 (by decide) ?_
      refine lv_iand hx hb dL_law_41 ?_
      refine lv_topi (fun x _ => ?_)
      by_cases c0 : x = 0
      · refine lv_tableIn (tgt := 124) hx hb dL_law_42 (by rw [c0]; decide) (by rw [c0]; decide) (by rw [c0]; rfl) (by decide) ?_
        exact law_c0 hL hn C0 hK ih j S T hj hj2 hR hjL h h' H locs hP hD hS ls hl
      by_cases c1 : x = 1
      · refine lv_tableIn (tgt := 167) hx hb dL_law_42 (by rw [c1]; decide) (by rw [c1]; decide) (by rw [c1]; rfl) (by decide) ?_
        exact law_c1 hL hn C0 hK ih j S T hj hj2 hR hjL h h' H locs hP hD hS ls hl
      by_cases c2 : x = 2
      · refine lv_tableIn (tgt := 190) hx hb dL_law_42 (by rw [c2]; decide) (by rw [c2]; decide) (by rw [c2]; rfl) (by decide) ?_
        exact law_c2 hL hn C0 hK ih j S T hj hj2 hR hjL h h' H locs hP hD hS ls hl
      by_cases c3 : x = 3
      · refine lv_tableIn (tgt := 233) hx hb dL_law_42 (by rw [c3]; decide) (by rw [c3]; decide) (by rw [c3]; rfl) (by decide) ?_
        exact law_c3 hL hn C0 hK ih j S T hj hj2 hR hjL h h' H locs hP hD hS ls hl
      by_cases c4 : x = 4
      · refine lv_tableIn (tgt := 282) hx hb dL_law_42 (by rw [c4]; decide) (by rw [c4]; decide) (by rw [c4]; rfl) (by decide) ?_
        exact law_c4 hL hn C0 hK ih j S T hj hj2 hR hjL h h' H locs hP hD hS ls hl
      by_cases c5 : x = 5
      · refine lv_tableIn (tgt := 326) hx hb dL_law_42 (by rw [c5]; decide) (by rw [c5]; decide) (by rw [c5]; rfl) (by decide) ?_
        exact law_c5 hL hn C0 hK ih j S T hj hj2 hR hjL h h' H locs hP hD hS ls hl
      by_cases c6 : x = 6
      · refine lv_tableIn (tgt := 360) hx hb dL_law_42 (by rw [c6]; decide) (by rw [c6]; decide) (by rw [c6]; rfl) (by decide) ?_
        exact law_c6 hL hn C0 hK ih j S T hj hj2 hR hjL h h' H locs hP hD hS ls hl
      by_cases c7 : x = 7
      · refine lv_tableIn (tgt := 394) hx hb dL_law_42 (by rw [c7]; decide) (by rw [c7]; decide) (by rw [c7]; rfl) (by decide) ?_
        exact law_c7 hL hn C0 hK ih j S T hj hj2 hR hjL h h' H locs hP hD hS ls hl
      by_cases c8 : x = 8
      · refine lv_tableIn (tgt := 438) hx hb dL_law_42 (by rw [c8]; decide) (by rw [c8]; decide) (by rw [c8]; rfl) (by decide) ?_
        exact law_c8 hL hn C0 hK ih j S T hj hj2 hR hjL h h' H locs hP hD hS ls hl
      by_cases c9 : x = 9
      · refine lv_tableIn (tgt := 471) hx hb dL_law_42 (by rw [c9]; decide) (by rw [c9]; decide) (by rw [c9]; rfl) (by decide) ?_
        exact law_c9 hL hn C0 hK ih j S T hj hj2 hR hjL h h' H locs hP hD hS ls hl
      by_cases c10 : x = 10
      · refine lv_tableIn (tgt := 494) hx hb dL_law_42 (by rw [c10]; decide) (by rw [c10]; decide) (by rw [c10]; rfl) (by decide) ?_
        exact law_c10 hL hn C0 hK ih j S T hj hj2 hR hjL h h' H locs hP hD hS ls hl
      by_cases c11 : x = 11
      · refine lv_tableIn (tgt := 537) hx hb dL_law_42 (by rw [c11]; decide) (by rw [c11]; decide) (by rw [c11]; rfl) (by decide) ?_
        exact law_c11 hL hn C0 hK ih j S T hj hj2 hR hjL h h' H locs hP hD hS ls hl
      by_cases c12 : x = 12
      · refine lv_tableIn (tgt := 570) hx hb dL_law_42 (by rw [c12]; decide) (by rw [c12]; decide) (by rw [c12]; rfl) (by decide) ?_
        exact law_c12 hL hn C0 hK ih j S T hj hj2 hR hjL h h' H locs hP hD hS ls hl
      by_cases c13 : x = 13
      · refine lv_tableIn (tgt := 614) hx hb dL_law_42 (by rw [c13]; decide) (by rw [c13]; decide) (by rw [c13]; rfl) (by decide) ?_
        exact law_c13 hL hn C0 hK ih j S T hj hj2 hR hjL h h' H locs hP hD hS ls hl
      by_cases c14 : x = 14
      · refine lv_tableIn (tgt := 658) hx hb dL_law_42 (by rw [c14]; decide) (by rw [c14]; decide) (by rw [c14]; rfl) (by decide) ?_
        exact law_c14 hL hn C0 hK ih j S T hj hj2 hR hjL h h' H locs hP hD hS ls hl
      by_cases c15 : x = 15
      · refine lv_tableIn (tgt := 681) hx hb dL_law_42 (by rw [c15]; decide) (by rw [c15]; decide) (by rw [c15]; rfl) (by decide) ?_
        exact law_c15 hL hn C0 hK ih j S T hj hj2 hR hjL h h' H locs hP hD hS ls hl
      by_cases c16 : x = 16
      · refine lv_tableIn (tgt := 705) hx hb dL_law_42 (by rw [c16]; decide) (by rw [c16]; decide) (by rw [c16]; rfl) (by decide) ?_
        exact law_c16 hL hn C0 hK ih j S T hj hj2 hR hjL h h' H locs hP hD hS ls hl
      refine lv_tableOut (tgt := 738) hx hb dL_law_42 (sw_out17 c0 c1 c2 c3 c4 c5 c6 c7 c8 c9 c10 c11 c12 c13 c14 c15 c16) (by decide) ?_
      exact law_next hx hb (fun ls hl => ih (j + 4) S T (by omega) (by omega) hR h h' _ _ hP hD hS ls hl) hl
