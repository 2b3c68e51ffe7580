abbrev rmR_ring : Room := { frames := 0, cells := 0, slots := 0, locals := 0 }
set_option maxHeartbeats 4000000 in
set_option maxRecDepth 100000 in
theorem kR_ring (l : Launch) (D : va_G) (Y : Nat → ClassId) (h : Nat → Nat) (n : Nat) (hn : n ≤ 24) (S : vR) (a1 : Int32) (v : Int32) (hv : (fR_ring n S a1) = some v) : Met l yR_ring wsR_ring rmR_ring (va_Pc [.ref (h 0), .int a1] (zPre D vwCl (tysK Y) (wR Y h n S))) (vp_Si (fun r => r = v)) 0 0 (fun _ => False) := by
  refine Met.ofW (cc := cR_ring) (maxL := 2) (ret := (some .int)) (by decide) rfl ?_
  intro p e s m args below meth c s₁ B hml hvv
  obtain ⟨rfl, hP, hK⟩ := hvv
  have hx := B.exec
  have hb := B.bytes
  have hr := B.returns
  have hts : ∀ w ∈ uT, w.before _ s = true := fun w hw => atoms_spec (ws := wsR_ring) B.pre w (List.mem_cons_of_mem _ hw)
  have hown : s.vm.findClass RR = some m.cls := findClass_of_methodNamed B.named
  have hlocks := B.notSynchronized
  have hl := lv_entry ([.ref (h 0), .int a1]) (n := 2) (Nat.le_of_ble_eq_true rfl)
  rw [lg_entry_eq]
  generalize (lg_sl ([.ref (h 0), .int a1]) ++ List.replicate (2 - (lg_sl ([.ref (h 0), .int a1])).length) Slot.unset).toArray = ls at hl ⊢
  have hl : lv_has ls 2 [(0, .ref (h 0)), (1, .int a1)] := hl
  unfold fR_ring at hv
  show W p l e rmR_ring s m _ below meth c s.heap [] 0 0 (zI below _ s v) (F0 m 0 ls [])
  refine lv_iload_n hx hb dR_ring_0 rfl (lv_at hl 1 rfl) ?_
  by_cases c1 : a1 < 0
  · rw [if_pos c1] at hv
    refine lv_if_lt (tgt := 12) hx hb dR_ring_1 (by decide) (fun _ => ?_) (fun z => absurd c1 z)
    refine lv_iconst (v := (-1)) hx hb dR_ring_12 (by decide) ?_
    refine lv_goto (tgt := 22) hx hb dR_ring_13 (by decide) ?_
    cases hv
    exact zI_ret hx hb hr hlocks dR_ring_22
  · rw [if_neg c1] at hv
    refine lv_if_lt (tgt := 12) hx hb dR_ring_1 (by decide) (fun z => absurd z c1) (fun _ => ?_)
    refine lv_iload_n hx hb dR_ring_4 rfl (lv_at hl 1 rfl) ?_
    refine lv_aload_n hx hb dR_ring_5 rfl (lv_at hl 0 rfl) ?_
    refine va_get (D := D) (ci := 3) (v := .int (g_rrg S)) (C := RR) (T := TR) (N := 13) hx hb hts hinR hown hK hP 0 rfl rfl 7 (by decide) (hts _ uw229) (fun _ h9 => h9) rfl dR_ring_6 ?_
    by_cases c9 : a1 < (g_rrg S)
    · rw [if_pos c9] at hv
      refine lv_icmp_lt (tgt := 16) hx hb dR_ring_9 (by decide) (fun _ => ?_) (fun z => absurd c9 z)
      refine lv_aload_n hx hb dR_ring_16 rfl (lv_at hl 0 rfl) ?_
      refine va_get (D := D) (ci := 3) (v := .ref (h 7)) (C := RR) (T := TR) (N := 13) hx hb hts hinR hown hK hP 0 rfl rfl 8 (by decide) (hts _ uw228) (fun _ h9 => h9) rfl dR_ring_17 ?_
      refine lv_iload_n hx hb dR_ring_20 rfl (lv_at hl 1 rfl) ?_
      have k21 : ¬ (ob (a1 : Int32) 30) := fun z => by rw [if_pos z] at hv; cases hv
      rw [if_neg k21] at hv
      refine va_iald hx hb hK hP 7 0 rfl rfl (k21) dR_ring_21 ?_
      cases hv
      exact zI_ret hx hb hr hlocks dR_ring_22
    · rw [if_neg c9] at hv
      refine lv_icmp_lt (tgt := 16) hx hb dR_ring_9 (by decide) (fun z => absurd z c9) (fun _ => ?_)
      refine lv_iconst (v := (-1)) hx hb dR_ring_12 (by decide) ?_
      refine lv_goto (tgt := 22) hx hb dR_ring_13 (by decide) ?_
      cases hv
      exact zI_ret hx hb hr hlocks dR_ring_22
abbrev rmR_told : Room := { frames := 1, cells := 0, slots := 0, locals := 22 }
set_option maxHeartbeats 4000000 in
set_option maxRecDepth 100000 in
theorem tR_told_66 {p : Program} {l : Launch} {e : Env} {s : State} {m : MethodId} {args : Array Value} {below : List Frame} {meth : Method} {c : Code} {D : va_G} {Y : Nat → ClassId} {h : Nat → Nat} {n : Nat} (hn : n ≤ 24) {A : Nat → Prop} (hA : ∀ q : Nat, s.heap.size ≤ q → A q) (CF : CallFix p m c cR_told 8 s args uT RR) (hr : meth.sig.returnType = (some .boolean)) (hlocks : meth.locks = false) (hK : va_K D vwCl (tysK Y) s) : ∀ (k : Nat) (i : Nat) (x1 : Int32) (x2 : Int32) (x3 : Int32) (x4 : Int32) (x5 : Int32) (x6 : Int32) (S : vR) (v : Int32 × vR), i + k = n → (fR_told_66 n k i x1 x2 x3 x4 x5 x6 S) = some v → ∀ (H : Heap) (locs : List Loc), va_P D vwCl (wR Y h n S) H → va_D A (wR Y h n S) → va_S A s.heap H locs → ∀ ls : Array Slot, lv_has ls 8 [(0, .ref (h 0)), (1, .int x1), (2, .int x2), (3, .int x3), (4, .int x4), (5, .int x5), (6, .int x6), (7, .int (nI i))] → W p l e rmR_told s m args below meth c H locs 0 0 (zMi D vwCl (tysK Y) A (wR Y h n) below args s 0 0 v) (F0 m 66 ls []) := by
  obtain ⟨hx, hb, hml, hown, hts⟩ := CF
  intro k
  induction k with
  | zero =>
    intro i x1 x2 x3 x4 x5 x6 S v hi hv H locs hP hD hS ls hl
    rw [fR_told_66] at hv
    refine lv_iload hx hb dR_told_66 (lv_at hl 7 rfl) ?_
    refine lv_aload_n hx hb dR_told_68 rfl (lv_at hl 0 rfl) ?_
    refine va_get (D := D) (ci := 3) (v := .int (nI n)) (C := RR) (T := TR) (N := 13) hx hb hts hinR hown hK hP 0 rfl rfl 0 (by decide) (hts _ uw209) (fun _ h9 => h9) rfl dR_told_69 ?_
    refine lv_icmp_ge (tgt := 201) hx hb dR_told_72 (by decide) (fun _ => ?_) (fun z => absurd (lp_ge (n := n) hi) z)
    refine lv_iload hx hb dR_told_201 (lv_at hl 6 rfl) ?_
    by_cases c203 : x6 = 0
    · rw [if_pos c203] at hv
      refine lv_if_eq (tgt := 208) hx hb dR_told_203 (by decide) (fun _ => ?_) (fun z => absurd c203 z)
      refine lv_aload_n hx hb dR_told_208 rfl (lv_at hl 0 rfl) ?_
      refine va_get (D := D) (ci := 3) (v := .ref (h 3)) (C := RR) (T := TR) (N := 13) hx hb hts hinR hown hK hP 0 rfl rfl 3 (by decide) (hts _ uw240) (fun _ h9 => h9) rfl dR_told_209 ?_
      refine lv_iload_n hx hb dR_told_212 rfl (lv_at hl 1 rfl) ?_
      refine lv_iload hx hb dR_told_213 (lv_at hl 4 rfl) ?_
      have k215 : ¬ (ob (x1 : Int32) 24) := fun z => by rw [if_pos z] at hv; cases hv
      rw [if_neg k215] at hv
      refine va_iast hx hb hK hP hD hS 3 0 rfl rfl (k215) dR_told_215 (fun H locs hP hD hS => ?_)
      have hP : va_P D vwCl (wR Y h n (r_rsx S (upd (g_rsx S) (x1 : Int32).toNatClampNeg x4))) H := hP
      have hD : va_D A (wR Y h n (r_rsx S (upd (g_rsx S) (x1 : Int32).toNatClampNeg x4))) := hD
      refine lv_aload_n hx hb dR_told_216 rfl (lv_at hl 0 rfl) ?_
      refine va_get (D := D) (ci := 3) (v := .ref (h 4)) (C := RR) (T := TR) (N := 13) hx hb hts hinR hown hK hP 0 rfl rfl 4 (by decide) (hts _ uw233) (fun _ h9 => h9) rfl dR_told_217 ?_
      refine lv_iload_n hx hb dR_told_220 rfl (lv_at hl 1 rfl) ?_
      refine lv_iload hx hb dR_told_221 (lv_at hl 5 rfl) ?_
      have k223 : ¬ (ob (x1 : Int32) 24) := fun z => by rw [if_pos z] at hv; cases hv
      rw [if_neg k223] at hv
      refine va_iast hx hb hK hP hD hS 4 0 rfl rfl (k223) dR_told_223 (fun H locs hP hD hS => ?_)
      have hP : va_P D vwCl (wR Y h n (r_rdy (r_rsx S (upd (g_rsx S) (x1 : Int32).toNatClampNeg x4)) (upd (g_rdy (r_rsx S (upd (g_rsx S) (x1 : Int32).toNatClampNeg x4))) (x1 : Int32).toNatClampNeg x5))) H := hP
      have hD : va_D A (wR Y h n (r_rdy (r_rsx S (upd (g_rsx S) (x1 : Int32).toNatClampNeg x4)) (upd (g_rdy (r_rsx S (upd (g_rsx S) (x1 : Int32).toNatClampNeg x4))) (x1 : Int32).toNatClampNeg x5))) := hD
      refine lv_iconst (v := 0) hx hb dR_told_224 (by decide) ?_
      cases hv
      exact zMb_ret (u := (r_rdy (r_rsx S (upd (g_rsx S) (x1 : Int32).toNatClampNeg x4)) (upd (g_rdy (r_rsx S (upd (g_rsx S) (x1 : Int32).toNatClampNeg x4))) (x1 : Int32).toNatClampNeg x5))) hx hb hr hlocks hK hP hD hS (Or.inl rfl) dR_told_225
    · rw [if_neg c203] at hv
      refine lv_if_eq (tgt := 208) hx hb dR_told_203 (by decide) (fun z => absurd z c203) (fun _ => ?_)
      refine lv_iconst (v := 1) hx hb dR_told_206 (by decide) ?_
      cases hv
      exact zMb_ret (u := S) hx hb hr hlocks hK hP hD hS (Or.inr rfl) dR_told_207
  | succ k ih =>
    intro i x1 x2 x3 x4 x5 x6 S v hi hv H locs hP hD hS ls hl
    rw [fR_told_66] at hv
    refine lv_iload hx hb dR_told_66 (lv_at hl 7 rfl) ?_
    refine lv_aload_n hx hb dR_told_68 rfl (lv_at hl 0 rfl) ?_
    refine va_get (D := D) (ci := 3) (v := .int (nI n)) (C := RR) (T := TR) (N := 13) hx hb hts hinR hown hK hP 0 rfl rfl 0 (by decide) (hts _ uw209) (fun _ h9 => h9) rfl dR_told_69 ?_
    refine lv_icmp_ge (tgt := 201) hx hb dR_told_72 (by decide) (fun z => absurd z (lp_lt (n := n) hi (by omega))) (fun _ => ?_)
    refine lv_aload_n hx hb dR_told_75 rfl (lv_at hl 0 rfl) ?_
    refine va_get (D := D) (ci := 3) (v := .ref (h 1)) (C := RR) (T := TR) (N := 13) hx hb hts hinR hown hK hP 0 rfl rfl 1 (by decide) (hts _ uw217) (fun _ h9 => h9) rfl dR_told_76 ?_
    refine lv_iload hx hb dR_told_79 (lv_at hl 7 rfl) ?_
    refine va_iald hx hb hK hP 1 0 rfl rfl (vp_in_nI (n := i) (by omega) (by omega)) dR_told_81 ?_
    by_cases c82 : ((g_rmo S) ((nI i) : Int32).toNatClampNeg) < 0
    · rw [if_pos c82] at hv
      refine lv_if_lt (tgt := 113) hx hb dR_told_82 (by decide) (fun _ => ?_) (fun z => absurd c82 z)
      refine lv_aload_n hx hb dR_told_113 rfl (lv_at hl 0 rfl) ?_
      refine va_get (D := D) (ci := 3) (v := .ref (h 2)) (C := RR) (T := TR) (N := 13) hx hb hts hinR hown hK hP 0 rfl rfl 2 (by decide) (hts _ uw218) (fun _ h9 => h9) rfl dR_told_114 ?_
      refine lv_iload hx hb dR_told_117 (lv_at hl 7 rfl) ?_
      refine va_iald hx hb hK hP 2 0 rfl rfl (vp_in_nI (n := i) (by omega) (by omega)) dR_told_119 ?_
      by_cases c120 : ((g_rfa S) ((nI i) : Int32).toNatClampNeg) < 0
      · rw [if_pos c120] at hv
        refine lv_if_lt (tgt := 151) hx hb dR_told_120 (by decide) (fun _ => ?_) (fun z => absurd c120 z)
        refine lv_iload hx hb dR_told_151 (lv_at hl 6 rfl) ?_
        by_cases c153 : x6 = 0
        · rw [if_pos c153] at hv
          refine lv_if_eq (tgt := 192) hx hb dR_told_153 (by decide) (fun _ => ?_) (fun z => absurd c153 z)
          refine lv_iconst (v := 0) hx hb dR_told_192 (by decide) ?_
          refine lv_istore (lv' := [(6, .int 0), (0, .ref (h 0)), (1, .int x1), (2, .int x2), (3, .int x3), (4, .int x4), (5, .int x5), (7, .int (nI i))]) hx hb dR_told_193 hl (by decide) rfl (fun ls hl => ?_)
          refine lv_iinc (v := (nI (i + 1))) (lv' := [(7, .int (nI (i + 1))), (6, .int 0), (0, .ref (h 0)), (1, .int x1), (2, .int x2), (3, .int x3), (4, .int x4), (5, .int x5)]) hx hb dR_told_195 hl (k := 7) rfl (nI_1 _) (by decide) rfl (fun ls hl => ?_)
          refine lv_goto (tgt := 66) hx hb dR_told_198 (by decide) ?_
          exact ih (i + 1) x1 x2 x3 x4 x5 0 S _ (by omega) hv _ _ hP hD hS ls (lv_sub hl [2, 3, 4, 5, 6, 7, 1, 0] rfl)
        · rw [if_neg c153] at hv
          refine lv_if_eq (tgt := 192) hx hb dR_told_153 (by decide) (fun z => absurd z c153) (fun _ => ?_)
          refine lv_aload_n hx hb dR_told_156 rfl (lv_at hl 0 rfl) ?_
          refine lv_aload_n hx hb dR_told_157 rfl (lv_at hl 0 rfl) ?_
          refine va_get (D := D) (ci := 3) (v := .ref (h 1)) (C := RR) (T := TR) (N := 13) hx hb hts hinR hown hK hP 0 rfl rfl 1 (by decide) (hts _ uw217) (fun _ h9 => h9) rfl dR_told_158 ?_
          refine lv_iload hx hb dR_told_161 (lv_at hl 7 rfl) ?_
          refine va_iald hx hb hK hP 1 0 rfl rfl (vp_in_nI (n := i) (by omega) (by omega)) dR_told_163 ?_
          refine lv_iload hx hb dR_told_164 (lv_at hl 7 rfl) ?_
          obtain ⟨r166, e166, hv⟩ := bsome hv
          refine qVi (rest := []) ⟨hx, hb, hml, hown, hts⟩ (kR_isOlder l D Y h n hn S ((g_rmo S) ((nI i) : Int32).toNatClampNeg) (nI i) r166 e166) (cwV 2 hts (gV uw237 uw238 uw239 uw213 ucR_isOlder) rfl rfl rfl hvR_isOlder ⟨Nat.le_of_ble_eq_true rfl, Nat.le_of_ble_eq_true rfl⟩) hK hP (va_recv hK hP (ci := 3) (q0 := 0) rfl rfl) rfl hl.1 rfl (Nat.le_of_ble_eq_true rfl) dR_told_166 ⟨Nat.le_of_ble_eq_true rfl, Nat.le_of_ble_eq_true rfl⟩ ?_
          by_cases c169 : r166 = 0
          · rw [if_pos c169] at hv
            refine lv_if_eq (tgt := 192) hx hb dR_told_169 (by decide) (fun _ => ?_) (fun z => absurd c169 z)
            refine lv_iconst (v := 0) hx hb dR_told_192 (by decide) ?_
            refine lv_istore (lv' := [(6, .int 0), (0, .ref (h 0)), (1, .int x1), (2, .int x2), (3, .int x3), (4, .int x4), (5, .int x5), (7, .int (nI i))]) hx hb dR_told_193 hl (by decide) rfl (fun ls hl => ?_)
            refine lv_iinc (v := (nI (i + 1))) (lv' := [(7, .int (nI (i + 1))), (6, .int 0), (0, .ref (h 0)), (1, .int x1), (2, .int x2), (3, .int x3), (4, .int x4), (5, .int x5)]) hx hb dR_told_195 hl (k := 7) rfl (nI_1 _) (by decide) rfl (fun ls hl => ?_)
            refine lv_goto (tgt := 66) hx hb dR_told_198 (by decide) ?_
            exact ih (i + 1) x1 x2 x3 x4 x5 0 S _ (by omega) hv _ _ hP hD hS ls (lv_sub hl [2, 3, 4, 5, 6, 7, 1, 0] rfl)
          · rw [if_neg c169] at hv
            refine lv_if_eq (tgt := 192) hx hb dR_told_169 (by decide) (fun z => absurd z c169) (fun _ => ?_)
            refine lv_aload_n hx hb dR_told_172 rfl (lv_at hl 0 rfl) ?_
            refine lv_aload_n hx hb dR_told_173 rfl (lv_at hl 0 rfl) ?_
            refine va_get (D := D) (ci := 3) (v := .ref (h 2)) (C := RR) (T := TR) (N := 13) hx hb hts hinR hown hK hP 0 rfl rfl 2 (by decide) (hts _ uw218) (fun _ h9 => h9) rfl dR_told_174 ?_
            refine lv_iload hx hb dR_told_177 (lv_at hl 7 rfl) ?_
            refine va_iald hx hb hK hP 2 0 rfl rfl (vp_in_nI (n := i) (by omega) (by omega)) dR_told_179 ?_
            refine lv_iload hx hb dR_told_180 (lv_at hl 7 rfl) ?_
            obtain ⟨r182, e182, hv⟩ := bsome hv
            refine qVi (rest := []) ⟨hx, hb, hml, hown, hts⟩ (kR_isOlder l D Y h n hn S ((g_rfa S) ((nI i) : Int32).toNatClampNeg) (nI i) r182 e182) (cwV 2 hts (gV uw237 uw238 uw239 uw213 ucR_isOlder) rfl rfl rfl hvR_isOlder ⟨Nat.le_of_ble_eq_true rfl, Nat.le_of_ble_eq_true rfl⟩) hK hP (va_recv hK hP (ci := 3) (q0 := 0) rfl rfl) rfl hl.1 rfl (Nat.le_of_ble_eq_true rfl) dR_told_182 ⟨Nat.le_of_ble_eq_true rfl, Nat.le_of_ble_eq_true rfl⟩ ?_
            by_cases c185 : r182 = 0
            · rw [if_pos c185] at hv
              refine lv_if_eq (tgt := 192) hx hb dR_told_185 (by decide) (fun _ => ?_) (fun z => absurd c185 z)
              refine lv_iconst (v := 0) hx hb dR_told_192 (by decide) ?_
              refine lv_istore (lv' := [(6, .int 0), (0, .ref (h 0)), (1, .int x1), (2, .int x2), (3, .int x3), (4, .int x4), (5, .int x5), (7, .int (nI i))]) hx hb dR_told_193 hl (by decide) rfl (fun ls hl => ?_)
              refine lv_iinc (v := (nI (i + 1))) (lv' := [(7, .int (nI (i + 1))), (6, .int 0), (0, .ref (h 0)), (1, .int x1), (2, .int x2), (3, .int x3), (4, .int x4), (5, .int x5)]) hx hb dR_told_195 hl (k := 7) rfl (nI_1 _) (by decide) rfl (fun ls hl => ?_)
              refine lv_goto (tgt := 66) hx hb dR_told_198 (by decide) ?_
              exact ih (i + 1) x1 x2 x3 x4 x5 0 S _ (by omega) hv _ _ hP hD hS ls (lv_sub hl [2, 3, 4, 5, 6, 7, 1, 0] rfl)
            · rw [if_neg c185] at hv
              refine lv_if_eq (tgt := 192) hx hb dR_told_185 (by decide) (fun z => absurd z c185) (fun _ => ?_)
              refine lv_iconst (v := 1) hx hb dR_told_188 (by decide) ?_
              refine lv_goto (tgt := 193) hx hb dR_told_189 (by decide) ?_
              refine lv_istore (lv' := [(6, .int 1), (0, .ref (h 0)), (1, .int x1), (2, .int x2), (3, .int x3), (4, .int x4), (5, .int x5), (7, .int (nI i))]) hx hb dR_told_193 hl (by decide) rfl (fun ls hl => ?_)
              refine lv_iinc (v := (nI (i + 1))) (lv' := [(7, .int (nI (i + 1))), (6, .int 1), (0, .ref (h 0)), (1, .int x1), (2, .int x2), (3, .int x3), (4, .int x4), (5, .int x5)]) hx hb dR_told_195 hl (k := 7) rfl (nI_1 _) (by decide) rfl (fun ls hl => ?_)
              refine lv_goto (tgt := 66) hx hb dR_told_198 (by decide) ?_
              exact ih (i + 1) x1 x2 x3 x4 x5 1 S _ (by omega) hv _ _ hP hD hS ls (lv_sub hl [2, 3, 4, 5, 6, 7, 1, 0] rfl)
      · rw [if_neg c120] at hv
        refine lv_if_lt (tgt := 151) hx hb dR_told_120 (by decide) (fun z => absurd z c120) (fun _ => ?_)
        refine lv_iload hx hb dR_told_123 (lv_at hl 6 rfl) ?_
        by_cases c125 : x6 = 0
        · rw [if_pos c125] at hv
          refine lv_if_eq (tgt := 148) hx hb dR_told_125 (by decide) (fun _ => ?_) (fun z => absurd c125 z)
          refine lv_iconst (v := 0) hx hb dR_told_148 (by decide) ?_
          refine lv_istore (lv' := [(6, .int 0), (0, .ref (h 0)), (1, .int x1), (2, .int x2), (3, .int x3), (4, .int x4), (5, .int x5), (7, .int (nI i))]) hx hb dR_told_149 hl (by decide) rfl (fun ls hl => ?_)
          refine lv_iload hx hb dR_told_151 (lv_at hl 0 rfl) ?_
          refine lv_if_eq (tgt := 192) hx hb dR_told_153 (by decide) (fun _ => ?_) (fun z => absurd (by decide) z)
          refine lv_iconst (v := 0) hx hb dR_told_192 (by decide) ?_
          refine lv_istore (lv' := [(6, .int 0), (0, .ref (h 0)), (1, .int x1), (2, .int x2), (3, .int x3), (4, .int x4), (5, .int x5), (7, .int (nI i))]) hx hb dR_told_193 hl (by decide) rfl (fun ls hl => ?_)
          refine lv_iinc (v := (nI (i + 1))) (lv' := [(7, .int (nI (i + 1))), (6, .int 0), (0, .ref (h 0)), (1, .int x1), (2, .int x2), (3, .int x3), (4, .int x4), (5, .int x5)]) hx hb dR_told_195 hl (k := 7) rfl (nI_1 _) (by decide) rfl (fun ls hl => ?_)
          refine lv_goto (tgt := 66) hx hb dR_told_198 (by decide) ?_
          exact ih (i + 1) x1 x2 x3 x4 x5 0 S _ (by omega) hv _ _ hP hD hS ls (lv_sub hl [2, 3, 4, 5, 6, 7, 1, 0] rfl)
        · rw [if_neg c125] at hv
          refine lv_if_eq (tgt := 148) hx hb dR_told_125 (by decide) (fun z => absurd z c125) (fun _ => ?_)
          refine lv_aload_n hx hb dR_told_128 rfl (lv_at hl 0 rfl) ?_
          refine va_get (D := D) (ci := 3) (v := .ref (h 3)) (C := RR) (T := TR) (N := 13) hx hb hts hinR hown hK hP 0 rfl rfl 3 (by decide) (hts _ uw240) (fun _ h9 => h9) rfl dR_told_129 ?_
          refine lv_aload_n hx hb dR_told_132 rfl (lv_at hl 0 rfl) ?_
          refine va_get (D := D) (ci := 3) (v := .ref (h 2)) (C := RR) (T := TR) (N := 13) hx hb hts hinR hown hK hP 0 rfl rfl 2 (by decide) (hts _ uw218) (fun _ h9 => h9) rfl dR_told_133 ?_
          refine lv_iload hx hb dR_told_136 (lv_at hl 7 rfl) ?_
          refine va_iald hx hb hK hP 2 0 rfl rfl (vp_in_nI (n := i) (by omega) (by omega)) dR_told_138 ?_
          have k139 : ¬ (ob (((g_rfa S) ((nI i) : Int32).toNatClampNeg) : Int32) 24) := fun z => by rw [if_pos z] at hv; cases hv
          rw [if_neg k139] at hv
          refine va_iald hx hb hK hP 3 0 rfl rfl (k139) dR_told_139 ?_
          refine lv_iconst (v := 1) hx hb dR_told_140 (by decide) ?_
          by_cases c141 : ((g_rsx S) (((g_rfa S) ((nI i) : Int32).toNatClampNeg) : Int32).toNatClampNeg) = 1
          · rw [if_pos c141] at hv
            refine lv_icmp_eq (tgt := 148) hx hb dR_told_141 (by decide) (fun _ => ?_) (fun z => absurd c141 z)
            refine lv_iconst (v := 0) hx hb dR_told_148 (by decide) ?_
            refine lv_istore (lv' := [(6, .int 0), (0, .ref (h 0)), (1, .int x1), (2, .int x2), (3, .int x3), (4, .int x4), (5, .int x5), (7, .int (nI i))]) hx hb dR_told_149 hl (by decide) rfl (fun ls hl => ?_)
            refine lv_iload hx hb dR_told_151 (lv_at hl 0 rfl) ?_
            refine lv_if_eq (tgt := 192) hx hb dR_told_153 (by decide) (fun _ => ?_) (fun z => absurd (by decide) z)
            refine lv_iconst (v := 0) hx hb dR_told_192 (by decide) ?_
            refine lv_istore (lv' := [(6, .int 0), (0, .ref (h 0)), (1, .int x1), (2, .int x2), (3, .int x3), (4, .int x4), (5, .int x5), (7, .int (nI i))]) hx hb dR_told_193 hl (by decide) rfl (fun ls hl => ?_)
            refine lv_iinc (v := (nI (i + 1))) (lv' := [(7, .int (nI (i + 1))), (6, .int 0), (0, .ref (h 0)), (1, .int x1), (2, .int x2), (3, .int x3), (4, .int x4), (5, .int x5)]) hx hb dR_told_195 hl (k := 7) rfl (nI_1 _) (by decide) rfl (fun ls hl => ?_)
            refine lv_goto (tgt := 66) hx hb dR_told_198 (by decide) ?_
            exact ih (i + 1) x1 x2 x3 x4 x5 0 S _ (by omega) hv _ _ hP hD hS ls (lv_sub hl [2, 3, 4, 5, 6, 7, 1, 0] rfl)
          · rw [if_neg c141] at hv
            refine lv_icmp_eq (tgt := 148) hx hb dR_told_141 (by decide) (fun z => absurd z c141) (fun _ => ?_)
            refine lv_iconst (v := 1) hx hb dR_told_144 (by decide) ?_
            refine lv_goto (tgt := 149) hx hb dR_told_145 (by decide) ?_
            refine lv_istore (lv' := [(6, .int 1), (0, .ref (h 0)), (1, .int x1), (2, .int x2), (3, .int x3), (4, .int x4), (5, .int x5), (7, .int (nI i))]) hx hb dR_told_149 hl (by decide) rfl (fun ls hl => ?_)
            refine lv_iload hx hb dR_told_151 (lv_at hl 0 rfl) ?_
            refine lv_if_eq (tgt := 192) hx hb dR_told_153 (by decide) (fun z => absurd z (by decide)) (fun _ => ?_)
            refine lv_aload_n hx hb dR_told_156 rfl (lv_at hl 1 rfl) ?_
            refine lv_aload_n hx hb dR_told_157 rfl (lv_at hl 1 rfl) ?_
            refine va_get (D := D) (ci := 3) (v := .ref (h 1)) (C := RR) (T := TR) (N := 13) hx hb hts hinR hown hK hP 0 rfl rfl 1 (by decide) (hts _ uw217) (fun _ h9 => h9) rfl dR_told_158 ?_
            refine lv_iload hx hb dR_told_161 (lv_at hl 7 rfl) ?_
            refine va_iald hx hb hK hP 1 0 rfl rfl (vp_in_nI (n := i) (by omega) (by omega)) dR_told_163 ?_
            refine lv_iload hx hb dR_told_164 (lv_at hl 7 rfl) ?_
            obtain ⟨r166, e166, hv⟩ := bsome hv
            refine qVi (rest := []) ⟨hx, hb, hml, hown, hts⟩ (kR_isOlder l D Y h n hn S ((g_rmo S) ((nI i) : Int32).toNatClampNeg) (nI i) r166 e166) (cwV 2 hts (gV uw237 uw238 uw239 uw213 ucR_isOlder) rfl rfl rfl hvR_isOlder ⟨Nat.le_of_ble_eq_true rfl, Nat.le_of_ble_eq_true rfl⟩) hK hP (va_recv hK hP (ci := 3) (q0 := 0) rfl rfl) rfl hl.1 rfl (Nat.le_of_ble_eq_true rfl) dR_told_166 ⟨Nat.le_of_ble_eq_true rfl, Nat.le_of_ble_eq_true rfl⟩ ?_
            by_cases c169 : r166 = 0
            · rw [if_pos c169] at hv
              refine lv_if_eq (tgt := 192) hx hb dR_told_169 (by decide) (fun _ => ?_) (fun z => absurd c169 z)
              refine lv_iconst (v := 0) hx hb dR_told_192 (by decide) ?_
              refine lv_istore (lv' := [(6, .int 0), (0, .ref (h 0)), (1, .int x1), (2, .int x2), (3, .int x3), (4, .int x4), (5, .int x5), (7, .int (nI i))]) hx hb dR_told_193 hl (by decide) rfl (fun ls hl => ?_)
              refine lv_iinc (v := (nI (i + 1))) (lv' := [(7, .int (nI (i + 1))), (6, .int 0), (0, .ref (h 0)), (1, .int x1), (2, .int x2), (3, .int x3), (4, .int x4), (5, .int x5)]) hx hb dR_told_195 hl (k := 7) rfl (nI_1 _) (by decide) rfl (fun ls hl => ?_)
              refine lv_goto (tgt := 66) hx hb dR_told_198 (by decide) ?_
              exact ih (i + 1) x1 x2 x3 x4 x5 0 S _ (by omega) hv _ _ hP hD hS ls (lv_sub hl [2, 3, 4, 5, 6, 7, 1, 0] rfl)
            · rw [if_neg c169] at hv
              refine lv_if_eq (tgt := 192) hx hb dR_told_169 (by decide) (fun z => absurd z c169) (fun _ => ?_)
              refine lv_aload_n hx hb dR_told_172 rfl (lv_at hl 1 rfl) ?_
              refine lv_aload_n hx hb dR_told_173 rfl (lv_at hl 1 rfl) ?_
              refine va_get (D := D) (ci := 3) (v := .ref (h 2)) (C := RR) (T := TR) (N := 13) hx hb hts hinR hown hK hP 0 rfl rfl 2 (by decide) (hts _ uw218) (fun _ h9 => h9) rfl dR_told_174 ?_
              refine lv_iload hx hb dR_told_177 (lv_at hl 7 rfl) ?_
              refine va_iald hx hb hK hP 2 0 rfl rfl (vp_in_nI (n := i) (by omega) (by omega)) dR_told_179 ?_
              refine lv_iload hx hb dR_told_180 (lv_at hl 7 rfl) ?_
              obtain ⟨r182, e182, hv⟩ := bsome hv
              refine qVi (rest := []) ⟨hx, hb, hml, hown, hts⟩ (kR_isOlder l D Y h n hn S ((g_rfa S) ((nI i) : Int32).toNatClampNeg) (nI i) r182 e182) (cwV 2 hts (gV uw237 uw238 uw239 uw213 ucR_isOlder) rfl rfl rfl hvR_isOlder ⟨Nat.le_of_ble_eq_true rfl, Nat.le_of_ble_eq_true rfl⟩) hK hP (va_recv hK hP (ci := 3) (q0 := 0) rfl rfl) rfl hl.1 rfl (Nat.le_of_ble_eq_true rfl) dR_told_182 ⟨Nat.le_of_ble_eq_true rfl, Nat.le_of_ble_eq_true rfl⟩ ?_
              by_cases c185 : r182 = 0
              · rw [if_pos c185] at hv
                refine lv_if_eq (tgt := 192) hx hb dR_told_185 (by decide) (fun _ => ?_) (fun z => absurd c185 z)
                refine lv_iconst (v := 0) hx hb dR_told_192 (by decide) ?_
                refine lv_istore (lv' := [(6, .int 0), (0, .ref (h 0)), (1, .int x1), (2, .int x2), (3, .int x3), (4, .int x4), (5, .int x5), (7, .int (nI i))]) hx hb dR_told_193 hl (by decide) rfl (fun ls hl => ?_)
                refine lv_iinc (v := (nI (i + 1))) (lv' := [(7, .int (nI (i + 1))), (6, .int 0), (0, .ref (h 0)), (1, .int x1), (2, .int x2), (3, .int x3), (4, .int x4), (5, .int x5)]) hx hb dR_told_195 hl (k := 7) rfl (nI_1 _) (by decide) rfl (fun ls hl => ?_)
                refine lv_goto (tgt := 66) hx hb dR_told_198 (by decide) ?_
                exact ih (i + 1) x1 x2 x3 x4 x5 0 S _ (by omega) hv _ _ hP hD hS ls (lv_sub hl [2, 3, 4, 5, 6, 7, 1, 0] rfl)
              · rw [if_neg c185] at hv
                refine lv_if_eq (tgt := 192) hx hb dR_told_185 (by decide) (fun z => absurd z c185) (fun _ => ?_)
                refine lv_iconst (v := 1) hx hb dR_told_188 (by decide) ?_
                refine lv_goto (tgt := 193) hx hb dR_told_189 (by decide) ?_
                refine lv_istore (lv' := [(6, .int 1), (0, .ref (h 0)), (1, .int x1), (2, .int x2), (3, .int x3), (4, .int x4), (5, .int x5), (7, .int (nI i))]) hx hb dR_told_193 hl (by decide) rfl (fun ls hl => ?_)
                refine lv_iinc (v := (nI (i + 1))) (lv' := [(7, .int (nI (i + 1))), (6, .int 1), (0, .ref (h 0)), (1, .int x1), (2, .int x2), (3, .int x3), (4, .int x4), (5, .int x5)]) hx hb dR_told_195 hl (k := 7) rfl (nI_1 _) (by decide) rfl (fun ls hl => ?_)
                refine lv_goto (tgt := 66) hx hb dR_told_198 (by decide) ?_
                exact ih (i + 1) x1 x2 x3 x4 x5 1 S _ (by omega) hv _ _ hP hD hS ls (lv_sub hl [2, 3, 4, 5, 6, 7, 1, 0] rfl)
    · rw [if_neg c82] at hv
      refine lv_if_lt (tgt := 113) hx hb dR_told_82 (by decide) (fun z => absurd z c82) (fun _ => ?_)
      refine lv_iload hx hb dR_told_85 (lv_at hl 6 rfl) ?_
      by_cases c87 : x6 = 0
      · rw [if_pos c87] at hv
        refine lv_if_eq (tgt := 110) hx hb dR_told_87 (by decide) (fun _ => ?_) (fun z => absurd c87 z)
        refine lv_iconst (v := 0) hx hb dR_told_110 (by decide) ?_
        refine lv_istore (lv' := [(6, .int 0), (0, .ref (h 0)), (1, .int x1), (2, .int x2), (3, .int x3), (4, .int x4), (5, .int x5), (7, .int (nI i))]) hx hb dR_told_111 hl (by decide) rfl (fun ls hl => ?_)
        refine lv_aload_n hx hb dR_told_113 rfl (lv_at hl 1 rfl) ?_
        refine va_get (D := D) (ci := 3) (v := .ref (h 2)) (C := RR) (T := TR) (N := 13) hx hb hts hinR hown hK hP 0 rfl rfl 2 (by decide) (hts _ uw218) (fun _ h9 => h9) rfl dR_told_114 ?_
        refine lv_iload hx hb dR_told_117 (lv_at hl 7 rfl) ?_
        refine va_iald hx hb hK hP 2 0 rfl rfl (vp_in_nI (n := i) (by omega) (by omega)) dR_told_119 ?_
        by_cases c120 : ((g_rfa S) ((nI i) : Int32).toNatClampNeg) < 0
        · rw [if_pos c120] at hv
          refine lv_if_lt (tgt := 151) hx hb dR_told_120 (by decide) (fun _ => ?_) (fun z => absurd c120 z)
          refine lv_iload hx hb dR_told_151 (lv_at hl 0 rfl) ?_
          refine lv_if_eq (tgt := 192) hx hb dR_told_153 (by decide) (fun _ => ?_) (fun z => absurd (by decide) z)
          refine lv_iconst (v := 0) hx hb dR_told_192 (by decide) ?_
          refine lv_istore (lv' := [(6, .int 0), (0, .ref (h 0)), (1, .int x1), (2, .int x2), (3, .int x3), (4, .int x4), (5, .int x5), (7, .int (nI i))]) hx hb dR_told_193 hl (by decide) rfl (fun ls hl => ?_)
          refine lv_iinc (v := (nI (i + 1))) (lv' := [(7, .int (nI (i + 1))), (6, .int 0), (0, .ref (h 0)), (1, .int x1), (2, .int x2), (3, .int x3), (4, .int x4), (5, .int x5)]) hx hb dR_told_195 hl (k := 7) rfl (nI_1 _) (by decide) rfl (fun ls hl => ?_)
          refine lv_goto (tgt := 66) hx hb dR_told_198 (by decide) ?_
          exact ih (i + 1) x1 x2 x3 x4 x5 0 S _ (by omega) hv _ _ hP hD hS ls (lv_sub hl [2, 3, 4, 5, 6, 7, 1, 0] rfl)
        · rw [if_neg c120] at hv
          refine lv_if_lt (tgt := 151) hx hb dR_told_120 (by decide) (fun z => absurd z c120) (fun _ => ?_)
          refine lv_iload hx hb dR_told_123 (lv_at hl 0 rfl) ?_
          refine lv_if_eq (tgt := 148) hx hb dR_told_125 (by decide) (fun _ => ?_) (fun z => absurd (by decide) z)
          refine lv_iconst (v := 0) hx hb dR_told_148 (by decide) ?_
          refine lv_istore (lv' := [(6, .int 0), (0, .ref (h 0)), (1, .int x1), (2, .int x2), (3, .int x3), (4, .int x4), (5, .int x5), (7, .int (nI i))]) hx hb dR_told_149 hl (by decide) rfl (fun ls hl => ?_)
          refine lv_iload hx hb dR_told_151 (lv_at hl 0 rfl) ?_
          refine lv_if_eq (tgt := 192) hx hb dR_told_153 (by decide) (fun _ => ?_) (fun z => absurd (by decide) z)
          refine lv_iconst (v := 0) hx hb dR_told_192 (by decide) ?_
          refine lv_istore (lv' := [(6, .int 0), (0, .ref (h 0)), (1, .int x1), (2, .int x2), (3, .int x3), (4, .int x4), (5, .int x5), (7, .int (nI i))]) hx hb dR_told_193 hl (by decide) rfl (fun ls hl => ?_)
          refine lv_iinc (v := (nI (i + 1))) (lv' := [(7, .int (nI (i + 1))), (6, .int 0), (0, .ref (h 0)), (1, .int x1), (2, .int x2), (3, .int x3), (4, .int x4), (5, .int x5)]) hx hb dR_told_195 hl (k := 7) rfl (nI_1 _) (by decide) rfl (fun ls hl => ?_)
          refine lv_goto (tgt := 66) hx hb dR_told_198 (by decide) ?_
          exact ih (i + 1) x1 x2 x3 x4 x5 0 S _ (by omega) hv _ _ hP hD hS ls (lv_sub hl [2, 3, 4, 5, 6, 7, 1, 0] rfl)
      · rw [if_neg c87] at hv
        refine lv_if_eq (tgt := 110) hx hb dR_told_87 (by decide) (fun z => absurd z c87) (fun _ => ?_)
        refine lv_aload_n hx hb dR_told_90 rfl (lv_at hl 0 rfl) ?_
        refine va_get (D := D) (ci := 3) (v := .ref (h 3)) (C := RR) (T := TR) (N := 13) hx hb hts hinR hown hK hP 0 rfl rfl 3 (by decide) (hts _ uw240) (fun _ h9 => h9) rfl dR_told_91 ?_
        refine lv_aload_n hx hb dR_told_94 rfl (lv_at hl 0 rfl) ?_
        refine va_get (D := D) (ci := 3) (v := .ref (h 1)) (C := RR) (T := TR) (N := 13) hx hb hts hinR hown hK hP 0 rfl rfl 1 (by decide) (hts _ uw217) (fun _ h9 => h9) rfl dR_told_95 ?_
        refine lv_iload hx hb dR_told_98 (lv_at hl 7 rfl) ?_
        refine va_iald hx hb hK hP 1 0 rfl rfl (vp_in_nI (n := i) (by omega) (by omega)) dR_told_100 ?_
        have k101 : ¬ (ob (((g_rmo S) ((nI i) : Int32).toNatClampNeg) : Int32) 24) := fun z => by rw [if_pos z] at hv; cases hv
        rw [if_neg k101] at hv
        refine va_iald hx hb hK hP 3 0 rfl rfl (k101) dR_told_101 ?_
        refine lv_iconst (v := 2) hx hb dR_told_102 (by decide) ?_
        by_cases c103 : ((g_rsx S) (((g_rmo S) ((nI i) : Int32).toNatClampNeg) : Int32).toNatClampNeg) = 2
        · rw [if_pos c103] at hv
          refine lv_icmp_eq (tgt := 110) hx hb dR_told_103 (by decide) (fun _ => ?_) (fun z => absurd c103 z)
          refine lv_iconst (v := 0) hx hb dR_told_110 (by decide) ?_
          refine lv_istore (lv' := [(6, .int 0), (0, .ref (h 0)), (1, .int x1), (2, .int x2), (3, .int x3), (4, .int x4), (5, .int x5), (7, .int (nI i))]) hx hb dR_told_111 hl (by decide) rfl (fun ls hl => ?_)
          refine lv_aload_n hx hb dR_told_113 rfl (lv_at hl 1 rfl) ?_
          refine va_get (D := D) (ci := 3) (v := .ref (h 2)) (C := RR) (T := TR) (N := 13) hx hb hts hinR hown hK hP 0 rfl rfl 2 (by decide) (hts _ uw218) (fun _ h9 => h9) rfl dR_told_114 ?_
          refine lv_iload hx hb dR_told_117 (lv_at hl 7 rfl) ?_
          refine va_iald hx hb hK hP 2 0 rfl rfl (vp_in_nI (n := i) (by omega) (by omega)) dR_told_119 ?_
          by_cases c120 : ((g_rfa S) ((nI i) : Int32).toNatClampNeg) < 0
          · rw [if_pos c120] at hv
            refine lv_if_lt (tgt := 151) hx hb dR_told_120 (by decide) (fun _ => ?_) (fun z => absurd c120 z)
            refine lv_iload hx hb dR_told_151 (lv_at hl 0 rfl) ?_
            refine lv_if_eq (tgt := 192) hx hb dR_told_153 (by decide) (fun _ => ?_) (fun z => absurd (by decide) z)
            refine lv_iconst (v := 0) hx hb dR_told_192 (by decide) ?_
            refine lv_istore (lv' := [(6, .int 0), (0, .ref (h 0)), (1, .int x1), (2, .int x2), (3, .int x3), (4, .int x4), (5, .int x5), (7, .int (nI i))]) hx hb dR_told_193 hl (by decide) rfl (fun ls hl => ?_)
            refine lv_iinc (v := (nI (i + 1))) (lv' := [(7, .int (nI (i + 1))), (6, .int 0), (0, .ref (h 0)), (1, .int x1), (2, .int x2), (3, .int x3), (4, .int x4), (5, .int x5)]) hx hb dR_told_195 hl (k := 7) rfl (nI_1 _) (by decide) rfl (fun ls hl => ?_)
            refine lv_goto (tgt := 66) hx hb dR_told_198 (by decide) ?_
            exact ih (i + 1) x1 x2 x3 x4 x5 0 S _ (by omega) hv _ _ hP hD hS ls (lv_sub hl [2, 3, 4, 5, 6, 7, 1, 0] rfl)
          · rw [if_neg c120] at hv
            refine lv_if_lt (tgt := 151) hx hb dR_told_120 (by decide) (fun z => absurd z c120) (fun _ => ?_)
            refine lv_iload hx hb dR_told_123 (lv_at hl 0 rfl) ?_
            refine lv_if_eq (tgt := 148) hx hb dR_told_125 (by decide) (fun _ => ?_) (fun z => absurd (by decide) z)
            refine lv_iconst (v := 0) hx hb dR_told_148 (by decide) ?_
            refine lv_istore (lv' := [(6, .int 0), (0, .ref (h 0)), (1, .int x1), (2, .int x2), (3, .int x3), (4, .int x4), (5, .int x5), (7, .int (nI i))]) hx hb dR_told_149 hl (by decide) rfl (fun ls hl => ?_)
            refine lv_iload hx hb dR_told_151 (lv_at hl 0 rfl) ?_
            refine lv_if_eq (tgt := 192) hx hb dR_told_153 (by decide) (fun _ => ?_) (fun z => absurd (by decide) z)
            refine lv_iconst (v := 0) hx hb dR_told_192 (by decide) ?_
            refine lv_istore (lv' := [(6, .int 0), (0, .ref (h 0)), (1, .int x1), (2, .int x2), (3, .int x3), (4, .int x4), (5, .int x5), (7, .int (nI i))]) hx hb dR_told_193 hl (by decide) rfl (fun ls hl => ?_)
            refine lv_iinc (v := (nI (i + 1))) (lv' := [(7, .int (nI (i + 1))), (6, .int 0), (0, .ref (h 0)), (1, .int x1), (2, .int x2), (3, .int x3), (4, .int x4), (5, .int x5)]) hx hb dR_told_195 hl (k := 7) rfl (nI_1 _) (by decide) rfl (fun ls hl => ?_)
            refine lv_goto (tgt := 66) hx hb dR_told_198 (by decide) ?_
            exact ih (i + 1) x1 x2 x3 x4 x5 0 S _ (by omega) hv _ _ hP hD hS ls (lv_sub hl [2, 3, 4, 5, 6, 7, 1, 0] rfl)
        · rw [if_neg c103] at hv
          refine lv_icmp_eq (tgt := 110) hx hb dR_told_103 (by decide) (fun z => absurd z c103) (fun _ => ?_)
          refine lv_iconst (v := 1) hx hb dR_told_106 (by decide) ?_
          refine lv_goto (tgt := 111) hx hb dR_told_107 (by decide) ?_
          refine lv_istore (lv' := [(6, .int 1), (0, .ref (h 0)), (1, .int x1), (2, .int x2), (3, .int x3), (4, .int x4), (5, .int x5), (7, .int (nI i))]) hx hb dR_told_111 hl (by decide) rfl (fun ls hl => ?_)
          refine lv_aload_n hx hb dR_told_113 rfl (lv_at hl 1 rfl) ?_
          refine va_get (D := D) (ci := 3) (v := .ref (h 2)) (C := RR) (T := TR) (N := 13) hx hb hts hinR hown hK hP 0 rfl rfl 2 (by decide) (hts _ uw218) (fun _ h9 => h9) rfl dR_told_114 ?_
          refine lv_iload hx hb dR_told_117 (lv_at hl 7 rfl) ?_
          refine va_iald hx hb hK hP 2 0 rfl rfl (vp_in_nI (n := i) (by omega) (by omega)) dR_told_119 ?_
          by_cases c120 : ((g_rfa S) ((nI i) : Int32).toNatClampNeg) < 0
          · rw [if_pos c120] at hv
            refine lv_if_lt (tgt := 151) hx hb dR_told_120 (by decide) (fun _ => ?_) (fun z => absurd c120 z)
            refine lv_iload hx hb dR_told_151 (lv_at hl 0 rfl) ?_
            refine lv_if_eq (tgt := 192) hx hb dR_told_153 (by decide) (fun z => absurd z (by decide)) (fun _ => ?_)
            refine lv_aload_n hx hb dR_told_156 rfl (lv_at hl 1 rfl) ?_
            refine lv_aload_n hx hb dR_told_157 rfl (lv_at hl 1 rfl) ?_
            refine va_get (D := D) (ci := 3) (v := .ref (h 1)) (C := RR) (T := TR) (N := 13) hx hb hts hinR hown hK hP 0 rfl rfl 1 (by decide) (hts _ uw217) (fun _ h9 => h9) rfl dR_told_158 ?_
            refine lv_iload hx hb dR_told_161 (lv_at hl 7 rfl) ?_
            refine va_iald hx hb hK hP 1 0 rfl rfl (vp_in_nI (n := i) (by omega) (by omega)) dR_told_163 ?_
            refine lv_iload hx hb dR_told_164 (lv_at hl 7 rfl) ?_
            obtain ⟨r166, e166, hv⟩ := bsome hv
            refine qVi (rest := []) ⟨hx, hb, hml, hown, hts⟩ (kR_isOlder l D Y h n hn S ((g_rmo S) ((nI i) : Int32).toNatClampNeg) (nI i) r166 e166) (cwV 2 hts (gV uw237 uw238 uw239 uw213 ucR_isOlder) rfl rfl rfl hvR_isOlder ⟨Nat.le_of_ble_eq_true rfl, Nat.le_of_ble_eq_true rfl⟩) hK hP (va_recv hK hP (ci := 3) (q0 := 0) rfl rfl) rfl hl.1 rfl (Nat.le_of_ble_eq_true rfl) dR_told_166 ⟨Nat.le_of_ble_eq_true rfl, Nat.le_of_ble_eq_true rfl⟩ ?_
            by_cases c169 : r166 = 0
            · rw [if_pos c169] at hv
              refine lv_if_eq (tgt := 192) hx hb dR_told_169 (by decide) (fun _ => ?_) (fun z => absurd c169 z)
              refine lv_iconst (v := 0) hx hb dR_told_192 (by decide) ?_
              refine lv_istore (lv' := [(6, .int 0), (0, .ref (h 0)), (1, .int x1), (2, .int x2), (3, .int x3), (4, .int x4), (5, .int x5), (7, .int (nI i))]) hx hb dR_told_193 hl (by decide) rfl (fun ls hl => ?_)
              refine lv_iinc (v := (nI (i + 1))) (lv' := [(7, .int (nI (i + 1))), (6, .int 0), (0, .ref (h 0)), (1, .int x1), (2, .int x2), (3, .int x3), (4, .int x4), (5, .int x5)]) hx hb dR_told_195 hl (k := 7) rfl (nI_1 _) (by decide) rfl (fun ls hl => ?_)
              refine lv_goto (tgt := 66) hx hb dR_told_198 (by decide) ?_
              exact ih (i + 1) x1 x2 x3 x4 x5 0 S _ (by omega) hv _ _ hP hD hS ls (lv_sub hl [2, 3, 4, 5, 6, 7, 1, 0] rfl)
            · rw [if_neg c169] at hv
              refine lv_if_eq (tgt := 192) hx hb dR_told_169 (by decide) (fun z => absurd z c169) (fun _ => ?_)
              refine lv_aload_n hx hb dR_told_172 rfl (lv_at hl 1 rfl) ?_
              refine lv_aload_n hx hb dR_told_173 rfl (lv_at hl 1 rfl) ?_
              refine va_get (D := D) (ci := 3) (v := .ref (h 2)) (C := RR) (T := TR) (N := 13) hx hb hts hinR hown hK hP 0 rfl rfl 2 (by decide) (hts _ uw218) (fun _ h9 => h9) rfl dR_told_174 ?_
              refine lv_iload hx hb dR_told_177 (lv_at hl 7 rfl) ?_
              refine va_iald hx hb hK hP 2 0 rfl rfl (vp_in_nI (n := i) (by omega) (by omega)) dR_told_179 ?_
              refine lv_iload hx hb dR_told_180 (lv_at hl 7 rfl) ?_
              obtain ⟨r182, e182, hv⟩ := bsome hv
              refine qVi (rest := []) ⟨hx, hb, hml, hown, hts⟩ (kR_isOlder l D Y h n hn S ((g_rfa S) ((nI i) : Int32).toNatClampNeg) (nI i) r182 e182) (cwV 2 hts (gV uw237 uw238 uw239 uw213 ucR_isOlder) rfl rfl rfl hvR_isOlder ⟨Nat.le_of_ble_eq_true rfl, Nat.le_of_ble_eq_true rfl⟩) hK hP (va_recv hK hP (ci := 3) (q0 := 0) rfl rfl) rfl hl.1 rfl (Nat.le_of_ble_eq_true rfl) dR_told_182 ⟨Nat.le_of_ble_eq_true rfl, Nat.le_of_ble_eq_true rfl⟩ ?_
              by_cases c185 : r182 = 0
              · rw [if_pos c185] at hv
                refine lv_if_eq (tgt := 192) hx hb dR_told_185 (by decide) (fun _ => ?_) (fun z => absurd c185 z)
                refine lv_iconst (v := 0) hx hb dR_told_192 (by decide) ?_
                refine lv_istore (lv' := [(6, .int 0), (0, .ref (h 0)), (1, .int x1), (2, .int x2), (3, .int x3), (4, .int x4), (5, .int x5), (7, .int (nI i))]) hx hb dR_told_193 hl (by decide) rfl (fun ls hl => ?_)
                refine lv_iinc (v := (nI (i + 1))) (lv' := [(7, .int (nI (i + 1))), (6, .int 0), (0, .ref (h 0)), (1, .int x1), (2, .int x2), (3, .int x3), (4, .int x4), (5, .int x5)]) hx hb dR_told_195 hl (k := 7) rfl (nI_1 _) (by decide) rfl (fun ls hl => ?_)
                refine lv_goto (tgt := 66) hx hb dR_told_198 (by decide) ?_
                exact ih (i + 1) x1 x2 x3 x4 x5 0 S _ (by omega) hv _ _ hP hD hS ls (lv_sub hl [2, 3, 4, 5, 6, 7, 1, 0] rfl)
              · rw [if_neg c185] at hv
                refine lv_if_eq (tgt := 192) hx hb dR_told_185 (by decide) (fun z => absurd z c185) (fun _ => ?_)
                refine lv_iconst (v := 1) hx hb dR_told_188 (by decide) ?_
                refine lv_goto (tgt := 193) hx hb dR_told_189 (by decide) ?_
                refine lv_istore (lv' := [(6, .int 1), (0, .ref (h 0)), (1, .int x1), (2, .int x2), (3, .int x3), (4, .int x4), (5, .int x5), (7, .int (nI i))]) hx hb dR_told_193 hl (by decide) rfl (fun ls hl => ?_)
                refine lv_iinc (v := (nI (i + 1))) (lv' := [(7, .int (nI (i + 1))), (6, .int 1), (0, .ref (h 0)), (1, .int x1), (2, .int x2), (3, .int x3), (4, .int x4), (5, .int x5)]) hx hb dR_told_195 hl (k := 7) rfl (nI_1 _) (by decide) rfl (fun ls hl => ?_)
                refine lv_goto (tgt := 66) hx hb dR_told_198 (by decide) ?_
                exact ih (i + 1) x1 x2 x3 x4 x5 1 S _ (by omega) hv _ _ hP hD hS ls (lv_sub hl [2, 3, 4, 5, 6, 7, 1, 0] rfl)
          · rw [if_neg c120] at hv
            refine lv_if_lt (tgt := 151) hx hb dR_told_120 (by decide) (fun z => absurd z c120) (fun _ => ?_)
            refine lv_iload hx hb dR_told_123 (lv_at hl 0 rfl) ?_
            refine lv_if_eq (tgt := 148) hx hb dR_told_125 (by decide) (fun z => absurd z (by decide)) (fun _ => ?_)
            refine lv_aload_n hx hb dR_told_128 rfl (lv_at hl 1 rfl) ?_
            refine va_get (D := D) (ci := 3) (v := .ref (h 3)) (C := RR) (T := TR) (N := 13) hx hb hts hinR hown hK hP 0 rfl rfl 3 (by decide) (hts _ uw240) (fun _ h9 => h9) rfl dR_told_129 ?_
            refine lv_aload_n hx hb dR_told_132 rfl (lv_at hl 1 rfl) ?_
            refine va_get (D := D) (ci := 3) (v := .ref (h 2)) (C := RR) (T := TR) (N := 13) hx hb hts hinR hown hK hP 0 rfl rfl 2 (by decide) (hts _ uw218) (fun _ h9 => h9) rfl dR_told_133 ?_
            refine lv_iload hx hb dR_told_136 (lv_at hl 7 rfl) ?_
            refine va_iald hx hb hK hP 2 0 rfl rfl (vp_in_nI (n := i) (by omega) (by omega)) dR_told_138 ?_
            have k139x : ¬ (ob (((g_rfa S) ((nI i) : Int32).toNatClampNeg) : Int32) 24) := fun z => by rw [if_pos z] at hv; cases hv
            rw [if_neg k139x] at hv
            refine va_iald hx hb hK hP 3 0 rfl rfl (k139x) dR_told_139 ?_
            refine lv_iconst (v := 1) hx hb dR_told_140 (by decide) ?_
            by_cases c141 : ((g_rsx S) (((g_rfa S) ((nI i) : Int32).toNatClampNeg) : Int32).toNatClampNeg) = 1
            · rw [if_pos c141] at hv
              refine lv_icmp_eq (tgt := 148) hx hb dR_told_141 (by decide) (fun _ => ?_) (fun z => absurd c141 z)
              refine lv_iconst (v := 0) hx hb dR_told_148 (by decide) ?_
              refine lv_istore (lv' := [(6, .int 0), (0, .ref (h 0)), (1, .int x1), (2, .int x2), (3, .int x3), (4, .int x4), (5, .int x5), (7, .int (nI i))]) hx hb dR_told_149 hl (by decide) rfl (fun ls hl => ?_)
              refine lv_iload hx hb dR_told_151 (lv_at hl 0 rfl) ?_
              refine lv_if_eq (tgt := 192) hx hb dR_told_153 (by decide) (fun _ => ?_) (fun z => absurd (by decide) z)
              refine lv_iconst (v := 0) hx hb dR_told_192 (by decide) ?_
              refine lv_istore (lv' := [(6, .int 0), (0, .ref (h 0)), (1, .int x1), (2, .int x2), (3, .int x3), (4, .int x4), (5, .int x5), (7, .int (nI i))]) hx hb dR_told_193 hl (by decide) rfl (fun ls hl => ?_)
              refine lv_iinc (v := (nI (i + 1))) (lv' := [(7, .int (nI (i + 1))), (6, .int 0), (0, .ref (h 0)), (1, .int x1), (2, .int x2), (3, .int x3), (4, .int x4), (5, .int x5)]) hx hb dR_told_195 hl (k := 7) rfl (nI_1 _) (by decide) rfl (fun ls hl => ?_)
              refine lv_goto (tgt := 66) hx hb dR_told_198 (by decide) ?_
              exact ih (i + 1) x1 x2 x3 x4 x5 0 S _ (by omega) hv _ _ hP hD hS ls (lv_sub hl [2, 3, 4, 5, 6, 7, 1, 0] rfl)
            · rw [if_neg c141] at hv
              refine lv_icmp_eq (tgt := 148) hx hb dR_told_141 (by decide) (fun z => absurd z c141) (fun _ => ?_)
              refine lv_iconst (v := 1) hx hb dR_told_144 (by decide) ?_
              refine lv_goto (tgt := 149) hx hb dR_told_145 (by decide) ?_
              refine lv_istore (lv' := [(6, .int 1), (0, .ref (h 0)), (1, .int x1), (2, .int x2), (3, .int x3), (4, .int x4), (5, .int x5), (7, .int (nI i))]) hx hb dR_told_149 hl (by decide) rfl (fun ls hl => ?_)
              refine lv_iload hx hb dR_told_151 (lv_at hl 0 rfl) ?_
              refine lv_if_eq (tgt := 192) hx hb dR_told_153 (by decide) (fun z => absurd z (by decide)) (fun _ => ?_)
              refine lv_aload_n hx hb dR_told_156 rfl (lv_at hl 1 rfl) ?_
              refine lv_aload_n hx hb dR_told_157 rfl (lv_at hl 1 rfl) ?_
              refine va_get (D := D) (ci := 3) (v := .ref (h 1)) (C := RR) (T := TR) (N := 13) hx hb hts hinR hown hK hP 0 rfl rfl 1 (by decide) (hts _ uw217) (fun _ h9 => h9) rfl dR_told_158 ?_
              refine lv_iload hx hb dR_told_161 (lv_at hl 7 rfl) ?_
              refine va_iald hx hb hK hP 1 0 rfl rfl (vp_in_nI (n := i) (by omega) (by omega)) dR_told_163 ?_
              refine lv_iload hx hb dR_told_164 (lv_at hl 7 rfl) ?_
              obtain ⟨r166, e166, hv⟩ := bsome hv
              refine qVi (rest := []) ⟨hx, hb, hml, hown, hts⟩ (kR_isOlder l D Y h n hn S ((g_rmo S) ((nI i) : Int32).toNatClampNeg) (nI i) r166 e166) (cwV 2 hts (gV uw237 uw238 uw239 uw213 ucR_isOlder) rfl rfl rfl hvR_isOlder ⟨Nat.le_of_ble_eq_true rfl, Nat.le_of_ble_eq_true rfl⟩) hK hP (va_recv hK hP (ci := 3) (q0 := 0) rfl rfl) rfl hl.1 rfl (Nat.le_of_ble_eq_true rfl) dR_told_166 ⟨Nat.le_of_ble_eq_true rfl, Nat.le_of_ble_eq_true rfl⟩ ?_
              by_cases c169 : r166 = 0
              · rw [if_pos c169] at hv
                refine lv_if_eq (tgt := 192) hx hb dR_told_169 (by decide) (fun _ => ?_) (fun z => absurd c169 z)
                refine lv_iconst (v := 0) hx hb dR_told_192 (by decide) ?_
                refine lv_istore (lv' := [(6, .int 0), (0, .ref (h 0)), (1, .int x1), (2, .int x2), (3, .int x3), (4, .int x4), (5, .int x5), (7, .int (nI i))]) hx hb dR_told_193 hl (by decide) rfl (fun ls hl => ?_)
                refine lv_iinc (v := (nI (i + 1))) (lv' := [(7, .int (nI (i + 1))), (6, .int 0), (0, .ref (h 0)), (1, .int x1), (2, .int x2), (3, .int x3), (4, .int x4), (5, .int x5)]) hx hb dR_told_195 hl (k := 7) rfl (nI_1 _) (by decide) rfl (fun ls hl => ?_)
                refine lv_goto (tgt := 66) hx hb dR_told_198 (by decide) ?_
                exact ih (i + 1) x1 x2 x3 x4 x5 0 S _ (by omega) hv _ _ hP hD hS ls (lv_sub hl [2, 3, 4, 5, 6, 7, 1, 0] rfl)
              · rw [if_neg c169] at hv
                refine lv_if_eq (tgt := 192) hx hb dR_told_169 (by decide) (fun z => absurd z c169) (fun _ => ?_)
                refine lv_aload_n hx hb dR_told_172 rfl (lv_at hl 1 rfl) ?_
                refine lv_aload_n hx hb dR_told_173 rfl (lv_at hl 1 rfl) ?_
                refine va_get (D := D) (ci := 3) (v := .ref (h 2)) (C := RR) (T := TR) (N := 13) hx hb hts hinR hown hK hP 0 rfl rfl 2 (by decide) (hts _ uw218) (fun _ h9 => h9) rfl dR_told_174 ?_
                refine lv_iload hx hb dR_told_177 (lv_at hl 7 rfl) ?_
                refine va_iald hx hb hK hP 2 0 rfl rfl (vp_in_nI (n := i) (by omega) (by omega)) dR_told_179 ?_
                refine lv_iload hx hb dR_told_180 (lv_at hl 7 rfl) ?_
                obtain ⟨r182, e182, hv⟩ := bsome hv
                refine qVi (rest := []) ⟨hx, hb, hml, hown, hts⟩ (kR_isOlder l D Y h n hn S ((g_rfa S) ((nI i) : Int32).toNatClampNeg) (nI i) r182 e182) (cwV 2 hts (gV uw237 uw238 uw239 uw213 ucR_isOlder) rfl rfl rfl hvR_isOlder ⟨Nat.le_of_ble_eq_true rfl, Nat.le_of_ble_eq_true rfl⟩) hK hP (va_recv hK hP (ci := 3) (q0 := 0) rfl rfl) rfl hl.1 rfl (Nat.le_of_ble_eq_true rfl) dR_told_182 ⟨Nat.le_of_ble_eq_true rfl, Nat.le_of_ble_eq_true rfl⟩ ?_
                by_cases c185 : r182 = 0
                · rw [if_pos c185] at hv
                  refine lv_if_eq (tgt := 192) hx hb dR_told_185 (by decide) (fun _ => ?_) (fun z => absurd c185 z)
                  refine lv_iconst (v := 0) hx hb dR_told_192 (by decide) ?_
                  refine lv_istore (lv' := [(6, .int 0), (0, .ref (h 0)), (1, .int x1), (2, .int x2), (3, .int x3), (4, .int x4), (5, .int x5), (7, .int (nI i))]) hx hb dR_told_193 hl (by decide) rfl (fun ls hl => ?_)
                  refine lv_iinc (v := (nI (i + 1))) (lv' := [(7, .int (nI (i + 1))), (6, .int 0), (0, .ref (h 0)), (1, .int x1), (2, .int x2), (3, .int x3), (4, .int x4), (5, .int x5)]) hx hb dR_told_195 hl (k := 7) rfl (nI_1 _) (by decide) rfl (fun ls hl => ?_)
                  refine lv_goto (tgt := 66) hx hb dR_told_198 (by decide) ?_
                  exact ih (i + 1) x1 x2 x3 x4 x5 0 S _ (by omega) hv _ _ hP hD hS ls (lv_sub hl [2, 3, 4, 5, 6, 7, 1, 0] rfl)
                · rw [if_neg c185] at hv
                  refine lv_if_eq (tgt := 192) hx hb dR_told_185 (by decide) (fun z => absurd z c185) (fun _ => ?_)
                  refine lv_iconst (v := 1) hx hb dR_told_188 (by decide) ?_
                  refine lv_goto (tgt := 193) hx hb dR_told_189 (by decide) ?_
                  refine lv_istore (lv' := [(6, .int 1), (0, .ref (h 0)), (1, .int x1), (2, .int x2), (3, .int x3), (4, .int x4), (5, .int x5), (7, .int (nI i))]) hx hb dR_told_193 hl (by decide) rfl (fun ls hl => ?_)
                  refine lv_iinc (v := (nI (i + 1))) (lv' := [(7, .int (nI (i + 1))), (6, .int 1), (0, .ref (h 0)), (1, .int x1), (2, .int x2), (3, .int x3), (4, .int x4), (5, .int x5)]) hx hb dR_told_195 hl (k := 7) rfl (nI_1 _) (by decide) rfl (fun ls hl => ?_)
                  refine lv_goto (tgt := 66) hx hb dR_told_198 (by decide) ?_
                  exact ih (i + 1) x1 x2 x3 x4 x5 1 S _ (by omega) hv _ _ hP hD hS ls (lv_sub hl [2, 3, 4, 5, 6, 7, 1, 0] rfl)
set_option maxHeartbeats 4000000 in
set_option maxRecDepth 100000 in
theorem kR_told (l : Launch) (D : va_G) (Y : Nat → ClassId) (h : Nat → Nat) (n : Nat) (hn : n ≤ 24) (S : vR) (a1 : Int32) (a2 : Int32) (a3 : Int32) (v : Int32 × vR) (hv : (fR_told n S a1 a2 a3) = some v) (sz : Nat) : Met l yR_told wsR_told rmR_told (va_Pc [.ref (h 0), .int a1, .int a2, .int a3] (zPreM D vwCl (tysK Y) (wR Y h n S) sz)) (va_Qi (fun r u => (r, u) = v) (zAt D vwCl (tysK Y) (va_A (wR Y h n S) sz) (wR Y h n)) (va_A (wR Y h n S) sz)) 0 0 (va_A (wR Y h n S) sz) := by
  refine Met.ofW (cc := cR_told) (maxL := 8) (ret := (some .boolean)) (by decide) rfl ?_
  intro p e s m args below meth c s₁ B hml hvv
  obtain ⟨rfl, hsz, hP, hK, hD0⟩ := hvv
  have hx := B.exec
  have hb := B.bytes
  have hr := B.returns
  have hts : ∀ w ∈ uT, w.before _ s = true := fun w hw => atoms_spec (ws := wsR_told) B.pre w (List.mem_cons_of_mem _ hw)
  have hown : s.vm.findClass RR = some m.cls := findClass_of_methodNamed B.named
  have hlocks := B.notSynchronized
  subst hsz
  have hD := hD0.self (sz := s.heap.size)
  generalize hAe : va_A (wR Y h n S) s.heap.size = A at hD ⊢
  have hA : ∀ q : Nat, s.heap.size ≤ q → A q := fun q h => by rw [← hAe]; exact Or.inr h
  have hS : va_S A s.heap s.heap [] := va_S.rf
  have hl := lv_entry ([.ref (h 0), .int a1, .int a2, .int a3]) (n := 8) (Nat.le_of_ble_eq_true rfl)
  rw [lg_entry_eq]
  generalize (lg_sl ([.ref (h 0), .int a1, .int a2, .int a3]) ++ List.replicate (8 - (lg_sl ([.ref (h 0), .int a1, .int a2, .int a3])).length) Slot.unset).toArray = ls at hl ⊢
  have hl : lv_has ls 8 [(0, .ref (h 0)), (1, .int a1), (2, .int a2), (3, .int a3)] := hl
  unfold fR_told at hv
  show W p l e rmR_told s m _ below meth c s.heap [] 0 0 (zMi D vwCl (tysK Y) A (wR Y h n) below _ s 0 0 v) (F0 m 0 ls [])
  refine lv_aload_n hx hb dR_told_0 rfl (lv_at hl 0 rfl) ?_
  refine lv_iload_n hx hb dR_told_1 rfl (lv_at hl 1 rfl) ?_
  refine qVi (rest := []) ⟨hx, hb, hml, hown, hts⟩ (kR_is l D Y h n hn S a1) (cwV 1 hts (gV uw210 uw211 uw212 uw213 ucR_is) rfl rfl rfl hvR_is ⟨Nat.le_of_ble_eq_true rfl, Nat.le_of_ble_eq_true rfl⟩) hK hP (va_recv hK hP (ci := 3) (q0 := 0) rfl rfl) rfl hl.1 rfl (Nat.le_of_ble_eq_true rfl) dR_told_2 ⟨Nat.le_of_ble_eq_true rfl, Nat.le_of_ble_eq_true rfl⟩ ?_
  by_cases c5 : (fR_is n a1) = 0
  · rw [if_pos c5] at hv
    refine lv_if_eq (tgt := 28) hx hb dR_told_5 (by decide) (fun _ => ?_) (fun z => absurd c5 z)
    refine lv_iconst (v := 0) hx hb dR_told_28 (by decide) ?_
    cases hv
    exact zMb_ret (u := S) hx hb hr hlocks hK hP hD hS (Or.inl rfl) dR_told_29
  · rw [if_neg c5] at hv
    refine lv_if_eq (tgt := 28) hx hb dR_told_5 (by decide) (fun z => absurd z c5) (fun _ => ?_)
    refine lv_iload_n hx hb dR_told_8 rfl (lv_at hl 2 rfl) ?_
    by_cases c9 : a2 < 0
    · rw [if_pos c9] at hv
      refine lv_if_lt (tgt := 28) hx hb dR_told_9 (by decide) (fun _ => ?_) (fun z => absurd c9 z)
      refine lv_iconst (v := 0) hx hb dR_told_28 (by decide) ?_
      cases hv
      exact zMb_ret (u := S) hx hb hr hlocks hK hP hD hS (Or.inl rfl) dR_told_29
    · rw [if_neg c9] at hv
      refine lv_if_lt (tgt := 28) hx hb dR_told_9 (by decide) (fun z => absurd z c9) (fun _ => ?_)
      refine lv_iload_n hx hb dR_told_12 rfl (lv_at hl 2 rfl) ?_
      refine lv_iconst (v := 2) hx hb dR_told_13 (by decide) ?_
      by_cases c14 : 2 < a2
      · rw [if_pos c14] at hv
        refine lv_icmp_gt (tgt := 28) hx hb dR_told_14 (by decide) (fun _ => ?_) (fun z => absurd c14 z)
        refine lv_iconst (v := 0) hx hb dR_told_28 (by decide) ?_
        cases hv
        exact zMb_ret (u := S) hx hb hr hlocks hK hP hD hS (Or.inl rfl) dR_told_29
      · rw [if_neg c14] at hv
        refine lv_icmp_gt (tgt := 28) hx hb dR_told_14 (by decide) (fun z => absurd z c14) (fun _ => ?_)
        refine lv_iload_n hx hb dR_told_17 rfl (lv_at hl 3 rfl) ?_
        refine lv_iconst (v := (-1)) hx hb dR_told_18 (by decide) ?_
        by_cases c19 : a3 < (-1)
        · rw [if_pos c19] at hv
          refine lv_icmp_lt (tgt := 28) hx hb dR_told_19 (by decide) (fun _ => ?_) (fun z => absurd c19 z)
          refine lv_iconst (v := 0) hx hb dR_told_28 (by decide) ?_
          cases hv
          exact zMb_ret (u := S) hx hb hr hlocks hK hP hD hS (Or.inl rfl) dR_told_29
        · rw [if_neg c19] at hv
          refine lv_icmp_lt (tgt := 28) hx hb dR_told_19 (by decide) (fun z => absurd z c19) (fun _ => ?_)
          refine lv_iload_n hx hb dR_told_22 rfl (lv_at hl 3 rfl) ?_
          refine lv_ldc (v := 99999) hx hb hown (hts _ uw244) dR_told_23 ?_
          by_cases c25 : a3 ≤ 99999
          · rw [if_pos c25] at hv
            refine lv_icmp_le (tgt := 30) hx hb dR_told_25 (by decide) (fun _ => ?_) (fun z => absurd c25 z)
            refine lv_aload_n hx hb dR_told_30 rfl (lv_at hl 0 rfl) ?_
            refine va_get (D := D) (ci := 3) (v := .ref (h 3)) (C := RR) (T := TR) (N := 13) hx hb hts hinR hown hK hP 0 rfl rfl 3 (by decide) (hts _ uw240) (fun _ h9 => h9) rfl dR_told_31 ?_
            refine lv_iload_n hx hb dR_told_34 rfl (lv_at hl 1 rfl) ?_
            refine va_iald hx hb hK hP 3 0 rfl rfl (is_in hn c5) dR_told_35 ?_
            refine lv_istore (lv' := [(4, .int ((g_rsx S) (a1 : Int32).toNatClampNeg)), (0, .ref (h 0)), (1, .int a1), (2, .int a2), (3, .int a3)]) hx hb dR_told_36 hl (by decide) rfl (fun ls hl => ?_)
            refine lv_aload_n hx hb dR_told_38 rfl (lv_at hl 1 rfl) ?_
            refine va_get (D := D) (ci := 3) (v := .ref (h 4)) (C := RR) (T := TR) (N := 13) hx hb hts hinR hown hK hP 0 rfl rfl 4 (by decide) (hts _ uw233) (fun _ h9 => h9) rfl dR_told_39 ?_
            refine lv_iload_n hx hb dR_told_42 rfl (lv_at hl 2 rfl) ?_
            refine va_iald hx hb hK hP 4 0 rfl rfl (is_in hn c5) dR_told_43 ?_
            refine lv_istore (lv' := [(5, .int ((g_rdy S) (a1 : Int32).toNatClampNeg)), (4, .int ((g_rsx S) (a1 : Int32).toNatClampNeg)), (0, .ref (h 0)), (1, .int a1), (2, .int a2), (3, .int a3)]) hx hb dR_told_44 hl (by decide) rfl (fun ls hl => ?_)
            refine lv_aload_n hx hb dR_told_46 rfl (lv_at hl 2 rfl) ?_
            refine va_get (D := D) (ci := 3) (v := .ref (h 3)) (C := RR) (T := TR) (N := 13) hx hb hts hinR hown hK hP 0 rfl rfl 3 (by decide) (hts _ uw240) (fun _ h9 => h9) rfl dR_told_47 ?_
            refine lv_iload_n hx hb dR_told_50 rfl (lv_at hl 3 rfl) ?_
            refine lv_iload_n hx hb dR_told_51 rfl (lv_at hl 4 rfl) ?_
            refine va_iast hx hb hK hP hD hS 3 0 rfl rfl (is_in hn c5) dR_told_52 (fun H locs hP hD hS => ?_)
            have hP : va_P D vwCl (wR Y h n (r_rsx S (upd (g_rsx S) (a1 : Int32).toNatClampNeg a2))) H := hP
            have hD : va_D A (wR Y h n (r_rsx S (upd (g_rsx S) (a1 : Int32).toNatClampNeg a2))) := hD
            refine lv_aload_n hx hb dR_told_53 rfl (lv_at hl 2 rfl) ?_
            refine va_get (D := D) (ci := 3) (v := .ref (h 4)) (C := RR) (T := TR) (N := 13) hx hb hts hinR hown hK hP 0 rfl rfl 4 (by decide) (hts _ uw233) (fun _ h9 => h9) rfl dR_told_54 ?_
            refine lv_iload_n hx hb dR_told_57 rfl (lv_at hl 3 rfl) ?_
            refine lv_iload_n hx hb dR_told_58 rfl (lv_at hl 5 rfl) ?_
            refine va_iast hx hb hK hP hD hS 4 0 rfl rfl (is_in hn c5) dR_told_59 (fun H locs hP hD hS => ?_)
            have hP : va_P D vwCl (wR Y h n (r_rdy (r_rsx S (upd (g_rsx S) (a1 : Int32).toNatClampNeg a2)) (upd (g_rdy (r_rsx S (upd (g_rsx S) (a1 : Int32).toNatClampNeg a2))) (a1 : Int32).toNatClampNeg a3))) H := hP
            have hD : va_D A (wR Y h n (r_rdy (r_rsx S (upd (g_rsx S) (a1 : Int32).toNatClampNeg a2)) (upd (g_rdy (r_rsx S (upd (g_rsx S) (a1 : Int32).toNatClampNeg a2))) (a1 : Int32).toNatClampNeg a3))) := hD
            refine lv_iconst (v := 1) hx hb dR_told_60 (by decide) ?_
            refine lv_istore (lv' := [(6, .int 1), (5, .int ((g_rdy S) (a1 : Int32).toNatClampNeg)), (4, .int ((g_rsx S) (a1 : Int32).toNatClampNeg)), (0, .ref (h 0)), (1, .int a1), (2, .int a2), (3, .int a3)]) hx hb dR_told_61 hl (by decide) rfl (fun ls hl => ?_)
            refine lv_iconst (v := 0) hx hb dR_told_63 (by decide) ?_
            refine lv_istore (lv' := [(7, .int 0), (6, .int 1), (5, .int ((g_rdy S) (a1 : Int32).toNatClampNeg)), (4, .int ((g_rsx S) (a1 : Int32).toNatClampNeg)), (0, .ref (h 0)), (1, .int a1), (2, .int a2), (3, .int a3)]) hx hb dR_told_64 hl (by decide) rfl (fun ls hl => ?_)
            exact tR_told_66 hn hA ⟨hx, hb, hml, hown, hts⟩ hr hlocks hK n 0 a1 a2 a3 ((g_rsx S) (a1 : Int32).toNatClampNeg) ((g_rdy S) (a1 : Int32).toNatClampNeg) 1 (r_rdy (r_rsx S (upd (g_rsx S) (a1 : Int32).toNatClampNeg a2)) (upd (g_rdy (r_rsx S (upd (g_rsx S) (a1 : Int32).toNatClampNeg a2))) (a1 : Int32).toNatClampNeg a3)) _ (by omega) hv _ _ hP hD hS ls (lv_sub hl [4, 5, 6, 7, 3, 2, 1, 0] rfl)
          · rw [if_neg c25] at hv
            refine lv_icmp_le (tgt := 30) hx hb dR_told_25 (by decide) (fun z => absurd z c25) (fun _ => ?_)
            refine lv_iconst (v := 0) hx hb dR_told_28 (by decide) ?_
            cases hv
            exact zMb_ret (u := S) hx hb hr hlocks hK hP hD hS (Or.inl rfl) dR_told_29
abbrev rmR_lives : Room := { frames := 1, cells := 0, slots := 0, locals := 21 }
set_option maxHeartbeats 4000000 in
set_option maxRecDepth 100000 in
theorem kR_lives (l : Launch) (D : va_G) (Y : Nat → ClassId) (h : Nat → Nat) (n : Nat) (hn : n ≤ 24) (S : vR) (a1 : Int32) (a2 : Int32) (sz : Nat) : Met l yR_lives wsR_lives rmR_lives (va_Pc [.ref (h 0), .int a1, .int a2] (zPreM D vwCl (tysK Y) (wR Y h n S) sz)) (va_Qi (fun r u => (r, u) = (fR_lives n S a1 a2)) (zAt D vwCl (tysK Y) (va_A (wR Y h n S) sz) (wR Y h n)) (va_A (wR Y h n S) sz)) 0 0 (va_A (wR Y h n S) sz) := by
  refine Met.ofW (cc := cR_lives) (maxL := 3) (ret := (some .boolean)) (by decide) rfl ?_
  intro p e s m args below meth c s₁ B hml hv
  obtain ⟨rfl, hsz, hP, hK, hD0⟩ := hv
  have hx := B.exec
  have hb := B.bytes
  have hr := B.returns
  have hts : ∀ w ∈ uT, w.before _ s = true := fun w hw => atoms_spec (ws := wsR_lives) B.pre w (List.mem_cons_of_mem _ hw)
  have hown : s.vm.findClass RR = some m.cls := findClass_of_methodNamed B.named
  have hlocks := B.notSynchronized
  subst hsz
  have hD := hD0.self (sz := s.heap.size)
  generalize hAe : va_A (wR Y h n S) s.heap.size = A at hD ⊢
  have hA : ∀ q : Nat, s.heap.size ≤ q → A q := fun q h => by rw [← hAe]; exact Or.inr h
  have hS : va_S A s.heap s.heap [] := va_S.rf
  have hl := lv_entry ([.ref (h 0), .int a1, .int a2]) (n := 3) (Nat.le_of_ble_eq_true rfl)
  rw [lg_entry_eq]
  generalize (lg_sl ([.ref (h 0), .int a1, .int a2]) ++ List.replicate (3 - (lg_sl ([.ref (h 0), .int a1, .int a2])).length) Slot.unset).toArray = ls at hl ⊢
  have hl : lv_has ls 3 [(0, .ref (h 0)), (1, .int a1), (2, .int a2)] := hl
  show W p l e rmR_lives s m _ below meth c s.heap [] 0 0 (zMi D vwCl (tysK Y) A (wR Y h n) below _ s 0 0 (fR_lives n S a1 a2)) _
  unfold fR_lives
  show W p l e rmR_lives s m _ below meth c s.heap [] 0 0 (zMi D vwCl (tysK Y) A (wR Y h n) below _ s 0 0 _) (F0 m 0 ls [])
  refine lv_aload_n hx hb dR_lives_0 rfl (lv_at hl 0 rfl) ?_
  refine lv_iload_n hx hb dR_lives_1 rfl (lv_at hl 1 rfl) ?_
  refine qVi (rest := []) ⟨hx, hb, hml, hown, hts⟩ (kR_is l D Y h n hn S a1) (cwV 1 hts (gV uw210 uw211 uw212 uw213 ucR_is) rfl rfl rfl hvR_is ⟨Nat.le_of_ble_eq_true rfl, Nat.le_of_ble_eq_true rfl⟩) hK hP (va_recv hK hP (ci := 3) (q0 := 0) rfl rfl) rfl hl.1 rfl (Nat.le_of_ble_eq_true rfl) dR_lives_2 ⟨Nat.le_of_ble_eq_true rfl, Nat.le_of_ble_eq_true rfl⟩ ?_
  refine zif (C := (fR_is n a1) = 0) (fun c5 => ?_) (fun c5 => ?_)
  · skip
    refine lv_if_ne (tgt := 10) hx hb dR_lives_5 (by decide) (fun z => absurd c5 z) (fun _ => ?_)
    refine lv_iconst (v := 0) hx hb dR_lives_8 (by decide) ?_
    exact zMb_ret (u := S) hx hb hr hlocks hK hP hD hS (Or.inl rfl) dR_lives_9
  · skip
    refine lv_if_ne (tgt := 10) hx hb dR_lives_5 (by decide) (fun _ => ?_) (fun z => absurd z c5)
    refine lv_aload_n hx hb dR_lives_10 rfl (lv_at hl 0 rfl) ?_
    refine va_get (D := D) (ci := 3) (v := .ref (h 5)) (C := RR) (T := TR) (N := 13) hx hb hts hinR hown hK hP 0 rfl rfl 5 (by decide) (hts _ uw245) (fun _ h9 => h9) rfl dR_lives_11 ?_
    refine lv_iload_n hx hb dR_lives_14 rfl (lv_at hl 1 rfl) ?_
    refine lv_iload_n hx hb dR_lives_15 rfl (lv_at hl 2 rfl) ?_
    refine zif (C := a2 = 0) (fun c16 => ?_) (fun c16 => ?_)
    · skip
      refine lv_if_ne (tgt := 23) hx hb dR_lives_16 (by decide) (fun z => absurd c16 z) (fun _ => ?_)
      refine lv_iconst (v := 1) hx hb dR_lives_19 (by decide) ?_
      refine lv_goto (tgt := 24) hx hb dR_lives_20 (by decide) ?_
      refine va_zast hx hb hK hP hD hS 5 2 rfl rfl (is_in hn c5) dR_lives_24 (fun H locs hP hD hS => ?_)
      have hP : va_P D vwCl (wR Y h n (r_rgo S (upd (g_rgo S) (a1 : Int32).toNatClampNeg (vp_nar .boolean 1)))) H := hP
      have hD : va_D A (wR Y h n (r_rgo S (upd (g_rgo S) (a1 : Int32).toNatClampNeg (vp_nar .boolean 1)))) := hD
      refine lv_iconst (v := 1) hx hb dR_lives_25 (by decide) ?_
      exact zMb_ret (u := (r_rgo S (upd (g_rgo S) (a1 : Int32).toNatClampNeg (vp_nar .boolean 1)))) hx hb hr hlocks hK hP hD hS (Or.inr rfl) dR_lives_26
    · skip
      refine lv_if_ne (tgt := 23) hx hb dR_lives_16 (by decide) (fun _ => ?_) (fun z => absurd z c16)
      refine lv_iconst (v := 0) hx hb dR_lives_23 (by decide) ?_
      refine va_zast hx hb hK hP hD hS 5 2 rfl rfl (is_in hn c5) dR_lives_24 (fun H locs hP hD hS => ?_)
      have hP : va_P D vwCl (wR Y h n (r_rgo S (upd (g_rgo S) (a1 : Int32).toNatClampNeg (vp_nar .boolean 0)))) H := hP
      have hD : va_D A (wR Y h n (r_rgo S (upd (g_rgo S) (a1 : Int32).toNatClampNeg (vp_nar .boolean 0)))) := hD
      refine lv_iconst (v := 1) hx hb dR_lives_25 (by decide) ?_
      exact zMb_ret (u := (r_rgo S (upd (g_rgo S) (a1 : Int32).toNatClampNeg (vp_nar .boolean 0)))) hx hb hr hlocks hK hP hD hS (Or.inr rfl) dR_lives_26
abbrev rmR_kin : Room := { frames := 2, cells := 0, slots := 0, locals := 52 }
set_option maxHeartbeats 4000000 in
set_option maxRecDepth 100000 in
theorem kR_kin (l : Launch) (D : va_G) (Y : Nat → ClassId) (h : Nat → Nat) (n : Nat) (hn : n ≤ 24) (S : vR) (a1 : Int32) (a2 : Int32) (a3 : Int32) (v : Int64 × vR) (hv : (fR_kin n S a1 a2 a3) = some v) (sz : Nat) : Met l yR_kin wsR_kin rmR_kin (va_Pc [.ref (h 0), .int a1, .int a2, .int a3] (zPreM D vwCl (tysK Y) (wR Y h n S) sz)) (va_Ql (fun r u => (r, u) = v) (zAt D vwCl (tysK Y) (va_A (wR Y h n S) sz) (wR Y h n)) (va_A (wR Y h n S) sz)) 0 0 (va_A (wR Y h n S) sz) := by
  refine Met.ofW (cc := cR_kin) (maxL := 4) (ret := (some .long)) (by decide) rfl ?_
  intro p e s m args below meth c s₁ B hml hvv
  obtain ⟨rfl, hsz, hP, hK, hD0⟩ := hvv
  have hx := B.exec
  have hb := B.bytes
  have hr := B.returns
  have hts : ∀ w ∈ uT, w.before _ s = true := fun w hw => atoms_spec (ws := wsR_kin) B.pre w (List.mem_cons_of_mem _ hw)
  have hown : s.vm.findClass RR = some m.cls := findClass_of_methodNamed B.named
  have hlocks := B.notSynchronized
  subst hsz
  have hD := hD0.self (sz := s.heap.size)
  generalize hAe : va_A (wR Y h n S) s.heap.size = A at hD ⊢
  have hA : ∀ q : Nat, s.heap.size ≤ q → A q := fun q h => by rw [← hAe]; exact Or.inr h
  have hS : va_S A s.heap s.heap [] := va_S.rf
  have hl := lv_entry ([.ref (h 0), .int a1, .int a2, .int a3]) (n := 4) (Nat.le_of_ble_eq_true rfl)
  rw [lg_entry_eq]
  generalize (lg_sl ([.ref (h 0), .int a1, .int a2, .int a3]) ++ List.replicate (4 - (lg_sl ([.ref (h 0), .int a1, .int a2, .int a3])).length) Slot.unset).toArray = ls at hl ⊢
  have hl : lv_has ls 4 [(0, .ref (h 0)), (1, .int a1), (2, .int a2), (3, .int a3)] := hl
  unfold fR_kin at hv
  show W p l e rmR_kin s m _ below meth c s.heap [] 0 0 (zMl D vwCl (tysK Y) A (wR Y h n) below _ s 0 0 v) (F0 m 0 ls [])
  refine lv_aload_n hx hb dR_kin_0 rfl (lv_at hl 0 rfl) ?_
  refine lv_iload_n hx hb dR_kin_1 rfl (lv_at hl 1 rfl) ?_
  refine qVi (rest := []) ⟨hx, hb, hml, hown, hts⟩ (kR_is l D Y h n hn S a1) (cwV 1 hts (gV uw210 uw211 uw212 uw213 ucR_is) rfl rfl rfl hvR_is ⟨Nat.le_of_ble_eq_true rfl, Nat.le_of_ble_eq_true rfl⟩) hK hP (va_recv hK hP (ci := 3) (q0 := 0) rfl rfl) rfl hl.1 rfl (Nat.le_of_ble_eq_true rfl) dR_kin_2 ⟨Nat.le_of_ble_eq_true rfl, Nat.le_of_ble_eq_true rfl⟩ ?_
  by_cases c5 : (fR_is n a1) = 0
  · rw [if_pos c5] at hv
    refine lv_if_eq (tgt := 23) hx hb dR_kin_5 (by decide) (fun _ => ?_) (fun z => absurd c5 z)
    refine lv_ldc2 (v := (-1)) hx hb hown (hts _ uw246) dR_kin_23 ?_
    cases hv
    exact zMl_ret (u := S) hx hb hr hlocks hK hP hD hS dR_kin_26
  · rw [if_neg c5] at hv
    refine lv_if_eq (tgt := 23) hx hb dR_kin_5 (by decide) (fun z => absurd z c5) (fun _ => ?_)
    refine lv_aload_n hx hb dR_kin_8 rfl (lv_at hl 0 rfl) ?_
    refine lv_iload_n hx hb dR_kin_9 rfl (lv_at hl 2 rfl) ?_
    refine qVi (rest := []) ⟨hx, hb, hml, hown, hts⟩ (kR_is l D Y h n hn S a2) (cwV 1 hts (gV uw210 uw211 uw212 uw213 ucR_is) rfl rfl rfl hvR_is ⟨Nat.le_of_ble_eq_true rfl, Nat.le_of_ble_eq_true rfl⟩) hK hP (va_recv hK hP (ci := 3) (q0 := 0) rfl rfl) rfl hl.1 rfl (Nat.le_of_ble_eq_true rfl) dR_kin_10 ⟨Nat.le_of_ble_eq_true rfl, Nat.le_of_ble_eq_true rfl⟩ ?_
    by_cases c13 : (fR_is n a2) = 0
    · rw [if_pos c13] at hv
      refine lv_if_eq (tgt := 23) hx hb dR_kin_13 (by decide) (fun _ => ?_) (fun z => absurd c13 z)
      refine lv_ldc2 (v := (-1)) hx hb hown (hts _ uw246) dR_kin_23 ?_
      cases hv
      exact zMl_ret (u := S) hx hb hr hlocks hK hP hD hS dR_kin_26
    · rw [if_neg c13] at hv
      refine lv_if_eq (tgt := 23) hx hb dR_kin_13 (by decide) (fun z => absurd z c13) (fun _ => ?_)
      refine lv_iload_n hx hb dR_kin_16 rfl (lv_at hl 3 rfl) ?_
      refine qSi (rest := []) ⟨hx, hb, hml, hown, hts⟩ (kR_isPart l D Y a3) (va_cwS 1 hts (gS uw247 uw248 uw213 ucR_isPart) rfl rfl rfl hsR_isPart ⟨Nat.le_of_ble_eq_true rfl, Nat.le_of_ble_eq_true rfl⟩) hK (zsub [] hP rfl) rfl hl.1 rfl (Nat.le_of_ble_eq_true rfl) dR_kin_17 ⟨Nat.le_of_ble_eq_true rfl, Nat.le_of_ble_eq_true rfl⟩ ?_
      by_cases c20 : (fR_isPart a3) = 0
      · rw [if_pos c20] at hv
        refine lv_if_ne (tgt := 27) hx hb dR_kin_20 (by decide) (fun z => absurd c20 z) (fun _ => ?_)
        refine lv_ldc2 (v := (-1)) hx hb hown (hts _ uw246) dR_kin_23 ?_
        cases hv
        exact zMl_ret (u := S) hx hb hr hlocks hK hP hD hS dR_kin_26
      · rw [if_neg c20] at hv
        refine lv_if_ne (tgt := 27) hx hb dR_kin_20 (by decide) (fun _ => ?_) (fun z => absurd z c20)
        refine lv_aload_n hx hb dR_kin_27 rfl (lv_at hl 0 rfl) ?_
        obtain ⟨r28, e28, hv⟩ := bsome hv
        refine qNVv (w := wR Y h n) (rest := []) ⟨hx, hb, hml, hown, hts⟩ (kR_findKin l D Y h n hn S r28 e28 _) (cwV 0 hts (gV uw249 uw250 uw251 uw213 ucR_findKin) rfl rfl rfl hvR_findKin ⟨Nat.le_of_ble_eq_true rfl, Nat.le_of_ble_eq_true rfl⟩) hK hP hD hS hA (va_recv hK hP (ci := 3) (q0 := 0) rfl rfl) rfl hl.1 rfl (Nat.le_of_ble_eq_true rfl) dR_kin_28 ⟨Nat.le_of_ble_eq_true rfl, Nat.le_of_ble_eq_true rfl⟩ (fun H locs hP hD hS => ?_)
        refine lv_aload_n hx hb dR_kin_31 rfl (lv_at hl 0 rfl) ?_
        refine lv_iload_n hx hb dR_kin_32 rfl (lv_at hl 1 rfl) ?_
        refine lv_iload_n hx hb dR_kin_33 rfl (lv_at hl 2 rfl) ?_
        obtain ⟨r34, e34, hv⟩ := bsome hv
        refine qVl (rest := []) ⟨hx, hb, hml, hown, hts⟩ (kR_kinOf l D Y h n hn r28 a1 a2 r34 e34) (cwV 2 hts (gV uw223 uw224 uw225 uw213 ucR_kinOf) rfl rfl rfl hvR_kinOf ⟨Nat.le_of_ble_eq_true rfl, Nat.le_of_ble_eq_true rfl⟩) hK hP (va_recv hK hP (ci := 3) (q0 := 0) rfl rfl) rfl hl.1 rfl (Nat.le_of_ble_eq_true rfl) dR_kin_34 ⟨Nat.le_of_ble_eq_true rfl, Nat.le_of_ble_eq_true rfl⟩ ?_
        refine lv_ldc2 (v := 1125899906842624) hx hb hown (hts _ uw227) dR_kin_37 ?_
        refine lv_iload_n hx hb dR_kin_40 rfl (lv_at hl 3 rfl) ?_
        obtain ⟨r41, e41, hv⟩ := bsome hv
        refine qSl (rest := []) ⟨hx, hb, hml, hown, hts⟩ (kR_lowest l D Y r34 1125899906842624 a3 r41 e41) (va_cwS 3 hts (gS uw252 uw253 uw213 ucR_lowest) rfl rfl rfl hsR_lowest ⟨Nat.le_of_ble_eq_true rfl, Nat.le_of_ble_eq_true rfl⟩) hK (zsub [] hP rfl) rfl hl.1 rfl (Nat.le_of_ble_eq_true rfl) dR_kin_41 ⟨Nat.le_of_ble_eq_true rfl, Nat.le_of_ble_eq_true rfl⟩ ?_
        cases hv
        exact zMl_ret (u := r28) hx hb hr hlocks hK hP hD hS dR_kin_44
abbrev rmR_inbredOf : Room := { frames := 1, cells := 0, slots := 0, locals := 22 }
set_option maxHeartbeats 4000000 in
set_option maxRecDepth 100000 in
theorem kR_inbredOf (l : Launch) (D : va_G) (Y : Nat → ClassId) (h : Nat → Nat) (n : Nat) (hn : n ≤ 24) (S : vR) (a1 : Int32) (v : Int64) (hv : (fR_inbredOf n S a1) = some v) : Met l yR_inbredOf wsR_inbredOf rmR_inbredOf (va_Pc [.ref (h 0), .int a1] (zPre D vwCl (tysK Y) (wR Y h n S))) (vp_Sl (fun r => r = v)) 0 0 (fun _ => False) := by
  refine Met.ofW (cc := cR_inbredOf) (maxL := 2) (ret := (some .long)) (by decide) rfl ?_
  intro p e s m args below meth c s₁ B hml hvv
  obtain ⟨rfl, hP, hK⟩ := hvv
  have hx := B.exec
  have hb := B.bytes
  have hr := B.returns
  have hts : ∀ w ∈ uT, w.before _ s = true := fun w hw => atoms_spec (ws := wsR_inbredOf) B.pre w (List.mem_cons_of_mem _ hw)
  have hown : s.vm.findClass RR = some m.cls := findClass_of_methodNamed B.named
  have hlocks := B.notSynchronized
  have hl := lv_entry ([.ref (h 0), .int a1]) (n := 2) (Nat.le_of_ble_eq_true rfl)
  rw [lg_entry_eq]
  generalize (lg_sl ([.ref (h 0), .int a1]) ++ List.replicate (2 - (lg_sl ([.ref (h 0), .int a1])).length) Slot.unset).toArray = ls at hl ⊢
  have hl : lv_has ls 2 [(0, .ref (h 0)), (1, .int a1)] := hl
  unfold fR_inbredOf at hv
  show W p l e rmR_inbredOf s m _ below meth c s.heap [] 0 0 (zL below _ s v) (F0 m 0 ls [])
  refine lv_iload_n hx hb dR_inbredOf_0 rfl (lv_at hl 1 rfl) ?_
  by_cases c1 : 0 ≤ a1
  · rw [if_pos c1] at hv
    refine lv_if_ge (tgt := 8) hx hb dR_inbredOf_1 (by decide) (fun _ => ?_) (fun z => absurd c1 z)
    refine lv_aload_n hx hb dR_inbredOf_8 rfl (lv_at hl 0 rfl) ?_
    refine lv_aload_n hx hb dR_inbredOf_9 rfl (lv_at hl 0 rfl) ?_
    refine va_get (D := D) (ci := 3) (v := .ref (h 1)) (C := RR) (T := TR) (N := 13) hx hb hts hinR hown hK hP 0 rfl rfl 1 (by decide) (hts _ uw217) (fun _ h9 => h9) rfl dR_inbredOf_10 ?_
    refine lv_iload_n hx hb dR_inbredOf_13 rfl (lv_at hl 1 rfl) ?_
    have k14 : ¬ (ob (a1 : Int32) 24) := fun z => by rw [if_pos z] at hv; cases hv
    rw [if_neg k14] at hv
    refine va_iald hx hb hK hP 1 0 rfl rfl (k14) dR_inbredOf_14 ?_
    refine lv_aload_n hx hb dR_inbredOf_15 rfl (lv_at hl 0 rfl) ?_
    refine va_get (D := D) (ci := 3) (v := .ref (h 2)) (C := RR) (T := TR) (N := 13) hx hb hts hinR hown hK hP 0 rfl rfl 2 (by decide) (hts _ uw218) (fun _ h9 => h9) rfl dR_inbredOf_16 ?_
    refine lv_iload_n hx hb dR_inbredOf_19 rfl (lv_at hl 1 rfl) ?_
    have k20 : ¬ (ob (a1 : Int32) 24) := fun z => by rw [if_pos z] at hv; cases hv
    rw [if_neg k20] at hv
    refine va_iald hx hb hK hP 2 0 rfl rfl (k20) dR_inbredOf_20 ?_
    obtain ⟨r21, e21, hv⟩ := bsome hv
    refine qVl (rest := []) ⟨hx, hb, hml, hown, hts⟩ (kR_kinOf l D Y h n hn S ((g_rmo S) (a1 : Int32).toNatClampNeg) ((g_rfa S) (a1 : Int32).toNatClampNeg) r21 e21) (cwV 2 hts (gV uw223 uw224 uw225 uw213 ucR_kinOf) rfl rfl rfl hvR_kinOf ⟨Nat.le_of_ble_eq_true rfl, Nat.le_of_ble_eq_true rfl⟩) hK hP (va_recv hK hP (ci := 3) (q0 := 0) rfl rfl) rfl hl.1 rfl (Nat.le_of_ble_eq_true rfl) dR_inbredOf_21 ⟨Nat.le_of_ble_eq_true rfl, Nat.le_of_ble_eq_true rfl⟩ ?_
    cases hv
    exact zL_ret hx hb hr hlocks dR_inbredOf_24
  · rw [if_neg c1] at hv
    refine lv_if_ge (tgt := 8) hx hb dR_inbredOf_1 (by decide) (fun z => absurd z c1) (fun _ => ?_)
    refine lv_lconst (v := 0) hx hb dR_inbredOf_4 (by decide) ?_
    refine lv_goto (tgt := 24) hx hb dR_inbredOf_5 (by decide) ?_
    cases hv
    exact zL_ret hx hb hr hlocks dR_inbredOf_24
abbrev rmR_inbred : Room := { frames := 2, cells := 0, slots := 0, locals := 52 }
set_option maxHeartbeats 4000000 in
set_option maxRecDepth 100000 in
theorem kR_inbred (l : Launch) (D : va_G) (Y : Nat → ClassId) (h : Nat → Nat) (n : Nat) (hn : n ≤ 24) (S : vR) (a1 : Int32) (a2 : Int32) (v : Int64 × vR) (hv : (fR_inbred n S a1 a2) = some v) (sz : Nat) : Met l yR_inbred wsR_inbred rmR_inbred (va_Pc [.ref (h 0), .int a1, .int a2] (zPreM D vwCl (tysK Y) (wR Y h n S) sz)) (va_Ql (fun r u => (r, u) = v) (zAt D vwCl (tysK Y) (va_A (wR Y h n S) sz) (wR Y h n)) (va_A (wR Y h n S) sz)) 0 0 (va_A (wR Y h n S) sz) := by
  refine Met.ofW (cc := cR_inbred) (maxL := 3) (ret := (some .long)) (by decide) rfl ?_
  intro p e s m args below meth c s₁ B hml hvv
  obtain ⟨rfl, hsz, hP, hK, hD0⟩ := hvv
  have hx := B.exec
  have hb := B.bytes
  have hr := B.returns
  have hts : ∀ w ∈ uT, w.before _ s = true := fun w hw => atoms_spec (ws := wsR_inbred) B.pre w (List.mem_cons_of_mem _ hw)
  have hown : s.vm.findClass RR = some m.cls := findClass_of_methodNamed B.named
  have hlocks := B.notSynchronized
  subst hsz
  have hD := hD0.self (sz := s.heap.size)
  generalize hAe : va_A (wR Y h n S) s.heap.size = A at hD ⊢
  have hA : ∀ q : Nat, s.heap.size ≤ q → A q := fun q h => by rw [← hAe]; exact Or.inr h
  have hS : va_S A s.heap s.heap [] := va_S.rf
  have hl := lv_entry ([.ref (h 0), .int a1, .int a2]) (n := 3) (Nat.le_of_ble_eq_true rfl)
  rw [lg_entry_eq]
  generalize (lg_sl ([.ref (h 0), .int a1, .int a2]) ++ List.replicate (3 - (lg_sl ([.ref (h 0), .int a1, .int a2])).length) Slot.unset).toArray = ls at hl ⊢
  have hl : lv_has ls 3 [(0, .ref (h 0)), (1, .int a1), (2, .int a2)] := hl
  unfold fR_inbred at hv
  show W p l e rmR_inbred s m _ below meth c s.heap [] 0 0 (zMl D vwCl (tysK Y) A (wR Y h n) below _ s 0 0 v) (F0 m 0 ls [])
  refine lv_aload_n hx hb dR_inbred_0 rfl (lv_at hl 0 rfl) ?_
  refine lv_iload_n hx hb dR_inbred_1 rfl (lv_at hl 1 rfl) ?_
  refine qVi (rest := []) ⟨hx, hb, hml, hown, hts⟩ (kR_is l D Y h n hn S a1) (cwV 1 hts (gV uw210 uw211 uw212 uw213 ucR_is) rfl rfl rfl hvR_is ⟨Nat.le_of_ble_eq_true rfl, Nat.le_of_ble_eq_true rfl⟩) hK hP (va_recv hK hP (ci := 3) (q0 := 0) rfl rfl) rfl hl.1 rfl (Nat.le_of_ble_eq_true rfl) dR_inbred_2 ⟨Nat.le_of_ble_eq_true rfl, Nat.le_of_ble_eq_true rfl⟩ ?_
  by_cases c5 : (fR_is n a1) = 0
  · rw [if_pos c5] at hv
    refine lv_if_eq (tgt := 15) hx hb dR_inbred_5 (by decide) (fun _ => ?_) (fun z => absurd c5 z)
    refine lv_ldc2 (v := (-1)) hx hb hown (hts _ uw246) dR_inbred_15 ?_
    cases hv
    exact zMl_ret (u := S) hx hb hr hlocks hK hP hD hS dR_inbred_18
  · rw [if_neg c5] at hv
    refine lv_if_eq (tgt := 15) hx hb dR_inbred_5 (by decide) (fun z => absurd z c5) (fun _ => ?_)
    refine lv_iload_n hx hb dR_inbred_8 rfl (lv_at hl 2 rfl) ?_
    refine qSi (rest := []) ⟨hx, hb, hml, hown, hts⟩ (kR_isPart l D Y a2) (va_cwS 1 hts (gS uw247 uw248 uw213 ucR_isPart) rfl rfl rfl hsR_isPart ⟨Nat.le_of_ble_eq_true rfl, Nat.le_of_ble_eq_true rfl⟩) hK (zsub [] hP rfl) rfl hl.1 rfl (Nat.le_of_ble_eq_true rfl) dR_inbred_9 ⟨Nat.le_of_ble_eq_true rfl, Nat.le_of_ble_eq_true rfl⟩ ?_
    by_cases c12 : (fR_isPart a2) = 0
    · rw [if_pos c12] at hv
      refine lv_if_ne (tgt := 19) hx hb dR_inbred_12 (by decide) (fun z => absurd c12 z) (fun _ => ?_)
      refine lv_ldc2 (v := (-1)) hx hb hown (hts _ uw246) dR_inbred_15 ?_
      cases hv
      exact zMl_ret (u := S) hx hb hr hlocks hK hP hD hS dR_inbred_18
    · rw [if_neg c12] at hv
      refine lv_if_ne (tgt := 19) hx hb dR_inbred_12 (by decide) (fun _ => ?_) (fun z => absurd z c12)
      refine lv_aload_n hx hb dR_inbred_19 rfl (lv_at hl 0 rfl) ?_
      obtain ⟨r20, e20, hv⟩ := bsome hv
      refine qNVv (w := wR Y h n) (rest := []) ⟨hx, hb, hml, hown, hts⟩ (kR_findKin l D Y h n hn S r20 e20 _) (cwV 0 hts (gV uw249 uw250 uw251 uw213 ucR_findKin) rfl rfl rfl hvR_findKin ⟨Nat.le_of_ble_eq_true rfl, Nat.le_of_ble_eq_true rfl⟩) hK hP hD hS hA (va_recv hK hP (ci := 3) (q0 := 0) rfl rfl) rfl hl.1 rfl (Nat.le_of_ble_eq_true rfl) dR_inbred_20 ⟨Nat.le_of_ble_eq_true rfl, Nat.le_of_ble_eq_true rfl⟩ (fun H locs hP hD hS => ?_)
      refine lv_aload_n hx hb dR_inbred_23 rfl (lv_at hl 0 rfl) ?_
      refine lv_iload_n hx hb dR_inbred_24 rfl (lv_at hl 1 rfl) ?_
      obtain ⟨r25, e25, hv⟩ := bsome hv
      refine qVl (rest := []) ⟨hx, hb, hml, hown, hts⟩ (kR_inbredOf l D Y h n hn r20 a1 r25 e25) (cwV 1 hts (gV uw254 uw255 uw256 uw213 ucR_inbredOf) rfl rfl rfl hvR_inbredOf ⟨Nat.le_of_ble_eq_true rfl, Nat.le_of_ble_eq_true rfl⟩) hK hP (va_recv hK hP (ci := 3) (q0 := 0) rfl rfl) rfl hl.1 rfl (Nat.le_of_ble_eq_true rfl) dR_inbred_25 ⟨Nat.le_of_ble_eq_true rfl, Nat.le_of_ble_eq_true rfl⟩ ?_
      refine lv_ldc2 (v := 1125899906842624) hx hb hown (hts _ uw227) dR_inbred_28 ?_
      refine lv_iload_n hx hb dR_inbred_31 rfl (lv_at hl 2 rfl) ?_
      obtain ⟨r32, e32, hv⟩ := bsome hv
      refine qSl (rest := []) ⟨hx, hb, hml, hown, hts⟩ (kR_lowest l D Y r25 1125899906842624 a2 r32 e32) (va_cwS 3 hts (gS uw252 uw253 uw213 ucR_lowest) rfl rfl rfl hsR_lowest ⟨Nat.le_of_ble_eq_true rfl, Nat.le_of_ble_eq_true rfl⟩) hK (zsub [] hP rfl) rfl hl.1 rfl (Nat.le_of_ble_eq_true rfl) dR_inbred_32 ⟨Nat.le_of_ble_eq_true rfl, Nat.le_of_ble_eq_true rfl⟩ ?_
      cases hv
      exact zMl_ret (u := r20) hx hb hr hlocks hK hP hD hS dR_inbred_35
abbrev rmR_chance : Room := { frames := 2, cells := 0, slots := 0, locals := 52 }
set_option maxHeartbeats 4000000 in
set_option maxRecDepth 100000 in
theorem kR_chance (l : Launch) (D : va_G) (Y : Nat → ClassId) (h : Nat → Nat) (n : Nat) (hn : n ≤ 24) (S : vR) (a1 : Int32) (a2 : Int32) (v : Int64 × vR) (hv : (fR_chance n S a1 a2) = some v) (sz : Nat) : Met l yR_chance wsR_chance rmR_chance (va_Pc [.ref (h 0), .int a1, .int a2] (zPreM D vwCl (tysK Y) (wR Y h n S) sz)) (va_Ql (fun r u => (r, u) = v) (zAt D vwCl (tysK Y) (va_A (wR Y h n S) sz) (wR Y h n)) (va_A (wR Y h n S) sz)) 0 0 (va_A (wR Y h n S) sz) := by
  refine Met.ofW (cc := cR_chance) (maxL := 6) (ret := (some .long)) (by decide) rfl ?_
  intro p e s m args below meth c s₁ B hml hvv
  obtain ⟨rfl, hsz, hP, hK, hD0⟩ := hvv
  have hx := B.exec
  have hb := B.bytes
  have hr := B.returns
  have hts : ∀ w ∈ uT, w.before _ s = true := fun w hw => atoms_spec (ws := wsR_chance) B.pre w (List.mem_cons_of_mem _ hw)
  have hown : s.vm.findClass RR = some m.cls := findClass_of_methodNamed B.named
  have hlocks := B.notSynchronized
  subst hsz
  have hD := hD0.self (sz := s.heap.size)
  generalize hAe : va_A (wR Y h n S) s.heap.size = A at hD ⊢
  have hA : ∀ q : Nat, s.heap.size ≤ q → A q := fun q h => by rw [← hAe]; exact Or.inr h
  have hS : va_S A s.heap s.heap [] := va_S.rf
  have hl := lv_entry ([.ref (h 0), .int a1, .int a2]) (n := 6) (Nat.le_of_ble_eq_true rfl)
  rw [lg_entry_eq]
  generalize (lg_sl ([.ref (h 0), .int a1, .int a2]) ++ List.replicate (6 - (lg_sl ([.ref (h 0), .int a1, .int a2])).length) Slot.unset).toArray = ls at hl ⊢
  have hl : lv_has ls 6 [(0, .ref (h 0)), (1, .int a1), (2, .int a2)] := hl
  unfold fR_chance at hv
  show W p l e rmR_chance s m _ below meth c s.heap [] 0 0 (zMl D vwCl (tysK Y) A (wR Y h n) below _ s 0 0 v) (F0 m 0 ls [])
  refine lv_aload_n hx hb dR_chance_0 rfl (lv_at hl 0 rfl) ?_
  refine lv_iload_n hx hb dR_chance_1 rfl (lv_at hl 1 rfl) ?_
  refine qVi (rest := []) ⟨hx, hb, hml, hown, hts⟩ (kR_is l D Y h n hn S a1) (cwV 1 hts (gV uw210 uw211 uw212 uw213 ucR_is) rfl rfl rfl hvR_is ⟨Nat.le_of_ble_eq_true rfl, Nat.le_of_ble_eq_true rfl⟩) hK hP (va_recv hK hP (ci := 3) (q0 := 0) rfl rfl) rfl hl.1 rfl (Nat.le_of_ble_eq_true rfl) dR_chance_2 ⟨Nat.le_of_ble_eq_true rfl, Nat.le_of_ble_eq_true rfl⟩ ?_
  by_cases c5 : (fR_is n a1) = 0
  · rw [if_pos c5] at hv
    refine lv_if_eq (tgt := 15) hx hb dR_chance_5 (by decide) (fun _ => ?_) (fun z => absurd c5 z)
    refine lv_ldc2 (v := (-1)) hx hb hown (hts _ uw246) dR_chance_15 ?_
    cases hv
    exact zMl_ret (u := S) hx hb hr hlocks hK hP hD hS dR_chance_18
  · rw [if_neg c5] at hv
    refine lv_if_eq (tgt := 15) hx hb dR_chance_5 (by decide) (fun z => absurd z c5) (fun _ => ?_)
    refine lv_iload_n hx hb dR_chance_8 rfl (lv_at hl 2 rfl) ?_
    refine qSi (rest := []) ⟨hx, hb, hml, hown, hts⟩ (kR_isPart l D Y a2) (va_cwS 1 hts (gS uw247 uw248 uw213 ucR_isPart) rfl rfl rfl hsR_isPart ⟨Nat.le_of_ble_eq_true rfl, Nat.le_of_ble_eq_true rfl⟩) hK (zsub [] hP rfl) rfl hl.1 rfl (Nat.le_of_ble_eq_true rfl) dR_chance_9 ⟨Nat.le_of_ble_eq_true rfl, Nat.le_of_ble_eq_true rfl⟩ ?_
    by_cases c12 : (fR_isPart a2) = 0
    · rw [if_pos c12] at hv
      refine lv_if_ne (tgt := 19) hx hb dR_chance_12 (by decide) (fun z => absurd c12 z) (fun _ => ?_)
      refine lv_ldc2 (v := (-1)) hx hb hown (hts _ uw246) dR_chance_15 ?_
      cases hv
      exact zMl_ret (u := S) hx hb hr hlocks hK hP hD hS dR_chance_18
    · rw [if_neg c12] at hv
      refine lv_if_ne (tgt := 19) hx hb dR_chance_12 (by decide) (fun _ => ?_) (fun z => absurd z c12)
      refine lv_aload_n hx hb dR_chance_19 rfl (lv_at hl 0 rfl) ?_
      obtain ⟨r20, e20, hv⟩ := bsome hv
      refine qNVv (w := wR Y h n) (rest := []) ⟨hx, hb, hml, hown, hts⟩ (kR_findKin l D Y h n hn S r20 e20 _) (cwV 0 hts (gV uw249 uw250 uw251 uw213 ucR_findKin) rfl rfl rfl hvR_findKin ⟨Nat.le_of_ble_eq_true rfl, Nat.le_of_ble_eq_true rfl⟩) hK hP hD hS hA (va_recv hK hP (ci := 3) (q0 := 0) rfl rfl) rfl hl.1 rfl (Nat.le_of_ble_eq_true rfl) dR_chance_20 ⟨Nat.le_of_ble_eq_true rfl, Nat.le_of_ble_eq_true rfl⟩ (fun H locs hP hD hS => ?_)
      refine lv_aload_n hx hb dR_chance_23 rfl (lv_at hl 0 rfl) ?_
      refine va_get (D := D) (ci := 3) (v := .ref (h 1)) (C := RR) (T := TR) (N := 13) hx hb hts hinR hown hK hP 0 rfl rfl 1 (by decide) (hts _ uw217) (fun _ h9 => h9) rfl dR_chance_24 ?_
      refine lv_iload_n hx hb dR_chance_27 rfl (lv_at hl 1 rfl) ?_
      refine va_iald hx hb hK hP 1 0 rfl rfl (is_in hn c5) dR_chance_28 ?_
      by_cases c29 : ((g_rmo r20) (a1 : Int32).toNatClampNeg) < 0
      · rw [if_pos c29] at hv
        refine lv_if_lt (tgt := 36) hx hb dR_chance_29 (by decide) (fun _ => ?_) (fun z => absurd c29 z)
        refine lv_iconst (v := 0) hx hb dR_chance_36 (by decide) ?_
        refine lv_aload_n hx hb dR_chance_37 rfl (lv_at hl 0 rfl) ?_
        refine va_get (D := D) (ci := 3) (v := .ref (h 2)) (C := RR) (T := TR) (N := 13) hx hb hts hinR hown hK hP 0 rfl rfl 2 (by decide) (hts _ uw218) (fun _ h9 => h9) rfl dR_chance_38 ?_
        refine lv_iload_n hx hb dR_chance_41 rfl (lv_at hl 1 rfl) ?_
        refine va_iald hx hb hK hP 2 0 rfl rfl (is_in hn c5) dR_chance_42 ?_
        by_cases c43 : ((g_rfa r20) (a1 : Int32).toNatClampNeg) < 0
        · rw [if_pos c43] at hv
          refine lv_if_lt (tgt := 50) hx hb dR_chance_43 (by decide) (fun _ => ?_) (fun z => absurd c43 z)
          refine lv_iconst (v := 0) hx hb dR_chance_50 (by decide) ?_
          refine lv_iadd hx hb dR_chance_51 ?_
          refine lv_istore_n (lv' := [(3, .int (0 + 0)), (0, .ref (h 0)), (1, .int a1), (2, .int a2)]) hx hb dR_chance_52 rfl hl (by decide) rfl (fun ls hl => ?_)
          refine lv_aload_n hx hb dR_chance_53 rfl (lv_at hl 1 rfl) ?_
          refine lv_aload_n hx hb dR_chance_54 rfl (lv_at hl 1 rfl) ?_
          refine va_get (D := D) (ci := 3) (v := .ref (h 1)) (C := RR) (T := TR) (N := 13) hx hb hts hinR hown hK hP 0 rfl rfl 1 (by decide) (hts _ uw217) (fun _ h9 => h9) rfl dR_chance_55 ?_
          refine lv_iload_n hx hb dR_chance_58 rfl (lv_at hl 2 rfl) ?_
          refine va_iald hx hb hK hP 1 0 rfl rfl (is_in hn c5) dR_chance_59 ?_
          obtain ⟨r60, e60, hv⟩ := bsome hv
          refine qVl (rest := []) ⟨hx, hb, hml, hown, hts⟩ (kR_inbredOf l D Y h n hn r20 ((g_rmo r20) (a1 : Int32).toNatClampNeg) r60 e60) (cwV 1 hts (gV uw254 uw255 uw256 uw213 ucR_inbredOf) rfl rfl rfl hvR_inbredOf ⟨Nat.le_of_ble_eq_true rfl, Nat.le_of_ble_eq_true rfl⟩) hK hP (va_recv hK hP (ci := 3) (q0 := 0) rfl rfl) rfl hl.1 rfl (Nat.le_of_ble_eq_true rfl) dR_chance_60 ⟨Nat.le_of_ble_eq_true rfl, Nat.le_of_ble_eq_true rfl⟩ ?_
          refine lv_aload_n hx hb dR_chance_63 rfl (lv_at hl 1 rfl) ?_
          refine lv_aload_n hx hb dR_chance_64 rfl (lv_at hl 1 rfl) ?_
          refine va_get (D := D) (ci := 3) (v := .ref (h 2)) (C := RR) (T := TR) (N := 13) hx hb hts hinR hown hK hP 0 rfl rfl 2 (by decide) (hts _ uw218) (fun _ h9 => h9) rfl dR_chance_65 ?_
          refine lv_iload_n hx hb dR_chance_68 rfl (lv_at hl 2 rfl) ?_
          refine va_iald hx hb hK hP 2 0 rfl rfl (is_in hn c5) dR_chance_69 ?_
          obtain ⟨r70, e70, hv⟩ := bsome hv
          refine qVl (rest := [.long r60]) ⟨hx, hb, hml, hown, hts⟩ (kR_inbredOf l D Y h n hn r20 ((g_rfa r20) (a1 : Int32).toNatClampNeg) r70 e70) (cwV 1 hts (gV uw254 uw255 uw256 uw213 ucR_inbredOf) rfl rfl rfl hvR_inbredOf ⟨Nat.le_of_ble_eq_true rfl, Nat.le_of_ble_eq_true rfl⟩) hK hP (va_recv hK hP (ci := 3) (q0 := 0) rfl rfl) rfl hl.1 rfl (Nat.le_of_ble_eq_true rfl) dR_chance_70 ⟨Nat.le_of_ble_eq_true rfl, Nat.le_of_ble_eq_true rfl⟩ ?_
          refine lv_ladd hx hb dR_chance_73 ?_
          refine lv_lstore (lv' := [(4, .long (r60 + r70)), (3, .int (0 + 0)), (0, .ref (h 0)), (1, .int a1), (2, .int a2)]) hx hb dR_chance_74 hl (by decide) rfl (fun ls hl => ?_)
          refine lv_ldc2 (v := 1125899906842624) hx hb hown (hts _ uw227) dR_chance_76 ?_
          refine lv_iconst (v := 4) hx hb dR_chance_79 (by decide) ?_
          refine lv_iload_n hx hb dR_chance_80 rfl (lv_at hl 1 rfl) ?_
          refine lv_isub hx hb dR_chance_81 ?_
          refine lv_i2l (v := ((4 - (0 + 0)) : Int32).toInt64) hx hb dR_chance_82 rfl ?_
          refine lv_lmul hx hb dR_chance_83 ?_
          refine lv_lload hx hb dR_chance_84 (lv_at hl 0 rfl) ?_
          refine lv_lsub hx hb dR_chance_86 ?_
          refine lv_ldc2 (v := 4503599627370496) hx hb hown (hts _ uw257) dR_chance_87 ?_
          refine lv_iload_n hx hb dR_chance_90 rfl (lv_at hl 4 rfl) ?_
          obtain ⟨r91, e91, hv⟩ := bsome hv
          refine qSl (rest := []) ⟨hx, hb, hml, hown, hts⟩ (kR_lowest l D Y ((1125899906842624 * ((4 - (0 + 0)) : Int32).toInt64) - (r60 + r70)) 4503599627370496 a2 r91 e91) (va_cwS 3 hts (gS uw252 uw253 uw213 ucR_lowest) rfl rfl rfl hsR_lowest ⟨Nat.le_of_ble_eq_true rfl, Nat.le_of_ble_eq_true rfl⟩) hK (zsub [] hP rfl) rfl hl.1 rfl (Nat.le_of_ble_eq_true rfl) dR_chance_91 ⟨Nat.le_of_ble_eq_true rfl, Nat.le_of_ble_eq_true rfl⟩ ?_
          cases hv
          exact zMl_ret (u := r20) hx hb hr hlocks hK hP hD hS dR_chance_94
        · rw [if_neg c43] at hv
          refine lv_if_lt (tgt := 50) hx hb dR_chance_43 (by decide) (fun z => absurd z c43) (fun _ => ?_)
          refine lv_iconst (v := 1) hx hb dR_chance_46 (by decide) ?_
          refine lv_goto (tgt := 51) hx hb dR_chance_47 (by decide) ?_
          refine lv_iadd hx hb dR_chance_51 ?_
          refine lv_istore_n (lv' := [(3, .int (0 + 1)), (0, .ref (h 0)), (1, .int a1), (2, .int a2)]) hx hb dR_chance_52 rfl hl (by decide) rfl (fun ls hl => ?_)
          refine lv_aload_n hx hb dR_chance_53 rfl (lv_at hl 1 rfl) ?_
          refine lv_aload_n hx hb dR_chance_54 rfl (lv_at hl 1 rfl) ?_
          refine va_get (D := D) (ci := 3) (v := .ref (h 1)) (C := RR) (T := TR) (N := 13) hx hb hts hinR hown hK hP 0 rfl rfl 1 (by decide) (hts _ uw217) (fun _ h9 => h9) rfl dR_chance_55 ?_
          refine lv_iload_n hx hb dR_chance_58 rfl (lv_at hl 2 rfl) ?_
          refine va_iald hx hb hK hP 1 0 rfl rfl (is_in hn c5) dR_chance_59 ?_
          obtain ⟨r60, e60, hv⟩ := bsome hv
          refine qVl (rest := []) ⟨hx, hb, hml, hown, hts⟩ (kR_inbredOf l D Y h n hn r20 ((g_rmo r20) (a1 : Int32).toNatClampNeg) r60 e60) (cwV 1 hts (gV uw254 uw255 uw256 uw213 ucR_inbredOf) rfl rfl rfl hvR_inbredOf ⟨Nat.le_of_ble_eq_true rfl, Nat.le_of_ble_eq_true rfl⟩) hK hP (va_recv hK hP (ci := 3) (q0 := 0) rfl rfl) rfl hl.1 rfl (Nat.le_of_ble_eq_true rfl) dR_chance_60 ⟨Nat.le_of_ble_eq_true rfl, Nat.le_of_ble_eq_true rfl⟩ ?_
          refine lv_aload_n hx hb dR_chance_63 rfl (lv_at hl 1 rfl) ?_
          refine lv_aload_n hx hb dR_chance_64 rfl (lv_at hl 1 rfl) ?_
          refine va_get (D := D) (ci := 3) (v := .ref (h 2)) (C := RR) (T := TR) (N := 13) hx hb hts hinR hown hK hP 0 rfl rfl 2 (by decide) (hts _ uw218) (fun _ h9 => h9) rfl dR_chance_65 ?_
          refine lv_iload_n hx hb dR_chance_68 rfl (lv_at hl 2 rfl) ?_
          refine va_iald hx hb hK hP 2 0 rfl rfl (is_in hn c5) dR_chance_69 ?_
          obtain ⟨r70, e70, hv⟩ := bsome hv
          refine qVl (rest := [.long r60]) ⟨hx, hb, hml, hown, hts⟩ (kR_inbredOf l D Y h n hn r20 ((g_rfa r20) (a1 : Int32).toNatClampNeg) r70 e70) (cwV 1 hts (gV uw254 uw255 uw256 uw213 ucR_inbredOf) rfl rfl rfl hvR_inbredOf ⟨Nat.le_of_ble_eq_true rfl, Nat.le_of_ble_eq_true rfl⟩) hK hP (va_recv hK hP (ci := 3) (q0 := 0) rfl rfl) rfl hl.1 rfl (Nat.le_of_ble_eq_true rfl) dR_chance_70 ⟨Nat.le_of_ble_eq_true rfl, Nat.le_of_ble_eq_true rfl⟩ ?_
          refine lv_ladd hx hb dR_chance_73 ?_
          refine lv_lstore (lv' := [(4, .long (r60 + r70)), (3, .int (0 + 1)), (0, .ref (h 0)), (1, .int a1), (2, .int a2)]) hx hb dR_chance_74 hl (by decide) rfl (fun ls hl => ?_)
          refine lv_ldc2 (v := 1125899906842624) hx hb hown (hts _ uw227) dR_chance_76 ?_
          refine lv_iconst (v := 4) hx hb dR_chance_79 (by decide) ?_
          refine lv_iload_n hx hb dR_chance_80 rfl (lv_at hl 1 rfl) ?_
          refine lv_isub hx hb dR_chance_81 ?_
          refine lv_i2l (v := ((4 - (0 + 1)) : Int32).toInt64) hx hb dR_chance_82 rfl ?_
          refine lv_lmul hx hb dR_chance_83 ?_
          refine lv_lload hx hb dR_chance_84 (lv_at hl 0 rfl) ?_
          refine lv_lsub hx hb dR_chance_86 ?_
          refine lv_ldc2 (v := 4503599627370496) hx hb hown (hts _ uw257) dR_chance_87 ?_
          refine lv_iload_n hx hb dR_chance_90 rfl (lv_at hl 4 rfl) ?_
          obtain ⟨r91, e91, hv⟩ := bsome hv
          refine qSl (rest := []) ⟨hx, hb, hml, hown, hts⟩ (kR_lowest l D Y ((1125899906842624 * ((4 - (0 + 1)) : Int32).toInt64) - (r60 + r70)) 4503599627370496 a2 r91 e91) (va_cwS 3 hts (gS uw252 uw253 uw213 ucR_lowest) rfl rfl rfl hsR_lowest ⟨Nat.le_of_ble_eq_true rfl, Nat.le_of_ble_eq_true rfl⟩) hK (zsub [] hP rfl) rfl hl.1 rfl (Nat.le_of_ble_eq_true rfl) dR_chance_91 ⟨Nat.le_of_ble_eq_true rfl, Nat.le_of_ble_eq_true rfl⟩ ?_
          cases hv
          exact zMl_ret (u := r20) hx hb hr hlocks hK hP hD hS dR_chance_94
      · rw [if_neg c29] at hv
        refine lv_if_lt (tgt := 36) hx hb dR_chance_29 (by decide) (fun z => absurd z c29) (fun _ => ?_)
        refine lv_iconst (v := 1) hx hb dR_chance_32 (by decide) ?_
        refine lv_goto (tgt := 37) hx hb dR_chance_33 (by decide) ?_
        refine lv_aload_n hx hb dR_chance_37 rfl (lv_at hl 0 rfl) ?_
        refine va_get (D := D) (ci := 3) (v := .ref (h 2)) (C := RR) (T := TR) (N := 13) hx hb hts hinR hown hK hP 0 rfl rfl 2 (by decide) (hts _ uw218) (fun _ h9 => h9) rfl dR_chance_38 ?_
        refine lv_iload_n hx hb dR_chance_41 rfl (lv_at hl 1 rfl) ?_
        refine va_iald hx hb hK hP 2 0 rfl rfl (is_in hn c5) dR_chance_42 ?_
        by_cases c43 : ((g_rfa r20) (a1 : Int32).toNatClampNeg) < 0
        · rw [if_pos c43] at hv
          refine lv_if_lt (tgt := 50) hx hb dR_chance_43 (by decide) (fun _ => ?_) (fun z => absurd c43 z)
          refine lv_iconst (v := 0) hx hb dR_chance_50 (by decide) ?_
          refine lv_iadd hx hb dR_chance_51 ?_
          refine lv_istore_n (lv' := [(3, .int (1 + 0)), (0, .ref (h 0)), (1, .int a1), (2, .int a2)]) hx hb dR_chance_52 rfl hl (by decide) rfl (fun ls hl => ?_)
          refine lv_aload_n hx hb dR_chance_53 rfl (lv_at hl 1 rfl) ?_
          refine lv_aload_n hx hb dR_chance_54 rfl (lv_at hl 1 rfl) ?_
          refine va_get (D := D) (ci := 3) (v := .ref (h 1)) (C := RR) (T := TR) (N := 13) hx hb hts hinR hown hK hP 0 rfl rfl 1 (by decide) (hts _ uw217) (fun _ h9 => h9) rfl dR_chance_55 ?_
          refine lv_iload_n hx hb dR_chance_58 rfl (lv_at hl 2 rfl) ?_
          refine va_iald hx hb hK hP 1 0 rfl rfl (is_in hn c5) dR_chance_59 ?_
          obtain ⟨r60, e60, hv⟩ := bsome hv
          refine qVl (rest := []) ⟨hx, hb, hml, hown, hts⟩ (kR_inbredOf l D Y h n hn r20 ((g_rmo r20) (a1 : Int32).toNatClampNeg) r60 e60) (cwV 1 hts (gV uw254 uw255 uw256 uw213 ucR_inbredOf) rfl rfl rfl hvR_inbredOf ⟨Nat.le_of_ble_eq_true rfl, Nat.le_of_ble_eq_true rfl⟩) hK hP (va_recv hK hP (ci := 3) (q0 := 0) rfl rfl) rfl hl.1 rfl (Nat.le_of_ble_eq_true rfl) dR_chance_60 ⟨Nat.le_of_ble_eq_true rfl, Nat.le_of_ble_eq_true rfl⟩ ?_
          refine lv_aload_n hx hb dR_chance_63 rfl (lv_at hl 1 rfl) ?_
          refine lv_aload_n hx hb dR_chance_64 rfl (lv_at hl 1 rfl) ?_
          refine va_get (D := D) (ci := 3) (v := .ref (h 2)) (C := RR) (T := TR) (N := 13) hx hb hts hinR hown hK hP 0 rfl rfl 2 (by decide) (hts _ uw218) (fun _ h9 => h9) rfl dR_chance_65 ?_
          refine lv_iload_n hx hb dR_chance_68 rfl (lv_at hl 2 rfl) ?_
          refine va_iald hx hb hK hP 2 0 rfl rfl (is_in hn c5) dR_chance_69 ?_
          obtain ⟨r70, e70, hv⟩ := bsome hv
          refine qVl (rest := [.long r60]) ⟨hx, hb, hml, hown, hts⟩ (kR_inbredOf l D Y h n hn r20 ((g_rfa r20) (a1 : Int32).toNatClampNeg) r70 e70) (cwV 1 hts (gV uw254 uw255 uw256 uw213 ucR_inbredOf) rfl rfl rfl hvR_inbredOf ⟨Nat.le_of_ble_eq_true rfl, Nat.le_of_ble_eq_true rfl⟩) hK hP (va_recv hK hP (ci := 3) (q0 := 0) rfl rfl) rfl hl.1 rfl (Nat.le_of_ble_eq_true rfl) dR_chance_70 ⟨Nat.le_of_ble_eq_true rfl, Nat.le_of_ble_eq_true rfl⟩ ?_
          refine lv_ladd hx hb dR_chance_73 ?_
          refine lv_lstore (lv' := [(4, .long (r60 + r70)), (3, .int (1 + 0)), (0, .ref (h 0)), (1, .int a1), (2, .int a2)]) hx hb dR_chance_74 hl (by decide) rfl (fun ls hl => ?_)
          refine lv_ldc2 (v := 1125899906842624) hx hb hown (hts _ uw227) dR_chance_76 ?_
          refine lv_iconst (v := 4) hx hb dR_chance_79 (by decide) ?_
          refine lv_iload_n hx hb dR_chance_80 rfl (lv_at hl 1 rfl) ?_
          refine lv_isub hx hb dR_chance_81 ?_
          refine lv_i2l (v := ((4 - (1 + 0)) : Int32).toInt64) hx hb dR_chance_82 rfl ?_
          refine lv_lmul hx hb dR_chance_83 ?_
          refine lv_lload hx hb dR_chance_84 (lv_at hl 0 rfl) ?_
          refine lv_lsub hx hb dR_chance_86 ?_
          refine lv_ldc2 (v := 4503599627370496) hx hb hown (hts _ uw257) dR_chance_87 ?_
          refine lv_iload_n hx hb dR_chance_90 rfl (lv_at hl 4 rfl) ?_
          obtain ⟨r91, e91, hv⟩ := bsome hv
          refine qSl (rest := []) ⟨hx, hb, hml, hown, hts⟩ (kR_lowest l D Y ((1125899906842624 * ((4 - (1 + 0)) : Int32).toInt64) - (r60 + r70)) 4503599627370496 a2 r91 e91) (va_cwS 3 hts (gS uw252 uw253 uw213 ucR_lowest) rfl rfl rfl hsR_lowest ⟨Nat.le_of_ble_eq_true rfl, Nat.le_of_ble_eq_true rfl⟩) hK (zsub [] hP rfl) rfl hl.1 rfl (Nat.le_of_ble_eq_true rfl) dR_chance_91 ⟨Nat.le_of_ble_eq_true rfl, Nat.le_of_ble_eq_true rfl⟩ ?_
          cases hv
          exact zMl_ret (u := r20) hx hb hr hlocks hK hP hD hS dR_chance_94
        · rw [if_neg c43] at hv
          refine lv_if_lt (tgt := 50) hx hb dR_chance_43 (by decide) (fun z => absurd z c43) (fun _ => ?_)
          refine lv_iconst (v := 1) hx hb dR_chance_46 (by decide) ?_
          refine lv_goto (tgt := 51) hx hb dR_chance_47 (by decide) ?_
          refine lv_iadd hx hb dR_chance_51 ?_
          refine lv_istore_n (lv' := [(3, .int (1 + 1)), (0, .ref (h 0)), (1, .int a1), (2, .int a2)]) hx hb dR_chance_52 rfl hl (by decide) rfl (fun ls hl => ?_)
          refine lv_aload_n hx hb dR_chance_53 rfl (lv_at hl 1 rfl) ?_
          refine lv_aload_n hx hb dR_chance_54 rfl (lv_at hl 1 rfl) ?_
          refine va_get (D := D) (ci := 3) (v := .ref (h 1)) (C := RR) (T := TR) (N := 13) hx hb hts hinR hown hK hP 0 rfl rfl 1 (by decide) (hts _ uw217) (fun _ h9 => h9) rfl dR_chance_55 ?_
          refine lv_iload_n hx hb dR_chance_58 rfl (lv_at hl 2 rfl) ?_
          refine va_iald hx hb hK hP 1 0 rfl rfl (is_in hn c5) dR_chance_59 ?_
          obtain ⟨r60, e60, hv⟩ := bsome hv
          refine qVl (rest := []) ⟨hx, hb, hml, hown, hts⟩ (kR_inbredOf l D Y h n hn r20 ((g_rmo r20) (a1 : Int32).toNatClampNeg) r60 e60) (cwV 1 hts (gV uw254 uw255 uw256 uw213 ucR_inbredOf) rfl rfl rfl hvR_inbredOf ⟨Nat.le_of_ble_eq_true rfl, Nat.le_of_ble_eq_true rfl⟩) hK hP (va_recv hK hP (ci := 3) (q0 := 0) rfl rfl) rfl hl.1 rfl (Nat.le_of_ble_eq_true rfl) dR_chance_60 ⟨Nat.le_of_ble_eq_true rfl, Nat.le_of_ble_eq_true rfl⟩ ?_
          refine lv_aload_n hx hb dR_chance_63 rfl (lv_at hl 1 rfl) ?_
          refine lv_aload_n hx hb dR_chance_64 rfl (lv_at hl 1 rfl) ?_
          refine va_get (D := D) (ci := 3) (v := .ref (h 2)) (C := RR) (T := TR) (N := 13) hx hb hts hinR hown hK hP 0 rfl rfl 2 (by decide) (hts _ uw218) (fun _ h9 => h9) rfl dR_chance_65 ?_
          refine lv_iload_n hx hb dR_chance_68 rfl (lv_at hl 2 rfl) ?_
          refine va_iald hx hb hK hP 2 0 rfl rfl (is_in hn c5) dR_chance_69 ?_
          obtain ⟨r70, e70, hv⟩ := bsome hv
          refine qVl (rest := [.long r60]) ⟨hx, hb, hml, hown, hts⟩ (kR_inbredOf l D Y h n hn r20 ((g_rfa r20) (a1 : Int32).toNatClampNeg) r70 e70) (cwV 1 hts (gV uw254 uw255 uw256 uw213 ucR_inbredOf) rfl rfl rfl hvR_inbredOf ⟨Nat.le_of_ble_eq_true rfl, Nat.le_of_ble_eq_true rfl⟩) hK hP (va_recv hK hP (ci := 3) (q0 := 0) rfl rfl) rfl hl.1 rfl (Nat.le_of_ble_eq_true rfl) dR_chance_70 ⟨Nat.le_of_ble_eq_true rfl, Nat.le_of_ble_eq_true rfl⟩ ?_
          refine lv_ladd hx hb dR_chance_73 ?_
          refine lv_lstore (lv' := [(4, .long (r60 + r70)), (3, .int (1 + 1)), (0, .ref (h 0)), (1, .int a1), (2, .int a2)]) hx hb dR_chance_74 hl (by decide) rfl (fun ls hl => ?_)
          refine lv_ldc2 (v := 1125899906842624) hx hb hown (hts _ uw227) dR_chance_76 ?_
          refine lv_iconst (v := 4) hx hb dR_chance_79 (by decide) ?_
          refine lv_iload_n hx hb dR_chance_80 rfl (lv_at hl 1 rfl) ?_
          refine lv_isub hx hb dR_chance_81 ?_
          refine lv_i2l (v := ((4 - (1 + 1)) : Int32).toInt64) hx hb dR_chance_82 rfl ?_
          refine lv_lmul hx hb dR_chance_83 ?_
          refine lv_lload hx hb dR_chance_84 (lv_at hl 0 rfl) ?_
          refine lv_lsub hx hb dR_chance_86 ?_
          refine lv_ldc2 (v := 4503599627370496) hx hb hown (hts _ uw257) dR_chance_87 ?_
          refine lv_iload_n hx hb dR_chance_90 rfl (lv_at hl 4 rfl) ?_
          obtain ⟨r91, e91, hv⟩ := bsome hv
          refine qSl (rest := []) ⟨hx, hb, hml, hown, hts⟩ (kR_lowest l D Y ((1125899906842624 * ((4 - (1 + 1)) : Int32).toInt64) - (r60 + r70)) 4503599627370496 a2 r91 e91) (va_cwS 3 hts (gS uw252 uw253 uw213 ucR_lowest) rfl rfl rfl hsR_lowest ⟨Nat.le_of_ble_eq_true rfl, Nat.le_of_ble_eq_true rfl⟩) hK (zsub [] hP rfl) rfl hl.1 rfl (Nat.le_of_ble_eq_true rfl) dR_chance_91 ⟨Nat.le_of_ble_eq_true rfl, Nat.le_of_ble_eq_true rfl⟩ ?_
          cases hv
          exact zMl_ret (u := r20) hx hb hr hlocks hK hP hD hS dR_chance_94
