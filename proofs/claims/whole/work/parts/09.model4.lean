abbrev rmR_isFounder : Room := { frames := 0, cells := 0, slots := 0, locals := 0 }
set_option maxHeartbeats 4000000 in
set_option maxRecDepth 100000 in
theorem kR_isFounder (l : Launch) (D : va_G) (Y : Nat → ClassId) (h : Nat → Nat) (n : Nat) (hn : n ≤ 24) (S : vR) (a1 : Int32) (v : Int32) (hv : (fR_isFounder n S a1) = some v) : Met l yR_isFounder wsR_isFounder rmR_isFounder (va_Pc [.ref (h 0), .int a1] (zPre D vwCl (tysK Y) (wR Y h n S))) (vp_Si (fun r => r = v)) 0 0 (fun _ => False) := by
  refine Met.ofW (cc := cR_isFounder) (maxL := 2) (ret := (some .boolean)) (by decide) rfl ?_
  intro p e s m args below meth c s₁ B hml hvv
  obtain ⟨rfl, hP, hK⟩ := hvv
  have hx := B.exec
  have hb := B.bytes
  have hr := B.returns
  have hts : ∀ w ∈ uT, w.before _ s = true := fun w hw => atoms_spec (ws := wsR_isFounder) B.pre w (List.mem_cons_of_mem _ hw)
  have hown : s.vm.findClass RR = some m.cls := findClass_of_methodNamed B.named
  have hlocks := B.notSynchronized
  have hl := lv_entry ([.ref (h 0), .int a1]) (n := 2) (Nat.le_of_ble_eq_true rfl)
  rw [lg_entry_eq]
  generalize (lg_sl ([.ref (h 0), .int a1]) ++ List.replicate (2 - (lg_sl ([.ref (h 0), .int a1])).length) Slot.unset).toArray = ls at hl ⊢
  have hl : lv_has ls 2 [(0, .ref (h 0)), (1, .int a1)] := hl
  unfold fR_isFounder at hv
  show W p l e rmR_isFounder s m _ below meth c s.heap [] 0 0 (zI below _ s v) (F0 m 0 ls [])
  refine lv_aload_n hx hb dR_isFounder_0 rfl (lv_at hl 0 rfl) ?_
  refine va_get (D := D) (ci := 3) (v := .ref (h 1)) (C := RR) (T := TR) (N := 13) hx hb hts hinR hown hK hP 0 rfl rfl 1 (by decide) (hts _ uw217) (fun _ h9 => h9) rfl dR_isFounder_1 ?_
  refine lv_iload_n hx hb dR_isFounder_4 rfl (lv_at hl 1 rfl) ?_
  have k5 : ¬ (ob (a1 : Int32) 24) := fun z => by rw [if_pos z] at hv; cases hv
  rw [if_neg k5] at hv
  refine va_iald hx hb hK hP 1 0 rfl rfl (k5) dR_isFounder_5 ?_
  by_cases c6 : 0 ≤ ((g_rmo S) (a1 : Int32).toNatClampNeg)
  · rw [if_pos c6] at hv
    refine lv_if_ge (tgt := 22) hx hb dR_isFounder_6 (by decide) (fun _ => ?_) (fun z => absurd c6 z)
    refine lv_iconst (v := 0) hx hb dR_isFounder_22 (by decide) ?_
    cases hv
    exact zB_ret hx hb hr hlocks (Or.inl rfl) dR_isFounder_23
  · rw [if_neg c6] at hv
    refine lv_if_ge (tgt := 22) hx hb dR_isFounder_6 (by decide) (fun z => absurd z c6) (fun _ => ?_)
    refine lv_aload_n hx hb dR_isFounder_9 rfl (lv_at hl 0 rfl) ?_
    refine va_get (D := D) (ci := 3) (v := .ref (h 2)) (C := RR) (T := TR) (N := 13) hx hb hts hinR hown hK hP 0 rfl rfl 2 (by decide) (hts _ uw218) (fun _ h9 => h9) rfl dR_isFounder_10 ?_
    refine lv_iload_n hx hb dR_isFounder_13 rfl (lv_at hl 1 rfl) ?_
    have k14 : ¬ (ob (a1 : Int32) 24) := fun z => by rw [if_pos z] at hv; cases hv
    rw [if_neg k14] at hv
    refine va_iald hx hb hK hP 2 0 rfl rfl (k14) dR_isFounder_14 ?_
    by_cases c15 : 0 ≤ ((g_rfa S) (a1 : Int32).toNatClampNeg)
    · rw [if_pos c15] at hv
      refine lv_if_ge (tgt := 22) hx hb dR_isFounder_15 (by decide) (fun _ => ?_) (fun z => absurd c15 z)
      refine lv_iconst (v := 0) hx hb dR_isFounder_22 (by decide) ?_
      cases hv
      exact zB_ret hx hb hr hlocks (Or.inl rfl) dR_isFounder_23
    · rw [if_neg c15] at hv
      refine lv_if_ge (tgt := 22) hx hb dR_isFounder_15 (by decide) (fun z => absurd z c15) (fun _ => ?_)
      refine lv_iconst (v := 1) hx hb dR_isFounder_18 (by decide) ?_
      refine lv_goto (tgt := 23) hx hb dR_isFounder_19 (by decide) ?_
      cases hv
      exact zB_ret hx hb hr hlocks (Or.inr rfl) dR_isFounder_23
abbrev rmR_share : Room := { frames := 1, cells := 0, slots := 0, locals := 30 }
set_option maxHeartbeats 4000000 in
set_option maxRecDepth 100000 in
theorem tR_share_48 {p : Program} {l : Launch} {e : Env} {s : State} {m : MethodId} {args : Array Value} {below : List Frame} {meth : Method} {c : Code} {D : va_G} {Y : Nat → ClassId} {h : Nat → Nat} {n : Nat} (hn : n ≤ 24) {A : Nat → Prop} (hA : ∀ q : Nat, s.heap.size ≤ q → A q) (CF : CallFix p m c cR_share 9 s args uT RR) (hr : meth.sig.returnType = (some .long)) (hlocks : meth.locks = false) (hK : va_K D vwCl (tysK Y) s) : ∀ (k : Nat) (i : Nat) (x1 : Int32) (x2 : Int32) (x3 : Int32) (S : vR) (v : Int64 × vR), i + k = n → (fR_share_48 n k i x1 x2 x3 S) = some v → ∀ (H : Heap) (locs : List Loc), va_P D vwCl (wR Y h n S) H → va_D A (wR Y h n S) → va_S A s.heap H locs → ∀ ls : Array Slot, lv_has ls 9 [(0, .ref (h 0)), (1, .int x1), (2, .int x2), (3, .int x3), (4, .ref (h 11)), (5, .int (nI i))] → W p l e rmR_share s m args below meth c H locs 0 0 (zMl D vwCl (tysK Y) A (wR Y h n) below args s 0 0 v) (F0 m 48 ls []) := by
  obtain ⟨hx, hb, hml, hown, hts⟩ := CF
  intro k
  induction k with
  | zero =>
    intro i x1 x2 x3 S v hi hv H locs hP hD hS ls hl
    rw [fR_share_48] at hv
    refine lv_iload hx hb dR_share_48 (lv_at hl 5 rfl) ?_
    refine lv_aload_n hx hb dR_share_50 rfl (lv_at hl 0 rfl) ?_
    refine va_get (D := D) (ci := 3) (v := .int (nI n)) (C := RR) (T := TR) (N := 13) hx hb hts hinR hown hK hP 0 rfl rfl 0 (by decide) (hts _ uw209) (fun _ h9 => h9) rfl dR_share_51 ?_
    refine lv_icmp_ge (tgt := 146) hx hb dR_share_54 (by decide) (fun _ => ?_) (fun z => absurd (lp_ge (n := n) hi) z)
    refine lv_aload hx hb dR_share_146 (lv_at hl 4 rfl) ?_
    refine lv_iload_n hx hb dR_share_148 rfl (lv_at hl 1 rfl) ?_
    have k149 : ¬ (ob (x1 : Int32) 576) := fun z => by rw [if_pos z] at hv; cases hv
    rw [if_neg k149] at hv
    refine va_lald hx hb hK hP 11 1 rfl rfl (k149) dR_share_149 ?_
    refine lv_ldc2 (v := 1125899906842624) hx hb hown (hts _ uw227) dR_share_150 ?_
    refine lv_iload_n hx hb dR_share_153 rfl (lv_at hl 3 rfl) ?_
    obtain ⟨r154, e154, hv⟩ := bsome hv
    refine qSl (rest := []) ⟨hx, hb, hml, hown, hts⟩ (kR_lowest l D Y ((g_rki S) (x1 : Int32).toNatClampNeg) 1125899906842624 x3 r154 e154) (va_cwS 3 hts (gS uw252 uw253 uw213 ucR_lowest) rfl rfl rfl hsR_lowest ⟨Nat.le_of_ble_eq_true rfl, Nat.le_of_ble_eq_true rfl⟩) hK (zsub [] hP rfl) rfl hl.1 rfl (Nat.le_of_ble_eq_true rfl) dR_share_154 ⟨Nat.le_of_ble_eq_true rfl, Nat.le_of_ble_eq_true rfl⟩ ?_
    cases hv
    exact zMl_ret (u := S) hx hb hr hlocks hK hP hD hS dR_share_157
  | succ k ih =>
    intro i x1 x2 x3 S v hi hv H locs hP hD hS ls hl
    rw [fR_share_48] at hv
    refine lv_iload hx hb dR_share_48 (lv_at hl 5 rfl) ?_
    refine lv_aload_n hx hb dR_share_50 rfl (lv_at hl 0 rfl) ?_
    refine va_get (D := D) (ci := 3) (v := .int (nI n)) (C := RR) (T := TR) (N := 13) hx hb hts hinR hown hK hP 0 rfl rfl 0 (by decide) (hts _ uw209) (fun _ h9 => h9) rfl dR_share_51 ?_
    refine lv_icmp_ge (tgt := 146) hx hb dR_share_54 (by decide) (fun z => absurd z (lp_lt (n := n) hi (by omega))) (fun _ => ?_)
    refine lv_aload_n hx hb dR_share_57 rfl (lv_at hl 0 rfl) ?_
    refine va_get (D := D) (ci := 3) (v := .ref (h 10)) (C := RR) (T := TR) (N := 13) hx hb hts hinR hown hK hP 0 rfl rfl 11 (by decide) (hts _ uw219) (fun _ h9 => h9) rfl dR_share_58 ?_
    refine lv_iload hx hb dR_share_61 (lv_at hl 5 rfl) ?_
    refine va_iald hx hb hK hP 10 0 rfl rfl (vp_in_nI (n := i) (by omega) (by omega)) dR_share_63 ?_
    refine lv_istore (lv' := [(6, .int ((g_rro S) ((nI i) : Int32).toNatClampNeg)), (0, .ref (h 0)), (1, .int x1), (2, .int x2), (3, .int x3), (4, .ref (h 11)), (5, .int (nI i))]) hx hb dR_share_64 hl (by decide) rfl (fun ls hl => ?_)
    refine lv_aload_n hx hb dR_share_66 rfl (lv_at hl 1 rfl) ?_
    refine va_get (D := D) (ci := 3) (v := .ref (h 1)) (C := RR) (T := TR) (N := 13) hx hb hts hinR hown hK hP 0 rfl rfl 1 (by decide) (hts _ uw217) (fun _ h9 => h9) rfl dR_share_67 ?_
    refine lv_iload hx hb dR_share_70 (lv_at hl 0 rfl) ?_
    have k72 : ¬ (ob (((g_rro S) ((nI i) : Int32).toNatClampNeg) : Int32) 24) := fun z => by rw [if_pos z] at hv; cases hv
    rw [if_neg k72] at hv
    refine va_iald hx hb hK hP 1 0 rfl rfl (k72) dR_share_72 ?_
    by_cases c73 : 0 ≤ ((g_rmo S) (((g_rro S) ((nI i) : Int32).toNatClampNeg) : Int32).toNatClampNeg)
    · rw [if_pos c73] at hv
      refine lv_if_ge (tgt := 80) hx hb dR_share_73 (by decide) (fun _ => ?_) (fun z => absurd c73 z)
      refine lv_aload hx hb dR_share_80 (lv_at hl 5 rfl) ?_
      refine lv_aload_n hx hb dR_share_82 rfl (lv_at hl 1 rfl) ?_
      refine va_get (D := D) (ci := 3) (v := .ref (h 1)) (C := RR) (T := TR) (N := 13) hx hb hts hinR hown hK hP 0 rfl rfl 1 (by decide) (hts _ uw217) (fun _ h9 => h9) rfl dR_share_83 ?_
      refine lv_iload hx hb dR_share_86 (lv_at hl 0 rfl) ?_
      have k88 : ¬ (ob (((g_rro S) ((nI i) : Int32).toNatClampNeg) : Int32) 24) := fun z => by rw [if_pos z] at hv; cases hv
      rw [if_neg k88] at hv
      refine va_iald hx hb hK hP 1 0 rfl rfl (k88) dR_share_88 ?_
      have k89 : ¬ (ob (((g_rmo S) (((g_rro S) ((nI i) : Int32).toNatClampNeg) : Int32).toNatClampNeg) : Int32) 576) := fun z => by rw [if_pos z] at hv; cases hv
      rw [if_neg k89] at hv
      refine va_lald hx hb hK hP 11 1 rfl rfl (k89) dR_share_89 ?_
      refine lv_aload_n hx hb dR_share_90 rfl (lv_at hl 1 rfl) ?_
      refine va_get (D := D) (ci := 3) (v := .ref (h 2)) (C := RR) (T := TR) (N := 13) hx hb hts hinR hown hK hP 0 rfl rfl 2 (by decide) (hts _ uw218) (fun _ h9 => h9) rfl dR_share_91 ?_
      refine lv_iload hx hb dR_share_94 (lv_at hl 0 rfl) ?_
      have k96 : ¬ (ob (((g_rro S) ((nI i) : Int32).toNatClampNeg) : Int32) 24) := fun z => by rw [if_pos z] at hv; cases hv
      rw [if_neg k96] at hv
      refine va_iald hx hb hK hP 2 0 rfl rfl (k96) dR_share_96 ?_
      by_cases c97 : 0 ≤ ((g_rfa S) (((g_rro S) ((nI i) : Int32).toNatClampNeg) : Int32).toNatClampNeg)
      · rw [if_pos c97] at hv
        refine lv_if_ge (tgt := 104) hx hb dR_share_97 (by decide) (fun _ => ?_) (fun z => absurd c97 z)
        refine lv_aload hx hb dR_share_104 (lv_at hl 5 rfl) ?_
        refine lv_aload_n hx hb dR_share_106 rfl (lv_at hl 1 rfl) ?_
        refine va_get (D := D) (ci := 3) (v := .ref (h 2)) (C := RR) (T := TR) (N := 13) hx hb hts hinR hown hK hP 0 rfl rfl 2 (by decide) (hts _ uw218) (fun _ h9 => h9) rfl dR_share_107 ?_
        refine lv_iload hx hb dR_share_110 (lv_at hl 0 rfl) ?_
        have k112 : ¬ (ob (((g_rro S) ((nI i) : Int32).toNatClampNeg) : Int32) 24) := fun z => by rw [if_pos z] at hv; cases hv
        rw [if_neg k112] at hv
        refine va_iald hx hb hK hP 2 0 rfl rfl (k112) dR_share_112 ?_
        have k113 : ¬ (ob (((g_rfa S) (((g_rro S) ((nI i) : Int32).toNatClampNeg) : Int32).toNatClampNeg) : Int32) 576) := fun z => by rw [if_pos z] at hv; cases hv
        rw [if_neg k113] at hv
        refine va_lald hx hb hK hP 11 1 rfl rfl (k113) dR_share_113 ?_
        refine lv_ladd hx hb dR_share_114 ?_
        refine lv_lstore (lv' := [(7, .long (((g_rki S) (((g_rmo S) (((g_rro S) ((nI i) : Int32).toNatClampNeg) : Int32).toNatClampNeg) : Int32).toNatClampNeg) + ((g_rki S) (((g_rfa S) (((g_rro S) ((nI i) : Int32).toNatClampNeg) : Int32).toNatClampNeg) : Int32).toNatClampNeg))), (6, .int ((g_rro S) ((nI i) : Int32).toNatClampNeg)), (0, .ref (h 0)), (1, .int x1), (2, .int x2), (3, .int x3), (4, .ref (h 11)), (5, .int (nI i))]) hx hb dR_share_115 hl (by decide) rfl (fun ls hl => ?_)
        refine lv_aload hx hb dR_share_117 (lv_at hl 6 rfl) ?_
        refine lv_iload hx hb dR_share_119 (lv_at hl 1 rfl) ?_
        refine lv_iload hx hb dR_share_121 (lv_at hl 1 rfl) ?_
        refine lv_iload_n hx hb dR_share_123 rfl (lv_at hl 4 rfl) ?_
        by_cases c124 : ((g_rro S) ((nI i) : Int32).toNatClampNeg) = x2
        · rw [if_pos c124] at hv
          refine lv_icmp_ne (tgt := 133) hx hb dR_share_124 (by decide) (fun z => absurd c124 z) (fun _ => ?_)
          refine lv_ldc2 (v := 1125899906842624) hx hb hown (hts _ uw227) dR_share_127 ?_
          refine lv_goto (tgt := 139) hx hb dR_share_130 (by decide) ?_
          have k139 : ¬ (ob (((g_rro S) ((nI i) : Int32).toNatClampNeg) : Int32) 576) := fun z => by rw [if_pos z] at hv; cases hv
          rw [if_neg k139] at hv
          refine va_last hx hb hK hP hD hS 11 1 rfl rfl (k139) dR_share_139 (fun H locs hP hD hS => ?_)
          have hP : va_P D vwCl (wR Y h n (r_rki S (vp_updL (g_rki S) (((g_rro S) ((nI i) : Int32).toNatClampNeg) : Int32).toNatClampNeg 1125899906842624))) H := hP
          have hD : va_D A (wR Y h n (r_rki S (vp_updL (g_rki S) (((g_rro S) ((nI i) : Int32).toNatClampNeg) : Int32).toNatClampNeg 1125899906842624))) := hD
          refine lv_iinc (v := (nI (i + 1))) (lv' := [(5, .int (nI (i + 1))), (7, .long (((g_rki S) (((g_rmo S) (((g_rro S) ((nI i) : Int32).toNatClampNeg) : Int32).toNatClampNeg) : Int32).toNatClampNeg) + ((g_rki S) (((g_rfa S) (((g_rro S) ((nI i) : Int32).toNatClampNeg) : Int32).toNatClampNeg) : Int32).toNatClampNeg))), (6, .int ((g_rro S) ((nI i) : Int32).toNatClampNeg)), (0, .ref (h 0)), (1, .int x1), (2, .int x2), (3, .int x3), (4, .ref (h 11))]) hx hb dR_share_140 hl (k := 7) rfl (nI_1 _) (by decide) rfl (fun ls hl => ?_)
          refine lv_goto (tgt := 48) hx hb dR_share_143 (by decide) ?_
          exact ih (i + 1) x1 x2 x3 (r_rki S (vp_updL (g_rki S) (((g_rro S) ((nI i) : Int32).toNatClampNeg) : Int32).toNatClampNeg 1125899906842624)) _ (by omega) hv _ _ hP hD hS ls (lv_sub hl [3, 4, 5, 6, 7, 0] rfl)
        · rw [if_neg c124] at hv
          refine lv_icmp_ne (tgt := 133) hx hb dR_share_124 (by decide) (fun _ => ?_) (fun z => absurd z c124)
          refine lv_lload hx hb dR_share_133 (lv_at hl 0 rfl) ?_
          refine lv_ldc2 (v := 2) hx hb hown (hts _ uw226) dR_share_135 ?_
          refine lv_ldiv hx hb dR_share_138 (by decide) ?_
          have k139x : ¬ (ob (((g_rro S) ((nI i) : Int32).toNatClampNeg) : Int32) 576) := fun z => by rw [if_pos z] at hv; cases hv
          rw [if_neg k139x] at hv
          refine va_last hx hb hK hP hD hS 11 1 rfl rfl (k139x) dR_share_139 (fun H locs hP hD hS => ?_)
          have hP : va_P D vwCl (wR Y h n (r_rki S (vp_updL (g_rki S) (((g_rro S) ((nI i) : Int32).toNatClampNeg) : Int32).toNatClampNeg ((((g_rki S) (((g_rmo S) (((g_rro S) ((nI i) : Int32).toNatClampNeg) : Int32).toNatClampNeg) : Int32).toNatClampNeg) + ((g_rki S) (((g_rfa S) (((g_rro S) ((nI i) : Int32).toNatClampNeg) : Int32).toNatClampNeg) : Int32).toNatClampNeg)) / 2)))) H := hP
          have hD : va_D A (wR Y h n (r_rki S (vp_updL (g_rki S) (((g_rro S) ((nI i) : Int32).toNatClampNeg) : Int32).toNatClampNeg ((((g_rki S) (((g_rmo S) (((g_rro S) ((nI i) : Int32).toNatClampNeg) : Int32).toNatClampNeg) : Int32).toNatClampNeg) + ((g_rki S) (((g_rfa S) (((g_rro S) ((nI i) : Int32).toNatClampNeg) : Int32).toNatClampNeg) : Int32).toNatClampNeg)) / 2)))) := hD
          refine lv_iinc (v := (nI (i + 1))) (lv' := [(5, .int (nI (i + 1))), (7, .long (((g_rki S) (((g_rmo S) (((g_rro S) ((nI i) : Int32).toNatClampNeg) : Int32).toNatClampNeg) : Int32).toNatClampNeg) + ((g_rki S) (((g_rfa S) (((g_rro S) ((nI i) : Int32).toNatClampNeg) : Int32).toNatClampNeg) : Int32).toNatClampNeg))), (6, .int ((g_rro S) ((nI i) : Int32).toNatClampNeg)), (0, .ref (h 0)), (1, .int x1), (2, .int x2), (3, .int x3), (4, .ref (h 11))]) hx hb dR_share_140 hl (k := 7) rfl (nI_1 _) (by decide) rfl (fun ls hl => ?_)
          refine lv_goto (tgt := 48) hx hb dR_share_143 (by decide) ?_
          exact ih (i + 1) x1 x2 x3 (r_rki S (vp_updL (g_rki S) (((g_rro S) ((nI i) : Int32).toNatClampNeg) : Int32).toNatClampNeg ((((g_rki S) (((g_rmo S) (((g_rro S) ((nI i) : Int32).toNatClampNeg) : Int32).toNatClampNeg) : Int32).toNatClampNeg) + ((g_rki S) (((g_rfa S) (((g_rro S) ((nI i) : Int32).toNatClampNeg) : Int32).toNatClampNeg) : Int32).toNatClampNeg)) / 2))) _ (by omega) hv _ _ hP hD hS ls (lv_sub hl [3, 4, 5, 6, 7, 0] rfl)
      · rw [if_neg c97] at hv
        refine lv_if_ge (tgt := 104) hx hb dR_share_97 (by decide) (fun z => absurd z c97) (fun _ => ?_)
        refine lv_lconst (v := 0) hx hb dR_share_100 (by decide) ?_
        refine lv_goto (tgt := 114) hx hb dR_share_101 (by decide) ?_
        refine lv_ladd hx hb dR_share_114 ?_
        refine lv_lstore (lv' := [(7, .long (((g_rki S) (((g_rmo S) (((g_rro S) ((nI i) : Int32).toNatClampNeg) : Int32).toNatClampNeg) : Int32).toNatClampNeg) + 0)), (6, .int ((g_rro S) ((nI i) : Int32).toNatClampNeg)), (0, .ref (h 0)), (1, .int x1), (2, .int x2), (3, .int x3), (4, .ref (h 11)), (5, .int (nI i))]) hx hb dR_share_115 hl (by decide) rfl (fun ls hl => ?_)
        refine lv_aload hx hb dR_share_117 (lv_at hl 6 rfl) ?_
        refine lv_iload hx hb dR_share_119 (lv_at hl 1 rfl) ?_
        refine lv_iload hx hb dR_share_121 (lv_at hl 1 rfl) ?_
        refine lv_iload_n hx hb dR_share_123 rfl (lv_at hl 4 rfl) ?_
        by_cases c124 : ((g_rro S) ((nI i) : Int32).toNatClampNeg) = x2
        · rw [if_pos c124] at hv
          refine lv_icmp_ne (tgt := 133) hx hb dR_share_124 (by decide) (fun z => absurd c124 z) (fun _ => ?_)
          refine lv_ldc2 (v := 1125899906842624) hx hb hown (hts _ uw227) dR_share_127 ?_
          refine lv_goto (tgt := 139) hx hb dR_share_130 (by decide) ?_
          have k139xx : ¬ (ob (((g_rro S) ((nI i) : Int32).toNatClampNeg) : Int32) 576) := fun z => by rw [if_pos z] at hv; cases hv
          rw [if_neg k139xx] at hv
          refine va_last hx hb hK hP hD hS 11 1 rfl rfl (k139xx) dR_share_139 (fun H locs hP hD hS => ?_)
          have hP : va_P D vwCl (wR Y h n (r_rki S (vp_updL (g_rki S) (((g_rro S) ((nI i) : Int32).toNatClampNeg) : Int32).toNatClampNeg 1125899906842624))) H := hP
          have hD : va_D A (wR Y h n (r_rki S (vp_updL (g_rki S) (((g_rro S) ((nI i) : Int32).toNatClampNeg) : Int32).toNatClampNeg 1125899906842624))) := hD
          refine lv_iinc (v := (nI (i + 1))) (lv' := [(5, .int (nI (i + 1))), (7, .long (((g_rki S) (((g_rmo S) (((g_rro S) ((nI i) : Int32).toNatClampNeg) : Int32).toNatClampNeg) : Int32).toNatClampNeg) + 0)), (6, .int ((g_rro S) ((nI i) : Int32).toNatClampNeg)), (0, .ref (h 0)), (1, .int x1), (2, .int x2), (3, .int x3), (4, .ref (h 11))]) hx hb dR_share_140 hl (k := 7) rfl (nI_1 _) (by decide) rfl (fun ls hl => ?_)
          refine lv_goto (tgt := 48) hx hb dR_share_143 (by decide) ?_
          exact ih (i + 1) x1 x2 x3 (r_rki S (vp_updL (g_rki S) (((g_rro S) ((nI i) : Int32).toNatClampNeg) : Int32).toNatClampNeg 1125899906842624)) _ (by omega) hv _ _ hP hD hS ls (lv_sub hl [3, 4, 5, 6, 7, 0] rfl)
        · rw [if_neg c124] at hv
          refine lv_icmp_ne (tgt := 133) hx hb dR_share_124 (by decide) (fun _ => ?_) (fun z => absurd z c124)
          refine lv_lload hx hb dR_share_133 (lv_at hl 0 rfl) ?_
          refine lv_ldc2 (v := 2) hx hb hown (hts _ uw226) dR_share_135 ?_
          refine lv_ldiv hx hb dR_share_138 (by decide) ?_
          have k139xxx : ¬ (ob (((g_rro S) ((nI i) : Int32).toNatClampNeg) : Int32) 576) := fun z => by rw [if_pos z] at hv; cases hv
          rw [if_neg k139xxx] at hv
          refine va_last hx hb hK hP hD hS 11 1 rfl rfl (k139xxx) dR_share_139 (fun H locs hP hD hS => ?_)
          have hP : va_P D vwCl (wR Y h n (r_rki S (vp_updL (g_rki S) (((g_rro S) ((nI i) : Int32).toNatClampNeg) : Int32).toNatClampNeg ((((g_rki S) (((g_rmo S) (((g_rro S) ((nI i) : Int32).toNatClampNeg) : Int32).toNatClampNeg) : Int32).toNatClampNeg) + 0) / 2)))) H := hP
          have hD : va_D A (wR Y h n (r_rki S (vp_updL (g_rki S) (((g_rro S) ((nI i) : Int32).toNatClampNeg) : Int32).toNatClampNeg ((((g_rki S) (((g_rmo S) (((g_rro S) ((nI i) : Int32).toNatClampNeg) : Int32).toNatClampNeg) : Int32).toNatClampNeg) + 0) / 2)))) := hD
          refine lv_iinc (v := (nI (i + 1))) (lv' := [(5, .int (nI (i + 1))), (7, .long (((g_rki S) (((g_rmo S) (((g_rro S) ((nI i) : Int32).toNatClampNeg) : Int32).toNatClampNeg) : Int32).toNatClampNeg) + 0)), (6, .int ((g_rro S) ((nI i) : Int32).toNatClampNeg)), (0, .ref (h 0)), (1, .int x1), (2, .int x2), (3, .int x3), (4, .ref (h 11))]) hx hb dR_share_140 hl (k := 7) rfl (nI_1 _) (by decide) rfl (fun ls hl => ?_)
          refine lv_goto (tgt := 48) hx hb dR_share_143 (by decide) ?_
          exact ih (i + 1) x1 x2 x3 (r_rki S (vp_updL (g_rki S) (((g_rro S) ((nI i) : Int32).toNatClampNeg) : Int32).toNatClampNeg ((((g_rki S) (((g_rmo S) (((g_rro S) ((nI i) : Int32).toNatClampNeg) : Int32).toNatClampNeg) : Int32).toNatClampNeg) + 0) / 2))) _ (by omega) hv _ _ hP hD hS ls (lv_sub hl [3, 4, 5, 6, 7, 0] rfl)
    · rw [if_neg c73] at hv
      refine lv_if_ge (tgt := 80) hx hb dR_share_73 (by decide) (fun z => absurd z c73) (fun _ => ?_)
      refine lv_lconst (v := 0) hx hb dR_share_76 (by decide) ?_
      refine lv_goto (tgt := 90) hx hb dR_share_77 (by decide) ?_
      refine lv_aload_n hx hb dR_share_90 rfl (lv_at hl 1 rfl) ?_
      refine va_get (D := D) (ci := 3) (v := .ref (h 2)) (C := RR) (T := TR) (N := 13) hx hb hts hinR hown hK hP 0 rfl rfl 2 (by decide) (hts _ uw218) (fun _ h9 => h9) rfl dR_share_91 ?_
      refine lv_iload hx hb dR_share_94 (lv_at hl 0 rfl) ?_
      have k96x : ¬ (ob (((g_rro S) ((nI i) : Int32).toNatClampNeg) : Int32) 24) := fun z => by rw [if_pos z] at hv; cases hv
      rw [if_neg k96x] at hv
      refine va_iald hx hb hK hP 2 0 rfl rfl (k96x) dR_share_96 ?_
      by_cases c97 : 0 ≤ ((g_rfa S) (((g_rro S) ((nI i) : Int32).toNatClampNeg) : Int32).toNatClampNeg)
      · rw [if_pos c97] at hv
        refine lv_if_ge (tgt := 104) hx hb dR_share_97 (by decide) (fun _ => ?_) (fun z => absurd c97 z)
        refine lv_aload hx hb dR_share_104 (lv_at hl 5 rfl) ?_
        refine lv_aload_n hx hb dR_share_106 rfl (lv_at hl 1 rfl) ?_
        refine va_get (D := D) (ci := 3) (v := .ref (h 2)) (C := RR) (T := TR) (N := 13) hx hb hts hinR hown hK hP 0 rfl rfl 2 (by decide) (hts _ uw218) (fun _ h9 => h9) rfl dR_share_107 ?_
        refine lv_iload hx hb dR_share_110 (lv_at hl 0 rfl) ?_
        have k112x : ¬ (ob (((g_rro S) ((nI i) : Int32).toNatClampNeg) : Int32) 24) := fun z => by rw [if_pos z] at hv; cases hv
        rw [if_neg k112x] at hv
        refine va_iald hx hb hK hP 2 0 rfl rfl (k112x) dR_share_112 ?_
        have k113x : ¬ (ob (((g_rfa S) (((g_rro S) ((nI i) : Int32).toNatClampNeg) : Int32).toNatClampNeg) : Int32) 576) := fun z => by rw [if_pos z] at hv; cases hv
        rw [if_neg k113x] at hv
        refine va_lald hx hb hK hP 11 1 rfl rfl (k113x) dR_share_113 ?_
        refine lv_ladd hx hb dR_share_114 ?_
        refine lv_lstore (lv' := [(7, .long (0 + ((g_rki S) (((g_rfa S) (((g_rro S) ((nI i) : Int32).toNatClampNeg) : Int32).toNatClampNeg) : Int32).toNatClampNeg))), (6, .int ((g_rro S) ((nI i) : Int32).toNatClampNeg)), (0, .ref (h 0)), (1, .int x1), (2, .int x2), (3, .int x3), (4, .ref (h 11)), (5, .int (nI i))]) hx hb dR_share_115 hl (by decide) rfl (fun ls hl => ?_)
        refine lv_aload hx hb dR_share_117 (lv_at hl 6 rfl) ?_
        refine lv_iload hx hb dR_share_119 (lv_at hl 1 rfl) ?_
        refine lv_iload hx hb dR_share_121 (lv_at hl 1 rfl) ?_
        refine lv_iload_n hx hb dR_share_123 rfl (lv_at hl 4 rfl) ?_
        by_cases c124 : ((g_rro S) ((nI i) : Int32).toNatClampNeg) = x2
        · rw [if_pos c124] at hv
          refine lv_icmp_ne (tgt := 133) hx hb dR_share_124 (by decide) (fun z => absurd c124 z) (fun _ => ?_)
          refine lv_ldc2 (v := 1125899906842624) hx hb hown (hts _ uw227) dR_share_127 ?_
          refine lv_goto (tgt := 139) hx hb dR_share_130 (by decide) ?_
          have k139xxxx : ¬ (ob (((g_rro S) ((nI i) : Int32).toNatClampNeg) : Int32) 576) := fun z => by rw [if_pos z] at hv; cases hv
          rw [if_neg k139xxxx] at hv
          refine va_last hx hb hK hP hD hS 11 1 rfl rfl (k139xxxx) dR_share_139 (fun H locs hP hD hS => ?_)
          have hP : va_P D vwCl (wR Y h n (r_rki S (vp_updL (g_rki S) (((g_rro S) ((nI i) : Int32).toNatClampNeg) : Int32).toNatClampNeg 1125899906842624))) H := hP
          have hD : va_D A (wR Y h n (r_rki S (vp_updL (g_rki S) (((g_rro S) ((nI i) : Int32).toNatClampNeg) : Int32).toNatClampNeg 1125899906842624))) := hD
          refine lv_iinc (v := (nI (i + 1))) (lv' := [(5, .int (nI (i + 1))), (7, .long (0 + ((g_rki S) (((g_rfa S) (((g_rro S) ((nI i) : Int32).toNatClampNeg) : Int32).toNatClampNeg) : Int32).toNatClampNeg))), (6, .int ((g_rro S) ((nI i) : Int32).toNatClampNeg)), (0, .ref (h 0)), (1, .int x1), (2, .int x2), (3, .int x3), (4, .ref (h 11))]) hx hb dR_share_140 hl (k := 7) rfl (nI_1 _) (by decide) rfl (fun ls hl => ?_)
          refine lv_goto (tgt := 48) hx hb dR_share_143 (by decide) ?_
          exact ih (i + 1) x1 x2 x3 (r_rki S (vp_updL (g_rki S) (((g_rro S) ((nI i) : Int32).toNatClampNeg) : Int32).toNatClampNeg 1125899906842624)) _ (by omega) hv _ _ hP hD hS ls (lv_sub hl [3, 4, 5, 6, 7, 0] rfl)
        · rw [if_neg c124] at hv
          refine lv_icmp_ne (tgt := 133) hx hb dR_share_124 (by decide) (fun _ => ?_) (fun z => absurd z c124)
          refine lv_lload hx hb dR_share_133 (lv_at hl 0 rfl) ?_
          refine lv_ldc2 (v := 2) hx hb hown (hts _ uw226) dR_share_135 ?_
          refine lv_ldiv hx hb dR_share_138 (by decide) ?_
          have k139xxxxx : ¬ (ob (((g_rro S) ((nI i) : Int32).toNatClampNeg) : Int32) 576) := fun z => by rw [if_pos z] at hv; cases hv
          rw [if_neg k139xxxxx] at hv
          refine va_last hx hb hK hP hD hS 11 1 rfl rfl (k139xxxxx) dR_share_139 (fun H locs hP hD hS => ?_)
          have hP : va_P D vwCl (wR Y h n (r_rki S (vp_updL (g_rki S) (((g_rro S) ((nI i) : Int32).toNatClampNeg) : Int32).toNatClampNeg ((0 + ((g_rki S) (((g_rfa S) (((g_rro S) ((nI i) : Int32).toNatClampNeg) : Int32).toNatClampNeg) : Int32).toNatClampNeg)) / 2)))) H := hP
          have hD : va_D A (wR Y h n (r_rki S (vp_updL (g_rki S) (((g_rro S) ((nI i) : Int32).toNatClampNeg) : Int32).toNatClampNeg ((0 + ((g_rki S) (((g_rfa S) (((g_rro S) ((nI i) : Int32).toNatClampNeg) : Int32).toNatClampNeg) : Int32).toNatClampNeg)) / 2)))) := hD
          refine lv_iinc (v := (nI (i + 1))) (lv' := [(5, .int (nI (i + 1))), (7, .long (0 + ((g_rki S) (((g_rfa S) (((g_rro S) ((nI i) : Int32).toNatClampNeg) : Int32).toNatClampNeg) : Int32).toNatClampNeg))), (6, .int ((g_rro S) ((nI i) : Int32).toNatClampNeg)), (0, .ref (h 0)), (1, .int x1), (2, .int x2), (3, .int x3), (4, .ref (h 11))]) hx hb dR_share_140 hl (k := 7) rfl (nI_1 _) (by decide) rfl (fun ls hl => ?_)
          refine lv_goto (tgt := 48) hx hb dR_share_143 (by decide) ?_
          exact ih (i + 1) x1 x2 x3 (r_rki S (vp_updL (g_rki S) (((g_rro S) ((nI i) : Int32).toNatClampNeg) : Int32).toNatClampNeg ((0 + ((g_rki S) (((g_rfa S) (((g_rro S) ((nI i) : Int32).toNatClampNeg) : Int32).toNatClampNeg) : Int32).toNatClampNeg)) / 2))) _ (by omega) hv _ _ hP hD hS ls (lv_sub hl [3, 4, 5, 6, 7, 0] rfl)
      · rw [if_neg c97] at hv
        refine lv_if_ge (tgt := 104) hx hb dR_share_97 (by decide) (fun z => absurd z c97) (fun _ => ?_)
        refine lv_lconst (v := 0) hx hb dR_share_100 (by decide) ?_
        refine lv_goto (tgt := 114) hx hb dR_share_101 (by decide) ?_
        refine lv_ladd hx hb dR_share_114 ?_
        refine lv_lstore (lv' := [(7, .long (0 + 0)), (6, .int ((g_rro S) ((nI i) : Int32).toNatClampNeg)), (0, .ref (h 0)), (1, .int x1), (2, .int x2), (3, .int x3), (4, .ref (h 11)), (5, .int (nI i))]) hx hb dR_share_115 hl (by decide) rfl (fun ls hl => ?_)
        refine lv_aload hx hb dR_share_117 (lv_at hl 6 rfl) ?_
        refine lv_iload hx hb dR_share_119 (lv_at hl 1 rfl) ?_
        refine lv_iload hx hb dR_share_121 (lv_at hl 1 rfl) ?_
        refine lv_iload_n hx hb dR_share_123 rfl (lv_at hl 4 rfl) ?_
        by_cases c124 : ((g_rro S) ((nI i) : Int32).toNatClampNeg) = x2
        · rw [if_pos c124] at hv
          refine lv_icmp_ne (tgt := 133) hx hb dR_share_124 (by decide) (fun z => absurd c124 z) (fun _ => ?_)
          refine lv_ldc2 (v := 1125899906842624) hx hb hown (hts _ uw227) dR_share_127 ?_
          refine lv_goto (tgt := 139) hx hb dR_share_130 (by decide) ?_
          have k139xxxxxx : ¬ (ob (((g_rro S) ((nI i) : Int32).toNatClampNeg) : Int32) 576) := fun z => by rw [if_pos z] at hv; cases hv
          rw [if_neg k139xxxxxx] at hv
          refine va_last hx hb hK hP hD hS 11 1 rfl rfl (k139xxxxxx) dR_share_139 (fun H locs hP hD hS => ?_)
          have hP : va_P D vwCl (wR Y h n (r_rki S (vp_updL (g_rki S) (((g_rro S) ((nI i) : Int32).toNatClampNeg) : Int32).toNatClampNeg 1125899906842624))) H := hP
          have hD : va_D A (wR Y h n (r_rki S (vp_updL (g_rki S) (((g_rro S) ((nI i) : Int32).toNatClampNeg) : Int32).toNatClampNeg 1125899906842624))) := hD
          refine lv_iinc (v := (nI (i + 1))) (lv' := [(5, .int (nI (i + 1))), (7, .long (0 + 0)), (6, .int ((g_rro S) ((nI i) : Int32).toNatClampNeg)), (0, .ref (h 0)), (1, .int x1), (2, .int x2), (3, .int x3), (4, .ref (h 11))]) hx hb dR_share_140 hl (k := 7) rfl (nI_1 _) (by decide) rfl (fun ls hl => ?_)
          refine lv_goto (tgt := 48) hx hb dR_share_143 (by decide) ?_
          exact ih (i + 1) x1 x2 x3 (r_rki S (vp_updL (g_rki S) (((g_rro S) ((nI i) : Int32).toNatClampNeg) : Int32).toNatClampNeg 1125899906842624)) _ (by omega) hv _ _ hP hD hS ls (lv_sub hl [3, 4, 5, 6, 7, 0] rfl)
        · rw [if_neg c124] at hv
          refine lv_icmp_ne (tgt := 133) hx hb dR_share_124 (by decide) (fun _ => ?_) (fun z => absurd z c124)
          refine lv_lload hx hb dR_share_133 (lv_at hl 0 rfl) ?_
          refine lv_ldc2 (v := 2) hx hb hown (hts _ uw226) dR_share_135 ?_
          refine lv_ldiv hx hb dR_share_138 (by decide) ?_
          have k139xxxxxxx : ¬ (ob (((g_rro S) ((nI i) : Int32).toNatClampNeg) : Int32) 576) := fun z => by rw [if_pos z] at hv; cases hv
          rw [if_neg k139xxxxxxx] at hv
          refine va_last hx hb hK hP hD hS 11 1 rfl rfl (k139xxxxxxx) dR_share_139 (fun H locs hP hD hS => ?_)
          have hP : va_P D vwCl (wR Y h n (r_rki S (vp_updL (g_rki S) (((g_rro S) ((nI i) : Int32).toNatClampNeg) : Int32).toNatClampNeg ((0 + 0) / 2)))) H := hP
          have hD : va_D A (wR Y h n (r_rki S (vp_updL (g_rki S) (((g_rro S) ((nI i) : Int32).toNatClampNeg) : Int32).toNatClampNeg ((0 + 0) / 2)))) := hD
          refine lv_iinc (v := (nI (i + 1))) (lv' := [(5, .int (nI (i + 1))), (7, .long (0 + 0)), (6, .int ((g_rro S) ((nI i) : Int32).toNatClampNeg)), (0, .ref (h 0)), (1, .int x1), (2, .int x2), (3, .int x3), (4, .ref (h 11))]) hx hb dR_share_140 hl (k := 7) rfl (nI_1 _) (by decide) rfl (fun ls hl => ?_)
          refine lv_goto (tgt := 48) hx hb dR_share_143 (by decide) ?_
          exact ih (i + 1) x1 x2 x3 (r_rki S (vp_updL (g_rki S) (((g_rro S) ((nI i) : Int32).toNatClampNeg) : Int32).toNatClampNeg ((0 + 0) / 2))) _ (by omega) hv _ _ hP hD hS ls (lv_sub hl [3, 4, 5, 6, 7, 0] rfl)
set_option maxHeartbeats 4000000 in
set_option maxRecDepth 100000 in
theorem kR_share (l : Launch) (D : va_G) (Y : Nat → ClassId) (h : Nat → Nat) (n : Nat) (hn : n ≤ 24) (S : vR) (a1 : Int32) (a2 : Int32) (a3 : Int32) (v : Int64 × vR) (hv : (fR_share n S a1 a2 a3) = some v) (sz : Nat) : Met l yR_share wsR_share rmR_share (va_Pc [.ref (h 0), .int a1, .int a2, .int a3] (zPreM D vwCl (tysK Y) (wR Y h n S) sz)) (va_Ql (fun r u => (r, u) = v) (zAt D vwCl (tysK Y) (va_A (wR Y h n S) sz) (wR Y h n)) (va_A (wR Y h n S) sz)) 0 0 (va_A (wR Y h n S) sz) := by
  refine Met.ofW (cc := cR_share) (maxL := 9) (ret := (some .long)) (by decide) rfl ?_
  intro p e s m args below meth c s₁ B hml hvv
  obtain ⟨rfl, hsz, hP, hK, hD0⟩ := hvv
  have hx := B.exec
  have hb := B.bytes
  have hr := B.returns
  have hts : ∀ w ∈ uT, w.before _ s = true := fun w hw => atoms_spec (ws := wsR_share) B.pre w (List.mem_cons_of_mem _ hw)
  have hown : s.vm.findClass RR = some m.cls := findClass_of_methodNamed B.named
  have hlocks := B.notSynchronized
  subst hsz
  have hD := hD0.self (sz := s.heap.size)
  generalize hAe : va_A (wR Y h n S) s.heap.size = A at hD ⊢
  have hA : ∀ q : Nat, s.heap.size ≤ q → A q := fun q h => by rw [← hAe]; exact Or.inr h
  have hS : va_S A s.heap s.heap [] := va_S.rf
  have hl := lv_entry ([.ref (h 0), .int a1, .int a2, .int a3]) (n := 9) (Nat.le_of_ble_eq_true rfl)
  rw [lg_entry_eq]
  generalize (lg_sl ([.ref (h 0), .int a1, .int a2, .int a3]) ++ List.replicate (9 - (lg_sl ([.ref (h 0), .int a1, .int a2, .int a3])).length) Slot.unset).toArray = ls at hl ⊢
  have hl : lv_has ls 9 [(0, .ref (h 0)), (1, .int a1), (2, .int a2), (3, .int a3)] := hl
  unfold fR_share at hv
  show W p l e rmR_share s m _ below meth c s.heap [] 0 0 (zMl D vwCl (tysK Y) A (wR Y h n) below _ s 0 0 v) (F0 m 0 ls [])
  refine lv_aload_n hx hb dR_share_0 rfl (lv_at hl 0 rfl) ?_
  refine lv_iload_n hx hb dR_share_1 rfl (lv_at hl 1 rfl) ?_
  refine qVi (rest := []) ⟨hx, hb, hml, hown, hts⟩ (kR_is l D Y h n hn S a1) (cwV 1 hts (gV uw210 uw211 uw212 uw213 ucR_is) rfl rfl rfl hvR_is ⟨Nat.le_of_ble_eq_true rfl, Nat.le_of_ble_eq_true rfl⟩) hK hP (va_recv hK hP (ci := 3) (q0 := 0) rfl rfl) rfl hl.1 rfl (Nat.le_of_ble_eq_true rfl) dR_share_2 ⟨Nat.le_of_ble_eq_true rfl, Nat.le_of_ble_eq_true rfl⟩ ?_
  by_cases c5 : (fR_is n a1) = 0
  · rw [if_pos c5] at hv
    refine lv_if_eq (tgt := 31) hx hb dR_share_5 (by decide) (fun _ => ?_) (fun z => absurd c5 z)
    refine lv_ldc2 (v := (-1)) hx hb hown (hts _ uw246) dR_share_31 ?_
    cases hv
    exact zMl_ret (u := S) hx hb hr hlocks hK hP hD hS dR_share_34
  · rw [if_neg c5] at hv
    refine lv_if_eq (tgt := 31) hx hb dR_share_5 (by decide) (fun z => absurd z c5) (fun _ => ?_)
    refine lv_aload_n hx hb dR_share_8 rfl (lv_at hl 0 rfl) ?_
    refine lv_iload_n hx hb dR_share_9 rfl (lv_at hl 2 rfl) ?_
    refine qVi (rest := []) ⟨hx, hb, hml, hown, hts⟩ (kR_is l D Y h n hn S a2) (cwV 1 hts (gV uw210 uw211 uw212 uw213 ucR_is) rfl rfl rfl hvR_is ⟨Nat.le_of_ble_eq_true rfl, Nat.le_of_ble_eq_true rfl⟩) hK hP (va_recv hK hP (ci := 3) (q0 := 0) rfl rfl) rfl hl.1 rfl (Nat.le_of_ble_eq_true rfl) dR_share_10 ⟨Nat.le_of_ble_eq_true rfl, Nat.le_of_ble_eq_true rfl⟩ ?_
    by_cases c13 : (fR_is n a2) = 0
    · rw [if_pos c13] at hv
      refine lv_if_eq (tgt := 31) hx hb dR_share_13 (by decide) (fun _ => ?_) (fun z => absurd c13 z)
      refine lv_ldc2 (v := (-1)) hx hb hown (hts _ uw246) dR_share_31 ?_
      cases hv
      exact zMl_ret (u := S) hx hb hr hlocks hK hP hD hS dR_share_34
    · rw [if_neg c13] at hv
      refine lv_if_eq (tgt := 31) hx hb dR_share_13 (by decide) (fun z => absurd z c13) (fun _ => ?_)
      refine lv_aload_n hx hb dR_share_16 rfl (lv_at hl 0 rfl) ?_
      refine lv_iload_n hx hb dR_share_17 rfl (lv_at hl 2 rfl) ?_
      obtain ⟨r18, e18, hv⟩ := bsome hv
      refine qVi (rest := []) ⟨hx, hb, hml, hown, hts⟩ (kR_isFounder l D Y h n hn S a2 r18 e18) (cwV 1 hts (gV uw258 uw259 uw260 uw213 ucR_isFounder) rfl rfl rfl hvR_isFounder ⟨Nat.le_of_ble_eq_true rfl, Nat.le_of_ble_eq_true rfl⟩) hK hP (va_recv hK hP (ci := 3) (q0 := 0) rfl rfl) rfl hl.1 rfl (Nat.le_of_ble_eq_true rfl) dR_share_18 ⟨Nat.le_of_ble_eq_true rfl, Nat.le_of_ble_eq_true rfl⟩ ?_
      by_cases c21 : r18 = 0
      · rw [if_pos c21] at hv
        refine lv_if_eq (tgt := 31) hx hb dR_share_21 (by decide) (fun _ => ?_) (fun z => absurd c21 z)
        refine lv_ldc2 (v := (-1)) hx hb hown (hts _ uw246) dR_share_31 ?_
        cases hv
        exact zMl_ret (u := S) hx hb hr hlocks hK hP hD hS dR_share_34
      · rw [if_neg c21] at hv
        refine lv_if_eq (tgt := 31) hx hb dR_share_21 (by decide) (fun z => absurd z c21) (fun _ => ?_)
        refine lv_iload_n hx hb dR_share_24 rfl (lv_at hl 3 rfl) ?_
        refine qSi (rest := []) ⟨hx, hb, hml, hown, hts⟩ (kR_isPart l D Y a3) (va_cwS 1 hts (gS uw247 uw248 uw213 ucR_isPart) rfl rfl rfl hsR_isPart ⟨Nat.le_of_ble_eq_true rfl, Nat.le_of_ble_eq_true rfl⟩) hK (zsub [] hP rfl) rfl hl.1 rfl (Nat.le_of_ble_eq_true rfl) dR_share_25 ⟨Nat.le_of_ble_eq_true rfl, Nat.le_of_ble_eq_true rfl⟩ ?_
        by_cases c28 : (fR_isPart a3) = 0
        · rw [if_pos c28] at hv
          refine lv_if_ne (tgt := 35) hx hb dR_share_28 (by decide) (fun z => absurd c28 z) (fun _ => ?_)
          refine lv_ldc2 (v := (-1)) hx hb hown (hts _ uw246) dR_share_31 ?_
          cases hv
          exact zMl_ret (u := S) hx hb hr hlocks hK hP hD hS dR_share_34
        · rw [if_neg c28] at hv
          refine lv_if_ne (tgt := 35) hx hb dR_share_28 (by decide) (fun _ => ?_) (fun z => absurd z c28)
          refine lv_aload_n hx hb dR_share_35 rfl (lv_at hl 0 rfl) ?_
          obtain ⟨r36, e36, hv⟩ := bsome hv
          refine qNVv (w := wR Y h n) (rest := []) ⟨hx, hb, hml, hown, hts⟩ (kR_find l D Y h n hn S r36 e36 _) (cwV 0 hts (gV uw220 uw221 uw222 uw213 ucR_find) rfl rfl rfl hvR_find ⟨Nat.le_of_ble_eq_true rfl, Nat.le_of_ble_eq_true rfl⟩) hK hP hD hS hA (va_recv hK hP (ci := 3) (q0 := 0) rfl rfl) rfl hl.1 rfl (Nat.le_of_ble_eq_true rfl) dR_share_36 ⟨Nat.le_of_ble_eq_true rfl, Nat.le_of_ble_eq_true rfl⟩ (fun H locs hP hD hS => ?_)
          refine lv_aload_n hx hb dR_share_39 rfl (lv_at hl 0 rfl) ?_
          refine va_get (D := D) (ci := 3) (v := .ref (h 11)) (C := RR) (T := TR) (N := 13) hx hb hts hinR hown hK hP 0 rfl rfl 12 (by decide) (hts _ uw214) (fun _ h9 => h9) rfl dR_share_40 ?_
          refine lv_astore (lv' := [(4, .ref (h 11)), (0, .ref (h 0)), (1, .int a1), (2, .int a2), (3, .int a3)]) hx hb dR_share_43 hl (by decide) rfl (fun ls hl => ?_)
          refine lv_iconst (v := 0) hx hb dR_share_45 (by decide) ?_
          refine lv_istore (lv' := [(5, .int 0), (4, .ref (h 11)), (0, .ref (h 0)), (1, .int a1), (2, .int a2), (3, .int a3)]) hx hb dR_share_46 hl (by decide) rfl (fun ls hl => ?_)
          exact tR_share_48 hn hA ⟨hx, hb, hml, hown, hts⟩ hr hlocks hK n 0 a1 a2 a3 r36 _ (by omega) hv _ _ hP hD hS ls (lv_sub hl [2, 3, 4, 5, 1, 0] rfl)
abbrev rmR_isForbear : Room := { frames := 1, cells := 0, slots := 0, locals := 26 }
set_option maxHeartbeats 4000000 in
set_option maxRecDepth 100000 in
theorem kR_isForbear (l : Launch) (D : va_G) (Y : Nat → ClassId) (h : Nat → Nat) (n : Nat) (hn : n ≤ 24) (S : vR) (a1 : Int32) (a2 : Int32) (v : Int32 × vR) (hv : (fR_isForbear n S a1 a2) = some v) (sz : Nat) : Met l yR_isForbear wsR_isForbear rmR_isForbear (va_Pc [.ref (h 0), .int a1, .int a2] (zPreM D vwCl (tysK Y) (wR Y h n S) sz)) (va_Qi (fun r u => (r, u) = v) (zAt D vwCl (tysK Y) (va_A (wR Y h n S) sz) (wR Y h n)) (va_A (wR Y h n S) sz)) 0 0 (va_A (wR Y h n S) sz) := by
  refine Met.ofW (cc := cR_isForbear) (maxL := 3) (ret := (some .boolean)) (by decide) rfl ?_
  intro p e s m args below meth c s₁ B hml hvv
  obtain ⟨rfl, hsz, hP, hK, hD0⟩ := hvv
  have hx := B.exec
  have hb := B.bytes
  have hr := B.returns
  have hts : ∀ w ∈ uT, w.before _ s = true := fun w hw => atoms_spec (ws := wsR_isForbear) B.pre w (List.mem_cons_of_mem _ hw)
  have hown : s.vm.findClass RR = some m.cls := findClass_of_methodNamed B.named
  have hlocks := B.notSynchronized
  subst hsz
  have hD := hD0.self (sz := s.heap.size)
  generalize hAe : va_A (wR Y h n S) s.heap.size = A at hD ⊢
  have hA : ∀ q : Nat, s.heap.size ≤ q → A q := fun q h => by rw [← hAe]; exact Or.inr h
  have hS : va_S A s.heap s.heap [] := va_S.rf
  have hl := lv_entry ([.ref (h 0), .int a1, .int a2]) (n := 3) (Nat.le_of_ble_eq_true rfl)
  rw [lg_entry_eq]
  generalize (lg_sl ([.ref (h 0), .int a1, .int a2]) ++ List.replicate (3 - (lg_sl ([.ref (h 0), .int a1, .int a2])).length) Slot.unset).toArray = ls at hl ⊢
  have hl : lv_has ls 3 [(0, .ref (h 0)), (1, .int a1), (2, .int a2)] := hl
  unfold fR_isForbear at hv
  show W p l e rmR_isForbear s m _ below meth c s.heap [] 0 0 (zMi D vwCl (tysK Y) A (wR Y h n) below _ s 0 0 v) (F0 m 0 ls [])
  refine lv_aload_n hx hb dR_isForbear_0 rfl (lv_at hl 0 rfl) ?_
  refine lv_iload_n hx hb dR_isForbear_1 rfl (lv_at hl 1 rfl) ?_
  refine qVi (rest := []) ⟨hx, hb, hml, hown, hts⟩ (kR_is l D Y h n hn S a1) (cwV 1 hts (gV uw210 uw211 uw212 uw213 ucR_is) rfl rfl rfl hvR_is ⟨Nat.le_of_ble_eq_true rfl, Nat.le_of_ble_eq_true rfl⟩) hK hP (va_recv hK hP (ci := 3) (q0 := 0) rfl rfl) rfl hl.1 rfl (Nat.le_of_ble_eq_true rfl) dR_isForbear_2 ⟨Nat.le_of_ble_eq_true rfl, Nat.le_of_ble_eq_true rfl⟩ ?_
  by_cases c5 : (fR_is n a1) = 0
  · rw [if_pos c5] at hv
    refine lv_if_eq (tgt := 16) hx hb dR_isForbear_5 (by decide) (fun _ => ?_) (fun z => absurd c5 z)
    refine lv_iconst (v := 0) hx hb dR_isForbear_16 (by decide) ?_
    cases hv
    exact zMb_ret (u := S) hx hb hr hlocks hK hP hD hS (Or.inl rfl) dR_isForbear_17
  · rw [if_neg c5] at hv
    refine lv_if_eq (tgt := 16) hx hb dR_isForbear_5 (by decide) (fun z => absurd z c5) (fun _ => ?_)
    refine lv_aload_n hx hb dR_isForbear_8 rfl (lv_at hl 0 rfl) ?_
    refine lv_iload_n hx hb dR_isForbear_9 rfl (lv_at hl 2 rfl) ?_
    refine qVi (rest := []) ⟨hx, hb, hml, hown, hts⟩ (kR_is l D Y h n hn S a2) (cwV 1 hts (gV uw210 uw211 uw212 uw213 ucR_is) rfl rfl rfl hvR_is ⟨Nat.le_of_ble_eq_true rfl, Nat.le_of_ble_eq_true rfl⟩) hK hP (va_recv hK hP (ci := 3) (q0 := 0) rfl rfl) rfl hl.1 rfl (Nat.le_of_ble_eq_true rfl) dR_isForbear_10 ⟨Nat.le_of_ble_eq_true rfl, Nat.le_of_ble_eq_true rfl⟩ ?_
    by_cases c13 : (fR_is n a2) = 0
    · rw [if_pos c13] at hv
      refine lv_if_ne (tgt := 18) hx hb dR_isForbear_13 (by decide) (fun z => absurd c13 z) (fun _ => ?_)
      refine lv_iconst (v := 0) hx hb dR_isForbear_16 (by decide) ?_
      cases hv
      exact zMb_ret (u := S) hx hb hr hlocks hK hP hD hS (Or.inl rfl) dR_isForbear_17
    · rw [if_neg c13] at hv
      refine lv_if_ne (tgt := 18) hx hb dR_isForbear_13 (by decide) (fun _ => ?_) (fun z => absurd z c13)
      refine lv_aload_n hx hb dR_isForbear_18 rfl (lv_at hl 0 rfl) ?_
      obtain ⟨r19, e19, hv⟩ := bsome hv
      refine qNVv (w := wR Y h n) (rest := []) ⟨hx, hb, hml, hown, hts⟩ (kR_find l D Y h n hn S r19 e19 _) (cwV 0 hts (gV uw220 uw221 uw222 uw213 ucR_find) rfl rfl rfl hvR_find ⟨Nat.le_of_ble_eq_true rfl, Nat.le_of_ble_eq_true rfl⟩) hK hP hD hS hA (va_recv hK hP (ci := 3) (q0 := 0) rfl rfl) rfl hl.1 rfl (Nat.le_of_ble_eq_true rfl) dR_isForbear_19 ⟨Nat.le_of_ble_eq_true rfl, Nat.le_of_ble_eq_true rfl⟩ (fun H locs hP hD hS => ?_)
      refine lv_aload_n hx hb dR_isForbear_22 rfl (lv_at hl 0 rfl) ?_
      refine va_get (D := D) (ci := 3) (v := .ref (h 8)) (C := RR) (T := TR) (N := 13) hx hb hts hinR hown hK hP 0 rfl rfl 9 (by decide) (hts _ uw215) (fun _ h9 => h9) rfl dR_isForbear_23 ?_
      refine lv_bipush (v := 24) hx hb dR_isForbear_26 (by decide) ?_
      refine lv_iload_n hx hb dR_isForbear_28 rfl (lv_at hl 1 rfl) ?_
      refine lv_imul hx hb dR_isForbear_29 ?_
      refine lv_iload_n hx hb dR_isForbear_30 rfl (lv_at hl 2 rfl) ?_
      refine lv_iadd hx hb dR_isForbear_31 ?_
      have k32 : ¬ (ob (((24 * a1) + a2) : Int32) 576) := fun z => by rw [if_pos z] at hv; cases hv
      rw [if_neg k32] at hv
      refine va_zald hx hb hK hP 8 2 rfl rfl (k32) dR_isForbear_32 ?_
      have kb : ((g_rab r19) (((24 * a1) + a2) : Int32).toNatClampNeg) = 0 ∨ ((g_rab r19) (((24 * a1) + a2) : Int32).toNatClampNeg) = 1 := Decidable.byContradiction (fun z => by rw [if_neg z] at hv; cases hv)
      rw [if_pos kb] at hv
      cases hv
      exact zMb_ret (u := r19) hx hb hr hlocks hK hP hD hS (kb) dR_isForbear_33
abbrev rmR_order : Room := { frames := 1, cells := 0, slots := 0, locals := 26 }
set_option maxHeartbeats 4000000 in
set_option maxRecDepth 100000 in
theorem kR_order (l : Launch) (D : va_G) (Y : Nat → ClassId) (h : Nat → Nat) (n : Nat) (hn : n ≤ 24) (S : vR) (a1 : Int32) (v : Int32 × vR) (hv : (fR_order n S a1) = some v) (sz : Nat) : Met l yR_order wsR_order rmR_order (va_Pc [.ref (h 0), .int a1] (zPreM D vwCl (tysK Y) (wR Y h n S) sz)) (va_Qi (fun r u => (r, u) = v) (zAt D vwCl (tysK Y) (va_A (wR Y h n S) sz) (wR Y h n)) (va_A (wR Y h n S) sz)) 0 0 (va_A (wR Y h n S) sz) := by
  refine Met.ofW (cc := cR_order) (maxL := 2) (ret := (some .int)) (by decide) rfl ?_
  intro p e s m args below meth c s₁ B hml hvv
  obtain ⟨rfl, hsz, hP, hK, hD0⟩ := hvv
  have hx := B.exec
  have hb := B.bytes
  have hr := B.returns
  have hts : ∀ w ∈ uT, w.before _ s = true := fun w hw => atoms_spec (ws := wsR_order) B.pre w (List.mem_cons_of_mem _ hw)
  have hown : s.vm.findClass RR = some m.cls := findClass_of_methodNamed B.named
  have hlocks := B.notSynchronized
  subst hsz
  have hD := hD0.self (sz := s.heap.size)
  generalize hAe : va_A (wR Y h n S) s.heap.size = A at hD ⊢
  have hA : ∀ q : Nat, s.heap.size ≤ q → A q := fun q h => by rw [← hAe]; exact Or.inr h
  have hS : va_S A s.heap s.heap [] := va_S.rf
  have hl := lv_entry ([.ref (h 0), .int a1]) (n := 2) (Nat.le_of_ble_eq_true rfl)
  rw [lg_entry_eq]
  generalize (lg_sl ([.ref (h 0), .int a1]) ++ List.replicate (2 - (lg_sl ([.ref (h 0), .int a1])).length) Slot.unset).toArray = ls at hl ⊢
  have hl : lv_has ls 2 [(0, .ref (h 0)), (1, .int a1)] := hl
  unfold fR_order at hv
  show W p l e rmR_order s m _ below meth c s.heap [] 0 0 (zMi D vwCl (tysK Y) A (wR Y h n) below _ s 0 0 v) (F0 m 0 ls [])
  refine lv_iload_n hx hb dR_order_0 rfl (lv_at hl 1 rfl) ?_
  by_cases c1 : a1 < 0
  · rw [if_pos c1] at hv
    refine lv_if_lt (tgt := 12) hx hb dR_order_1 (by decide) (fun _ => ?_) (fun z => absurd c1 z)
    refine lv_iconst (v := (-1)) hx hb dR_order_12 (by decide) ?_
    cases hv
    exact zMi_ret (u := S) hx hb hr hlocks hK hP hD hS dR_order_13
  · rw [if_neg c1] at hv
    refine lv_if_lt (tgt := 12) hx hb dR_order_1 (by decide) (fun z => absurd z c1) (fun _ => ?_)
    refine lv_iload_n hx hb dR_order_4 rfl (lv_at hl 1 rfl) ?_
    refine lv_aload_n hx hb dR_order_5 rfl (lv_at hl 0 rfl) ?_
    refine va_get (D := D) (ci := 3) (v := .int (nI n)) (C := RR) (T := TR) (N := 13) hx hb hts hinR hown hK hP 0 rfl rfl 0 (by decide) (hts _ uw209) (fun _ h9 => h9) rfl dR_order_6 ?_
    by_cases c9 : a1 < (nI n)
    · rw [if_pos c9] at hv
      refine lv_icmp_lt (tgt := 14) hx hb dR_order_9 (by decide) (fun _ => ?_) (fun z => absurd c9 z)
      refine lv_aload_n hx hb dR_order_14 rfl (lv_at hl 0 rfl) ?_
      obtain ⟨r15, e15, hv⟩ := bsome hv
      refine qNVv (w := wR Y h n) (rest := []) ⟨hx, hb, hml, hown, hts⟩ (kR_find l D Y h n hn S r15 e15 _) (cwV 0 hts (gV uw220 uw221 uw222 uw213 ucR_find) rfl rfl rfl hvR_find ⟨Nat.le_of_ble_eq_true rfl, Nat.le_of_ble_eq_true rfl⟩) hK hP hD hS hA (va_recv hK hP (ci := 3) (q0 := 0) rfl rfl) rfl hl.1 rfl (Nat.le_of_ble_eq_true rfl) dR_order_15 ⟨Nat.le_of_ble_eq_true rfl, Nat.le_of_ble_eq_true rfl⟩ (fun H locs hP hD hS => ?_)
      refine lv_aload_n hx hb dR_order_18 rfl (lv_at hl 0 rfl) ?_
      refine va_get (D := D) (ci := 3) (v := .ref (h 10)) (C := RR) (T := TR) (N := 13) hx hb hts hinR hown hK hP 0 rfl rfl 11 (by decide) (hts _ uw219) (fun _ h9 => h9) rfl dR_order_19 ?_
      refine lv_iload_n hx hb dR_order_22 rfl (lv_at hl 1 rfl) ?_
      have k23 : ¬ (ob (a1 : Int32) 24) := fun z => by rw [if_pos z] at hv; cases hv
      rw [if_neg k23] at hv
      refine va_iald hx hb hK hP 10 0 rfl rfl (k23) dR_order_23 ?_
      cases hv
      exact zMi_ret (u := r15) hx hb hr hlocks hK hP hD hS dR_order_24
    · rw [if_neg c9] at hv
      refine lv_icmp_lt (tgt := 14) hx hb dR_order_9 (by decide) (fun z => absurd z c9) (fun _ => ?_)
      refine lv_iconst (v := (-1)) hx hb dR_order_12 (by decide) ?_
      cases hv
      exact zMi_ret (u := S) hx hb hr hlocks hK hP hD hS dR_order_13
abbrev rmR_mark : Room := { frames := 1, cells := 0, slots := 0, locals := 21 }
set_option maxHeartbeats 4000000 in
set_option maxRecDepth 100000 in
theorem kR_mark (l : Launch) (D : va_G) (Y : Nat → ClassId) (h : Nat → Nat) (n : Nat) (hn : n ≤ 24) (S : vR) (a1 : Int32) (a2 : Int32) (a3 : Int32) (v : Int32 × vR) (hv : (fR_mark n S a1 a2 a3) = some v) (sz : Nat) : Met l yR_mark wsR_mark rmR_mark (va_Pc [.ref (h 0), .int a1, .int a2, .int a3] (zPreM D vwCl (tysK Y) (wR Y h n S) sz)) (va_Qi (fun r u => (r, u) = v) (zAt D vwCl (tysK Y) (va_A (wR Y h n S) sz) (wR Y h n)) (va_A (wR Y h n S) sz)) 0 0 (va_A (wR Y h n S) sz) := by
  refine Met.ofW (cc := cR_mark) (maxL := 4) (ret := (some .boolean)) (by decide) rfl ?_
  intro p e s m args below meth c s₁ B hml hvv
  obtain ⟨rfl, hsz, hP, hK, hD0⟩ := hvv
  have hx := B.exec
  have hb := B.bytes
  have hr := B.returns
  have hts : ∀ w ∈ uT, w.before _ s = true := fun w hw => atoms_spec (ws := wsR_mark) B.pre w (List.mem_cons_of_mem _ hw)
  have hown : s.vm.findClass RR = some m.cls := findClass_of_methodNamed B.named
  have hlocks := B.notSynchronized
  subst hsz
  have hD := hD0.self (sz := s.heap.size)
  generalize hAe : va_A (wR Y h n S) s.heap.size = A at hD ⊢
  have hA : ∀ q : Nat, s.heap.size ≤ q → A q := fun q h => by rw [← hAe]; exact Or.inr h
  have hS : va_S A s.heap s.heap [] := va_S.rf
  have hl := lv_entry ([.ref (h 0), .int a1, .int a2, .int a3]) (n := 4) (Nat.le_of_ble_eq_true rfl)
  rw [lg_entry_eq]
  generalize (lg_sl ([.ref (h 0), .int a1, .int a2, .int a3]) ++ List.replicate (4 - (lg_sl ([.ref (h 0), .int a1, .int a2, .int a3])).length) Slot.unset).toArray = ls at hl ⊢
  have hl : lv_has ls 4 [(0, .ref (h 0)), (1, .int a1), (2, .int a2), (3, .int a3)] := hl
  unfold fR_mark at hv
  show W p l e rmR_mark s m _ below meth c s.heap [] 0 0 (zMi D vwCl (tysK Y) A (wR Y h n) below _ s 0 0 v) (F0 m 0 ls [])
  refine lv_aload_n hx hb dR_mark_0 rfl (lv_at hl 0 rfl) ?_
  refine lv_iload_n hx hb dR_mark_1 rfl (lv_at hl 1 rfl) ?_
  refine qVi (rest := []) ⟨hx, hb, hml, hown, hts⟩ (kR_is l D Y h n hn S a1) (cwV 1 hts (gV uw210 uw211 uw212 uw213 ucR_is) rfl rfl rfl hvR_is ⟨Nat.le_of_ble_eq_true rfl, Nat.le_of_ble_eq_true rfl⟩) hK hP (va_recv hK hP (ci := 3) (q0 := 0) rfl rfl) rfl hl.1 rfl (Nat.le_of_ble_eq_true rfl) dR_mark_2 ⟨Nat.le_of_ble_eq_true rfl, Nat.le_of_ble_eq_true rfl⟩ ?_
  by_cases c5 : (fR_is n a1) = 0
  · rw [if_pos c5] at hv
    refine lv_if_eq (tgt := 27) hx hb dR_mark_5 (by decide) (fun _ => ?_) (fun z => absurd c5 z)
    refine lv_iconst (v := 0) hx hb dR_mark_27 (by decide) ?_
    cases hv
    exact zMb_ret (u := S) hx hb hr hlocks hK hP hD hS (Or.inl rfl) dR_mark_28
  · rw [if_neg c5] at hv
    refine lv_if_eq (tgt := 27) hx hb dR_mark_5 (by decide) (fun z => absurd z c5) (fun _ => ?_)
    refine lv_iload_n hx hb dR_mark_8 rfl (lv_at hl 2 rfl) ?_
    by_cases c9 : a2 < 0
    · rw [if_pos c9] at hv
      refine lv_if_lt (tgt := 27) hx hb dR_mark_9 (by decide) (fun _ => ?_) (fun z => absurd c9 z)
      refine lv_iconst (v := 0) hx hb dR_mark_27 (by decide) ?_
      cases hv
      exact zMb_ret (u := S) hx hb hr hlocks hK hP hD hS (Or.inl rfl) dR_mark_28
    · rw [if_neg c9] at hv
      refine lv_if_lt (tgt := 27) hx hb dR_mark_9 (by decide) (fun z => absurd z c9) (fun _ => ?_)
      refine lv_iload_n hx hb dR_mark_12 rfl (lv_at hl 2 rfl) ?_
      refine lv_iconst (v := 3) hx hb dR_mark_13 (by decide) ?_
      by_cases c14 : 3 < a2
      · rw [if_pos c14] at hv
        refine lv_icmp_gt (tgt := 27) hx hb dR_mark_14 (by decide) (fun _ => ?_) (fun z => absurd c14 z)
        refine lv_iconst (v := 0) hx hb dR_mark_27 (by decide) ?_
        cases hv
        exact zMb_ret (u := S) hx hb hr hlocks hK hP hD hS (Or.inl rfl) dR_mark_28
      · rw [if_neg c14] at hv
        refine lv_icmp_gt (tgt := 27) hx hb dR_mark_14 (by decide) (fun z => absurd z c14) (fun _ => ?_)
        refine lv_iload_n hx hb dR_mark_17 rfl (lv_at hl 3 rfl) ?_
        refine lv_iconst (v := (-1)) hx hb dR_mark_18 (by decide) ?_
        by_cases c19 : a3 < (-1)
        · rw [if_pos c19] at hv
          refine lv_icmp_lt (tgt := 27) hx hb dR_mark_19 (by decide) (fun _ => ?_) (fun z => absurd c19 z)
          refine lv_iconst (v := 0) hx hb dR_mark_27 (by decide) ?_
          cases hv
          exact zMb_ret (u := S) hx hb hr hlocks hK hP hD hS (Or.inl rfl) dR_mark_28
        · rw [if_neg c19] at hv
          refine lv_icmp_lt (tgt := 27) hx hb dR_mark_19 (by decide) (fun z => absurd z c19) (fun _ => ?_)
          refine lv_iload_n hx hb dR_mark_22 rfl (lv_at hl 3 rfl) ?_
          refine lv_iconst (v := 2) hx hb dR_mark_23 (by decide) ?_
          by_cases c24 : a3 ≤ 2
          · rw [if_pos c24] at hv
            refine lv_icmp_le (tgt := 29) hx hb dR_mark_24 (by decide) (fun _ => ?_) (fun z => absurd c24 z)
            refine lv_aload_n hx hb dR_mark_29 rfl (lv_at hl 0 rfl) ?_
            refine va_get (D := D) (ci := 3) (v := .ref (h 6)) (C := RR) (T := TR) (N := 13) hx hb hts hinR hown hK hP 0 rfl rfl 6 (by decide) (hts _ uw261) (fun _ h9 => h9) rfl dR_mark_30 ?_
            refine lv_iconst (v := 4) hx hb dR_mark_33 (by decide) ?_
            refine lv_iload_n hx hb dR_mark_34 rfl (lv_at hl 1 rfl) ?_
            refine lv_imul hx hb dR_mark_35 ?_
            refine lv_iload_n hx hb dR_mark_36 rfl (lv_at hl 2 rfl) ?_
            refine lv_iadd hx hb dR_mark_37 ?_
            refine lv_iload_n hx hb dR_mark_38 rfl (lv_at hl 3 rfl) ?_
            have k39 : ¬ (ob (((4 * a1) + a2) : Int32) 96) := fun z => by rw [if_pos z] at hv; cases hv
            rw [if_neg k39] at hv
            refine va_iast hx hb hK hP hD hS 6 0 rfl rfl (k39) dR_mark_39 (fun H locs hP hD hS => ?_)
            have hP : va_P D vwCl (wR Y h n (r_rfo S (upd (g_rfo S) (((4 * a1) + a2) : Int32).toNatClampNeg a3))) H := hP
            have hD : va_D A (wR Y h n (r_rfo S (upd (g_rfo S) (((4 * a1) + a2) : Int32).toNatClampNeg a3))) := hD
            refine lv_iconst (v := 1) hx hb dR_mark_40 (by decide) ?_
            cases hv
            exact zMb_ret (u := (r_rfo S (upd (g_rfo S) (((4 * a1) + a2) : Int32).toNatClampNeg a3))) hx hb hr hlocks hK hP hD hS (Or.inr rfl) dR_mark_41
          · rw [if_neg c24] at hv
            refine lv_icmp_le (tgt := 29) hx hb dR_mark_24 (by decide) (fun z => absurd z c24) (fun _ => ?_)
            refine lv_iconst (v := 0) hx hb dR_mark_27 (by decide) ?_
            cases hv
            exact zMb_ret (u := S) hx hb hr hlocks hK hP hD hS (Or.inl rfl) dR_mark_28
abbrev rmR_isLeftOut : Room := { frames := 0, cells := 0, slots := 0, locals := 0 }
set_option maxHeartbeats 4000000 in
set_option maxRecDepth 100000 in
theorem tR_isLeftOut_2 {p : Program} {l : Launch} {e : Env} {s : State} {m : MethodId} {args : Array Value} {below : List Frame} {meth : Method} {c : Code} {D : va_G} {Y : Nat → ClassId} {h : Nat → Nat} {n : Nat} (hn : n ≤ 24) {S : vR} (CF : CallFix p m c cR_isLeftOut 6 s args uT RR) (hr : meth.sig.returnType = (some .boolean)) (hlocks : meth.locks = false) (hK : va_K D vwCl (tysK Y) s) (hP : va_P D vwCl (wR Y h n S) s.heap) : ∀ (k : Nat) (i : Nat) (x1 : Int32) (x2 : Int32) (v : Int32), i + k = 4 → (fR_isLeftOut_2 n S k i x1 x2) = some v → ∀ ls : Array Slot, lv_has ls 6 [(0, .ref (h 0)), (1, .int x1), (2, .int x2), (3, .int (nI i))] → W p l e rmR_isLeftOut s m args below meth c s.heap [] 0 0 (zI below args s v) (F0 m 2 ls []) := by
  obtain ⟨hx, hb, hml, hown, hts⟩ := CF
  intro k
  induction k with
  | zero =>
    intro i x1 x2 v hi hv ls hl
    rw [fR_isLeftOut_2] at hv
    refine lv_iload_n hx hb dR_isLeftOut_2 rfl (lv_at hl 3 rfl) ?_
    refine lv_iconst (v := 4) hx hb dR_isLeftOut_3 (by decide) ?_
    refine lv_icmp_ge (tgt := 61) hx hb dR_isLeftOut_4 (by decide) (fun _ => ?_) (fun z => absurd (lp_ge (n := 4) hi) z)
    refine lv_iconst (v := 0) hx hb dR_isLeftOut_61 (by decide) ?_
    cases hv
    exact zB_ret hx hb hr hlocks (Or.inl rfl) dR_isLeftOut_62
  | succ k ih =>
    intro i x1 x2 v hi hv ls hl
    rw [fR_isLeftOut_2] at hv
    refine lv_iload_n hx hb dR_isLeftOut_2 rfl (lv_at hl 3 rfl) ?_
    refine lv_iconst (v := 4) hx hb dR_isLeftOut_3 (by decide) ?_
    refine lv_icmp_ge (tgt := 61) hx hb dR_isLeftOut_4 (by decide) (fun z => absurd z (lp_lt (n := 4) hi (by omega))) (fun _ => ?_)
    refine lv_aload_n hx hb dR_isLeftOut_7 rfl (lv_at hl 0 rfl) ?_
    refine va_get (D := D) (ci := 3) (v := .ref (h 6)) (C := RR) (T := TR) (N := 13) hx hb hts hinR hown hK hP 0 rfl rfl 6 (by decide) (hts _ uw261) (fun _ h9 => h9) rfl dR_isLeftOut_8 ?_
    refine lv_iconst (v := 4) hx hb dR_isLeftOut_11 (by decide) ?_
    refine lv_iload_n hx hb dR_isLeftOut_12 rfl (lv_at hl 1 rfl) ?_
    refine lv_imul hx hb dR_isLeftOut_13 ?_
    refine lv_iload_n hx hb dR_isLeftOut_14 rfl (lv_at hl 3 rfl) ?_
    refine lv_iadd hx hb dR_isLeftOut_15 ?_
    have k16 : ¬ (ob (((4 * x1) + (nI i)) : Int32) 96) := fun z => by rw [if_pos z] at hv; cases hv
    rw [if_neg k16] at hv
    refine va_iald hx hb hK hP 6 0 rfl rfl (k16) dR_isLeftOut_16 ?_
    refine lv_istore (lv' := [(4, .int ((g_rfo S) (((4 * x1) + (nI i)) : Int32).toNatClampNeg)), (0, .ref (h 0)), (1, .int x1), (2, .int x2), (3, .int (nI i))]) hx hb dR_isLeftOut_17 hl (by decide) rfl (fun ls hl => ?_)
    refine lv_aload_n hx hb dR_isLeftOut_19 rfl (lv_at hl 1 rfl) ?_
    refine va_get (D := D) (ci := 3) (v := .ref (h 6)) (C := RR) (T := TR) (N := 13) hx hb hts hinR hown hK hP 0 rfl rfl 6 (by decide) (hts _ uw261) (fun _ h9 => h9) rfl dR_isLeftOut_20 ?_
    refine lv_iconst (v := 4) hx hb dR_isLeftOut_23 (by decide) ?_
    refine lv_iload_n hx hb dR_isLeftOut_24 rfl (lv_at hl 3 rfl) ?_
    refine lv_imul hx hb dR_isLeftOut_25 ?_
    refine lv_iload_n hx hb dR_isLeftOut_26 rfl (lv_at hl 4 rfl) ?_
    refine lv_iadd hx hb dR_isLeftOut_27 ?_
    have k28 : ¬ (ob (((4 * x2) + (nI i)) : Int32) 96) := fun z => by rw [if_pos z] at hv; cases hv
    rw [if_neg k28] at hv
    refine va_iald hx hb hK hP 6 0 rfl rfl (k28) dR_isLeftOut_28 ?_
    refine lv_istore (lv' := [(5, .int ((g_rfo S) (((4 * x2) + (nI i)) : Int32).toNatClampNeg)), (4, .int ((g_rfo S) (((4 * x1) + (nI i)) : Int32).toNatClampNeg)), (0, .ref (h 0)), (1, .int x1), (2, .int x2), (3, .int (nI i))]) hx hb dR_isLeftOut_29 hl (by decide) rfl (fun ls hl => ?_)
    refine lv_iload hx hb dR_isLeftOut_31 (lv_at hl 1 rfl) ?_
    by_cases c33 : ((g_rfo S) (((4 * x1) + (nI i)) : Int32).toNatClampNeg) = 0
    · rw [if_pos c33] at hv
      refine lv_if_ne (tgt := 42) hx hb dR_isLeftOut_33 (by decide) (fun z => absurd c33 z) (fun _ => ?_)
      refine lv_iload hx hb dR_isLeftOut_36 (lv_at hl 0 rfl) ?_
      refine lv_iconst (v := 2) hx hb dR_isLeftOut_38 (by decide) ?_
      by_cases c39 : ((g_rfo S) (((4 * x2) + (nI i)) : Int32).toNatClampNeg) = 2
      · rw [if_pos c39] at hv
        refine lv_icmp_eq (tgt := 53) hx hb dR_isLeftOut_39 (by decide) (fun _ => ?_) (fun z => absurd c39 z)
        refine lv_iconst (v := 1) hx hb dR_isLeftOut_53 (by decide) ?_
        cases hv
        exact zB_ret hx hb hr hlocks (Or.inr rfl) dR_isLeftOut_54
      · rw [if_neg c39] at hv
        refine lv_icmp_eq (tgt := 53) hx hb dR_isLeftOut_39 (by decide) (fun z => absurd z c39) (fun _ => ?_)
        refine lv_iload hx hb dR_isLeftOut_42 (lv_at hl 1 rfl) ?_
        refine lv_iconst (v := 2) hx hb dR_isLeftOut_44 (by decide) ?_
        by_cases c45 : ((g_rfo S) (((4 * x1) + (nI i)) : Int32).toNatClampNeg) = 2
        · rw [if_pos c45] at hv
          refine lv_icmp_ne (tgt := 55) hx hb dR_isLeftOut_45 (by decide) (fun z => absurd c45 z) (fun _ => ?_)
          refine lv_iload hx hb dR_isLeftOut_48 (lv_at hl 0 rfl) ?_
          by_cases c50 : ((g_rfo S) (((4 * x2) + (nI i)) : Int32).toNatClampNeg) = 0
          · rw [if_pos c50] at hv
            refine lv_if_ne (tgt := 55) hx hb dR_isLeftOut_50 (by decide) (fun z => absurd c50 z) (fun _ => ?_)
            refine lv_iconst (v := 1) hx hb dR_isLeftOut_53 (by decide) ?_
            cases hv
            exact zB_ret hx hb hr hlocks (Or.inr rfl) dR_isLeftOut_54
          · rw [if_neg c50] at hv
            refine lv_if_ne (tgt := 55) hx hb dR_isLeftOut_50 (by decide) (fun _ => ?_) (fun z => absurd z c50)
            refine lv_iinc (v := (nI (i + 1))) (lv' := [(3, .int (nI (i + 1))), (5, .int ((g_rfo S) (((4 * x2) + (nI i)) : Int32).toNatClampNeg)), (4, .int ((g_rfo S) (((4 * x1) + (nI i)) : Int32).toNatClampNeg)), (0, .ref (h 0)), (1, .int x1), (2, .int x2)]) hx hb dR_isLeftOut_55 hl (k := 5) rfl (nI_1 _) (by decide) rfl (fun ls hl => ?_)
            refine lv_goto (tgt := 2) hx hb dR_isLeftOut_58 (by decide) ?_
            exact ih (i + 1) x1 x2 _ (by omega) hv ls (lv_sub hl [3, 4, 5, 0] rfl)
        · rw [if_neg c45] at hv
          refine lv_icmp_ne (tgt := 55) hx hb dR_isLeftOut_45 (by decide) (fun _ => ?_) (fun z => absurd z c45)
          refine lv_iinc (v := (nI (i + 1))) (lv' := [(3, .int (nI (i + 1))), (5, .int ((g_rfo S) (((4 * x2) + (nI i)) : Int32).toNatClampNeg)), (4, .int ((g_rfo S) (((4 * x1) + (nI i)) : Int32).toNatClampNeg)), (0, .ref (h 0)), (1, .int x1), (2, .int x2)]) hx hb dR_isLeftOut_55 hl (k := 5) rfl (nI_1 _) (by decide) rfl (fun ls hl => ?_)
          refine lv_goto (tgt := 2) hx hb dR_isLeftOut_58 (by decide) ?_
          exact ih (i + 1) x1 x2 _ (by omega) hv ls (lv_sub hl [3, 4, 5, 0] rfl)
    · rw [if_neg c33] at hv
      refine lv_if_ne (tgt := 42) hx hb dR_isLeftOut_33 (by decide) (fun _ => ?_) (fun z => absurd z c33)
      refine lv_iload hx hb dR_isLeftOut_42 (lv_at hl 1 rfl) ?_
      refine lv_iconst (v := 2) hx hb dR_isLeftOut_44 (by decide) ?_
      by_cases c45 : ((g_rfo S) (((4 * x1) + (nI i)) : Int32).toNatClampNeg) = 2
      · rw [if_pos c45] at hv
        refine lv_icmp_ne (tgt := 55) hx hb dR_isLeftOut_45 (by decide) (fun z => absurd c45 z) (fun _ => ?_)
        refine lv_iload hx hb dR_isLeftOut_48 (lv_at hl 0 rfl) ?_
        by_cases c50 : ((g_rfo S) (((4 * x2) + (nI i)) : Int32).toNatClampNeg) = 0
        · rw [if_pos c50] at hv
          refine lv_if_ne (tgt := 55) hx hb dR_isLeftOut_50 (by decide) (fun z => absurd c50 z) (fun _ => ?_)
          refine lv_iconst (v := 1) hx hb dR_isLeftOut_53 (by decide) ?_
          cases hv
          exact zB_ret hx hb hr hlocks (Or.inr rfl) dR_isLeftOut_54
        · rw [if_neg c50] at hv
          refine lv_if_ne (tgt := 55) hx hb dR_isLeftOut_50 (by decide) (fun _ => ?_) (fun z => absurd z c50)
          refine lv_iinc (v := (nI (i + 1))) (lv' := [(3, .int (nI (i + 1))), (5, .int ((g_rfo S) (((4 * x2) + (nI i)) : Int32).toNatClampNeg)), (4, .int ((g_rfo S) (((4 * x1) + (nI i)) : Int32).toNatClampNeg)), (0, .ref (h 0)), (1, .int x1), (2, .int x2)]) hx hb dR_isLeftOut_55 hl (k := 5) rfl (nI_1 _) (by decide) rfl (fun ls hl => ?_)
          refine lv_goto (tgt := 2) hx hb dR_isLeftOut_58 (by decide) ?_
          exact ih (i + 1) x1 x2 _ (by omega) hv ls (lv_sub hl [3, 4, 5, 0] rfl)
      · rw [if_neg c45] at hv
        refine lv_icmp_ne (tgt := 55) hx hb dR_isLeftOut_45 (by decide) (fun _ => ?_) (fun z => absurd z c45)
        refine lv_iinc (v := (nI (i + 1))) (lv' := [(3, .int (nI (i + 1))), (5, .int ((g_rfo S) (((4 * x2) + (nI i)) : Int32).toNatClampNeg)), (4, .int ((g_rfo S) (((4 * x1) + (nI i)) : Int32).toNatClampNeg)), (0, .ref (h 0)), (1, .int x1), (2, .int x2)]) hx hb dR_isLeftOut_55 hl (k := 5) rfl (nI_1 _) (by decide) rfl (fun ls hl => ?_)
        refine lv_goto (tgt := 2) hx hb dR_isLeftOut_58 (by decide) ?_
        exact ih (i + 1) x1 x2 _ (by omega) hv ls (lv_sub hl [3, 4, 5, 0] rfl)
set_option maxHeartbeats 4000000 in
set_option maxRecDepth 100000 in
theorem kR_isLeftOut (l : Launch) (D : va_G) (Y : Nat → ClassId) (h : Nat → Nat) (n : Nat) (hn : n ≤ 24) (S : vR) (a1 : Int32) (a2 : Int32) (v : Int32) (hv : (fR_isLeftOut n S a1 a2) = some v) : Met l yR_isLeftOut wsR_isLeftOut rmR_isLeftOut (va_Pc [.ref (h 0), .int a1, .int a2] (zPre D vwCl (tysK Y) (wR Y h n S))) (vp_Si (fun r => r = v)) 0 0 (fun _ => False) := by
  refine Met.ofW (cc := cR_isLeftOut) (maxL := 6) (ret := (some .boolean)) (by decide) rfl ?_
  intro p e s m args below meth c s₁ B hml hvv
  obtain ⟨rfl, hP, hK⟩ := hvv
  have hx := B.exec
  have hb := B.bytes
  have hr := B.returns
  have hts : ∀ w ∈ uT, w.before _ s = true := fun w hw => atoms_spec (ws := wsR_isLeftOut) B.pre w (List.mem_cons_of_mem _ hw)
  have hown : s.vm.findClass RR = some m.cls := findClass_of_methodNamed B.named
  have hlocks := B.notSynchronized
  have hl := lv_entry ([.ref (h 0), .int a1, .int a2]) (n := 6) (Nat.le_of_ble_eq_true rfl)
  rw [lg_entry_eq]
  generalize (lg_sl ([.ref (h 0), .int a1, .int a2]) ++ List.replicate (6 - (lg_sl ([.ref (h 0), .int a1, .int a2])).length) Slot.unset).toArray = ls at hl ⊢
  have hl : lv_has ls 6 [(0, .ref (h 0)), (1, .int a1), (2, .int a2)] := hl
  unfold fR_isLeftOut at hv
  show W p l e rmR_isLeftOut s m _ below meth c s.heap [] 0 0 (zI below _ s v) (F0 m 0 ls [])
  refine lv_iconst (v := 0) hx hb dR_isLeftOut_0 (by decide) ?_
  refine lv_istore_n (lv' := [(3, .int 0), (0, .ref (h 0)), (1, .int a1), (2, .int a2)]) hx hb dR_isLeftOut_1 rfl hl (by decide) rfl (fun ls hl => ?_)
  exact tR_isLeftOut_2 hn ⟨hx, hb, hml, hown, hts⟩ hr hlocks hK hP 4 0 a1 a2 _ (by omega) hv ls (lv_sub hl [1, 2, 3, 0] rfl)
abbrev rmR_left : Room := { frames := 1, cells := 0, slots := 0, locals := 25 }
set_option maxHeartbeats 4000000 in
set_option maxRecDepth 100000 in
theorem tR_left_25 {p : Program} {l : Launch} {e : Env} {s : State} {m : MethodId} {args : Array Value} {below : List Frame} {meth : Method} {c : Code} {D : va_G} {Y : Nat → ClassId} {h : Nat → Nat} {n : Nat} (hn : n ≤ 24) {S : vR} (CF : CallFix p m c cR_left 5 s args uT RR) (hr : meth.sig.returnType = (some .int)) (hlocks : meth.locks = false) (hK : va_K D vwCl (tysK Y) s) (hP : va_P D vwCl (wR Y h n S) s.heap) : ∀ (k : Nat) (i : Nat) (x1 : Int32) (x2 : Int32) (x3 : Int32) (v : Int32), i + k = n → (fR_left_25 n S k i x1 x2 x3) = some v → ∀ ls : Array Slot, lv_has ls 5 [(0, .ref (h 0)), (1, .int x1), (2, .int x2), (3, .int x3), (4, .int (nI i))] → W p l e rmR_left s m args below meth c s.heap [] 0 0 (zI below args s v) (F0 m 25 ls []) := by
  obtain ⟨hx, hb, hml, hown, hts⟩ := CF
  intro k
  induction k with
  | zero =>
    intro i x1 x2 x3 v hi hv ls hl
    rw [fR_left_25] at hv
    refine lv_iload hx hb dR_left_25 (lv_at hl 4 rfl) ?_
    refine lv_aload_n hx hb dR_left_27 rfl (lv_at hl 0 rfl) ?_
    refine va_get (D := D) (ci := 3) (v := .int (nI n)) (C := RR) (T := TR) (N := 13) hx hb hts hinR hown hK hP 0 rfl rfl 0 (by decide) (hts _ uw209) (fun _ h9 => h9) rfl dR_left_28 ?_
    refine lv_icmp_ge (tgt := 75) hx hb dR_left_31 (by decide) (fun _ => ?_) (fun z => absurd (lp_ge (n := n) hi) z)
    refine lv_iload_n hx hb dR_left_75 rfl (lv_at hl 3 rfl) ?_
    cases hv
    exact zI_ret hx hb hr hlocks dR_left_76
  | succ k ih =>
    intro i x1 x2 x3 v hi hv ls hl
    rw [fR_left_25] at hv
    refine lv_iload hx hb dR_left_25 (lv_at hl 4 rfl) ?_
    refine lv_aload_n hx hb dR_left_27 rfl (lv_at hl 0 rfl) ?_
    refine va_get (D := D) (ci := 3) (v := .int (nI n)) (C := RR) (T := TR) (N := 13) hx hb hts hinR hown hK hP 0 rfl rfl 0 (by decide) (hts _ uw209) (fun _ h9 => h9) rfl dR_left_28 ?_
    refine lv_icmp_ge (tgt := 75) hx hb dR_left_31 (by decide) (fun z => absurd z (lp_lt (n := n) hi (by omega))) (fun _ => ?_)
    refine lv_iload hx hb dR_left_34 (lv_at hl 4 rfl) ?_
    refine lv_iload_n hx hb dR_left_36 rfl (lv_at hl 1 rfl) ?_
    by_cases c37 : (nI i) = x1
    · rw [if_pos c37] at hv
      refine lv_icmp_eq (tgt := 69) hx hb dR_left_37 (by decide) (fun _ => ?_) (fun z => absurd c37 z)
      refine lv_iinc (v := (nI (i + 1))) (lv' := [(4, .int (nI (i + 1))), (0, .ref (h 0)), (1, .int x1), (2, .int x2), (3, .int x3)]) hx hb dR_left_69 hl (k := 4) rfl (nI_1 _) (by decide) rfl (fun ls hl => ?_)
      refine lv_goto (tgt := 25) hx hb dR_left_72 (by decide) ?_
      exact ih (i + 1) x1 x2 x3 _ (by omega) hv ls (lv_sub hl [1, 2, 3, 4, 0] rfl)
    · rw [if_neg c37] at hv
      refine lv_icmp_eq (tgt := 69) hx hb dR_left_37 (by decide) (fun z => absurd z c37) (fun _ => ?_)
      refine lv_aload_n hx hb dR_left_40 rfl (lv_at hl 0 rfl) ?_
      refine va_get (D := D) (ci := 3) (v := .ref (h 3)) (C := RR) (T := TR) (N := 13) hx hb hts hinR hown hK hP 0 rfl rfl 3 (by decide) (hts _ uw240) (fun _ h9 => h9) rfl dR_left_41 ?_
      refine lv_iload hx hb dR_left_44 (lv_at hl 4 rfl) ?_
      refine va_iald hx hb hK hP 3 0 rfl rfl (vp_in_nI (n := i) (by omega) (by omega)) dR_left_46 ?_
      refine lv_iconst (v := 3) hx hb dR_left_47 (by decide) ?_
      refine lv_iload_n hx hb dR_left_48 rfl (lv_at hl 2 rfl) ?_
      refine lv_isub hx hb dR_left_49 ?_
      by_cases c50 : ((g_rsx S) ((nI i) : Int32).toNatClampNeg) = (3 - x2)
      · rw [if_pos c50] at hv
        refine lv_icmp_eq (tgt := 69) hx hb dR_left_50 (by decide) (fun _ => ?_) (fun z => absurd c50 z)
        refine lv_iinc (v := (nI (i + 1))) (lv' := [(4, .int (nI (i + 1))), (0, .ref (h 0)), (1, .int x1), (2, .int x2), (3, .int x3)]) hx hb dR_left_69 hl (k := 4) rfl (nI_1 _) (by decide) rfl (fun ls hl => ?_)
        refine lv_goto (tgt := 25) hx hb dR_left_72 (by decide) ?_
        exact ih (i + 1) x1 x2 x3 _ (by omega) hv ls (lv_sub hl [1, 2, 3, 4, 0] rfl)
      · rw [if_neg c50] at hv
        refine lv_icmp_eq (tgt := 69) hx hb dR_left_50 (by decide) (fun z => absurd z c50) (fun _ => ?_)
        refine lv_aload_n hx hb dR_left_53 rfl (lv_at hl 0 rfl) ?_
        refine lv_iload hx hb dR_left_54 (lv_at hl 4 rfl) ?_
        refine lv_iload_n hx hb dR_left_56 rfl (lv_at hl 1 rfl) ?_
        obtain ⟨r57, e57, hv⟩ := bsome hv
        refine qVi (rest := []) ⟨hx, hb, hml, hown, hts⟩ (kR_isLeftOut l D Y h n hn S (nI i) x1 r57 e57) (cwV 2 hts (gV uw262 uw263 uw264 uw213 ucR_isLeftOut) rfl rfl rfl hvR_isLeftOut ⟨Nat.le_of_ble_eq_true rfl, Nat.le_of_ble_eq_true rfl⟩) hK hP (va_recv hK hP (ci := 3) (q0 := 0) rfl rfl) rfl hl.1 rfl (Nat.le_of_ble_eq_true rfl) dR_left_57 ⟨Nat.le_of_ble_eq_true rfl, Nat.le_of_ble_eq_true rfl⟩ ?_
        by_cases c60 : r57 = 0
        · rw [if_pos c60] at hv
          refine lv_if_eq (tgt := 66) hx hb dR_left_60 (by decide) (fun _ => ?_) (fun z => absurd c60 z)
          refine lv_iinc (v := (x3 + 1)) (lv' := [(3, .int (x3 + 1)), (0, .ref (h 0)), (1, .int x1), (2, .int x2), (4, .int (nI i))]) hx hb dR_left_66 hl (k := 3) rfl (rfl) (by decide) rfl (fun ls hl => ?_)
          refine lv_iinc (v := (nI (i + 1))) (lv' := [(4, .int (nI (i + 1))), (3, .int (x3 + 1)), (0, .ref (h 0)), (1, .int x1), (2, .int x2)]) hx hb dR_left_69 hl (k := 4) rfl (nI_1 _) (by decide) rfl (fun ls hl => ?_)
          refine lv_goto (tgt := 25) hx hb dR_left_72 (by decide) ?_
          exact ih (i + 1) x1 x2 (x3 + 1) _ (by omega) hv ls (lv_sub hl [2, 3, 4, 1, 0] rfl)
        · rw [if_neg c60] at hv
          refine lv_if_eq (tgt := 66) hx hb dR_left_60 (by decide) (fun z => absurd z c60) (fun _ => ?_)
          refine lv_goto (tgt := 69) hx hb dR_left_63 (by decide) ?_
          refine lv_iinc (v := (nI (i + 1))) (lv' := [(4, .int (nI (i + 1))), (0, .ref (h 0)), (1, .int x1), (2, .int x2), (3, .int x3)]) hx hb dR_left_69 hl (k := 4) rfl (nI_1 _) (by decide) rfl (fun ls hl => ?_)
          refine lv_goto (tgt := 25) hx hb dR_left_72 (by decide) ?_
          exact ih (i + 1) x1 x2 x3 _ (by omega) hv ls (lv_sub hl [1, 2, 3, 4, 0] rfl)
set_option maxHeartbeats 4000000 in
set_option maxRecDepth 100000 in
theorem kR_left (l : Launch) (D : va_G) (Y : Nat → ClassId) (h : Nat → Nat) (n : Nat) (hn : n ≤ 24) (S : vR) (a1 : Int32) (a2 : Int32) (v : Int32) (hv : (fR_left n S a1 a2) = some v) : Met l yR_left wsR_left rmR_left (va_Pc [.ref (h 0), .int a1, .int a2] (zPre D vwCl (tysK Y) (wR Y h n S))) (vp_Si (fun r => r = v)) 0 0 (fun _ => False) := by
  refine Met.ofW (cc := cR_left) (maxL := 5) (ret := (some .int)) (by decide) rfl ?_
  intro p e s m args below meth c s₁ B hml hvv
  obtain ⟨rfl, hP, hK⟩ := hvv
  have hx := B.exec
  have hb := B.bytes
  have hr := B.returns
  have hts : ∀ w ∈ uT, w.before _ s = true := fun w hw => atoms_spec (ws := wsR_left) B.pre w (List.mem_cons_of_mem _ hw)
  have hown : s.vm.findClass RR = some m.cls := findClass_of_methodNamed B.named
  have hlocks := B.notSynchronized
  have hl := lv_entry ([.ref (h 0), .int a1, .int a2]) (n := 5) (Nat.le_of_ble_eq_true rfl)
  rw [lg_entry_eq]
  generalize (lg_sl ([.ref (h 0), .int a1, .int a2]) ++ List.replicate (5 - (lg_sl ([.ref (h 0), .int a1, .int a2])).length) Slot.unset).toArray = ls at hl ⊢
  have hl : lv_has ls 5 [(0, .ref (h 0)), (1, .int a1), (2, .int a2)] := hl
  unfold fR_left at hv
  show W p l e rmR_left s m _ below meth c s.heap [] 0 0 (zI below _ s v) (F0 m 0 ls [])
  refine lv_aload_n hx hb dR_left_0 rfl (lv_at hl 0 rfl) ?_
  refine lv_iload_n hx hb dR_left_1 rfl (lv_at hl 1 rfl) ?_
  refine qVi (rest := []) ⟨hx, hb, hml, hown, hts⟩ (kR_is l D Y h n hn S a1) (cwV 1 hts (gV uw210 uw211 uw212 uw213 ucR_is) rfl rfl rfl hvR_is ⟨Nat.le_of_ble_eq_true rfl, Nat.le_of_ble_eq_true rfl⟩) hK hP (va_recv hK hP (ci := 3) (q0 := 0) rfl rfl) rfl hl.1 rfl (Nat.le_of_ble_eq_true rfl) dR_left_2 ⟨Nat.le_of_ble_eq_true rfl, Nat.le_of_ble_eq_true rfl⟩ ?_
  by_cases c5 : (fR_is n a1) = 0
  · rw [if_pos c5] at hv
    refine lv_if_eq (tgt := 18) hx hb dR_left_5 (by decide) (fun _ => ?_) (fun z => absurd c5 z)
    refine lv_iconst (v := (-1)) hx hb dR_left_18 (by decide) ?_
    cases hv
    exact zI_ret hx hb hr hlocks dR_left_19
  · rw [if_neg c5] at hv
    refine lv_if_eq (tgt := 18) hx hb dR_left_5 (by decide) (fun z => absurd z c5) (fun _ => ?_)
    refine lv_iload_n hx hb dR_left_8 rfl (lv_at hl 2 rfl) ?_
    refine lv_iconst (v := 1) hx hb dR_left_9 (by decide) ?_
    by_cases c10 : a2 < 1
    · rw [if_pos c10] at hv
      refine lv_icmp_lt (tgt := 18) hx hb dR_left_10 (by decide) (fun _ => ?_) (fun z => absurd c10 z)
      refine lv_iconst (v := (-1)) hx hb dR_left_18 (by decide) ?_
      cases hv
      exact zI_ret hx hb hr hlocks dR_left_19
    · rw [if_neg c10] at hv
      refine lv_icmp_lt (tgt := 18) hx hb dR_left_10 (by decide) (fun z => absurd z c10) (fun _ => ?_)
      refine lv_iload_n hx hb dR_left_13 rfl (lv_at hl 2 rfl) ?_
      refine lv_iconst (v := 2) hx hb dR_left_14 (by decide) ?_
      by_cases c15 : a2 ≤ 2
      · rw [if_pos c15] at hv
        refine lv_icmp_le (tgt := 20) hx hb dR_left_15 (by decide) (fun _ => ?_) (fun z => absurd c15 z)
        refine lv_iconst (v := 0) hx hb dR_left_20 (by decide) ?_
        refine lv_istore_n (lv' := [(3, .int 0), (0, .ref (h 0)), (1, .int a1), (2, .int a2)]) hx hb dR_left_21 rfl hl (by decide) rfl (fun ls hl => ?_)
        refine lv_iconst (v := 0) hx hb dR_left_22 (by decide) ?_
        refine lv_istore (lv' := [(4, .int 0), (3, .int 0), (0, .ref (h 0)), (1, .int a1), (2, .int a2)]) hx hb dR_left_23 hl (by decide) rfl (fun ls hl => ?_)
        exact tR_left_25 hn ⟨hx, hb, hml, hown, hts⟩ hr hlocks hK hP n 0 a1 a2 0 _ (by omega) hv ls (lv_sub hl [2, 3, 4, 1, 0] rfl)
      · rw [if_neg c15] at hv
        refine lv_icmp_le (tgt := 20) hx hb dR_left_15 (by decide) (fun z => absurd z c15) (fun _ => ?_)
        refine lv_iconst (v := (-1)) hx hb dR_left_18 (by decide) ?_
        cases hv
        exact zI_ret hx hb hr hlocks dR_left_19
abbrev rmR_odds : Room := { frames := 1, cells := 0, slots := 0, locals := 30 }
set_option maxHeartbeats 4000000 in
set_option maxRecDepth 100000 in
theorem tR_odds_95 {p : Program} {l : Launch} {e : Env} {s : State} {m : MethodId} {args : Array Value} {below : List Frame} {meth : Method} {c : Code} {D : va_G} {Y : Nat → ClassId} {h : Nat → Nat} {n : Nat} (hn : n ≤ 24) {S : vR} (CF : CallFix p m c cR_odds 23 s args uT RR) (hr : meth.sig.returnType = (some .long)) (hlocks : meth.locks = false) (hK : va_K D vwCl (tysK Y) s) (hP : va_P D vwCl (wR Y h n S) s.heap) {Q : State → Prop} : ∀ (k : Nat) (i : Nat) (x1 : Int32) (x2 : Int32) (x3 : Int32) (x4 : Int64) (x6 : Int64) (x8 : Nat) (x9 : Int32) (x10 : Int32) (x11 : Int64) (x13 : Int64) (v : Int64 × Int64), i + k = n → (fR_odds_95 n S k i x1 x2 x3 x4 x6 x8 x9 x10 x11 x13) = some v → ∀ ls : Array Slot, lv_has ls 23 [(0, .ref (h 0)), (1, .int x1), (2, .int x2), (3, .int x3), (4, .long x4), (6, .long x6), (8, .int (nI x8)), (9, .int x9), (10, .int x10), (11, .long x11), (13, .long x13), (15, .int (nI i))] → (∀ ls : Array Slot, lv_has ls 23 [(0, .ref (h 0)), (1, .int x1), (2, .int x2), (3, .int x3), (4, .long x4), (6, .long x6), (8, .int (nI x8)), (9, .int x9), (10, .int x10), (11, .long v.1), (13, .long v.2)] → W p l e rmR_odds s m args below meth c s.heap [] 0 0 Q (F0 m 154 ls [])) → W p l e rmR_odds s m args below meth c s.heap [] 0 0 Q (F0 m 95 ls []) := by
  obtain ⟨hx, hb, hml, hown, hts⟩ := CF
  intro k
  induction k with
  | zero =>
    intro i x1 x2 x3 x4 x6 x8 x9 x10 x11 x13 v hi hv ls hl kk
    rw [fR_odds_95] at hv
    refine lv_iload hx hb dR_odds_95 (lv_at hl 11 rfl) ?_
    refine lv_aload_n hx hb dR_odds_97 rfl (lv_at hl 0 rfl) ?_
    refine va_get (D := D) (ci := 3) (v := .int (nI n)) (C := RR) (T := TR) (N := 13) hx hb hts hinR hown hK hP 0 rfl rfl 0 (by decide) (hts _ uw209) (fun _ h9 => h9) rfl dR_odds_98 ?_
    refine lv_icmp_ge (tgt := 154) hx hb dR_odds_101 (by decide) (fun _ => ?_) (fun z => absurd (lp_ge (n := n) hi) z)
    cases hv
    exact kk ls (lv_sub hl [0, 1, 2, 3, 4, 5, 6, 7, 8, 9, 10] rfl)
  | succ k ih =>
    intro i x1 x2 x3 x4 x6 x8 x9 x10 x11 x13 v hi hv ls hl kk
    rw [fR_odds_95] at hv
    refine lv_iload hx hb dR_odds_95 (lv_at hl 11 rfl) ?_
    refine lv_aload_n hx hb dR_odds_97 rfl (lv_at hl 0 rfl) ?_
    refine va_get (D := D) (ci := 3) (v := .int (nI n)) (C := RR) (T := TR) (N := 13) hx hb hts hinR hown hK hP 0 rfl rfl 0 (by decide) (hts _ uw209) (fun _ h9 => h9) rfl dR_odds_98 ?_
    refine lv_icmp_ge (tgt := 154) hx hb dR_odds_101 (by decide) (fun z => absurd z (lp_lt (n := n) hi (by omega))) (fun _ => ?_)
    refine lv_aload_n hx hb dR_odds_104 rfl (lv_at hl 0 rfl) ?_
    refine va_get (D := D) (ci := 3) (v := .ref (h 6)) (C := RR) (T := TR) (N := 13) hx hb hts hinR hown hK hP 0 rfl rfl 6 (by decide) (hts _ uw261) (fun _ h9 => h9) rfl dR_odds_105 ?_
    refine lv_iconst (v := 4) hx hb dR_odds_108 (by decide) ?_
    refine lv_iload hx hb dR_odds_109 (lv_at hl 11 rfl) ?_
    refine lv_imul hx hb dR_odds_111 ?_
    refine lv_iload hx hb dR_odds_112 (lv_at hl 6 rfl) ?_
    refine lv_iadd hx hb dR_odds_114 ?_
    have k115 : ¬ (ob (((4 * (nI i)) + (nI x8)) : Int32) 96) := fun z => by rw [if_pos z] at hv; cases hv
    rw [if_neg k115] at hv
    refine va_iald hx hb hK hP 6 0 rfl rfl (k115) dR_odds_115 ?_
    by_cases c116 : 0 ≤ ((g_rfo S) (((4 * (nI i)) + (nI x8)) : Int32).toNatClampNeg)
    · rw [if_pos c116] at hv
      refine lv_if_ge (tgt := 122) hx hb dR_odds_116 (by decide) (fun _ => ?_) (fun z => absurd c116 z)
      refine lv_lload hx hb dR_odds_122 (lv_at hl 9 rfl) ?_
      refine lv_ldc2 (v := 2) hx hb hown (hts _ uw226) dR_odds_124 ?_
      refine lv_ladd hx hb dR_odds_127 ?_
      refine lv_lstore (lv' := [(11, .long (x11 + 2)), (0, .ref (h 0)), (1, .int x1), (2, .int x2), (3, .int x3), (4, .long x4), (6, .long x6), (8, .int (nI x8)), (9, .int x9), (10, .int x10), (13, .long x13), (15, .int (nI i))]) hx hb dR_odds_128 hl (by decide) rfl (fun ls hl => ?_)
      refine lv_lload hx hb dR_odds_130 (lv_at hl 10 rfl) ?_
      refine lv_aload_n hx hb dR_odds_132 rfl (lv_at hl 1 rfl) ?_
      refine va_get (D := D) (ci := 3) (v := .ref (h 6)) (C := RR) (T := TR) (N := 13) hx hb hts hinR hown hK hP 0 rfl rfl 6 (by decide) (hts _ uw261) (fun _ h9 => h9) rfl dR_odds_133 ?_
      refine lv_iconst (v := 4) hx hb dR_odds_136 (by decide) ?_
      refine lv_iload hx hb dR_odds_137 (lv_at hl 11 rfl) ?_
      refine lv_imul hx hb dR_odds_139 ?_
      refine lv_iload hx hb dR_odds_140 (lv_at hl 7 rfl) ?_
      refine lv_iadd hx hb dR_odds_142 ?_
      have k143 : ¬ (ob (((4 * (nI i)) + (nI x8)) : Int32) 96) := fun z => by rw [if_pos z] at hv; cases hv
      rw [if_neg k143] at hv
      refine va_iald hx hb hK hP 6 0 rfl rfl (k143) dR_odds_143 ?_
      refine lv_i2l (v := (((g_rfo S) (((4 * (nI i)) + (nI x8)) : Int32).toNatClampNeg) : Int32).toInt64) hx hb dR_odds_144 rfl ?_
      refine lv_ladd hx hb dR_odds_145 ?_
      refine lv_lstore (lv' := [(13, .long (x13 + (((g_rfo S) (((4 * (nI i)) + (nI x8)) : Int32).toNatClampNeg) : Int32).toInt64)), (11, .long (x11 + 2)), (0, .ref (h 0)), (1, .int x1), (2, .int x2), (3, .int x3), (4, .long x4), (6, .long x6), (8, .int (nI x8)), (9, .int x9), (10, .int x10), (15, .int (nI i))]) hx hb dR_odds_146 hl (by decide) rfl (fun ls hl => ?_)
      refine lv_iinc (v := (nI (i + 1))) (lv' := [(15, .int (nI (i + 1))), (13, .long (x13 + (((g_rfo S) (((4 * (nI i)) + (nI x8)) : Int32).toNatClampNeg) : Int32).toInt64)), (11, .long (x11 + 2)), (0, .ref (h 0)), (1, .int x1), (2, .int x2), (3, .int x3), (4, .long x4), (6, .long x6), (8, .int (nI x8)), (9, .int x9), (10, .int x10)]) hx hb dR_odds_148 hl (k := 11) rfl (nI_1 _) (by decide) rfl (fun ls hl => ?_)
      refine lv_goto (tgt := 95) hx hb dR_odds_151 (by decide) ?_
      exact ih (i + 1) x1 x2 x3 x4 x6 x8 x9 x10 (x11 + 2) (x13 + (((g_rfo S) (((4 * (nI i)) + (nI x8)) : Int32).toNatClampNeg) : Int32).toInt64) _ (by omega) hv ls (lv_sub hl [3, 4, 5, 6, 7, 8, 9, 10, 11, 2, 1, 0] rfl) kk
    · rw [if_neg c116] at hv
      refine lv_if_ge (tgt := 122) hx hb dR_odds_116 (by decide) (fun z => absurd z c116) (fun _ => ?_)
      refine lv_goto (tgt := 148) hx hb dR_odds_119 (by decide) ?_
      refine lv_iinc (v := (nI (i + 1))) (lv' := [(15, .int (nI (i + 1))), (0, .ref (h 0)), (1, .int x1), (2, .int x2), (3, .int x3), (4, .long x4), (6, .long x6), (8, .int (nI x8)), (9, .int x9), (10, .int x10), (11, .long x11), (13, .long x13)]) hx hb dR_odds_148 hl (k := 11) rfl (nI_1 _) (by decide) rfl (fun ls hl => ?_)
      refine lv_goto (tgt := 95) hx hb dR_odds_151 (by decide) ?_
      exact ih (i + 1) x1 x2 x3 x4 x6 x8 x9 x10 x11 x13 _ (by omega) hv ls (lv_sub hl [1, 2, 3, 4, 5, 6, 7, 8, 9, 10, 11, 0] rfl) kk
set_option maxHeartbeats 4000000 in
set_option maxRecDepth 100000 in
theorem tR_odds_41 {p : Program} {l : Launch} {e : Env} {s : State} {m : MethodId} {args : Array Value} {below : List Frame} {meth : Method} {c : Code} {D : va_G} {Y : Nat → ClassId} {h : Nat → Nat} {n : Nat} (hn : n ≤ 24) {S : vR} (CF : CallFix p m c cR_odds 23 s args uT RR) (hr : meth.sig.returnType = (some .long)) (hlocks : meth.locks = false) (hK : va_K D vwCl (tysK Y) s) (hP : va_P D vwCl (wR Y h n S) s.heap) : ∀ (k : Nat) (i : Nat) (x1 : Int32) (x2 : Int32) (x3 : Int32) (x4 : Int64) (x6 : Int64) (v : Int64), i + k = 4 → (fR_odds_41 n S k i x1 x2 x3 x4 x6) = some v → ∀ ls : Array Slot, lv_has ls 23 [(0, .ref (h 0)), (1, .int x1), (2, .int x2), (3, .int x3), (4, .long x4), (6, .long x6), (8, .int (nI i))] → W p l e rmR_odds s m args below meth c s.heap [] 0 0 (zL below args s v) (F0 m 41 ls []) := by
  obtain ⟨hx, hb, hml, hown, hts⟩ := CF
  intro k
  induction k with
  | zero =>
    intro i x1 x2 x3 x4 x6 v hi hv ls hl
    rw [fR_odds_41] at hv
    refine lv_iload hx hb dR_odds_41 (lv_at hl 6 rfl) ?_
    refine lv_iconst (v := 4) hx hb dR_odds_43 (by decide) ?_
    refine lv_icmp_ge (tgt := 294) hx hb dR_odds_44 (by decide) (fun _ => ?_) (fun z => absurd (lp_ge (n := 4) hi) z)
    refine lv_iload_n hx hb dR_odds_294 rfl (lv_at hl 3 rfl) ?_
    by_cases c295 : x3 = 0
    · rw [if_pos c295] at hv
      refine lv_if_ne (tgt := 303) hx hb dR_odds_295 (by decide) (fun z => absurd c295 z) (fun _ => ?_)
      refine lv_lload hx hb dR_odds_298 (lv_at hl 4 rfl) ?_
      refine lv_goto (tgt := 305) hx hb dR_odds_300 (by decide) ?_
      cases hv
      exact zL_ret hx hb hr hlocks dR_odds_305
    · rw [if_neg c295] at hv
      refine lv_if_ne (tgt := 303) hx hb dR_odds_295 (by decide) (fun _ => ?_) (fun z => absurd z c295)
      refine lv_lload hx hb dR_odds_303 (lv_at hl 5 rfl) ?_
      cases hv
      exact zL_ret hx hb hr hlocks dR_odds_305
  | succ k ih =>
    intro i x1 x2 x3 x4 x6 v hi hv ls hl
    rw [fR_odds_41] at hv
    refine lv_iload hx hb dR_odds_41 (lv_at hl 6 rfl) ?_
    refine lv_iconst (v := 4) hx hb dR_odds_43 (by decide) ?_
    refine lv_icmp_ge (tgt := 294) hx hb dR_odds_44 (by decide) (fun z => absurd z (lp_lt (n := 4) hi (by omega))) (fun _ => ?_)
    refine lv_aload_n hx hb dR_odds_47 rfl (lv_at hl 0 rfl) ?_
    refine va_get (D := D) (ci := 3) (v := .ref (h 6)) (C := RR) (T := TR) (N := 13) hx hb hts hinR hown hK hP 0 rfl rfl 6 (by decide) (hts _ uw261) (fun _ h9 => h9) rfl dR_odds_48 ?_
    refine lv_iconst (v := 4) hx hb dR_odds_51 (by decide) ?_
    refine lv_iload_n hx hb dR_odds_52 rfl (lv_at hl 1 rfl) ?_
    refine lv_imul hx hb dR_odds_53 ?_
    refine lv_iload hx hb dR_odds_54 (lv_at hl 6 rfl) ?_
    refine lv_iadd hx hb dR_odds_56 ?_
    have k57 : ¬ (ob (((4 * x1) + (nI i)) : Int32) 96) := fun z => by rw [if_pos z] at hv; cases hv
    rw [if_neg k57] at hv
    refine va_iald hx hb hK hP 6 0 rfl rfl (k57) dR_odds_57 ?_
    refine lv_istore (lv' := [(9, .int ((g_rfo S) (((4 * x1) + (nI i)) : Int32).toNatClampNeg)), (0, .ref (h 0)), (1, .int x1), (2, .int x2), (3, .int x3), (4, .long x4), (6, .long x6), (8, .int (nI i))]) hx hb dR_odds_58 hl (by decide) rfl (fun ls hl => ?_)
    refine lv_aload_n hx hb dR_odds_60 rfl (lv_at hl 1 rfl) ?_
    refine va_get (D := D) (ci := 3) (v := .ref (h 6)) (C := RR) (T := TR) (N := 13) hx hb hts hinR hown hK hP 0 rfl rfl 6 (by decide) (hts _ uw261) (fun _ h9 => h9) rfl dR_odds_61 ?_
    refine lv_iconst (v := 4) hx hb dR_odds_64 (by decide) ?_
    refine lv_iload_n hx hb dR_odds_65 rfl (lv_at hl 3 rfl) ?_
    refine lv_imul hx hb dR_odds_66 ?_
    refine lv_iload hx hb dR_odds_67 (lv_at hl 7 rfl) ?_
    refine lv_iadd hx hb dR_odds_69 ?_
    have k70 : ¬ (ob (((4 * x2) + (nI i)) : Int32) 96) := fun z => by rw [if_pos z] at hv; cases hv
    rw [if_neg k70] at hv
    refine va_iald hx hb hK hP 6 0 rfl rfl (k70) dR_odds_70 ?_
    refine lv_istore (lv' := [(10, .int ((g_rfo S) (((4 * x2) + (nI i)) : Int32).toNatClampNeg)), (9, .int ((g_rfo S) (((4 * x1) + (nI i)) : Int32).toNatClampNeg)), (0, .ref (h 0)), (1, .int x1), (2, .int x2), (3, .int x3), (4, .long x4), (6, .long x6), (8, .int (nI i))]) hx hb dR_odds_71 hl (by decide) rfl (fun ls hl => ?_)
    refine lv_iload hx hb dR_odds_73 (lv_at hl 1 rfl) ?_
    by_cases c75 : ((g_rfo S) (((4 * x1) + (nI i)) : Int32).toNatClampNeg) < 0
    · rw [if_pos c75] at hv
      refine lv_if_lt (tgt := 288) hx hb dR_odds_75 (by decide) (fun _ => ?_) (fun z => absurd c75 z)
      refine lv_iinc (v := (nI (i + 1))) (lv' := [(8, .int (nI (i + 1))), (10, .int ((g_rfo S) (((4 * x2) + (nI i)) : Int32).toNatClampNeg)), (9, .int ((g_rfo S) (((4 * x1) + (nI i)) : Int32).toNatClampNeg)), (0, .ref (h 0)), (1, .int x1), (2, .int x2), (3, .int x3), (4, .long x4), (6, .long x6)]) hx hb dR_odds_288 hl (k := 8) rfl (nI_1 _) (by decide) rfl (fun ls hl => ?_)
      refine lv_goto (tgt := 41) hx hb dR_odds_291 (by decide) ?_
      exact ih (i + 1) x1 x2 x3 x4 x6 _ (by omega) hv ls (lv_sub hl [3, 4, 5, 6, 7, 8, 0] rfl)
    · rw [if_neg c75] at hv
      refine lv_if_lt (tgt := 288) hx hb dR_odds_75 (by decide) (fun z => absurd z c75) (fun _ => ?_)
      refine lv_iload hx hb dR_odds_78 (lv_at hl 0 rfl) ?_
      by_cases c80 : 0 ≤ ((g_rfo S) (((4 * x2) + (nI i)) : Int32).toNatClampNeg)
      · rw [if_pos c80] at hv
        refine lv_if_ge (tgt := 86) hx hb dR_odds_80 (by decide) (fun _ => ?_) (fun z => absurd c80 z)
        refine lv_lconst (v := 0) hx hb dR_odds_86 (by decide) ?_
        refine lv_lstore (lv' := [(11, .long 0), (10, .int ((g_rfo S) (((4 * x2) + (nI i)) : Int32).toNatClampNeg)), (9, .int ((g_rfo S) (((4 * x1) + (nI i)) : Int32).toNatClampNeg)), (0, .ref (h 0)), (1, .int x1), (2, .int x2), (3, .int x3), (4, .long x4), (6, .long x6), (8, .int (nI i))]) hx hb dR_odds_87 hl (by decide) rfl (fun ls hl => ?_)
        refine lv_lconst (v := 0) hx hb dR_odds_89 (by decide) ?_
        refine lv_lstore (lv' := [(13, .long 0), (11, .long 0), (10, .int ((g_rfo S) (((4 * x2) + (nI i)) : Int32).toNatClampNeg)), (9, .int ((g_rfo S) (((4 * x1) + (nI i)) : Int32).toNatClampNeg)), (0, .ref (h 0)), (1, .int x1), (2, .int x2), (3, .int x3), (4, .long x4), (6, .long x6), (8, .int (nI i))]) hx hb dR_odds_90 hl (by decide) rfl (fun ls hl => ?_)
        refine lv_iconst (v := 0) hx hb dR_odds_92 (by decide) ?_
        refine lv_istore (lv' := [(15, .int 0), (13, .long 0), (11, .long 0), (10, .int ((g_rfo S) (((4 * x2) + (nI i)) : Int32).toNatClampNeg)), (9, .int ((g_rfo S) (((4 * x1) + (nI i)) : Int32).toNatClampNeg)), (0, .ref (h 0)), (1, .int x1), (2, .int x2), (3, .int x3), (4, .long x4), (6, .long x6), (8, .int (nI i))]) hx hb dR_odds_93 hl (by decide) rfl (fun ls hl => ?_)
        obtain ⟨r95, e95, hv⟩ := bsome hv
        refine tR_odds_95 hn ⟨hx, hb, hml, hown, hts⟩ hr hlocks hK hP n 0 x1 x2 x3 x4 x6 i ((g_rfo S) (((4 * x1) + (nI i)) : Int32).toNatClampNeg) ((g_rfo S) (((4 * x2) + (nI i)) : Int32).toNatClampNeg) 0 0 _ (by omega) e95 ls (lv_sub hl [5, 6, 7, 8, 9, 10, 11, 4, 3, 2, 1, 0] rfl) (fun ls hl => ?_)
        refine lv_iload hx hb dR_odds_154 (lv_at hl 7 rfl) ?_
        by_cases c156 : ((g_rfo S) (((4 * x1) + (nI i)) : Int32).toNatClampNeg) = 0
        · rw [if_pos c156] at hv
          refine lv_if_ne (tgt := 170) hx hb dR_odds_156 (by decide) (fun z => absurd c156 z) (fun _ => ?_)
          refine lv_iconst (v := 2) hx hb dR_odds_159 (by decide) ?_
          refine lv_iload hx hb dR_odds_160 (lv_at hl 8 rfl) ?_
          refine lv_isub hx hb dR_odds_162 ?_
          refine lv_i2l (v := ((2 - ((g_rfo S) (((4 * x2) + (nI i)) : Int32).toNatClampNeg)) : Int32).toInt64) hx hb dR_odds_163 rfl ?_
          refine lv_lload hx hb dR_odds_164 (lv_at hl 9 rfl) ?_
          refine lv_lmul hx hb dR_odds_166 ?_
          refine lv_goto (tgt := 206) hx hb dR_odds_167 (by decide) ?_
          refine lv_lstore (lv' := [(15, .long (((2 - ((g_rfo S) (((4 * x2) + (nI i)) : Int32).toNatClampNeg)) : Int32).toInt64 * r95.1)), (0, .ref (h 0)), (1, .int x1), (2, .int x2), (3, .int x3), (4, .long x4), (6, .long x6), (8, .int (nI i)), (9, .int ((g_rfo S) (((4 * x1) + (nI i)) : Int32).toNatClampNeg)), (10, .int ((g_rfo S) (((4 * x2) + (nI i)) : Int32).toNatClampNeg)), (11, .long r95.1), (13, .long r95.2)]) hx hb dR_odds_206 hl (by decide) rfl (fun ls hl => ?_)
          refine lv_iload hx hb dR_odds_208 (lv_at hl 8 rfl) ?_
          refine lv_if_ne (tgt := 225) hx hb dR_odds_210 (by decide) (fun z => absurd c156 z) (fun _ => ?_)
          refine lv_ldc2 (v := 2) hx hb hown (hts _ uw226) dR_odds_213 ?_
          refine lv_lload hx hb dR_odds_216 (lv_at hl 10 rfl) ?_
          refine lv_lload hx hb dR_odds_218 (lv_at hl 11 rfl) ?_
          refine lv_lsub hx hb dR_odds_220 ?_
          refine lv_lmul hx hb dR_odds_221 ?_
          refine lv_goto (tgt := 252) hx hb dR_odds_222 (by decide) ?_
          refine lv_lstore (lv' := [(17, .long (2 * (r95.1 - r95.2))), (15, .long (((2 - ((g_rfo S) (((4 * x2) + (nI i)) : Int32).toNatClampNeg)) : Int32).toInt64 * r95.1)), (0, .ref (h 0)), (1, .int x1), (2, .int x2), (3, .int x3), (4, .long x4), (6, .long x6), (8, .int (nI i)), (9, .int ((g_rfo S) (((4 * x1) + (nI i)) : Int32).toNatClampNeg)), (10, .int ((g_rfo S) (((4 * x2) + (nI i)) : Int32).toNatClampNeg)), (11, .long r95.1), (13, .long r95.2)]) hx hb dR_odds_252 hl (by decide) rfl (fun ls hl => ?_)
          refine lv_lload hx hb dR_odds_254 (lv_at hl 6 rfl) ?_
          refine lv_lload hx hb dR_odds_256 (lv_at hl 1 rfl) ?_
          refine lv_lmul hx hb dR_odds_258 ?_
          refine lv_lstore (lv' := [(19, .long (x4 * (((2 - ((g_rfo S) (((4 * x2) + (nI i)) : Int32).toNatClampNeg)) : Int32).toInt64 * r95.1))), (17, .long (2 * (r95.1 - r95.2))), (15, .long (((2 - ((g_rfo S) (((4 * x2) + (nI i)) : Int32).toNatClampNeg)) : Int32).toInt64 * r95.1)), (0, .ref (h 0)), (1, .int x1), (2, .int x2), (3, .int x3), (4, .long x4), (6, .long x6), (8, .int (nI i)), (9, .int ((g_rfo S) (((4 * x1) + (nI i)) : Int32).toNatClampNeg)), (10, .int ((g_rfo S) (((4 * x2) + (nI i)) : Int32).toNatClampNeg)), (11, .long r95.1), (13, .long r95.2)]) hx hb dR_odds_259 hl (by decide) rfl (fun ls hl => ?_)
          refine lv_lload hx hb dR_odds_261 (lv_at hl 8 rfl) ?_
          refine lv_lload hx hb dR_odds_263 (lv_at hl 1 rfl) ?_
          refine lv_lmul hx hb dR_odds_265 ?_
          refine lv_lstore (lv' := [(21, .long (x6 * (2 * (r95.1 - r95.2)))), (19, .long (x4 * (((2 - ((g_rfo S) (((4 * x2) + (nI i)) : Int32).toNatClampNeg)) : Int32).toInt64 * r95.1))), (17, .long (2 * (r95.1 - r95.2))), (15, .long (((2 - ((g_rfo S) (((4 * x2) + (nI i)) : Int32).toNatClampNeg)) : Int32).toInt64 * r95.1)), (0, .ref (h 0)), (1, .int x1), (2, .int x2), (3, .int x3), (4, .long x4), (6, .long x6), (8, .int (nI i)), (9, .int ((g_rfo S) (((4 * x1) + (nI i)) : Int32).toNatClampNeg)), (10, .int ((g_rfo S) (((4 * x2) + (nI i)) : Int32).toNatClampNeg)), (11, .long r95.1), (13, .long r95.2)]) hx hb dR_odds_266 hl (by decide) rfl (fun ls hl => ?_)
          refine lv_lload hx hb dR_odds_268 (lv_at hl 1 rfl) ?_
          refine lv_lload hx hb dR_odds_270 (lv_at hl 0 rfl) ?_
          refine lv_iconst (v := 0) hx hb dR_odds_272 (by decide) ?_
          obtain ⟨r273, e273, hv⟩ := bsome hv
          refine qSl (rest := []) ⟨hx, hb, hml, hown, hts⟩ (kR_lowest l D Y (x4 * (((2 - ((g_rfo S) (((4 * x2) + (nI i)) : Int32).toNatClampNeg)) : Int32).toInt64 * r95.1)) (x6 * (2 * (r95.1 - r95.2))) 0 r273 e273) (va_cwS 3 hts (gS uw252 uw253 uw213 ucR_lowest) rfl rfl rfl hsR_lowest ⟨Nat.le_of_ble_eq_true rfl, Nat.le_of_ble_eq_true rfl⟩) hK (zsub [] hP rfl) rfl hl.1 rfl (Nat.le_of_ble_eq_true rfl) dR_odds_273 ⟨Nat.le_of_ble_eq_true rfl, Nat.le_of_ble_eq_true rfl⟩ ?_
          refine lv_lstore (lv' := [(4, .long r273), (21, .long (x6 * (2 * (r95.1 - r95.2)))), (19, .long (x4 * (((2 - ((g_rfo S) (((4 * x2) + (nI i)) : Int32).toNatClampNeg)) : Int32).toInt64 * r95.1))), (17, .long (2 * (r95.1 - r95.2))), (15, .long (((2 - ((g_rfo S) (((4 * x2) + (nI i)) : Int32).toNatClampNeg)) : Int32).toInt64 * r95.1)), (0, .ref (h 0)), (1, .int x1), (2, .int x2), (3, .int x3), (6, .long x6), (8, .int (nI i)), (9, .int ((g_rfo S) (((4 * x1) + (nI i)) : Int32).toNatClampNeg)), (10, .int ((g_rfo S) (((4 * x2) + (nI i)) : Int32).toNatClampNeg)), (11, .long r95.1), (13, .long r95.2)]) hx hb dR_odds_276 hl (by decide) rfl (fun ls hl => ?_)
          refine lv_lload hx hb dR_odds_278 (lv_at hl 2 rfl) ?_
          refine lv_lload hx hb dR_odds_280 (lv_at hl 1 rfl) ?_
          refine lv_iconst (v := 1) hx hb dR_odds_282 (by decide) ?_
          obtain ⟨r283, e283, hv⟩ := bsome hv
          refine qSl (rest := []) ⟨hx, hb, hml, hown, hts⟩ (kR_lowest l D Y (x4 * (((2 - ((g_rfo S) (((4 * x2) + (nI i)) : Int32).toNatClampNeg)) : Int32).toInt64 * r95.1)) (x6 * (2 * (r95.1 - r95.2))) 1 r283 e283) (va_cwS 3 hts (gS uw252 uw253 uw213 ucR_lowest) rfl rfl rfl hsR_lowest ⟨Nat.le_of_ble_eq_true rfl, Nat.le_of_ble_eq_true rfl⟩) hK (zsub [] hP rfl) rfl hl.1 rfl (Nat.le_of_ble_eq_true rfl) dR_odds_283 ⟨Nat.le_of_ble_eq_true rfl, Nat.le_of_ble_eq_true rfl⟩ ?_
          refine lv_lstore (lv' := [(6, .long r283), (4, .long r273), (21, .long (x6 * (2 * (r95.1 - r95.2)))), (19, .long (x4 * (((2 - ((g_rfo S) (((4 * x2) + (nI i)) : Int32).toNatClampNeg)) : Int32).toInt64 * r95.1))), (17, .long (2 * (r95.1 - r95.2))), (15, .long (((2 - ((g_rfo S) (((4 * x2) + (nI i)) : Int32).toNatClampNeg)) : Int32).toInt64 * r95.1)), (0, .ref (h 0)), (1, .int x1), (2, .int x2), (3, .int x3), (8, .int (nI i)), (9, .int ((g_rfo S) (((4 * x1) + (nI i)) : Int32).toNatClampNeg)), (10, .int ((g_rfo S) (((4 * x2) + (nI i)) : Int32).toNatClampNeg)), (11, .long r95.1), (13, .long r95.2)]) hx hb dR_odds_286 hl (by decide) rfl (fun ls hl => ?_)
          refine lv_iinc (v := (nI (i + 1))) (lv' := [(8, .int (nI (i + 1))), (6, .long r283), (4, .long r273), (21, .long (x6 * (2 * (r95.1 - r95.2)))), (19, .long (x4 * (((2 - ((g_rfo S) (((4 * x2) + (nI i)) : Int32).toNatClampNeg)) : Int32).toInt64 * r95.1))), (17, .long (2 * (r95.1 - r95.2))), (15, .long (((2 - ((g_rfo S) (((4 * x2) + (nI i)) : Int32).toNatClampNeg)) : Int32).toInt64 * r95.1)), (0, .ref (h 0)), (1, .int x1), (2, .int x2), (3, .int x3), (9, .int ((g_rfo S) (((4 * x1) + (nI i)) : Int32).toNatClampNeg)), (10, .int ((g_rfo S) (((4 * x2) + (nI i)) : Int32).toNatClampNeg)), (11, .long r95.1), (13, .long r95.2)]) hx hb dR_odds_288 hl (k := 10) rfl (nI_1 _) (by decide) rfl (fun ls hl => ?_)
          refine lv_goto (tgt := 41) hx hb dR_odds_291 (by decide) ?_
          exact ih (i + 1) x1 x2 x3 r273 r283 _ (by omega) hv ls (lv_sub hl [7, 8, 9, 10, 2, 1, 0] rfl)
        · rw [if_neg c156] at hv
          refine lv_if_ne (tgt := 170) hx hb dR_odds_156 (by decide) (fun _ => ?_) (fun z => absurd z c156)
          refine lv_iload hx hb dR_odds_170 (lv_at hl 7 rfl) ?_
          refine lv_iconst (v := 2) hx hb dR_odds_172 (by decide) ?_
          by_cases c173 : ((g_rfo S) (((4 * x1) + (nI i)) : Int32).toNatClampNeg) = 2
          · rw [if_pos c173] at hv
            refine lv_icmp_ne (tgt := 185) hx hb dR_odds_173 (by decide) (fun z => absurd c173 z) (fun _ => ?_)
            refine lv_iload hx hb dR_odds_176 (lv_at hl 8 rfl) ?_
            refine lv_i2l (v := (((g_rfo S) (((4 * x2) + (nI i)) : Int32).toNatClampNeg) : Int32).toInt64) hx hb dR_odds_178 rfl ?_
            refine lv_lload hx hb dR_odds_179 (lv_at hl 9 rfl) ?_
            refine lv_lmul hx hb dR_odds_181 ?_
            refine lv_goto (tgt := 206) hx hb dR_odds_182 (by decide) ?_
            refine lv_lstore (lv' := [(15, .long ((((g_rfo S) (((4 * x2) + (nI i)) : Int32).toNatClampNeg) : Int32).toInt64 * r95.1)), (0, .ref (h 0)), (1, .int x1), (2, .int x2), (3, .int x3), (4, .long x4), (6, .long x6), (8, .int (nI i)), (9, .int ((g_rfo S) (((4 * x1) + (nI i)) : Int32).toNatClampNeg)), (10, .int ((g_rfo S) (((4 * x2) + (nI i)) : Int32).toNatClampNeg)), (11, .long r95.1), (13, .long r95.2)]) hx hb dR_odds_206 hl (by decide) rfl (fun ls hl => ?_)
            refine lv_iload hx hb dR_odds_208 (lv_at hl 8 rfl) ?_
            refine lv_if_ne (tgt := 225) hx hb dR_odds_210 (by decide) (fun _ => ?_) (fun z => absurd z c156)
            refine lv_iload hx hb dR_odds_225 (lv_at hl 8 rfl) ?_
            refine lv_iconst (v := 2) hx hb dR_odds_227 (by decide) ?_
            refine lv_icmp_ne (tgt := 240) hx hb dR_odds_228 (by decide) (fun z => absurd c173 z) (fun _ => ?_)
            refine lv_ldc2 (v := 2) hx hb hown (hts _ uw226) dR_odds_231 ?_
            refine lv_lload hx hb dR_odds_234 (lv_at hl 11 rfl) ?_
            refine lv_lmul hx hb dR_odds_236 ?_
            refine lv_goto (tgt := 252) hx hb dR_odds_237 (by decide) ?_
            refine lv_lstore (lv' := [(17, .long (2 * r95.2)), (15, .long ((((g_rfo S) (((4 * x2) + (nI i)) : Int32).toNatClampNeg) : Int32).toInt64 * r95.1)), (0, .ref (h 0)), (1, .int x1), (2, .int x2), (3, .int x3), (4, .long x4), (6, .long x6), (8, .int (nI i)), (9, .int ((g_rfo S) (((4 * x1) + (nI i)) : Int32).toNatClampNeg)), (10, .int ((g_rfo S) (((4 * x2) + (nI i)) : Int32).toNatClampNeg)), (11, .long r95.1), (13, .long r95.2)]) hx hb dR_odds_252 hl (by decide) rfl (fun ls hl => ?_)
            refine lv_lload hx hb dR_odds_254 (lv_at hl 6 rfl) ?_
            refine lv_lload hx hb dR_odds_256 (lv_at hl 1 rfl) ?_
            refine lv_lmul hx hb dR_odds_258 ?_
            refine lv_lstore (lv' := [(19, .long (x4 * ((((g_rfo S) (((4 * x2) + (nI i)) : Int32).toNatClampNeg) : Int32).toInt64 * r95.1))), (17, .long (2 * r95.2)), (15, .long ((((g_rfo S) (((4 * x2) + (nI i)) : Int32).toNatClampNeg) : Int32).toInt64 * r95.1)), (0, .ref (h 0)), (1, .int x1), (2, .int x2), (3, .int x3), (4, .long x4), (6, .long x6), (8, .int (nI i)), (9, .int ((g_rfo S) (((4 * x1) + (nI i)) : Int32).toNatClampNeg)), (10, .int ((g_rfo S) (((4 * x2) + (nI i)) : Int32).toNatClampNeg)), (11, .long r95.1), (13, .long r95.2)]) hx hb dR_odds_259 hl (by decide) rfl (fun ls hl => ?_)
            refine lv_lload hx hb dR_odds_261 (lv_at hl 8 rfl) ?_
            refine lv_lload hx hb dR_odds_263 (lv_at hl 1 rfl) ?_
            refine lv_lmul hx hb dR_odds_265 ?_
            refine lv_lstore (lv' := [(21, .long (x6 * (2 * r95.2))), (19, .long (x4 * ((((g_rfo S) (((4 * x2) + (nI i)) : Int32).toNatClampNeg) : Int32).toInt64 * r95.1))), (17, .long (2 * r95.2)), (15, .long ((((g_rfo S) (((4 * x2) + (nI i)) : Int32).toNatClampNeg) : Int32).toInt64 * r95.1)), (0, .ref (h 0)), (1, .int x1), (2, .int x2), (3, .int x3), (4, .long x4), (6, .long x6), (8, .int (nI i)), (9, .int ((g_rfo S) (((4 * x1) + (nI i)) : Int32).toNatClampNeg)), (10, .int ((g_rfo S) (((4 * x2) + (nI i)) : Int32).toNatClampNeg)), (11, .long r95.1), (13, .long r95.2)]) hx hb dR_odds_266 hl (by decide) rfl (fun ls hl => ?_)
            refine lv_lload hx hb dR_odds_268 (lv_at hl 1 rfl) ?_
            refine lv_lload hx hb dR_odds_270 (lv_at hl 0 rfl) ?_
            refine lv_iconst (v := 0) hx hb dR_odds_272 (by decide) ?_
            obtain ⟨r273, e273, hv⟩ := bsome hv
            refine qSl (rest := []) ⟨hx, hb, hml, hown, hts⟩ (kR_lowest l D Y (x4 * ((((g_rfo S) (((4 * x2) + (nI i)) : Int32).toNatClampNeg) : Int32).toInt64 * r95.1)) (x6 * (2 * r95.2)) 0 r273 e273) (va_cwS 3 hts (gS uw252 uw253 uw213 ucR_lowest) rfl rfl rfl hsR_lowest ⟨Nat.le_of_ble_eq_true rfl, Nat.le_of_ble_eq_true rfl⟩) hK (zsub [] hP rfl) rfl hl.1 rfl (Nat.le_of_ble_eq_true rfl) dR_odds_273 ⟨Nat.le_of_ble_eq_true rfl, Nat.le_of_ble_eq_true rfl⟩ ?_
            refine lv_lstore (lv' := [(4, .long r273), (21, .long (x6 * (2 * r95.2))), (19, .long (x4 * ((((g_rfo S) (((4 * x2) + (nI i)) : Int32).toNatClampNeg) : Int32).toInt64 * r95.1))), (17, .long (2 * r95.2)), (15, .long ((((g_rfo S) (((4 * x2) + (nI i)) : Int32).toNatClampNeg) : Int32).toInt64 * r95.1)), (0, .ref (h 0)), (1, .int x1), (2, .int x2), (3, .int x3), (6, .long x6), (8, .int (nI i)), (9, .int ((g_rfo S) (((4 * x1) + (nI i)) : Int32).toNatClampNeg)), (10, .int ((g_rfo S) (((4 * x2) + (nI i)) : Int32).toNatClampNeg)), (11, .long r95.1), (13, .long r95.2)]) hx hb dR_odds_276 hl (by decide) rfl (fun ls hl => ?_)
            refine lv_lload hx hb dR_odds_278 (lv_at hl 2 rfl) ?_
            refine lv_lload hx hb dR_odds_280 (lv_at hl 1 rfl) ?_
            refine lv_iconst (v := 1) hx hb dR_odds_282 (by decide) ?_
            obtain ⟨r283, e283, hv⟩ := bsome hv
            refine qSl (rest := []) ⟨hx, hb, hml, hown, hts⟩ (kR_lowest l D Y (x4 * ((((g_rfo S) (((4 * x2) + (nI i)) : Int32).toNatClampNeg) : Int32).toInt64 * r95.1)) (x6 * (2 * r95.2)) 1 r283 e283) (va_cwS 3 hts (gS uw252 uw253 uw213 ucR_lowest) rfl rfl rfl hsR_lowest ⟨Nat.le_of_ble_eq_true rfl, Nat.le_of_ble_eq_true rfl⟩) hK (zsub [] hP rfl) rfl hl.1 rfl (Nat.le_of_ble_eq_true rfl) dR_odds_283 ⟨Nat.le_of_ble_eq_true rfl, Nat.le_of_ble_eq_true rfl⟩ ?_
            refine lv_lstore (lv' := [(6, .long r283), (4, .long r273), (21, .long (x6 * (2 * r95.2))), (19, .long (x4 * ((((g_rfo S) (((4 * x2) + (nI i)) : Int32).toNatClampNeg) : Int32).toInt64 * r95.1))), (17, .long (2 * r95.2)), (15, .long ((((g_rfo S) (((4 * x2) + (nI i)) : Int32).toNatClampNeg) : Int32).toInt64 * r95.1)), (0, .ref (h 0)), (1, .int x1), (2, .int x2), (3, .int x3), (8, .int (nI i)), (9, .int ((g_rfo S) (((4 * x1) + (nI i)) : Int32).toNatClampNeg)), (10, .int ((g_rfo S) (((4 * x2) + (nI i)) : Int32).toNatClampNeg)), (11, .long r95.1), (13, .long r95.2)]) hx hb dR_odds_286 hl (by decide) rfl (fun ls hl => ?_)
            refine lv_iinc (v := (nI (i + 1))) (lv' := [(8, .int (nI (i + 1))), (6, .long r283), (4, .long r273), (21, .long (x6 * (2 * r95.2))), (19, .long (x4 * ((((g_rfo S) (((4 * x2) + (nI i)) : Int32).toNatClampNeg) : Int32).toInt64 * r95.1))), (17, .long (2 * r95.2)), (15, .long ((((g_rfo S) (((4 * x2) + (nI i)) : Int32).toNatClampNeg) : Int32).toInt64 * r95.1)), (0, .ref (h 0)), (1, .int x1), (2, .int x2), (3, .int x3), (9, .int ((g_rfo S) (((4 * x1) + (nI i)) : Int32).toNatClampNeg)), (10, .int ((g_rfo S) (((4 * x2) + (nI i)) : Int32).toNatClampNeg)), (11, .long r95.1), (13, .long r95.2)]) hx hb dR_odds_288 hl (k := 10) rfl (nI_1 _) (by decide) rfl (fun ls hl => ?_)
            refine lv_goto (tgt := 41) hx hb dR_odds_291 (by decide) ?_
            exact ih (i + 1) x1 x2 x3 r273 r283 _ (by omega) hv ls (lv_sub hl [7, 8, 9, 10, 2, 1, 0] rfl)
          · rw [if_neg c173] at hv
            refine lv_icmp_ne (tgt := 185) hx hb dR_odds_173 (by decide) (fun _ => ?_) (fun z => absurd z c173)
            refine lv_iload hx hb dR_odds_185 (lv_at hl 8 rfl) ?_
            refine lv_i2l (v := (((g_rfo S) (((4 * x2) + (nI i)) : Int32).toNatClampNeg) : Int32).toInt64) hx hb dR_odds_187 rfl ?_
            refine lv_lload hx hb dR_odds_188 (lv_at hl 9 rfl) ?_
            refine lv_lload hx hb dR_odds_190 (lv_at hl 10 rfl) ?_
            refine lv_lsub hx hb dR_odds_192 ?_
            refine lv_lmul hx hb dR_odds_193 ?_
            refine lv_iconst (v := 2) hx hb dR_odds_194 (by decide) ?_
            refine lv_iload hx hb dR_odds_195 (lv_at hl 8 rfl) ?_
            refine lv_isub hx hb dR_odds_197 ?_
            refine lv_i2l (v := ((2 - ((g_rfo S) (((4 * x2) + (nI i)) : Int32).toNatClampNeg)) : Int32).toInt64) hx hb dR_odds_198 rfl ?_
            refine lv_lload hx hb dR_odds_199 (lv_at hl 10 rfl) ?_
            refine lv_lmul hx hb dR_odds_201 ?_
            refine lv_ladd hx hb dR_odds_202 ?_
            refine lv_lload hx hb dR_odds_203 (lv_at hl 9 rfl) ?_
            refine lv_lmul hx hb dR_odds_205 ?_
            refine lv_lstore (lv' := [(15, .long ((((((g_rfo S) (((4 * x2) + (nI i)) : Int32).toNatClampNeg) : Int32).toInt64 * (r95.1 - r95.2)) + (((2 - ((g_rfo S) (((4 * x2) + (nI i)) : Int32).toNatClampNeg)) : Int32).toInt64 * r95.2)) * r95.1)), (0, .ref (h 0)), (1, .int x1), (2, .int x2), (3, .int x3), (4, .long x4), (6, .long x6), (8, .int (nI i)), (9, .int ((g_rfo S) (((4 * x1) + (nI i)) : Int32).toNatClampNeg)), (10, .int ((g_rfo S) (((4 * x2) + (nI i)) : Int32).toNatClampNeg)), (11, .long r95.1), (13, .long r95.2)]) hx hb dR_odds_206 hl (by decide) rfl (fun ls hl => ?_)
            refine lv_iload hx hb dR_odds_208 (lv_at hl 8 rfl) ?_
            refine lv_if_ne (tgt := 225) hx hb dR_odds_210 (by decide) (fun _ => ?_) (fun z => absurd z c156)
            refine lv_iload hx hb dR_odds_225 (lv_at hl 8 rfl) ?_
            refine lv_iconst (v := 2) hx hb dR_odds_227 (by decide) ?_
            refine lv_icmp_ne (tgt := 240) hx hb dR_odds_228 (by decide) (fun _ => ?_) (fun z => absurd z c173)
            refine lv_ldc2 (v := 4) hx hb hown (hts _ uw265) dR_odds_240 ?_
            refine lv_lload hx hb dR_odds_243 (lv_at hl 11 rfl) ?_
            refine lv_lmul hx hb dR_odds_245 ?_
            refine lv_lload hx hb dR_odds_246 (lv_at hl 10 rfl) ?_
            refine lv_lload hx hb dR_odds_248 (lv_at hl 11 rfl) ?_
            refine lv_lsub hx hb dR_odds_250 ?_
            refine lv_lmul hx hb dR_odds_251 ?_
            refine lv_lstore (lv' := [(17, .long ((4 * r95.2) * (r95.1 - r95.2))), (15, .long ((((((g_rfo S) (((4 * x2) + (nI i)) : Int32).toNatClampNeg) : Int32).toInt64 * (r95.1 - r95.2)) + (((2 - ((g_rfo S) (((4 * x2) + (nI i)) : Int32).toNatClampNeg)) : Int32).toInt64 * r95.2)) * r95.1)), (0, .ref (h 0)), (1, .int x1), (2, .int x2), (3, .int x3), (4, .long x4), (6, .long x6), (8, .int (nI i)), (9, .int ((g_rfo S) (((4 * x1) + (nI i)) : Int32).toNatClampNeg)), (10, .int ((g_rfo S) (((4 * x2) + (nI i)) : Int32).toNatClampNeg)), (11, .long r95.1), (13, .long r95.2)]) hx hb dR_odds_252 hl (by decide) rfl (fun ls hl => ?_)
            refine lv_lload hx hb dR_odds_254 (lv_at hl 6 rfl) ?_
            refine lv_lload hx hb dR_odds_256 (lv_at hl 1 rfl) ?_
            refine lv_lmul hx hb dR_odds_258 ?_
            refine lv_lstore (lv' := [(19, .long (x4 * ((((((g_rfo S) (((4 * x2) + (nI i)) : Int32).toNatClampNeg) : Int32).toInt64 * (r95.1 - r95.2)) + (((2 - ((g_rfo S) (((4 * x2) + (nI i)) : Int32).toNatClampNeg)) : Int32).toInt64 * r95.2)) * r95.1))), (17, .long ((4 * r95.2) * (r95.1 - r95.2))), (15, .long ((((((g_rfo S) (((4 * x2) + (nI i)) : Int32).toNatClampNeg) : Int32).toInt64 * (r95.1 - r95.2)) + (((2 - ((g_rfo S) (((4 * x2) + (nI i)) : Int32).toNatClampNeg)) : Int32).toInt64 * r95.2)) * r95.1)), (0, .ref (h 0)), (1, .int x1), (2, .int x2), (3, .int x3), (4, .long x4), (6, .long x6), (8, .int (nI i)), (9, .int ((g_rfo S) (((4 * x1) + (nI i)) : Int32).toNatClampNeg)), (10, .int ((g_rfo S) (((4 * x2) + (nI i)) : Int32).toNatClampNeg)), (11, .long r95.1), (13, .long r95.2)]) hx hb dR_odds_259 hl (by decide) rfl (fun ls hl => ?_)
            refine lv_lload hx hb dR_odds_261 (lv_at hl 8 rfl) ?_
            refine lv_lload hx hb dR_odds_263 (lv_at hl 1 rfl) ?_
            refine lv_lmul hx hb dR_odds_265 ?_
            refine lv_lstore (lv' := [(21, .long (x6 * ((4 * r95.2) * (r95.1 - r95.2)))), (19, .long (x4 * ((((((g_rfo S) (((4 * x2) + (nI i)) : Int32).toNatClampNeg) : Int32).toInt64 * (r95.1 - r95.2)) + (((2 - ((g_rfo S) (((4 * x2) + (nI i)) : Int32).toNatClampNeg)) : Int32).toInt64 * r95.2)) * r95.1))), (17, .long ((4 * r95.2) * (r95.1 - r95.2))), (15, .long ((((((g_rfo S) (((4 * x2) + (nI i)) : Int32).toNatClampNeg) : Int32).toInt64 * (r95.1 - r95.2)) + (((2 - ((g_rfo S) (((4 * x2) + (nI i)) : Int32).toNatClampNeg)) : Int32).toInt64 * r95.2)) * r95.1)), (0, .ref (h 0)), (1, .int x1), (2, .int x2), (3, .int x3), (4, .long x4), (6, .long x6), (8, .int (nI i)), (9, .int ((g_rfo S) (((4 * x1) + (nI i)) : Int32).toNatClampNeg)), (10, .int ((g_rfo S) (((4 * x2) + (nI i)) : Int32).toNatClampNeg)), (11, .long r95.1), (13, .long r95.2)]) hx hb dR_odds_266 hl (by decide) rfl (fun ls hl => ?_)
            refine lv_lload hx hb dR_odds_268 (lv_at hl 1 rfl) ?_
            refine lv_lload hx hb dR_odds_270 (lv_at hl 0 rfl) ?_
            refine lv_iconst (v := 0) hx hb dR_odds_272 (by decide) ?_
            obtain ⟨r273, e273, hv⟩ := bsome hv
            refine qSl (rest := []) ⟨hx, hb, hml, hown, hts⟩ (kR_lowest l D Y (x4 * ((((((g_rfo S) (((4 * x2) + (nI i)) : Int32).toNatClampNeg) : Int32).toInt64 * (r95.1 - r95.2)) + (((2 - ((g_rfo S) (((4 * x2) + (nI i)) : Int32).toNatClampNeg)) : Int32).toInt64 * r95.2)) * r95.1)) (x6 * ((4 * r95.2) * (r95.1 - r95.2))) 0 r273 e273) (va_cwS 3 hts (gS uw252 uw253 uw213 ucR_lowest) rfl rfl rfl hsR_lowest ⟨Nat.le_of_ble_eq_true rfl, Nat.le_of_ble_eq_true rfl⟩) hK (zsub [] hP rfl) rfl hl.1 rfl (Nat.le_of_ble_eq_true rfl) dR_odds_273 ⟨Nat.le_of_ble_eq_true rfl, Nat.le_of_ble_eq_true rfl⟩ ?_
            refine lv_lstore (lv' := [(4, .long r273), (21, .long (x6 * ((4 * r95.2) * (r95.1 - r95.2)))), (19, .long (x4 * ((((((g_rfo S) (((4 * x2) + (nI i)) : Int32).toNatClampNeg) : Int32).toInt64 * (r95.1 - r95.2)) + (((2 - ((g_rfo S) (((4 * x2) + (nI i)) : Int32).toNatClampNeg)) : Int32).toInt64 * r95.2)) * r95.1))), (17, .long ((4 * r95.2) * (r95.1 - r95.2))), (15, .long ((((((g_rfo S) (((4 * x2) + (nI i)) : Int32).toNatClampNeg) : Int32).toInt64 * (r95.1 - r95.2)) + (((2 - ((g_rfo S) (((4 * x2) + (nI i)) : Int32).toNatClampNeg)) : Int32).toInt64 * r95.2)) * r95.1)), (0, .ref (h 0)), (1, .int x1), (2, .int x2), (3, .int x3), (6, .long x6), (8, .int (nI i)), (9, .int ((g_rfo S) (((4 * x1) + (nI i)) : Int32).toNatClampNeg)), (10, .int ((g_rfo S) (((4 * x2) + (nI i)) : Int32).toNatClampNeg)), (11, .long r95.1), (13, .long r95.2)]) hx hb dR_odds_276 hl (by decide) rfl (fun ls hl => ?_)
            refine lv_lload hx hb dR_odds_278 (lv_at hl 2 rfl) ?_
            refine lv_lload hx hb dR_odds_280 (lv_at hl 1 rfl) ?_
            refine lv_iconst (v := 1) hx hb dR_odds_282 (by decide) ?_
            obtain ⟨r283, e283, hv⟩ := bsome hv
            refine qSl (rest := []) ⟨hx, hb, hml, hown, hts⟩ (kR_lowest l D Y (x4 * ((((((g_rfo S) (((4 * x2) + (nI i)) : Int32).toNatClampNeg) : Int32).toInt64 * (r95.1 - r95.2)) + (((2 - ((g_rfo S) (((4 * x2) + (nI i)) : Int32).toNatClampNeg)) : Int32).toInt64 * r95.2)) * r95.1)) (x6 * ((4 * r95.2) * (r95.1 - r95.2))) 1 r283 e283) (va_cwS 3 hts (gS uw252 uw253 uw213 ucR_lowest) rfl rfl rfl hsR_lowest ⟨Nat.le_of_ble_eq_true rfl, Nat.le_of_ble_eq_true rfl⟩) hK (zsub [] hP rfl) rfl hl.1 rfl (Nat.le_of_ble_eq_true rfl) dR_odds_283 ⟨Nat.le_of_ble_eq_true rfl, Nat.le_of_ble_eq_true rfl⟩ ?_
            refine lv_lstore (lv' := [(6, .long r283), (4, .long r273), (21, .long (x6 * ((4 * r95.2) * (r95.1 - r95.2)))), (19, .long (x4 * ((((((g_rfo S) (((4 * x2) + (nI i)) : Int32).toNatClampNeg) : Int32).toInt64 * (r95.1 - r95.2)) + (((2 - ((g_rfo S) (((4 * x2) + (nI i)) : Int32).toNatClampNeg)) : Int32).toInt64 * r95.2)) * r95.1))), (17, .long ((4 * r95.2) * (r95.1 - r95.2))), (15, .long ((((((g_rfo S) (((4 * x2) + (nI i)) : Int32).toNatClampNeg) : Int32).toInt64 * (r95.1 - r95.2)) + (((2 - ((g_rfo S) (((4 * x2) + (nI i)) : Int32).toNatClampNeg)) : Int32).toInt64 * r95.2)) * r95.1)), (0, .ref (h 0)), (1, .int x1), (2, .int x2), (3, .int x3), (8, .int (nI i)), (9, .int ((g_rfo S) (((4 * x1) + (nI i)) : Int32).toNatClampNeg)), (10, .int ((g_rfo S) (((4 * x2) + (nI i)) : Int32).toNatClampNeg)), (11, .long r95.1), (13, .long r95.2)]) hx hb dR_odds_286 hl (by decide) rfl (fun ls hl => ?_)
            refine lv_iinc (v := (nI (i + 1))) (lv' := [(8, .int (nI (i + 1))), (6, .long r283), (4, .long r273), (21, .long (x6 * ((4 * r95.2) * (r95.1 - r95.2)))), (19, .long (x4 * ((((((g_rfo S) (((4 * x2) + (nI i)) : Int32).toNatClampNeg) : Int32).toInt64 * (r95.1 - r95.2)) + (((2 - ((g_rfo S) (((4 * x2) + (nI i)) : Int32).toNatClampNeg)) : Int32).toInt64 * r95.2)) * r95.1))), (17, .long ((4 * r95.2) * (r95.1 - r95.2))), (15, .long ((((((g_rfo S) (((4 * x2) + (nI i)) : Int32).toNatClampNeg) : Int32).toInt64 * (r95.1 - r95.2)) + (((2 - ((g_rfo S) (((4 * x2) + (nI i)) : Int32).toNatClampNeg)) : Int32).toInt64 * r95.2)) * r95.1)), (0, .ref (h 0)), (1, .int x1), (2, .int x2), (3, .int x3), (9, .int ((g_rfo S) (((4 * x1) + (nI i)) : Int32).toNatClampNeg)), (10, .int ((g_rfo S) (((4 * x2) + (nI i)) : Int32).toNatClampNeg)), (11, .long r95.1), (13, .long r95.2)]) hx hb dR_odds_288 hl (k := 10) rfl (nI_1 _) (by decide) rfl (fun ls hl => ?_)
            refine lv_goto (tgt := 41) hx hb dR_odds_291 (by decide) ?_
            exact ih (i + 1) x1 x2 x3 r273 r283 _ (by omega) hv ls (lv_sub hl [7, 8, 9, 10, 2, 1, 0] rfl)
      · rw [if_neg c80] at hv
        refine lv_if_ge (tgt := 86) hx hb dR_odds_80 (by decide) (fun z => absurd z c80) (fun _ => ?_)
        refine lv_goto (tgt := 288) hx hb dR_odds_83 (by decide) ?_
        refine lv_iinc (v := (nI (i + 1))) (lv' := [(8, .int (nI (i + 1))), (10, .int ((g_rfo S) (((4 * x2) + (nI i)) : Int32).toNatClampNeg)), (9, .int ((g_rfo S) (((4 * x1) + (nI i)) : Int32).toNatClampNeg)), (0, .ref (h 0)), (1, .int x1), (2, .int x2), (3, .int x3), (4, .long x4), (6, .long x6)]) hx hb dR_odds_288 hl (k := 8) rfl (nI_1 _) (by decide) rfl (fun ls hl => ?_)
        refine lv_goto (tgt := 41) hx hb dR_odds_291 (by decide) ?_
        exact ih (i + 1) x1 x2 x3 x4 x6 _ (by omega) hv ls (lv_sub hl [3, 4, 5, 6, 7, 8, 0] rfl)
set_option maxHeartbeats 4000000 in
set_option maxRecDepth 100000 in
theorem kR_odds (l : Launch) (D : va_G) (Y : Nat → ClassId) (h : Nat → Nat) (n : Nat) (hn : n ≤ 24) (S : vR) (a1 : Int32) (a2 : Int32) (a3 : Int32) (v : Int64) (hv : (fR_odds n S a1 a2 a3) = some v) : Met l yR_odds wsR_odds rmR_odds (va_Pc [.ref (h 0), .int a1, .int a2, .int a3] (zPre D vwCl (tysK Y) (wR Y h n S))) (vp_Sl (fun r => r = v)) 0 0 (fun _ => False) := by
  refine Met.ofW (cc := cR_odds) (maxL := 23) (ret := (some .long)) (by decide) rfl ?_
  intro p e s m args below meth c s₁ B hml hvv
  obtain ⟨rfl, hP, hK⟩ := hvv
  have hx := B.exec
  have hb := B.bytes
  have hr := B.returns
  have hts : ∀ w ∈ uT, w.before _ s = true := fun w hw => atoms_spec (ws := wsR_odds) B.pre w (List.mem_cons_of_mem _ hw)
  have hown : s.vm.findClass RR = some m.cls := findClass_of_methodNamed B.named
  have hlocks := B.notSynchronized
  have hl := lv_entry ([.ref (h 0), .int a1, .int a2, .int a3]) (n := 23) (Nat.le_of_ble_eq_true rfl)
  rw [lg_entry_eq]
  generalize (lg_sl ([.ref (h 0), .int a1, .int a2, .int a3]) ++ List.replicate (23 - (lg_sl ([.ref (h 0), .int a1, .int a2, .int a3])).length) Slot.unset).toArray = ls at hl ⊢
  have hl : lv_has ls 23 [(0, .ref (h 0)), (1, .int a1), (2, .int a2), (3, .int a3)] := hl
  unfold fR_odds at hv
  show W p l e rmR_odds s m _ below meth c s.heap [] 0 0 (zL below _ s v) (F0 m 0 ls [])
  refine lv_aload_n hx hb dR_odds_0 rfl (lv_at hl 0 rfl) ?_
  refine lv_iload_n hx hb dR_odds_1 rfl (lv_at hl 1 rfl) ?_
  refine qVi (rest := []) ⟨hx, hb, hml, hown, hts⟩ (kR_is l D Y h n hn S a1) (cwV 1 hts (gV uw210 uw211 uw212 uw213 ucR_is) rfl rfl rfl hvR_is ⟨Nat.le_of_ble_eq_true rfl, Nat.le_of_ble_eq_true rfl⟩) hK hP (va_recv hK hP (ci := 3) (q0 := 0) rfl rfl) rfl hl.1 rfl (Nat.le_of_ble_eq_true rfl) dR_odds_2 ⟨Nat.le_of_ble_eq_true rfl, Nat.le_of_ble_eq_true rfl⟩ ?_
  by_cases c5 : (fR_is n a1) = 0
  · rw [if_pos c5] at hv
    refine lv_if_eq (tgt := 28) hx hb dR_odds_5 (by decide) (fun _ => ?_) (fun z => absurd c5 z)
    refine lv_ldc2 (v := (-1)) hx hb hown (hts _ uw246) dR_odds_28 ?_
    cases hv
    exact zL_ret hx hb hr hlocks dR_odds_31
  · rw [if_neg c5] at hv
    refine lv_if_eq (tgt := 28) hx hb dR_odds_5 (by decide) (fun z => absurd z c5) (fun _ => ?_)
    refine lv_aload_n hx hb dR_odds_8 rfl (lv_at hl 0 rfl) ?_
    refine lv_iload_n hx hb dR_odds_9 rfl (lv_at hl 2 rfl) ?_
    refine qVi (rest := []) ⟨hx, hb, hml, hown, hts⟩ (kR_is l D Y h n hn S a2) (cwV 1 hts (gV uw210 uw211 uw212 uw213 ucR_is) rfl rfl rfl hvR_is ⟨Nat.le_of_ble_eq_true rfl, Nat.le_of_ble_eq_true rfl⟩) hK hP (va_recv hK hP (ci := 3) (q0 := 0) rfl rfl) rfl hl.1 rfl (Nat.le_of_ble_eq_true rfl) dR_odds_10 ⟨Nat.le_of_ble_eq_true rfl, Nat.le_of_ble_eq_true rfl⟩ ?_
    by_cases c13 : (fR_is n a2) = 0
    · rw [if_pos c13] at hv
      refine lv_if_eq (tgt := 28) hx hb dR_odds_13 (by decide) (fun _ => ?_) (fun z => absurd c13 z)
      refine lv_ldc2 (v := (-1)) hx hb hown (hts _ uw246) dR_odds_28 ?_
      cases hv
      exact zL_ret hx hb hr hlocks dR_odds_31
    · rw [if_neg c13] at hv
      refine lv_if_eq (tgt := 28) hx hb dR_odds_13 (by decide) (fun z => absurd z c13) (fun _ => ?_)
      refine lv_iload_n hx hb dR_odds_16 rfl (lv_at hl 1 rfl) ?_
      refine lv_iload_n hx hb dR_odds_17 rfl (lv_at hl 2 rfl) ?_
      by_cases c18 : a1 = a2
      · rw [if_pos c18] at hv
        refine lv_icmp_eq (tgt := 28) hx hb dR_odds_18 (by decide) (fun _ => ?_) (fun z => absurd c18 z)
        refine lv_ldc2 (v := (-1)) hx hb hown (hts _ uw246) dR_odds_28 ?_
        cases hv
        exact zL_ret hx hb hr hlocks dR_odds_31
      · rw [if_neg c18] at hv
        refine lv_icmp_eq (tgt := 28) hx hb dR_odds_18 (by decide) (fun z => absurd z c18) (fun _ => ?_)
        refine lv_iload_n hx hb dR_odds_21 rfl (lv_at hl 3 rfl) ?_
        refine qSi (rest := []) ⟨hx, hb, hml, hown, hts⟩ (kR_isPart l D Y a3) (va_cwS 1 hts (gS uw247 uw248 uw213 ucR_isPart) rfl rfl rfl hsR_isPart ⟨Nat.le_of_ble_eq_true rfl, Nat.le_of_ble_eq_true rfl⟩) hK (zsub [] hP rfl) rfl hl.1 rfl (Nat.le_of_ble_eq_true rfl) dR_odds_22 ⟨Nat.le_of_ble_eq_true rfl, Nat.le_of_ble_eq_true rfl⟩ ?_
        by_cases c25 : (fR_isPart a3) = 0
        · rw [if_pos c25] at hv
          refine lv_if_ne (tgt := 32) hx hb dR_odds_25 (by decide) (fun z => absurd c25 z) (fun _ => ?_)
          refine lv_ldc2 (v := (-1)) hx hb hown (hts _ uw246) dR_odds_28 ?_
          cases hv
          exact zL_ret hx hb hr hlocks dR_odds_31
        · rw [if_neg c25] at hv
          refine lv_if_ne (tgt := 32) hx hb dR_odds_25 (by decide) (fun _ => ?_) (fun z => absurd z c25)
          refine lv_lconst (v := 1) hx hb dR_odds_32 (by decide) ?_
          refine lv_lstore (lv' := [(4, .long 1), (0, .ref (h 0)), (1, .int a1), (2, .int a2), (3, .int a3)]) hx hb dR_odds_33 hl (by decide) rfl (fun ls hl => ?_)
          refine lv_lconst (v := 1) hx hb dR_odds_35 (by decide) ?_
          refine lv_lstore (lv' := [(6, .long 1), (4, .long 1), (0, .ref (h 0)), (1, .int a1), (2, .int a2), (3, .int a3)]) hx hb dR_odds_36 hl (by decide) rfl (fun ls hl => ?_)
          refine lv_iconst (v := 0) hx hb dR_odds_38 (by decide) ?_
          refine lv_istore (lv' := [(8, .int 0), (6, .long 1), (4, .long 1), (0, .ref (h 0)), (1, .int a1), (2, .int a2), (3, .int a3)]) hx hb dR_odds_39 hl (by decide) rfl (fun ls hl => ?_)
          exact tR_odds_41 hn ⟨hx, hb, hml, hown, hts⟩ hr hlocks hK hP 4 0 a1 a2 a3 1 1 _ (by omega) hv ls (lv_sub hl [3, 4, 5, 6, 2, 1, 0] rfl)
