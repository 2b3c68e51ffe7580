abbrev rmR_like : Room := { frames := 1, cells := 0, slots := 0, locals := 30 }
set_option maxHeartbeats 4000000 in
set_option maxRecDepth 100000 in
theorem tR_like_36 {p : Program} {l : Launch} {e : Env} {s : State} {m : MethodId} {args : Array Value} {below : List Frame} {meth : Method} {c : Code} {D : va_G} {Y : Nat → ClassId} {h : Nat → Nat} {n : Nat} (hn : n ≤ 24) {S : vR} (CF : CallFix p m c cR_like 9 s args uT RR) (hr : meth.sig.returnType = (some .long)) (hlocks : meth.locks = false) (hK : va_K D vwCl (tysK Y) s) (hP : va_P D vwCl (wR Y h n S) s.heap) : ∀ (k : Nat) (i : Nat) (x1 : Int32) (x2 : Int32) (x3 : Int32) (x4 : Int32) (x5 : Int32) (v : Int64), i + k = 4 → (fR_like_36 n S k i x1 x2 x3 x4 x5) = some v → ∀ ls : Array Slot, lv_has ls 9 [(0, .ref (h 0)), (1, .int x1), (2, .int x2), (3, .int x3), (4, .int x4), (5, .int x5), (6, .int (nI i))] → W p l e rmR_like s m args below meth c s.heap [] 0 0 (zL below args s v) (F0 m 36 ls []) := by
  obtain ⟨hx, hb, hml, hown, hts⟩ := CF
  intro k
  induction k with
  | zero =>
    intro i x1 x2 x3 x4 x5 v hi hv ls hl
    rw [fR_like_36] at hv
    refine lv_iload hx hb dR_like_36 (lv_at hl 6 rfl) ?_
    refine lv_iconst (v := 4) hx hb dR_like_38 (by decide) ?_
    refine lv_icmp_ge (tgt := 119) hx hb dR_like_39 (by decide) (fun _ => ?_) (fun z => absurd (lp_ge (n := 4) hi) z)
    refine lv_iload hx hb dR_like_119 (lv_at hl 4 rfl) ?_
    by_cases c121 : x4 = 0
    · rw [if_pos c121] at hv
      refine lv_if_ne (tgt := 130) hx hb dR_like_121 (by decide) (fun z => absurd c121 z) (fun _ => ?_)
      refine lv_ldc2 (v := (-1)) hx hb hown (hts _ uw246) dR_like_124 ?_
      refine lv_goto (tgt := 140) hx hb dR_like_127 (by decide) ?_
      cases hv
      exact zL_ret hx hb hr hlocks dR_like_140
    · rw [if_neg c121] at hv
      refine lv_if_ne (tgt := 130) hx hb dR_like_121 (by decide) (fun _ => ?_) (fun z => absurd z c121)
      refine lv_iload hx hb dR_like_130 (lv_at hl 5 rfl) ?_
      refine lv_i2l (v := (x5 : Int32).toInt64) hx hb dR_like_132 rfl ?_
      refine lv_iload hx hb dR_like_133 (lv_at hl 4 rfl) ?_
      refine lv_i2l (v := (x4 : Int32).toInt64) hx hb dR_like_135 rfl ?_
      refine lv_iload_n hx hb dR_like_136 rfl (lv_at hl 3 rfl) ?_
      obtain ⟨r137, e137, hv⟩ := bsome hv
      refine qSl (rest := []) ⟨hx, hb, hml, hown, hts⟩ (kR_lowest l D Y ((x5 : Int32).toInt64) ((x4 : Int32).toInt64) x3 r137 e137) (va_cwS 3 hts (gS uw252 uw253 uw213 ucR_lowest) rfl rfl rfl hsR_lowest ⟨Nat.le_of_ble_eq_true rfl, Nat.le_of_ble_eq_true rfl⟩) hK (zsub [] hP rfl) rfl hl.1 rfl (Nat.le_of_ble_eq_true rfl) dR_like_137 ⟨Nat.le_of_ble_eq_true rfl, Nat.le_of_ble_eq_true rfl⟩ ?_
      cases hv
      exact zL_ret hx hb hr hlocks dR_like_140
  | succ k ih =>
    intro i x1 x2 x3 x4 x5 v hi hv ls hl
    rw [fR_like_36] at hv
    refine lv_iload hx hb dR_like_36 (lv_at hl 6 rfl) ?_
    refine lv_iconst (v := 4) hx hb dR_like_38 (by decide) ?_
    refine lv_icmp_ge (tgt := 119) hx hb dR_like_39 (by decide) (fun z => absurd z (lp_lt (n := 4) hi (by omega))) (fun _ => ?_)
    refine lv_aload_n hx hb dR_like_42 rfl (lv_at hl 0 rfl) ?_
    refine va_get (D := D) (ci := 3) (v := .ref (h 6)) (C := RR) (T := TR) (N := 13) hx hb hts hinR hown hK hP 0 rfl rfl 6 (by decide) (hts _ uw261) (fun _ h9 => h9) rfl dR_like_43 ?_
    refine lv_iconst (v := 4) hx hb dR_like_46 (by decide) ?_
    refine lv_iload_n hx hb dR_like_47 rfl (lv_at hl 1 rfl) ?_
    refine lv_imul hx hb dR_like_48 ?_
    refine lv_iload hx hb dR_like_49 (lv_at hl 6 rfl) ?_
    refine lv_iadd hx hb dR_like_51 ?_
    have k52 : ¬ (ob (((4 * x1) + (nI i)) : Int32) 96) := fun z => by rw [if_pos z] at hv; cases hv
    rw [if_neg k52] at hv
    refine va_iald hx hb hK hP 6 0 rfl rfl (k52) dR_like_52 ?_
    refine lv_istore (lv' := [(7, .int ((g_rfo S) (((4 * x1) + (nI i)) : Int32).toNatClampNeg)), (0, .ref (h 0)), (1, .int x1), (2, .int x2), (3, .int x3), (4, .int x4), (5, .int x5), (6, .int (nI i))]) hx hb dR_like_53 hl (by decide) rfl (fun ls hl => ?_)
    refine lv_aload_n hx hb dR_like_55 rfl (lv_at hl 1 rfl) ?_
    refine va_get (D := D) (ci := 3) (v := .ref (h 6)) (C := RR) (T := TR) (N := 13) hx hb hts hinR hown hK hP 0 rfl rfl 6 (by decide) (hts _ uw261) (fun _ h9 => h9) rfl dR_like_56 ?_
    refine lv_iconst (v := 4) hx hb dR_like_59 (by decide) ?_
    refine lv_iload_n hx hb dR_like_60 rfl (lv_at hl 3 rfl) ?_
    refine lv_imul hx hb dR_like_61 ?_
    refine lv_iload hx hb dR_like_62 (lv_at hl 7 rfl) ?_
    refine lv_iadd hx hb dR_like_64 ?_
    have k65 : ¬ (ob (((4 * x2) + (nI i)) : Int32) 96) := fun z => by rw [if_pos z] at hv; cases hv
    rw [if_neg k65] at hv
    refine va_iald hx hb hK hP 6 0 rfl rfl (k65) dR_like_65 ?_
    refine lv_istore (lv' := [(8, .int ((g_rfo S) (((4 * x2) + (nI i)) : Int32).toNatClampNeg)), (7, .int ((g_rfo S) (((4 * x1) + (nI i)) : Int32).toNatClampNeg)), (0, .ref (h 0)), (1, .int x1), (2, .int x2), (3, .int x3), (4, .int x4), (5, .int x5), (6, .int (nI i))]) hx hb dR_like_66 hl (by decide) rfl (fun ls hl => ?_)
    refine lv_iload hx hb dR_like_68 (lv_at hl 1 rfl) ?_
    by_cases c70 : ((g_rfo S) (((4 * x1) + (nI i)) : Int32).toNatClampNeg) < 0
    · rw [if_pos c70] at hv
      refine lv_if_lt (tgt := 113) hx hb dR_like_70 (by decide) (fun _ => ?_) (fun z => absurd c70 z)
      refine lv_iinc (v := (nI (i + 1))) (lv' := [(6, .int (nI (i + 1))), (8, .int ((g_rfo S) (((4 * x2) + (nI i)) : Int32).toNatClampNeg)), (7, .int ((g_rfo S) (((4 * x1) + (nI i)) : Int32).toNatClampNeg)), (0, .ref (h 0)), (1, .int x1), (2, .int x2), (3, .int x3), (4, .int x4), (5, .int x5)]) hx hb dR_like_113 hl (k := 8) rfl (nI_1 _) (by decide) rfl (fun ls hl => ?_)
      refine lv_goto (tgt := 36) hx hb dR_like_116 (by decide) ?_
      exact ih (i + 1) x1 x2 x3 x4 x5 _ (by omega) hv ls (lv_sub hl [3, 4, 5, 6, 7, 8, 0] rfl)
    · rw [if_neg c70] at hv
      refine lv_if_lt (tgt := 113) hx hb dR_like_70 (by decide) (fun z => absurd z c70) (fun _ => ?_)
      refine lv_iload hx hb dR_like_73 (lv_at hl 0 rfl) ?_
      by_cases c75 : 0 ≤ ((g_rfo S) (((4 * x2) + (nI i)) : Int32).toNatClampNeg)
      · rw [if_pos c75] at hv
        refine lv_if_ge (tgt := 81) hx hb dR_like_75 (by decide) (fun _ => ?_) (fun z => absurd c75 z)
        refine lv_iinc (v := (x4 + 2)) (lv' := [(4, .int (x4 + 2)), (8, .int ((g_rfo S) (((4 * x2) + (nI i)) : Int32).toNatClampNeg)), (7, .int ((g_rfo S) (((4 * x1) + (nI i)) : Int32).toNatClampNeg)), (0, .ref (h 0)), (1, .int x1), (2, .int x2), (3, .int x3), (5, .int x5), (6, .int (nI i))]) hx hb dR_like_81 hl (k := 6) rfl (rfl) (by decide) rfl (fun ls hl => ?_)
        refine lv_iload hx hb dR_like_84 (lv_at hl 7 rfl) ?_
        refine lv_iload hx hb dR_like_86 (lv_at hl 2 rfl) ?_
        refine lv_iload hx hb dR_like_88 (lv_at hl 1 rfl) ?_
        by_cases c90 : ((g_rfo S) (((4 * x2) + (nI i)) : Int32).toNatClampNeg) ≤ ((g_rfo S) (((4 * x1) + (nI i)) : Int32).toNatClampNeg)
        · rw [if_pos c90] at hv
          refine lv_icmp_ge (tgt := 103) hx hb dR_like_90 (by decide) (fun _ => ?_) (fun z => absurd c90 z)
          refine lv_iconst (v := 2) hx hb dR_like_103 (by decide) ?_
          refine lv_iload hx hb dR_like_104 (lv_at hl 2 rfl) ?_
          refine lv_isub hx hb dR_like_106 ?_
          refine lv_iload hx hb dR_like_107 (lv_at hl 1 rfl) ?_
          refine lv_iadd hx hb dR_like_109 ?_
          refine lv_iadd hx hb dR_like_110 ?_
          refine lv_istore (lv' := [(5, .int (x5 + ((2 - ((g_rfo S) (((4 * x1) + (nI i)) : Int32).toNatClampNeg)) + ((g_rfo S) (((4 * x2) + (nI i)) : Int32).toNatClampNeg)))), (4, .int (x4 + 2)), (8, .int ((g_rfo S) (((4 * x2) + (nI i)) : Int32).toNatClampNeg)), (7, .int ((g_rfo S) (((4 * x1) + (nI i)) : Int32).toNatClampNeg)), (0, .ref (h 0)), (1, .int x1), (2, .int x2), (3, .int x3), (6, .int (nI i))]) hx hb dR_like_111 hl (by decide) rfl (fun ls hl => ?_)
          refine lv_iinc (v := (nI (i + 1))) (lv' := [(6, .int (nI (i + 1))), (5, .int (x5 + ((2 - ((g_rfo S) (((4 * x1) + (nI i)) : Int32).toNatClampNeg)) + ((g_rfo S) (((4 * x2) + (nI i)) : Int32).toNatClampNeg)))), (4, .int (x4 + 2)), (8, .int ((g_rfo S) (((4 * x2) + (nI i)) : Int32).toNatClampNeg)), (7, .int ((g_rfo S) (((4 * x1) + (nI i)) : Int32).toNatClampNeg)), (0, .ref (h 0)), (1, .int x1), (2, .int x2), (3, .int x3)]) hx hb dR_like_113 hl (k := 8) rfl (nI_1 _) (by decide) rfl (fun ls hl => ?_)
          refine lv_goto (tgt := 36) hx hb dR_like_116 (by decide) ?_
          exact ih (i + 1) x1 x2 x3 (x4 + 2) (x5 + ((2 - ((g_rfo S) (((4 * x1) + (nI i)) : Int32).toNatClampNeg)) + ((g_rfo S) (((4 * x2) + (nI i)) : Int32).toNatClampNeg))) _ (by omega) hv ls (lv_sub hl [5, 6, 7, 8, 2, 1, 0] rfl)
        · rw [if_neg c90] at hv
          refine lv_icmp_ge (tgt := 103) hx hb dR_like_90 (by decide) (fun z => absurd z c90) (fun _ => ?_)
          refine lv_iconst (v := 2) hx hb dR_like_93 (by decide) ?_
          refine lv_iload hx hb dR_like_94 (lv_at hl 1 rfl) ?_
          refine lv_isub hx hb dR_like_96 ?_
          refine lv_iload hx hb dR_like_97 (lv_at hl 2 rfl) ?_
          refine lv_iadd hx hb dR_like_99 ?_
          refine lv_goto (tgt := 110) hx hb dR_like_100 (by decide) ?_
          refine lv_iadd hx hb dR_like_110 ?_
          refine lv_istore (lv' := [(5, .int (x5 + ((2 - ((g_rfo S) (((4 * x2) + (nI i)) : Int32).toNatClampNeg)) + ((g_rfo S) (((4 * x1) + (nI i)) : Int32).toNatClampNeg)))), (4, .int (x4 + 2)), (8, .int ((g_rfo S) (((4 * x2) + (nI i)) : Int32).toNatClampNeg)), (7, .int ((g_rfo S) (((4 * x1) + (nI i)) : Int32).toNatClampNeg)), (0, .ref (h 0)), (1, .int x1), (2, .int x2), (3, .int x3), (6, .int (nI i))]) hx hb dR_like_111 hl (by decide) rfl (fun ls hl => ?_)
          refine lv_iinc (v := (nI (i + 1))) (lv' := [(6, .int (nI (i + 1))), (5, .int (x5 + ((2 - ((g_rfo S) (((4 * x2) + (nI i)) : Int32).toNatClampNeg)) + ((g_rfo S) (((4 * x1) + (nI i)) : Int32).toNatClampNeg)))), (4, .int (x4 + 2)), (8, .int ((g_rfo S) (((4 * x2) + (nI i)) : Int32).toNatClampNeg)), (7, .int ((g_rfo S) (((4 * x1) + (nI i)) : Int32).toNatClampNeg)), (0, .ref (h 0)), (1, .int x1), (2, .int x2), (3, .int x3)]) hx hb dR_like_113 hl (k := 8) rfl (nI_1 _) (by decide) rfl (fun ls hl => ?_)
          refine lv_goto (tgt := 36) hx hb dR_like_116 (by decide) ?_
          exact ih (i + 1) x1 x2 x3 (x4 + 2) (x5 + ((2 - ((g_rfo S) (((4 * x2) + (nI i)) : Int32).toNatClampNeg)) + ((g_rfo S) (((4 * x1) + (nI i)) : Int32).toNatClampNeg))) _ (by omega) hv ls (lv_sub hl [5, 6, 7, 8, 2, 1, 0] rfl)
      · rw [if_neg c75] at hv
        refine lv_if_ge (tgt := 81) hx hb dR_like_75 (by decide) (fun z => absurd z c75) (fun _ => ?_)
        refine lv_goto (tgt := 113) hx hb dR_like_78 (by decide) ?_
        refine lv_iinc (v := (nI (i + 1))) (lv' := [(6, .int (nI (i + 1))), (8, .int ((g_rfo S) (((4 * x2) + (nI i)) : Int32).toNatClampNeg)), (7, .int ((g_rfo S) (((4 * x1) + (nI i)) : Int32).toNatClampNeg)), (0, .ref (h 0)), (1, .int x1), (2, .int x2), (3, .int x3), (4, .int x4), (5, .int x5)]) hx hb dR_like_113 hl (k := 8) rfl (nI_1 _) (by decide) rfl (fun ls hl => ?_)
        refine lv_goto (tgt := 36) hx hb dR_like_116 (by decide) ?_
        exact ih (i + 1) x1 x2 x3 x4 x5 _ (by omega) hv ls (lv_sub hl [3, 4, 5, 6, 7, 8, 0] rfl)
set_option maxHeartbeats 4000000 in
set_option maxRecDepth 100000 in
theorem kR_like (l : Launch) (D : va_G) (Y : Nat → ClassId) (h : Nat → Nat) (n : Nat) (hn : n ≤ 24) (S : vR) (a1 : Int32) (a2 : Int32) (a3 : Int32) (v : Int64) (hv : (fR_like n S a1 a2 a3) = some v) : Met l yR_like wsR_like rmR_like (va_Pc [.ref (h 0), .int a1, .int a2, .int a3] (zPre D vwCl (tysK Y) (wR Y h n S))) (vp_Sl (fun r => r = v)) 0 0 (fun _ => False) := by
  refine Met.ofW (cc := cR_like) (maxL := 9) (ret := (some .long)) (by decide) rfl ?_
  intro p e s m args below meth c s₁ B hml hvv
  obtain ⟨rfl, hP, hK⟩ := hvv
  have hx := B.exec
  have hb := B.bytes
  have hr := B.returns
  have hts : ∀ w ∈ uT, w.before _ s = true := fun w hw => atoms_spec (ws := wsR_like) B.pre w (List.mem_cons_of_mem _ hw)
  have hown : s.vm.findClass RR = some m.cls := findClass_of_methodNamed B.named
  have hlocks := B.notSynchronized
  have hl := lv_entry ([.ref (h 0), .int a1, .int a2, .int a3]) (n := 9) (Nat.le_of_ble_eq_true rfl)
  rw [lg_entry_eq]
  generalize (lg_sl ([.ref (h 0), .int a1, .int a2, .int a3]) ++ List.replicate (9 - (lg_sl ([.ref (h 0), .int a1, .int a2, .int a3])).length) Slot.unset).toArray = ls at hl ⊢
  have hl : lv_has ls 9 [(0, .ref (h 0)), (1, .int a1), (2, .int a2), (3, .int a3)] := hl
  unfold fR_like at hv
  show W p l e rmR_like s m _ below meth c s.heap [] 0 0 (zL below _ s v) (F0 m 0 ls [])
  refine lv_aload_n hx hb dR_like_0 rfl (lv_at hl 0 rfl) ?_
  refine lv_iload_n hx hb dR_like_1 rfl (lv_at hl 1 rfl) ?_
  refine qVi (rest := []) ⟨hx, hb, hml, hown, hts⟩ (kR_is l D Y h n hn S a1) (cwV 1 hts (gV uw210 uw211 uw212 uw213 ucR_is) rfl rfl rfl hvR_is ⟨Nat.le_of_ble_eq_true rfl, Nat.le_of_ble_eq_true rfl⟩) hK hP (va_recv hK hP (ci := 3) (q0 := 0) rfl rfl) rfl hl.1 rfl (Nat.le_of_ble_eq_true rfl) dR_like_2 ⟨Nat.le_of_ble_eq_true rfl, Nat.le_of_ble_eq_true rfl⟩ ?_
  by_cases c5 : (fR_is n a1) = 0
  · rw [if_pos c5] at hv
    refine lv_if_eq (tgt := 23) hx hb dR_like_5 (by decide) (fun _ => ?_) (fun z => absurd c5 z)
    refine lv_ldc2 (v := (-1)) hx hb hown (hts _ uw246) dR_like_23 ?_
    cases hv
    exact zL_ret hx hb hr hlocks dR_like_26
  · rw [if_neg c5] at hv
    refine lv_if_eq (tgt := 23) hx hb dR_like_5 (by decide) (fun z => absurd z c5) (fun _ => ?_)
    refine lv_aload_n hx hb dR_like_8 rfl (lv_at hl 0 rfl) ?_
    refine lv_iload_n hx hb dR_like_9 rfl (lv_at hl 2 rfl) ?_
    refine qVi (rest := []) ⟨hx, hb, hml, hown, hts⟩ (kR_is l D Y h n hn S a2) (cwV 1 hts (gV uw210 uw211 uw212 uw213 ucR_is) rfl rfl rfl hvR_is ⟨Nat.le_of_ble_eq_true rfl, Nat.le_of_ble_eq_true rfl⟩) hK hP (va_recv hK hP (ci := 3) (q0 := 0) rfl rfl) rfl hl.1 rfl (Nat.le_of_ble_eq_true rfl) dR_like_10 ⟨Nat.le_of_ble_eq_true rfl, Nat.le_of_ble_eq_true rfl⟩ ?_
    by_cases c13 : (fR_is n a2) = 0
    · rw [if_pos c13] at hv
      refine lv_if_eq (tgt := 23) hx hb dR_like_13 (by decide) (fun _ => ?_) (fun z => absurd c13 z)
      refine lv_ldc2 (v := (-1)) hx hb hown (hts _ uw246) dR_like_23 ?_
      cases hv
      exact zL_ret hx hb hr hlocks dR_like_26
    · rw [if_neg c13] at hv
      refine lv_if_eq (tgt := 23) hx hb dR_like_13 (by decide) (fun z => absurd z c13) (fun _ => ?_)
      refine lv_iload_n hx hb dR_like_16 rfl (lv_at hl 3 rfl) ?_
      refine qSi (rest := []) ⟨hx, hb, hml, hown, hts⟩ (kR_isPart l D Y a3) (va_cwS 1 hts (gS uw247 uw248 uw213 ucR_isPart) rfl rfl rfl hsR_isPart ⟨Nat.le_of_ble_eq_true rfl, Nat.le_of_ble_eq_true rfl⟩) hK (zsub [] hP rfl) rfl hl.1 rfl (Nat.le_of_ble_eq_true rfl) dR_like_17 ⟨Nat.le_of_ble_eq_true rfl, Nat.le_of_ble_eq_true rfl⟩ ?_
      by_cases c20 : (fR_isPart a3) = 0
      · rw [if_pos c20] at hv
        refine lv_if_ne (tgt := 27) hx hb dR_like_20 (by decide) (fun z => absurd c20 z) (fun _ => ?_)
        refine lv_ldc2 (v := (-1)) hx hb hown (hts _ uw246) dR_like_23 ?_
        cases hv
        exact zL_ret hx hb hr hlocks dR_like_26
      · rw [if_neg c20] at hv
        refine lv_if_ne (tgt := 27) hx hb dR_like_20 (by decide) (fun _ => ?_) (fun z => absurd z c20)
        refine lv_iconst (v := 0) hx hb dR_like_27 (by decide) ?_
        refine lv_istore (lv' := [(4, .int 0), (0, .ref (h 0)), (1, .int a1), (2, .int a2), (3, .int a3)]) hx hb dR_like_28 hl (by decide) rfl (fun ls hl => ?_)
        refine lv_iconst (v := 0) hx hb dR_like_30 (by decide) ?_
        refine lv_istore (lv' := [(5, .int 0), (4, .int 0), (0, .ref (h 0)), (1, .int a1), (2, .int a2), (3, .int a3)]) hx hb dR_like_31 hl (by decide) rfl (fun ls hl => ?_)
        refine lv_iconst (v := 0) hx hb dR_like_33 (by decide) ?_
        refine lv_istore (lv' := [(6, .int 0), (5, .int 0), (4, .int 0), (0, .ref (h 0)), (1, .int a1), (2, .int a2), (3, .int a3)]) hx hb dR_like_34 hl (by decide) rfl (fun ls hl => ?_)
        exact tR_like_36 hn ⟨hx, hb, hml, hown, hts⟩ hr hlocks hK hP 4 0 a1 a2 a3 0 0 _ (by omega) hv ls (lv_sub hl [3, 4, 5, 6, 2, 1, 0] rfl)
abbrev rmR_lost : Room := { frames := 1, cells := 0, slots := 0, locals := 26 }
set_option maxHeartbeats 4000000 in
set_option maxRecDepth 100000 in
theorem tR_lost_49 {p : Program} {l : Launch} {e : Env} {s : State} {m : MethodId} {args : Array Value} {below : List Frame} {meth : Method} {c : Code} {D : va_G} {Y : Nat → ClassId} {h : Nat → Nat} {n : Nat} (hn : n ≤ 24) {A : Nat → Prop} (hA : ∀ q : Nat, s.heap.size ≤ q → A q) (CF : CallFix p m c cR_lost 6 s args uT RR) (hr : meth.sig.returnType = (some .int)) (hlocks : meth.locks = false) (hK : va_K D vwCl (tysK Y) s) {Q : State → Prop} : ∀ (k : Nat) (i : Nat) (x1 : Int32) (x2 : Int32) (x3 : Nat) (x4 : Int32) (S : vR) (v : Int32 × vR), i + k = n → (fR_lost_49 n k i x1 x2 x3 x4 S) = some v → ∀ (H : Heap) (locs : List Loc), va_P D vwCl (wR Y h n S) H → va_D A (wR Y h n S) → va_S A s.heap H locs → ∀ ls : Array Slot, lv_has ls 6 [(0, .ref (h 0)), (1, .int x1), (2, .int x2), (3, .int (nI x3)), (4, .int x4), (5, .int (nI i))] → (∀ (H : Heap) (locs : List Loc), va_P D vwCl (wR Y h n v.2) H → va_D A (wR Y h n v.2) → va_S A s.heap H locs → ∀ ls : Array Slot, lv_has ls 6 [(0, .ref (h 0)), (1, .int x1), (2, .int x2), (3, .int (nI x3)), (4, .int v.1)] → W p l e rmR_lost s m args below meth c H locs 0 0 Q (F0 m 101 ls [])) → W p l e rmR_lost s m args below meth c H locs 0 0 Q (F0 m 49 ls []) := by
  obtain ⟨hx, hb, hml, hown, hts⟩ := CF
  intro k
  induction k with
  | zero =>
    intro i x1 x2 x3 x4 S v hi hv H locs hP hD hS ls hl kk
    rw [fR_lost_49] at hv
    refine lv_iload hx hb dR_lost_49 (lv_at hl 5 rfl) ?_
    refine lv_aload_n hx hb dR_lost_51 rfl (lv_at hl 0 rfl) ?_
    refine va_get (D := D) (ci := 3) (v := .int (nI n)) (C := RR) (T := TR) (N := 13) hx hb hts hinR hown hK hP 0 rfl rfl 0 (by decide) (hts _ uw209) (fun _ h9 => h9) rfl dR_lost_52 ?_
    refine lv_icmp_ge (tgt := 101) hx hb dR_lost_55 (by decide) (fun _ => ?_) (fun z => absurd (lp_ge (n := n) hi) z)
    cases hv
    exact kk _ _ hP hD hS ls (lv_sub hl [0, 1, 2, 3, 4] rfl)
  | succ k ih =>
    intro i x1 x2 x3 x4 S v hi hv H locs hP hD hS ls hl kk
    rw [fR_lost_49] at hv
    refine lv_iload hx hb dR_lost_49 (lv_at hl 5 rfl) ?_
    refine lv_aload_n hx hb dR_lost_51 rfl (lv_at hl 0 rfl) ?_
    refine va_get (D := D) (ci := 3) (v := .int (nI n)) (C := RR) (T := TR) (N := 13) hx hb hts hinR hown hK hP 0 rfl rfl 0 (by decide) (hts _ uw209) (fun _ h9 => h9) rfl dR_lost_52 ?_
    refine lv_icmp_ge (tgt := 101) hx hb dR_lost_55 (by decide) (fun z => absurd z (lp_lt (n := n) hi (by omega))) (fun _ => ?_)
    refine lv_iload hx hb dR_lost_58 (lv_at hl 4 rfl) ?_
    by_cases c60 : x4 = 0
    · rw [if_pos c60] at hv
      refine lv_if_eq (tgt := 92) hx hb dR_lost_60 (by decide) (fun _ => ?_) (fun z => absurd c60 z)
      refine lv_iconst (v := 0) hx hb dR_lost_92 (by decide) ?_
      refine lv_istore (lv' := [(4, .int 0), (0, .ref (h 0)), (1, .int x1), (2, .int x2), (3, .int (nI x3)), (5, .int (nI i))]) hx hb dR_lost_93 hl (by decide) rfl (fun ls hl => ?_)
      refine lv_iinc (v := (nI (i + 1))) (lv' := [(5, .int (nI (i + 1))), (4, .int 0), (0, .ref (h 0)), (1, .int x1), (2, .int x2), (3, .int (nI x3))]) hx hb dR_lost_95 hl (k := 5) rfl (nI_1 _) (by decide) rfl (fun ls hl => ?_)
      refine lv_goto (tgt := 49) hx hb dR_lost_98 (by decide) ?_
      exact ih (i + 1) x1 x2 x3 0 S _ (by omega) hv _ _ hP hD hS ls (lv_sub hl [2, 3, 4, 5, 1, 0] rfl) kk
    · rw [if_neg c60] at hv
      refine lv_if_eq (tgt := 92) hx hb dR_lost_60 (by decide) (fun z => absurd z c60) (fun _ => ?_)
      refine lv_aload_n hx hb dR_lost_63 rfl (lv_at hl 0 rfl) ?_
      refine va_get (D := D) (ci := 3) (v := .ref (h 8)) (C := RR) (T := TR) (N := 13) hx hb hts hinR hown hK hP 0 rfl rfl 9 (by decide) (hts _ uw215) (fun _ h9 => h9) rfl dR_lost_64 ?_
      refine lv_bipush (v := 24) hx hb dR_lost_67 (by decide) ?_
      refine lv_iload_n hx hb dR_lost_69 rfl (lv_at hl 3 rfl) ?_
      refine lv_imul hx hb dR_lost_70 ?_
      refine lv_iload hx hb dR_lost_71 (lv_at hl 5 rfl) ?_
      refine lv_iadd hx hb dR_lost_73 ?_
      have k74 : ¬ (ob (((24 * (nI x3)) + (nI i)) : Int32) 576) := fun z => by rw [if_pos z] at hv; cases hv
      rw [if_neg k74] at hv
      refine va_zald hx hb hK hP 8 2 rfl rfl (k74) dR_lost_74 ?_
      by_cases c75 : ((g_rab S) (((24 * (nI x3)) + (nI i)) : Int32).toNatClampNeg) = 0
      · rw [if_pos c75] at hv
        refine lv_if_eq (tgt := 88) hx hb dR_lost_75 (by decide) (fun _ => ?_) (fun z => absurd c75 z)
        refine lv_iconst (v := 1) hx hb dR_lost_88 (by decide) ?_
        refine lv_goto (tgt := 93) hx hb dR_lost_89 (by decide) ?_
        refine lv_istore (lv' := [(4, .int 1), (0, .ref (h 0)), (1, .int x1), (2, .int x2), (3, .int (nI x3)), (5, .int (nI i))]) hx hb dR_lost_93 hl (by decide) rfl (fun ls hl => ?_)
        refine lv_iinc (v := (nI (i + 1))) (lv' := [(5, .int (nI (i + 1))), (4, .int 1), (0, .ref (h 0)), (1, .int x1), (2, .int x2), (3, .int (nI x3))]) hx hb dR_lost_95 hl (k := 5) rfl (nI_1 _) (by decide) rfl (fun ls hl => ?_)
        refine lv_goto (tgt := 49) hx hb dR_lost_98 (by decide) ?_
        exact ih (i + 1) x1 x2 x3 1 S _ (by omega) hv _ _ hP hD hS ls (lv_sub hl [2, 3, 4, 5, 1, 0] rfl) kk
      · rw [if_neg c75] at hv
        refine lv_if_eq (tgt := 88) hx hb dR_lost_75 (by decide) (fun z => absurd z c75) (fun _ => ?_)
        refine lv_aload_n hx hb dR_lost_78 rfl (lv_at hl 0 rfl) ?_
        refine va_get (D := D) (ci := 3) (v := .ref (h 5)) (C := RR) (T := TR) (N := 13) hx hb hts hinR hown hK hP 0 rfl rfl 5 (by decide) (hts _ uw245) (fun _ h9 => h9) rfl dR_lost_79 ?_
        refine lv_iload hx hb dR_lost_82 (lv_at hl 5 rfl) ?_
        refine va_zald hx hb hK hP 5 2 rfl rfl (vp_in_nI (n := i) (by omega) (by omega)) dR_lost_84 ?_
        by_cases c85 : ((g_rgo S) ((nI i) : Int32).toNatClampNeg) = 0
        · rw [if_pos c85] at hv
          refine lv_if_eq (tgt := 92) hx hb dR_lost_85 (by decide) (fun _ => ?_) (fun z => absurd c85 z)
          refine lv_iconst (v := 0) hx hb dR_lost_92 (by decide) ?_
          refine lv_istore (lv' := [(4, .int 0), (0, .ref (h 0)), (1, .int x1), (2, .int x2), (3, .int (nI x3)), (5, .int (nI i))]) hx hb dR_lost_93 hl (by decide) rfl (fun ls hl => ?_)
          refine lv_iinc (v := (nI (i + 1))) (lv' := [(5, .int (nI (i + 1))), (4, .int 0), (0, .ref (h 0)), (1, .int x1), (2, .int x2), (3, .int (nI x3))]) hx hb dR_lost_95 hl (k := 5) rfl (nI_1 _) (by decide) rfl (fun ls hl => ?_)
          refine lv_goto (tgt := 49) hx hb dR_lost_98 (by decide) ?_
          exact ih (i + 1) x1 x2 x3 0 S _ (by omega) hv _ _ hP hD hS ls (lv_sub hl [2, 3, 4, 5, 1, 0] rfl) kk
        · rw [if_neg c85] at hv
          refine lv_if_eq (tgt := 92) hx hb dR_lost_85 (by decide) (fun z => absurd z c85) (fun _ => ?_)
          refine lv_iconst (v := 1) hx hb dR_lost_88 (by decide) ?_
          refine lv_goto (tgt := 93) hx hb dR_lost_89 (by decide) ?_
          refine lv_istore (lv' := [(4, .int 1), (0, .ref (h 0)), (1, .int x1), (2, .int x2), (3, .int (nI x3)), (5, .int (nI i))]) hx hb dR_lost_93 hl (by decide) rfl (fun ls hl => ?_)
          refine lv_iinc (v := (nI (i + 1))) (lv' := [(5, .int (nI (i + 1))), (4, .int 1), (0, .ref (h 0)), (1, .int x1), (2, .int x2), (3, .int (nI x3))]) hx hb dR_lost_95 hl (k := 5) rfl (nI_1 _) (by decide) rfl (fun ls hl => ?_)
          refine lv_goto (tgt := 49) hx hb dR_lost_98 (by decide) ?_
          exact ih (i + 1) x1 x2 x3 1 S _ (by omega) hv _ _ hP hD hS ls (lv_sub hl [2, 3, 4, 5, 1, 0] rfl) kk
set_option maxHeartbeats 4000000 in
set_option maxRecDepth 100000 in
theorem tR_lost_14 {p : Program} {l : Launch} {e : Env} {s : State} {m : MethodId} {args : Array Value} {below : List Frame} {meth : Method} {c : Code} {D : va_G} {Y : Nat → ClassId} {h : Nat → Nat} {n : Nat} (hn : n ≤ 24) {A : Nat → Prop} (hA : ∀ q : Nat, s.heap.size ≤ q → A q) (CF : CallFix p m c cR_lost 6 s args uT RR) (hr : meth.sig.returnType = (some .int)) (hlocks : meth.locks = false) (hK : va_K D vwCl (tysK Y) s) : ∀ (k : Nat) (i : Nat) (x1 : Int32) (x2 : Int32) (S : vR) (v : Int32 × vR), i + k = n → (fR_lost_14 n k i x1 x2 S) = some v → ∀ (H : Heap) (locs : List Loc), va_P D vwCl (wR Y h n S) H → va_D A (wR Y h n S) → va_S A s.heap H locs → ∀ ls : Array Slot, lv_has ls 6 [(0, .ref (h 0)), (1, .int x1), (2, .int x2), (3, .int (nI i))] → W p l e rmR_lost s m args below meth c H locs 0 0 (zMi D vwCl (tysK Y) A (wR Y h n) below args s 0 0 v) (F0 m 14 ls []) := by
  obtain ⟨hx, hb, hml, hown, hts⟩ := CF
  intro k
  induction k with
  | zero =>
    intro i x1 x2 S v hi hv H locs hP hD hS ls hl
    rw [fR_lost_14] at hv
    refine lv_iload_n hx hb dR_lost_14 rfl (lv_at hl 3 rfl) ?_
    refine lv_aload_n hx hb dR_lost_15 rfl (lv_at hl 0 rfl) ?_
    refine va_get (D := D) (ci := 3) (v := .int (nI n)) (C := RR) (T := TR) (N := 13) hx hb hts hinR hown hK hP 0 rfl rfl 0 (by decide) (hts _ uw209) (fun _ h9 => h9) rfl dR_lost_16 ?_
    refine lv_icmp_ge (tgt := 124) hx hb dR_lost_19 (by decide) (fun _ => ?_) (fun z => absurd (lp_ge (n := n) hi) z)
    refine lv_iconst (v := (-1)) hx hb dR_lost_124 (by decide) ?_
    cases hv
    exact zMi_ret (u := S) hx hb hr hlocks hK hP hD hS dR_lost_125
  | succ k ih =>
    intro i x1 x2 S v hi hv H locs hP hD hS ls hl
    rw [fR_lost_14] at hv
    refine lv_iload_n hx hb dR_lost_14 rfl (lv_at hl 3 rfl) ?_
    refine lv_aload_n hx hb dR_lost_15 rfl (lv_at hl 0 rfl) ?_
    refine va_get (D := D) (ci := 3) (v := .int (nI n)) (C := RR) (T := TR) (N := 13) hx hb hts hinR hown hK hP 0 rfl rfl 0 (by decide) (hts _ uw209) (fun _ h9 => h9) rfl dR_lost_16 ?_
    refine lv_icmp_ge (tgt := 124) hx hb dR_lost_19 (by decide) (fun z => absurd z (lp_lt (n := n) hi (by omega))) (fun _ => ?_)
    refine lv_aload_n hx hb dR_lost_22 rfl (lv_at hl 0 rfl) ?_
    refine lv_iload_n hx hb dR_lost_23 rfl (lv_at hl 3 rfl) ?_
    obtain ⟨r24, e24, hv⟩ := bsome hv
    refine qVi (rest := []) ⟨hx, hb, hml, hown, hts⟩ (kR_isFounder l D Y h n hn S (nI i) r24 e24) (cwV 1 hts (gV uw258 uw259 uw260 uw213 ucR_isFounder) rfl rfl rfl hvR_isFounder ⟨Nat.le_of_ble_eq_true rfl, Nat.le_of_ble_eq_true rfl⟩) hK hP (va_recv hK hP (ci := 3) (q0 := 0) rfl rfl) rfl hl.1 rfl (Nat.le_of_ble_eq_true rfl) dR_lost_24 ⟨Nat.le_of_ble_eq_true rfl, Nat.le_of_ble_eq_true rfl⟩ ?_
    by_cases c27 : r24 = 0
    · rw [if_pos c27] at hv
      refine lv_if_eq (tgt := 43) hx hb dR_lost_27 (by decide) (fun _ => ?_) (fun z => absurd c27 z)
      refine lv_iconst (v := 0) hx hb dR_lost_43 (by decide) ?_
      refine lv_istore (lv' := [(4, .int 0), (0, .ref (h 0)), (1, .int x1), (2, .int x2), (3, .int (nI i))]) hx hb dR_lost_44 hl (by decide) rfl (fun ls hl => ?_)
      refine lv_iconst (v := 0) hx hb dR_lost_46 (by decide) ?_
      refine lv_istore (lv' := [(5, .int 0), (4, .int 0), (0, .ref (h 0)), (1, .int x1), (2, .int x2), (3, .int (nI i))]) hx hb dR_lost_47 hl (by decide) rfl (fun ls hl => ?_)
      obtain ⟨r49, e49, hv⟩ := bsome hv
      refine tR_lost_49 hn hA ⟨hx, hb, hml, hown, hts⟩ hr hlocks hK n 0 x1 x2 i 0 S _ (by omega) e49 _ _ hP hD hS ls (lv_sub hl [2, 3, 4, 5, 1, 0] rfl) (fun H locs hP hD hS ls hl => ?_)
      refine lv_iload hx hb dR_lost_101 (lv_at hl 4 rfl) ?_
      by_cases c103 : r49.1 = 0
      · rw [if_pos c103] at hv
        refine lv_if_ne (tgt := 109) hx hb dR_lost_103 (by decide) (fun z => absurd c103 z) (fun _ => ?_)
        refine lv_goto (tgt := 118) hx hb dR_lost_106 (by decide) ?_
        refine lv_iinc (v := (nI (i + 1))) (lv' := [(3, .int (nI (i + 1))), (0, .ref (h 0)), (1, .int x1), (2, .int x2), (4, .int r49.1)]) hx hb dR_lost_118 hl (k := 3) rfl (nI_1 _) (by decide) rfl (fun ls hl => ?_)
        refine lv_goto (tgt := 14) hx hb dR_lost_121 (by decide) ?_
        exact ih (i + 1) x1 x2 r49.2 _ (by omega) hv _ _ hP hD hS ls (lv_sub hl [1, 2, 3, 0] rfl)
      · rw [if_neg c103] at hv
        refine lv_if_ne (tgt := 109) hx hb dR_lost_103 (by decide) (fun _ => ?_) (fun z => absurd z c103)
        refine lv_iload_n hx hb dR_lost_109 rfl (lv_at hl 2 rfl) ?_
        by_cases c110 : x2 = 0
        · rw [if_pos c110] at hv
          refine lv_if_ne (tgt := 115) hx hb dR_lost_110 (by decide) (fun z => absurd c110 z) (fun _ => ?_)
          refine lv_iload_n hx hb dR_lost_113 rfl (lv_at hl 3 rfl) ?_
          cases hv
          exact zMi_ret (u := r49.2) hx hb hr hlocks hK hP hD hS dR_lost_114
        · rw [if_neg c110] at hv
          refine lv_if_ne (tgt := 115) hx hb dR_lost_110 (by decide) (fun _ => ?_) (fun z => absurd z c110)
          refine lv_iinc (v := (x2 + (-1))) (lv' := [(2, .int (x2 + (-1))), (0, .ref (h 0)), (1, .int x1), (3, .int (nI i)), (4, .int r49.1)]) hx hb dR_lost_115 hl (k := 2) rfl (rfl) (by decide) rfl (fun ls hl => ?_)
          refine lv_iinc (v := (nI (i + 1))) (lv' := [(3, .int (nI (i + 1))), (2, .int (x2 + (-1))), (0, .ref (h 0)), (1, .int x1), (4, .int r49.1)]) hx hb dR_lost_118 hl (k := 3) rfl (nI_1 _) (by decide) rfl (fun ls hl => ?_)
          refine lv_goto (tgt := 14) hx hb dR_lost_121 (by decide) ?_
          exact ih (i + 1) x1 (x2 + (-1)) r49.2 _ (by omega) hv _ _ hP hD hS ls (lv_sub hl [2, 3, 1, 0] rfl)
    · rw [if_neg c27] at hv
      refine lv_if_eq (tgt := 43) hx hb dR_lost_27 (by decide) (fun z => absurd z c27) (fun _ => ?_)
      refine lv_aload_n hx hb dR_lost_30 rfl (lv_at hl 0 rfl) ?_
      refine va_get (D := D) (ci := 3) (v := .ref (h 5)) (C := RR) (T := TR) (N := 13) hx hb hts hinR hown hK hP 0 rfl rfl 5 (by decide) (hts _ uw245) (fun _ h9 => h9) rfl dR_lost_31 ?_
      refine lv_iload_n hx hb dR_lost_34 rfl (lv_at hl 3 rfl) ?_
      refine va_zald hx hb hK hP 5 2 rfl rfl (vp_in_nI (n := i) (by omega) (by omega)) dR_lost_35 ?_
      by_cases c36 : ((g_rgo S) ((nI i) : Int32).toNatClampNeg) = 0
      · rw [if_pos c36] at hv
        refine lv_if_eq (tgt := 43) hx hb dR_lost_36 (by decide) (fun _ => ?_) (fun z => absurd c36 z)
        refine lv_iconst (v := 0) hx hb dR_lost_43 (by decide) ?_
        refine lv_istore (lv' := [(4, .int 0), (0, .ref (h 0)), (1, .int x1), (2, .int x2), (3, .int (nI i))]) hx hb dR_lost_44 hl (by decide) rfl (fun ls hl => ?_)
        refine lv_iconst (v := 0) hx hb dR_lost_46 (by decide) ?_
        refine lv_istore (lv' := [(5, .int 0), (4, .int 0), (0, .ref (h 0)), (1, .int x1), (2, .int x2), (3, .int (nI i))]) hx hb dR_lost_47 hl (by decide) rfl (fun ls hl => ?_)
        obtain ⟨r49, e49, hv⟩ := bsome hv
        refine tR_lost_49 hn hA ⟨hx, hb, hml, hown, hts⟩ hr hlocks hK n 0 x1 x2 i 0 S _ (by omega) e49 _ _ hP hD hS ls (lv_sub hl [2, 3, 4, 5, 1, 0] rfl) (fun H locs hP hD hS ls hl => ?_)
        refine lv_iload hx hb dR_lost_101 (lv_at hl 4 rfl) ?_
        by_cases c103 : r49.1 = 0
        · rw [if_pos c103] at hv
          refine lv_if_ne (tgt := 109) hx hb dR_lost_103 (by decide) (fun z => absurd c103 z) (fun _ => ?_)
          refine lv_goto (tgt := 118) hx hb dR_lost_106 (by decide) ?_
          refine lv_iinc (v := (nI (i + 1))) (lv' := [(3, .int (nI (i + 1))), (0, .ref (h 0)), (1, .int x1), (2, .int x2), (4, .int r49.1)]) hx hb dR_lost_118 hl (k := 3) rfl (nI_1 _) (by decide) rfl (fun ls hl => ?_)
          refine lv_goto (tgt := 14) hx hb dR_lost_121 (by decide) ?_
          exact ih (i + 1) x1 x2 r49.2 _ (by omega) hv _ _ hP hD hS ls (lv_sub hl [1, 2, 3, 0] rfl)
        · rw [if_neg c103] at hv
          refine lv_if_ne (tgt := 109) hx hb dR_lost_103 (by decide) (fun _ => ?_) (fun z => absurd z c103)
          refine lv_iload_n hx hb dR_lost_109 rfl (lv_at hl 2 rfl) ?_
          by_cases c110 : x2 = 0
          · rw [if_pos c110] at hv
            refine lv_if_ne (tgt := 115) hx hb dR_lost_110 (by decide) (fun z => absurd c110 z) (fun _ => ?_)
            refine lv_iload_n hx hb dR_lost_113 rfl (lv_at hl 3 rfl) ?_
            cases hv
            exact zMi_ret (u := r49.2) hx hb hr hlocks hK hP hD hS dR_lost_114
          · rw [if_neg c110] at hv
            refine lv_if_ne (tgt := 115) hx hb dR_lost_110 (by decide) (fun _ => ?_) (fun z => absurd z c110)
            refine lv_iinc (v := (x2 + (-1))) (lv' := [(2, .int (x2 + (-1))), (0, .ref (h 0)), (1, .int x1), (3, .int (nI i)), (4, .int r49.1)]) hx hb dR_lost_115 hl (k := 2) rfl (rfl) (by decide) rfl (fun ls hl => ?_)
            refine lv_iinc (v := (nI (i + 1))) (lv' := [(3, .int (nI (i + 1))), (2, .int (x2 + (-1))), (0, .ref (h 0)), (1, .int x1), (4, .int r49.1)]) hx hb dR_lost_118 hl (k := 3) rfl (nI_1 _) (by decide) rfl (fun ls hl => ?_)
            refine lv_goto (tgt := 14) hx hb dR_lost_121 (by decide) ?_
            exact ih (i + 1) x1 (x2 + (-1)) r49.2 _ (by omega) hv _ _ hP hD hS ls (lv_sub hl [2, 3, 1, 0] rfl)
      · rw [if_neg c36] at hv
        refine lv_if_eq (tgt := 43) hx hb dR_lost_36 (by decide) (fun z => absurd z c36) (fun _ => ?_)
        refine lv_iconst (v := 1) hx hb dR_lost_39 (by decide) ?_
        refine lv_goto (tgt := 44) hx hb dR_lost_40 (by decide) ?_
        refine lv_istore (lv' := [(4, .int 1), (0, .ref (h 0)), (1, .int x1), (2, .int x2), (3, .int (nI i))]) hx hb dR_lost_44 hl (by decide) rfl (fun ls hl => ?_)
        refine lv_iconst (v := 0) hx hb dR_lost_46 (by decide) ?_
        refine lv_istore (lv' := [(5, .int 0), (4, .int 1), (0, .ref (h 0)), (1, .int x1), (2, .int x2), (3, .int (nI i))]) hx hb dR_lost_47 hl (by decide) rfl (fun ls hl => ?_)
        obtain ⟨r49, e49, hv⟩ := bsome hv
        refine tR_lost_49 hn hA ⟨hx, hb, hml, hown, hts⟩ hr hlocks hK n 0 x1 x2 i 1 S _ (by omega) e49 _ _ hP hD hS ls (lv_sub hl [2, 3, 4, 5, 1, 0] rfl) (fun H locs hP hD hS ls hl => ?_)
        refine lv_iload hx hb dR_lost_101 (lv_at hl 4 rfl) ?_
        by_cases c103 : r49.1 = 0
        · rw [if_pos c103] at hv
          refine lv_if_ne (tgt := 109) hx hb dR_lost_103 (by decide) (fun z => absurd c103 z) (fun _ => ?_)
          refine lv_goto (tgt := 118) hx hb dR_lost_106 (by decide) ?_
          refine lv_iinc (v := (nI (i + 1))) (lv' := [(3, .int (nI (i + 1))), (0, .ref (h 0)), (1, .int x1), (2, .int x2), (4, .int r49.1)]) hx hb dR_lost_118 hl (k := 3) rfl (nI_1 _) (by decide) rfl (fun ls hl => ?_)
          refine lv_goto (tgt := 14) hx hb dR_lost_121 (by decide) ?_
          exact ih (i + 1) x1 x2 r49.2 _ (by omega) hv _ _ hP hD hS ls (lv_sub hl [1, 2, 3, 0] rfl)
        · rw [if_neg c103] at hv
          refine lv_if_ne (tgt := 109) hx hb dR_lost_103 (by decide) (fun _ => ?_) (fun z => absurd z c103)
          refine lv_iload_n hx hb dR_lost_109 rfl (lv_at hl 2 rfl) ?_
          by_cases c110 : x2 = 0
          · rw [if_pos c110] at hv
            refine lv_if_ne (tgt := 115) hx hb dR_lost_110 (by decide) (fun z => absurd c110 z) (fun _ => ?_)
            refine lv_iload_n hx hb dR_lost_113 rfl (lv_at hl 3 rfl) ?_
            cases hv
            exact zMi_ret (u := r49.2) hx hb hr hlocks hK hP hD hS dR_lost_114
          · rw [if_neg c110] at hv
            refine lv_if_ne (tgt := 115) hx hb dR_lost_110 (by decide) (fun _ => ?_) (fun z => absurd z c110)
            refine lv_iinc (v := (x2 + (-1))) (lv' := [(2, .int (x2 + (-1))), (0, .ref (h 0)), (1, .int x1), (3, .int (nI i)), (4, .int r49.1)]) hx hb dR_lost_115 hl (k := 2) rfl (rfl) (by decide) rfl (fun ls hl => ?_)
            refine lv_iinc (v := (nI (i + 1))) (lv' := [(3, .int (nI (i + 1))), (2, .int (x2 + (-1))), (0, .ref (h 0)), (1, .int x1), (4, .int r49.1)]) hx hb dR_lost_118 hl (k := 3) rfl (nI_1 _) (by decide) rfl (fun ls hl => ?_)
            refine lv_goto (tgt := 14) hx hb dR_lost_121 (by decide) ?_
            exact ih (i + 1) x1 (x2 + (-1)) r49.2 _ (by omega) hv _ _ hP hD hS ls (lv_sub hl [2, 3, 1, 0] rfl)
set_option maxHeartbeats 4000000 in
set_option maxRecDepth 100000 in
theorem kR_lost (l : Launch) (D : va_G) (Y : Nat → ClassId) (h : Nat → Nat) (n : Nat) (hn : n ≤ 24) (S : vR) (a1 : Int32) (v : Int32 × vR) (hv : (fR_lost n S a1) = some v) (sz : Nat) : Met l yR_lost wsR_lost rmR_lost (va_Pc [.ref (h 0), .int a1] (zPreM D vwCl (tysK Y) (wR Y h n S) sz)) (va_Qi (fun r u => (r, u) = v) (zAt D vwCl (tysK Y) (va_A (wR Y h n S) sz) (wR Y h n)) (va_A (wR Y h n S) sz)) 0 0 (va_A (wR Y h n S) sz) := by
  refine Met.ofW (cc := cR_lost) (maxL := 6) (ret := (some .int)) (by decide) rfl ?_
  intro p e s m args below meth c s₁ B hml hvv
  obtain ⟨rfl, hsz, hP, hK, hD0⟩ := hvv
  have hx := B.exec
  have hb := B.bytes
  have hr := B.returns
  have hts : ∀ w ∈ uT, w.before _ s = true := fun w hw => atoms_spec (ws := wsR_lost) B.pre w (List.mem_cons_of_mem _ hw)
  have hown : s.vm.findClass RR = some m.cls := findClass_of_methodNamed B.named
  have hlocks := B.notSynchronized
  subst hsz
  have hD := hD0.self (sz := s.heap.size)
  generalize hAe : va_A (wR Y h n S) s.heap.size = A at hD ⊢
  have hA : ∀ q : Nat, s.heap.size ≤ q → A q := fun q h => by rw [← hAe]; exact Or.inr h
  have hS : va_S A s.heap s.heap [] := va_S.rf
  have hl := lv_entry ([.ref (h 0), .int a1]) (n := 6) (Nat.le_of_ble_eq_true rfl)
  rw [lg_entry_eq]
  generalize (lg_sl ([.ref (h 0), .int a1]) ++ List.replicate (6 - (lg_sl ([.ref (h 0), .int a1])).length) Slot.unset).toArray = ls at hl ⊢
  have hl : lv_has ls 6 [(0, .ref (h 0)), (1, .int a1)] := hl
  unfold fR_lost at hv
  show W p l e rmR_lost s m _ below meth c s.heap [] 0 0 (zMi D vwCl (tysK Y) A (wR Y h n) below _ s 0 0 v) (F0 m 0 ls [])
  refine lv_iload_n hx hb dR_lost_0 rfl (lv_at hl 1 rfl) ?_
  by_cases c1 : 0 ≤ a1
  · rw [if_pos c1] at hv
    refine lv_if_ge (tgt := 6) hx hb dR_lost_1 (by decide) (fun _ => ?_) (fun z => absurd c1 z)
    refine lv_aload_n hx hb dR_lost_6 rfl (lv_at hl 0 rfl) ?_
    obtain ⟨r7, e7, hv⟩ := bsome hv
    refine qNVv (w := wR Y h n) (rest := []) ⟨hx, hb, hml, hown, hts⟩ (kR_find l D Y h n hn S r7 e7 _) (cwV 0 hts (gV uw220 uw221 uw222 uw213 ucR_find) rfl rfl rfl hvR_find ⟨Nat.le_of_ble_eq_true rfl, Nat.le_of_ble_eq_true rfl⟩) hK hP hD hS hA (va_recv hK hP (ci := 3) (q0 := 0) rfl rfl) rfl hl.1 rfl (Nat.le_of_ble_eq_true rfl) dR_lost_7 ⟨Nat.le_of_ble_eq_true rfl, Nat.le_of_ble_eq_true rfl⟩ (fun H locs hP hD hS => ?_)
    refine lv_iload_n hx hb dR_lost_10 rfl (lv_at hl 1 rfl) ?_
    refine lv_istore_n (lv' := [(2, .int a1), (0, .ref (h 0)), (1, .int a1)]) hx hb dR_lost_11 rfl hl (by decide) rfl (fun ls hl => ?_)
    refine lv_iconst (v := 0) hx hb dR_lost_12 (by decide) ?_
    refine lv_istore_n (lv' := [(3, .int 0), (2, .int a1), (0, .ref (h 0)), (1, .int a1)]) hx hb dR_lost_13 rfl hl (by decide) rfl (fun ls hl => ?_)
    exact tR_lost_14 hn hA ⟨hx, hb, hml, hown, hts⟩ hr hlocks hK n 0 a1 a1 r7 _ (by omega) hv _ _ hP hD hS ls (lv_sub hl [2, 3, 1, 0] rfl)
  · rw [if_neg c1] at hv
    refine lv_if_ge (tgt := 6) hx hb dR_lost_1 (by decide) (fun z => absurd z c1) (fun _ => ?_)
    refine lv_iconst (v := (-1)) hx hb dR_lost_4 (by decide) ?_
    cases hv
    exact zMi_ret (u := S) hx hb hr hlocks hK hP hD hS dR_lost_5
abbrev rmR_diverse : Room := { frames := 2, cells := 0, slots := 0, locals := 52 }
set_option maxHeartbeats 4000000 in
set_option maxRecDepth 100000 in
theorem tR_diverse_35 {p : Program} {l : Launch} {e : Env} {s : State} {m : MethodId} {args : Array Value} {below : List Frame} {meth : Method} {c : Code} {D : va_G} {Y : Nat → ClassId} {h : Nat → Nat} {n : Nat} (hn : n ≤ 24) {A : Nat → Prop} (hA : ∀ q : Nat, s.heap.size ≤ q → A q) (CF : CallFix p m c cR_diverse 8 s args uT RR) (hr : meth.sig.returnType = (some .long)) (hlocks : meth.locks = false) (hK : va_K D vwCl (tysK Y) s) {Q : State → Prop} : ∀ (k : Nat) (i : Nat) (x1 : Int32) (x2 : Int64) (x4 : Int64) (x6 : Nat) (S : vR) (v : Int64 × Int64 × vR), i + k = n → (fR_diverse_35 n k i x1 x2 x4 x6 S) = some v → ∀ (H : Heap) (locs : List Loc), va_P D vwCl (wR Y h n S) H → va_D A (wR Y h n S) → va_S A s.heap H locs → ∀ ls : Array Slot, lv_has ls 8 [(0, .ref (h 0)), (1, .int x1), (2, .long x2), (4, .long x4), (6, .int (nI x6)), (7, .int (nI i))] → (∀ (H : Heap) (locs : List Loc), va_P D vwCl (wR Y h n v.2.2) H → va_D A (wR Y h n v.2.2) → va_S A s.heap H locs → ∀ ls : Array Slot, lv_has ls 8 [(0, .ref (h 0)), (1, .int x1), (2, .long v.1), (4, .long v.2.1), (6, .int (nI x6))] → W p l e rmR_diverse s m args below meth c H locs 0 0 Q (F0 m 90 ls [])) → W p l e rmR_diverse s m args below meth c H locs 0 0 Q (F0 m 35 ls []) := by
  obtain ⟨hx, hb, hml, hown, hts⟩ := CF
  intro k
  induction k with
  | zero =>
    intro i x1 x2 x4 x6 S v hi hv H locs hP hD hS ls hl kk
    rw [fR_diverse_35] at hv
    refine lv_iload hx hb dR_diverse_35 (lv_at hl 5 rfl) ?_
    refine lv_aload_n hx hb dR_diverse_37 rfl (lv_at hl 0 rfl) ?_
    refine va_get (D := D) (ci := 3) (v := .int (nI n)) (C := RR) (T := TR) (N := 13) hx hb hts hinR hown hK hP 0 rfl rfl 0 (by decide) (hts _ uw209) (fun _ h9 => h9) rfl dR_diverse_38 ?_
    refine lv_icmp_ge (tgt := 90) hx hb dR_diverse_41 (by decide) (fun _ => ?_) (fun z => absurd (lp_ge (n := n) hi) z)
    cases hv
    exact kk _ _ hP hD hS ls (lv_sub hl [0, 1, 2, 3, 4] rfl)
  | succ k ih =>
    intro i x1 x2 x4 x6 S v hi hv H locs hP hD hS ls hl kk
    rw [fR_diverse_35] at hv
    refine lv_iload hx hb dR_diverse_35 (lv_at hl 5 rfl) ?_
    refine lv_aload_n hx hb dR_diverse_37 rfl (lv_at hl 0 rfl) ?_
    refine va_get (D := D) (ci := 3) (v := .int (nI n)) (C := RR) (T := TR) (N := 13) hx hb hts hinR hown hK hP 0 rfl rfl 0 (by decide) (hts _ uw209) (fun _ h9 => h9) rfl dR_diverse_38 ?_
    refine lv_icmp_ge (tgt := 90) hx hb dR_diverse_41 (by decide) (fun z => absurd z (lp_lt (n := n) hi (by omega))) (fun _ => ?_)
    refine lv_aload_n hx hb dR_diverse_44 rfl (lv_at hl 0 rfl) ?_
    refine va_get (D := D) (ci := 3) (v := .ref (h 5)) (C := RR) (T := TR) (N := 13) hx hb hts hinR hown hK hP 0 rfl rfl 5 (by decide) (hts _ uw245) (fun _ h9 => h9) rfl dR_diverse_45 ?_
    refine lv_iload hx hb dR_diverse_48 (lv_at hl 4 rfl) ?_
    have k50 : ¬ (ob ((nI x6) : Int32) 24) := fun z => by rw [if_pos z] at hv; cases hv
    rw [if_neg k50] at hv
    refine va_zald hx hb hK hP 5 2 rfl rfl (k50) dR_diverse_50 ?_
    by_cases c51 : ((g_rgo S) ((nI x6) : Int32).toNatClampNeg) = 0
    · rw [if_pos c51] at hv
      refine lv_if_ne (tgt := 84) hx hb dR_diverse_51 (by decide) (fun z => absurd c51 z) (fun _ => ?_)
      refine lv_aload_n hx hb dR_diverse_54 rfl (lv_at hl 0 rfl) ?_
      refine va_get (D := D) (ci := 3) (v := .ref (h 5)) (C := RR) (T := TR) (N := 13) hx hb hts hinR hown hK hP 0 rfl rfl 5 (by decide) (hts _ uw245) (fun _ h9 => h9) rfl dR_diverse_55 ?_
      refine lv_iload hx hb dR_diverse_58 (lv_at hl 5 rfl) ?_
      refine va_zald hx hb hK hP 5 2 rfl rfl (vp_in_nI (n := i) (by omega) (by omega)) dR_diverse_60 ?_
      by_cases c61 : ((g_rgo S) ((nI i) : Int32).toNatClampNeg) = 0
      · rw [if_pos c61] at hv
        refine lv_if_eq (tgt := 67) hx hb dR_diverse_61 (by decide) (fun _ => ?_) (fun z => absurd c61 z)
        refine lv_lload_n hx hb dR_diverse_67 rfl (lv_at hl 2 rfl) ?_
        refine lv_aload_n hx hb dR_diverse_68 rfl (lv_at hl 0 rfl) ?_
        refine lv_iload hx hb dR_diverse_69 (lv_at hl 4 rfl) ?_
        refine lv_iload hx hb dR_diverse_71 (lv_at hl 5 rfl) ?_
        obtain ⟨r73, e73, hv⟩ := bsome hv
        refine qVl (rest := [.long x2]) ⟨hx, hb, hml, hown, hts⟩ (kR_kinOf l D Y h n hn S (nI x6) (nI i) r73 e73) (cwV 2 hts (gV uw223 uw224 uw225 uw213 ucR_kinOf) rfl rfl rfl hvR_kinOf ⟨Nat.le_of_ble_eq_true rfl, Nat.le_of_ble_eq_true rfl⟩) hK hP (va_recv hK hP (ci := 3) (q0 := 0) rfl rfl) rfl hl.1 rfl (Nat.le_of_ble_eq_true rfl) dR_diverse_73 ⟨Nat.le_of_ble_eq_true rfl, Nat.le_of_ble_eq_true rfl⟩ ?_
        refine lv_ladd hx hb dR_diverse_76 ?_
        refine lv_lstore_n (lv' := [(2, .long (x2 + r73)), (0, .ref (h 0)), (1, .int x1), (4, .long x4), (6, .int (nI x6)), (7, .int (nI i))]) hx hb dR_diverse_77 rfl hl (by decide) rfl (fun ls hl => ?_)
        refine lv_lload hx hb dR_diverse_78 (lv_at hl 3 rfl) ?_
        refine lv_lconst (v := 1) hx hb dR_diverse_80 (by decide) ?_
        refine lv_ladd hx hb dR_diverse_81 ?_
        refine lv_lstore (lv' := [(4, .long (x4 + 1)), (2, .long (x2 + r73)), (0, .ref (h 0)), (1, .int x1), (6, .int (nI x6)), (7, .int (nI i))]) hx hb dR_diverse_82 hl (by decide) rfl (fun ls hl => ?_)
        refine lv_iinc (v := (nI (i + 1))) (lv' := [(7, .int (nI (i + 1))), (4, .long (x4 + 1)), (2, .long (x2 + r73)), (0, .ref (h 0)), (1, .int x1), (6, .int (nI x6))]) hx hb dR_diverse_84 hl (k := 5) rfl (nI_1 _) (by decide) rfl (fun ls hl => ?_)
        refine lv_goto (tgt := 35) hx hb dR_diverse_87 (by decide) ?_
        exact ih (i + 1) x1 (x2 + r73) (x4 + 1) x6 S _ (by omega) hv _ _ hP hD hS ls (lv_sub hl [3, 4, 2, 1, 5, 0] rfl) kk
      · rw [if_neg c61] at hv
        refine lv_if_eq (tgt := 67) hx hb dR_diverse_61 (by decide) (fun z => absurd z c61) (fun _ => ?_)
        refine lv_goto (tgt := 84) hx hb dR_diverse_64 (by decide) ?_
        refine lv_iinc (v := (nI (i + 1))) (lv' := [(7, .int (nI (i + 1))), (0, .ref (h 0)), (1, .int x1), (2, .long x2), (4, .long x4), (6, .int (nI x6))]) hx hb dR_diverse_84 hl (k := 5) rfl (nI_1 _) (by decide) rfl (fun ls hl => ?_)
        refine lv_goto (tgt := 35) hx hb dR_diverse_87 (by decide) ?_
        exact ih (i + 1) x1 x2 x4 x6 S _ (by omega) hv _ _ hP hD hS ls (lv_sub hl [1, 2, 3, 4, 5, 0] rfl) kk
    · rw [if_neg c51] at hv
      refine lv_if_ne (tgt := 84) hx hb dR_diverse_51 (by decide) (fun _ => ?_) (fun z => absurd z c51)
      refine lv_iinc (v := (nI (i + 1))) (lv' := [(7, .int (nI (i + 1))), (0, .ref (h 0)), (1, .int x1), (2, .long x2), (4, .long x4), (6, .int (nI x6))]) hx hb dR_diverse_84 hl (k := 5) rfl (nI_1 _) (by decide) rfl (fun ls hl => ?_)
      refine lv_goto (tgt := 35) hx hb dR_diverse_87 (by decide) ?_
      exact ih (i + 1) x1 x2 x4 x6 S _ (by omega) hv _ _ hP hD hS ls (lv_sub hl [1, 2, 3, 4, 5, 0] rfl) kk
set_option maxHeartbeats 4000000 in
set_option maxRecDepth 100000 in
theorem tR_diverse_23 {p : Program} {l : Launch} {e : Env} {s : State} {m : MethodId} {args : Array Value} {below : List Frame} {meth : Method} {c : Code} {D : va_G} {Y : Nat → ClassId} {h : Nat → Nat} {n : Nat} (hn : n ≤ 24) {A : Nat → Prop} (hA : ∀ q : Nat, s.heap.size ≤ q → A q) (CF : CallFix p m c cR_diverse 8 s args uT RR) (hr : meth.sig.returnType = (some .long)) (hlocks : meth.locks = false) (hK : va_K D vwCl (tysK Y) s) : ∀ (k : Nat) (i : Nat) (x1 : Int32) (x2 : Int64) (x4 : Int64) (S : vR) (v : Int64 × vR), i + k = n → (fR_diverse_23 n k i x1 x2 x4 S) = some v → ∀ (H : Heap) (locs : List Loc), va_P D vwCl (wR Y h n S) H → va_D A (wR Y h n S) → va_S A s.heap H locs → ∀ ls : Array Slot, lv_has ls 8 [(0, .ref (h 0)), (1, .int x1), (2, .long x2), (4, .long x4), (6, .int (nI i))] → W p l e rmR_diverse s m args below meth c H locs 0 0 (zMl D vwCl (tysK Y) A (wR Y h n) below args s 0 0 v) (F0 m 23 ls []) := by
  obtain ⟨hx, hb, hml, hown, hts⟩ := CF
  intro k
  induction k with
  | zero =>
    intro i x1 x2 x4 S v hi hv H locs hP hD hS ls hl
    rw [fR_diverse_23] at hv
    refine lv_iload hx hb dR_diverse_23 (lv_at hl 4 rfl) ?_
    refine lv_aload_n hx hb dR_diverse_25 rfl (lv_at hl 0 rfl) ?_
    refine va_get (D := D) (ci := 3) (v := .int (nI n)) (C := RR) (T := TR) (N := 13) hx hb hts hinR hown hK hP 0 rfl rfl 0 (by decide) (hts _ uw209) (fun _ h9 => h9) rfl dR_diverse_26 ?_
    refine lv_icmp_ge (tgt := 96) hx hb dR_diverse_29 (by decide) (fun _ => ?_) (fun z => absurd (lp_ge (n := n) hi) z)
    refine lv_lload hx hb dR_diverse_96 (lv_at hl 3 rfl) ?_
    refine lv_lconst (v := 0) hx hb dR_diverse_98 (by decide) ?_
    refine W.lcmp hx hb dR_diverse_99 ?_
    by_cases c100 : (lg_cmp x4 0) = 0
    · rw [if_pos c100] at hv
      refine lv_if_ne (tgt := 109) hx hb dR_diverse_100 (by decide) (fun z => absurd c100 z) (fun _ => ?_)
      refine lv_ldc2 (v := (-1)) hx hb hown (hts _ uw246) dR_diverse_103 ?_
      refine lv_goto (tgt := 120) hx hb dR_diverse_106 (by decide) ?_
      cases hv
      exact zMl_ret (u := S) hx hb hr hlocks hK hP hD hS dR_diverse_120
    · rw [if_neg c100] at hv
      refine lv_if_ne (tgt := 109) hx hb dR_diverse_100 (by decide) (fun _ => ?_) (fun z => absurd z c100)
      refine lv_lload_n hx hb dR_diverse_109 rfl (lv_at hl 2 rfl) ?_
      refine lv_lload hx hb dR_diverse_110 (lv_at hl 3 rfl) ?_
      refine lv_ldc2 (v := 1125899906842624) hx hb hown (hts _ uw227) dR_diverse_112 ?_
      refine lv_lmul hx hb dR_diverse_115 ?_
      refine lv_iload_n hx hb dR_diverse_116 rfl (lv_at hl 1 rfl) ?_
      obtain ⟨r117, e117, hv⟩ := bsome hv
      refine qSl (rest := []) ⟨hx, hb, hml, hown, hts⟩ (kR_lowest l D Y x2 (x4 * 1125899906842624) x1 r117 e117) (va_cwS 3 hts (gS uw252 uw253 uw213 ucR_lowest) rfl rfl rfl hsR_lowest ⟨Nat.le_of_ble_eq_true rfl, Nat.le_of_ble_eq_true rfl⟩) hK (zsub [] hP rfl) rfl hl.1 rfl (Nat.le_of_ble_eq_true rfl) dR_diverse_117 ⟨Nat.le_of_ble_eq_true rfl, Nat.le_of_ble_eq_true rfl⟩ ?_
      cases hv
      exact zMl_ret (u := S) hx hb hr hlocks hK hP hD hS dR_diverse_120
  | succ k ih =>
    intro i x1 x2 x4 S v hi hv H locs hP hD hS ls hl
    rw [fR_diverse_23] at hv
    refine lv_iload hx hb dR_diverse_23 (lv_at hl 4 rfl) ?_
    refine lv_aload_n hx hb dR_diverse_25 rfl (lv_at hl 0 rfl) ?_
    refine va_get (D := D) (ci := 3) (v := .int (nI n)) (C := RR) (T := TR) (N := 13) hx hb hts hinR hown hK hP 0 rfl rfl 0 (by decide) (hts _ uw209) (fun _ h9 => h9) rfl dR_diverse_26 ?_
    refine lv_icmp_ge (tgt := 96) hx hb dR_diverse_29 (by decide) (fun z => absurd z (lp_lt (n := n) hi (by omega))) (fun _ => ?_)
    refine lv_iconst (v := 0) hx hb dR_diverse_32 (by decide) ?_
    refine lv_istore (lv' := [(7, .int 0), (0, .ref (h 0)), (1, .int x1), (2, .long x2), (4, .long x4), (6, .int (nI i))]) hx hb dR_diverse_33 hl (by decide) rfl (fun ls hl => ?_)
    obtain ⟨r35, e35, hv⟩ := bsome hv
    refine tR_diverse_35 hn hA ⟨hx, hb, hml, hown, hts⟩ hr hlocks hK n 0 x1 x2 x4 i S _ (by omega) e35 _ _ hP hD hS ls (lv_sub hl [1, 2, 3, 4, 5, 0] rfl) (fun H locs hP hD hS ls hl => ?_)
    refine lv_iinc (v := (nI (i + 1))) (lv' := [(6, .int (nI (i + 1))), (0, .ref (h 0)), (1, .int x1), (2, .long r35.1), (4, .long r35.2.1)]) hx hb dR_diverse_90 hl (k := 4) rfl (nI_1 _) (by decide) rfl (fun ls hl => ?_)
    refine lv_goto (tgt := 23) hx hb dR_diverse_93 (by decide) ?_
    exact ih (i + 1) x1 r35.1 r35.2.1 r35.2.2 _ (by omega) hv _ _ hP hD hS ls (lv_sub hl [1, 2, 3, 4, 0] rfl)
set_option maxHeartbeats 4000000 in
set_option maxRecDepth 100000 in
theorem kR_diverse (l : Launch) (D : va_G) (Y : Nat → ClassId) (h : Nat → Nat) (n : Nat) (hn : n ≤ 24) (S : vR) (a1 : Int32) (v : Int64 × vR) (hv : (fR_diverse n S a1) = some v) (sz : Nat) : Met l yR_diverse wsR_diverse rmR_diverse (va_Pc [.ref (h 0), .int a1] (zPreM D vwCl (tysK Y) (wR Y h n S) sz)) (va_Ql (fun r u => (r, u) = v) (zAt D vwCl (tysK Y) (va_A (wR Y h n S) sz) (wR Y h n)) (va_A (wR Y h n S) sz)) 0 0 (va_A (wR Y h n S) sz) := by
  refine Met.ofW (cc := cR_diverse) (maxL := 8) (ret := (some .long)) (by decide) rfl ?_
  intro p e s m args below meth c s₁ B hml hvv
  obtain ⟨rfl, hsz, hP, hK, hD0⟩ := hvv
  have hx := B.exec
  have hb := B.bytes
  have hr := B.returns
  have hts : ∀ w ∈ uT, w.before _ s = true := fun w hw => atoms_spec (ws := wsR_diverse) B.pre w (List.mem_cons_of_mem _ hw)
  have hown : s.vm.findClass RR = some m.cls := findClass_of_methodNamed B.named
  have hlocks := B.notSynchronized
  subst hsz
  have hD := hD0.self (sz := s.heap.size)
  generalize hAe : va_A (wR Y h n S) s.heap.size = A at hD ⊢
  have hA : ∀ q : Nat, s.heap.size ≤ q → A q := fun q h => by rw [← hAe]; exact Or.inr h
  have hS : va_S A s.heap s.heap [] := va_S.rf
  have hl := lv_entry ([.ref (h 0), .int a1]) (n := 8) (Nat.le_of_ble_eq_true rfl)
  rw [lg_entry_eq]
  generalize (lg_sl ([.ref (h 0), .int a1]) ++ List.replicate (8 - (lg_sl ([.ref (h 0), .int a1])).length) Slot.unset).toArray = ls at hl ⊢
  have hl : lv_has ls 8 [(0, .ref (h 0)), (1, .int a1)] := hl
  unfold fR_diverse at hv
  show W p l e rmR_diverse s m _ below meth c s.heap [] 0 0 (zMl D vwCl (tysK Y) A (wR Y h n) below _ s 0 0 v) (F0 m 0 ls [])
  refine lv_iload_n hx hb dR_diverse_0 rfl (lv_at hl 1 rfl) ?_
  refine qSi (rest := []) ⟨hx, hb, hml, hown, hts⟩ (kR_isPart l D Y a1) (va_cwS 1 hts (gS uw247 uw248 uw213 ucR_isPart) rfl rfl rfl hsR_isPart ⟨Nat.le_of_ble_eq_true rfl, Nat.le_of_ble_eq_true rfl⟩) hK (zsub [] hP rfl) rfl hl.1 rfl (Nat.le_of_ble_eq_true rfl) dR_diverse_1 ⟨Nat.le_of_ble_eq_true rfl, Nat.le_of_ble_eq_true rfl⟩ ?_
  by_cases c4 : (fR_isPart a1) = 0
  · rw [if_pos c4] at hv
    refine lv_if_ne (tgt := 11) hx hb dR_diverse_4 (by decide) (fun z => absurd c4 z) (fun _ => ?_)
    refine lv_ldc2 (v := (-1)) hx hb hown (hts _ uw246) dR_diverse_7 ?_
    cases hv
    exact zMl_ret (u := S) hx hb hr hlocks hK hP hD hS dR_diverse_10
  · rw [if_neg c4] at hv
    refine lv_if_ne (tgt := 11) hx hb dR_diverse_4 (by decide) (fun _ => ?_) (fun z => absurd z c4)
    refine lv_aload_n hx hb dR_diverse_11 rfl (lv_at hl 0 rfl) ?_
    obtain ⟨r12, e12, hv⟩ := bsome hv
    refine qNVv (w := wR Y h n) (rest := []) ⟨hx, hb, hml, hown, hts⟩ (kR_findKin l D Y h n hn S r12 e12 _) (cwV 0 hts (gV uw249 uw250 uw251 uw213 ucR_findKin) rfl rfl rfl hvR_findKin ⟨Nat.le_of_ble_eq_true rfl, Nat.le_of_ble_eq_true rfl⟩) hK hP hD hS hA (va_recv hK hP (ci := 3) (q0 := 0) rfl rfl) rfl hl.1 rfl (Nat.le_of_ble_eq_true rfl) dR_diverse_12 ⟨Nat.le_of_ble_eq_true rfl, Nat.le_of_ble_eq_true rfl⟩ (fun H locs hP hD hS => ?_)
    refine lv_lconst (v := 0) hx hb dR_diverse_15 (by decide) ?_
    refine lv_lstore_n (lv' := [(2, .long 0), (0, .ref (h 0)), (1, .int a1)]) hx hb dR_diverse_16 rfl hl (by decide) rfl (fun ls hl => ?_)
    refine lv_lconst (v := 0) hx hb dR_diverse_17 (by decide) ?_
    refine lv_lstore (lv' := [(4, .long 0), (2, .long 0), (0, .ref (h 0)), (1, .int a1)]) hx hb dR_diverse_18 hl (by decide) rfl (fun ls hl => ?_)
    refine lv_iconst (v := 0) hx hb dR_diverse_20 (by decide) ?_
    refine lv_istore (lv' := [(6, .int 0), (4, .long 0), (2, .long 0), (0, .ref (h 0)), (1, .int a1)]) hx hb dR_diverse_21 hl (by decide) rfl (fun ls hl => ?_)
    exact tR_diverse_23 hn hA ⟨hx, hb, hml, hown, hts⟩ hr hlocks hK n 0 a1 0 0 r12 _ (by omega) hv _ _ hP hD hS ls (lv_sub hl [3, 4, 2, 1, 0] rfl)
abbrev rmR_animal : Room := { frames := 1, cells := 0, slots := 0, locals := 26 }
set_option maxHeartbeats 4000000 in
set_option maxRecDepth 100000 in
theorem kR_animal (l : Launch) (D : va_G) (Y : Nat → ClassId) (h : Nat → Nat) (n : Nat) (hn : n ≤ 24) (S : vR) (a1 : Int32) (a2 : Int32) (v : Int32 × vR) (hv : (fR_animal n S a1 a2) = some v) (sz : Nat) : Met l yR_animal wsR_animal rmR_animal (va_Pc [.ref (h 0), .int a1, .int a2] (zPreM D vwCl (tysK Y) (wR Y h n S) sz)) (va_Qi (fun r u => (r, u) = v) (zAt D vwCl (tysK Y) (va_A (wR Y h n S) sz) (wR Y h n)) (va_A (wR Y h n S) sz)) 0 0 (va_A (wR Y h n S) sz) := by
  refine Met.ofW (cc := cR_animal) (maxL := 3) (ret := (some .int)) (by decide) rfl ?_
  intro p e s m args below meth c s₁ B hml hvv
  obtain ⟨rfl, hsz, hP, hK, hD0⟩ := hvv
  have hx := B.exec
  have hb := B.bytes
  have hr := B.returns
  have hts : ∀ w ∈ uT, w.before _ s = true := fun w hw => atoms_spec (ws := wsR_animal) B.pre w (List.mem_cons_of_mem _ hw)
  have hown : s.vm.findClass RR = some m.cls := findClass_of_methodNamed B.named
  have hlocks := B.notSynchronized
  subst hsz
  have hD := hD0.self (sz := s.heap.size)
  generalize hAe : va_A (wR Y h n S) s.heap.size = A at hD ⊢
  have hA : ∀ q : Nat, s.heap.size ≤ q → A q := fun q h => by rw [← hAe]; exact Or.inr h
  have hS : va_S A s.heap s.heap [] := va_S.rf
  have hl := lv_entry ([.ref (h 0), .int a1, .int a2]) (n := 3) (Nat.le_of_ble_eq_true rfl)
  rw [lg_entry_eq]
  generalize (lg_sl ([.ref (h 0), .int a1, .int a2]) ++ List.replicate (3 - (lg_sl ([.ref (h 0), .int a1, .int a2])).length) Slot.unset).toArray = ls at hl ⊢
  have hl : lv_has ls 3 [(0, .ref (h 0)), (1, .int a1), (2, .int a2)] := hl
  unfold fR_animal at hv
  show W p l e rmR_animal s m _ below meth c s.heap [] 0 0 (zMi D vwCl (tysK Y) A (wR Y h n) below _ s 0 0 v) (F0 m 0 ls [])
  refine lv_aload_n hx hb dR_animal_0 rfl (lv_at hl 0 rfl) ?_
  refine lv_iload_n hx hb dR_animal_1 rfl (lv_at hl 1 rfl) ?_
  refine qVi (rest := []) ⟨hx, hb, hml, hown, hts⟩ (kR_is l D Y h n hn S a1) (cwV 1 hts (gV uw210 uw211 uw212 uw213 ucR_is) rfl rfl rfl hvR_is ⟨Nat.le_of_ble_eq_true rfl, Nat.le_of_ble_eq_true rfl⟩) hK hP (va_recv hK hP (ci := 3) (q0 := 0) rfl rfl) rfl hl.1 rfl (Nat.le_of_ble_eq_true rfl) dR_animal_2 ⟨Nat.le_of_ble_eq_true rfl, Nat.le_of_ble_eq_true rfl⟩ ?_
  by_cases c5 : (fR_is n a1) = 0
  · rw [if_pos c5] at hv
    refine lv_if_eq (tgt := 17) hx hb dR_animal_5 (by decide) (fun _ => ?_) (fun z => absurd c5 z)
    refine lv_iconst (v := (-1)) hx hb dR_animal_17 (by decide) ?_
    cases hv
    exact zMi_ret (u := S) hx hb hr hlocks hK hP hD hS dR_animal_18
  · rw [if_neg c5] at hv
    refine lv_if_eq (tgt := 17) hx hb dR_animal_5 (by decide) (fun z => absurd z c5) (fun _ => ?_)
    refine lv_iload_n hx hb dR_animal_8 rfl (lv_at hl 2 rfl) ?_
    by_cases c9 : a2 < 0
    · rw [if_pos c9] at hv
      refine lv_if_lt (tgt := 17) hx hb dR_animal_9 (by decide) (fun _ => ?_) (fun z => absurd c9 z)
      refine lv_iconst (v := (-1)) hx hb dR_animal_17 (by decide) ?_
      cases hv
      exact zMi_ret (u := S) hx hb hr hlocks hK hP hD hS dR_animal_18
    · rw [if_neg c9] at hv
      refine lv_if_lt (tgt := 17) hx hb dR_animal_9 (by decide) (fun z => absurd z c9) (fun _ => ?_)
      refine lv_iload_n hx hb dR_animal_12 rfl (lv_at hl 2 rfl) ?_
      refine lv_iconst (v := 5) hx hb dR_animal_13 (by decide) ?_
      by_cases c14 : a2 ≤ 5
      · rw [if_pos c14] at hv
        refine lv_icmp_le (tgt := 19) hx hb dR_animal_14 (by decide) (fun _ => ?_) (fun z => absurd c14 z)
        refine lv_aload_n hx hb dR_animal_19 rfl (lv_at hl 0 rfl) ?_
        obtain ⟨r20, e20, hv⟩ := bsome hv
        refine qNVv (w := wR Y h n) (rest := []) ⟨hx, hb, hml, hown, hts⟩ (kR_find l D Y h n hn S r20 e20 _) (cwV 0 hts (gV uw220 uw221 uw222 uw213 ucR_find) rfl rfl rfl hvR_find ⟨Nat.le_of_ble_eq_true rfl, Nat.le_of_ble_eq_true rfl⟩) hK hP hD hS hA (va_recv hK hP (ci := 3) (q0 := 0) rfl rfl) rfl hl.1 rfl (Nat.le_of_ble_eq_true rfl) dR_animal_20 ⟨Nat.le_of_ble_eq_true rfl, Nat.le_of_ble_eq_true rfl⟩ (fun H locs hP hD hS => ?_)
        refine lv_iload_n hx hb dR_animal_23 rfl (lv_at hl 2 rfl) ?_
        by_cases c24 : a2 = 0
        · rw [if_pos c24] at hv
          refine lv_if_ne (tgt := 36) hx hb dR_animal_24 (by decide) (fun z => absurd c24 z) (fun _ => ?_)
          refine lv_aload_n hx hb dR_animal_27 rfl (lv_at hl 0 rfl) ?_
          refine va_get (D := D) (ci := 3) (v := .ref (h 1)) (C := RR) (T := TR) (N := 13) hx hb hts hinR hown hK hP 0 rfl rfl 1 (by decide) (hts _ uw217) (fun _ h9 => h9) rfl dR_animal_28 ?_
          refine lv_iload_n hx hb dR_animal_31 rfl (lv_at hl 1 rfl) ?_
          refine va_iald hx hb hK hP 1 0 rfl rfl (is_in hn c5) dR_animal_32 ?_
          refine lv_goto (tgt := 106) hx hb dR_animal_33 (by decide) ?_
          cases hv
          exact zMi_ret (u := r20) hx hb hr hlocks hK hP hD hS dR_animal_106
        · rw [if_neg c24] at hv
          refine lv_if_ne (tgt := 36) hx hb dR_animal_24 (by decide) (fun _ => ?_) (fun z => absurd z c24)
          refine lv_iload_n hx hb dR_animal_36 rfl (lv_at hl 2 rfl) ?_
          refine lv_iconst (v := 1) hx hb dR_animal_37 (by decide) ?_
          by_cases c38 : a2 = 1
          · rw [if_pos c38] at hv
            refine lv_icmp_ne (tgt := 50) hx hb dR_animal_38 (by decide) (fun z => absurd c38 z) (fun _ => ?_)
            refine lv_aload_n hx hb dR_animal_41 rfl (lv_at hl 0 rfl) ?_
            refine va_get (D := D) (ci := 3) (v := .ref (h 2)) (C := RR) (T := TR) (N := 13) hx hb hts hinR hown hK hP 0 rfl rfl 2 (by decide) (hts _ uw218) (fun _ h9 => h9) rfl dR_animal_42 ?_
            refine lv_iload_n hx hb dR_animal_45 rfl (lv_at hl 1 rfl) ?_
            refine va_iald hx hb hK hP 2 0 rfl rfl (is_in hn c5) dR_animal_46 ?_
            refine lv_goto (tgt := 106) hx hb dR_animal_47 (by decide) ?_
            cases hv
            exact zMi_ret (u := r20) hx hb hr hlocks hK hP hD hS dR_animal_106
          · rw [if_neg c38] at hv
            refine lv_icmp_ne (tgt := 50) hx hb dR_animal_38 (by decide) (fun _ => ?_) (fun z => absurd z c38)
            refine lv_iload_n hx hb dR_animal_50 rfl (lv_at hl 2 rfl) ?_
            refine lv_iconst (v := 2) hx hb dR_animal_51 (by decide) ?_
            by_cases c52 : a2 = 2
            · rw [if_pos c52] at hv
              refine lv_icmp_ne (tgt := 64) hx hb dR_animal_52 (by decide) (fun z => absurd c52 z) (fun _ => ?_)
              refine lv_aload_n hx hb dR_animal_55 rfl (lv_at hl 0 rfl) ?_
              refine va_get (D := D) (ci := 3) (v := .ref (h 3)) (C := RR) (T := TR) (N := 13) hx hb hts hinR hown hK hP 0 rfl rfl 3 (by decide) (hts _ uw240) (fun _ h9 => h9) rfl dR_animal_56 ?_
              refine lv_iload_n hx hb dR_animal_59 rfl (lv_at hl 1 rfl) ?_
              refine va_iald hx hb hK hP 3 0 rfl rfl (is_in hn c5) dR_animal_60 ?_
              refine lv_goto (tgt := 106) hx hb dR_animal_61 (by decide) ?_
              cases hv
              exact zMi_ret (u := r20) hx hb hr hlocks hK hP hD hS dR_animal_106
            · rw [if_neg c52] at hv
              refine lv_icmp_ne (tgt := 64) hx hb dR_animal_52 (by decide) (fun _ => ?_) (fun z => absurd z c52)
              refine lv_iload_n hx hb dR_animal_64 rfl (lv_at hl 2 rfl) ?_
              refine lv_iconst (v := 3) hx hb dR_animal_65 (by decide) ?_
              by_cases c66 : a2 = 3
              · rw [if_pos c66] at hv
                refine lv_icmp_ne (tgt := 78) hx hb dR_animal_66 (by decide) (fun z => absurd c66 z) (fun _ => ?_)
                refine lv_aload_n hx hb dR_animal_69 rfl (lv_at hl 0 rfl) ?_
                refine va_get (D := D) (ci := 3) (v := .ref (h 4)) (C := RR) (T := TR) (N := 13) hx hb hts hinR hown hK hP 0 rfl rfl 4 (by decide) (hts _ uw233) (fun _ h9 => h9) rfl dR_animal_70 ?_
                refine lv_iload_n hx hb dR_animal_73 rfl (lv_at hl 1 rfl) ?_
                refine va_iald hx hb hK hP 4 0 rfl rfl (is_in hn c5) dR_animal_74 ?_
                refine lv_goto (tgt := 106) hx hb dR_animal_75 (by decide) ?_
                cases hv
                exact zMi_ret (u := r20) hx hb hr hlocks hK hP hD hS dR_animal_106
              · rw [if_neg c66] at hv
                refine lv_icmp_ne (tgt := 78) hx hb dR_animal_66 (by decide) (fun _ => ?_) (fun z => absurd z c66)
                refine lv_iload_n hx hb dR_animal_78 rfl (lv_at hl 2 rfl) ?_
                refine lv_iconst (v := 4) hx hb dR_animal_79 (by decide) ?_
                by_cases c80 : a2 = 4
                · rw [if_pos c80] at hv
                  refine lv_icmp_ne (tgt := 100) hx hb dR_animal_80 (by decide) (fun z => absurd c80 z) (fun _ => ?_)
                  refine lv_aload_n hx hb dR_animal_83 rfl (lv_at hl 0 rfl) ?_
                  refine va_get (D := D) (ci := 3) (v := .ref (h 5)) (C := RR) (T := TR) (N := 13) hx hb hts hinR hown hK hP 0 rfl rfl 5 (by decide) (hts _ uw245) (fun _ h9 => h9) rfl dR_animal_84 ?_
                  refine lv_iload_n hx hb dR_animal_87 rfl (lv_at hl 1 rfl) ?_
                  refine va_zald hx hb hK hP 5 2 rfl rfl (is_in hn c5) dR_animal_88 ?_
                  by_cases c89 : ((g_rgo r20) (a1 : Int32).toNatClampNeg) = 0
                  · rw [if_pos c89] at hv
                    refine lv_if_eq (tgt := 96) hx hb dR_animal_89 (by decide) (fun _ => ?_) (fun z => absurd c89 z)
                    refine lv_iconst (v := 1) hx hb dR_animal_96 (by decide) ?_
                    refine lv_goto (tgt := 106) hx hb dR_animal_97 (by decide) ?_
                    cases hv
                    exact zMi_ret (u := r20) hx hb hr hlocks hK hP hD hS dR_animal_106
                  · rw [if_neg c89] at hv
                    refine lv_if_eq (tgt := 96) hx hb dR_animal_89 (by decide) (fun z => absurd z c89) (fun _ => ?_)
                    refine lv_iconst (v := 0) hx hb dR_animal_92 (by decide) ?_
                    refine lv_goto (tgt := 106) hx hb dR_animal_93 (by decide) ?_
                    cases hv
                    exact zMi_ret (u := r20) hx hb hr hlocks hK hP hD hS dR_animal_106
                · rw [if_neg c80] at hv
                  refine lv_icmp_ne (tgt := 100) hx hb dR_animal_80 (by decide) (fun _ => ?_) (fun z => absurd z c80)
                  refine lv_aload_n hx hb dR_animal_100 rfl (lv_at hl 0 rfl) ?_
                  refine va_get (D := D) (ci := 3) (v := .ref (h 9)) (C := RR) (T := TR) (N := 13) hx hb hts hinR hown hK hP 0 rfl rfl 10 (by decide) (hts _ uw216) (fun _ h9 => h9) rfl dR_animal_101 ?_
                  refine lv_iload_n hx hb dR_animal_104 rfl (lv_at hl 1 rfl) ?_
                  refine va_iald hx hb hK hP 9 0 rfl rfl (is_in hn c5) dR_animal_105 ?_
                  cases hv
                  exact zMi_ret (u := r20) hx hb hr hlocks hK hP hD hS dR_animal_106
      · rw [if_neg c14] at hv
        refine lv_icmp_le (tgt := 19) hx hb dR_animal_14 (by decide) (fun z => absurd z c14) (fun _ => ?_)
        refine lv_iconst (v := (-1)) hx hb dR_animal_17 (by decide) ?_
        cases hv
        exact zMi_ret (u := S) hx hb hr hlocks hK hP hD hS dR_animal_18
