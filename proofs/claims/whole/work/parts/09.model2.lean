abbrev rmR_leads : Room := { frames := 0, cells := 0, slots := 0, locals := 0 }
set_option maxHeartbeats 4000000 in
set_option maxRecDepth 100000 in
theorem kR_leads (l : Launch) (D : va_G) (Y : Nat → ClassId) (h : Nat → Nat) (n : Nat) (hn : n ≤ 24) (S : vR) (a1 : Int32) (a2 : Int32) (v : Int32) (hv : (fR_leads n S a1 a2) = some v) : Met l yR_leads wsR_leads rmR_leads (va_Pc [.ref (h 0), .int a1, .int a2] (zPre D vwCl (tysK Y) (wR Y h n S))) (vp_Si (fun r => r = v)) 0 0 (fun _ => False) := by
  refine Met.ofW (cc := cR_leads) (maxL := 3) (ret := (some .int)) (by decide) rfl ?_
  intro p e s m args below meth c s₁ B hml hvv
  obtain ⟨rfl, hP, hK⟩ := hvv
  have hx := B.exec
  have hb := B.bytes
  have hr := B.returns
  have hts : ∀ w ∈ uT, w.before _ s = true := fun w hw => atoms_spec (ws := wsR_leads) B.pre w (List.mem_cons_of_mem _ hw)
  have hown : s.vm.findClass RR = some m.cls := findClass_of_methodNamed B.named
  have hlocks := B.notSynchronized
  have hl := lv_entry ([.ref (h 0), .int a1, .int a2]) (n := 3) (Nat.le_of_ble_eq_true rfl)
  rw [lg_entry_eq]
  generalize (lg_sl ([.ref (h 0), .int a1, .int a2]) ++ List.replicate (3 - (lg_sl ([.ref (h 0), .int a1, .int a2])).length) Slot.unset).toArray = ls at hl ⊢
  have hl : lv_has ls 3 [(0, .ref (h 0)), (1, .int a1), (2, .int a2)] := hl
  unfold fR_leads at hv
  show W p l e rmR_leads s m _ below meth c s.heap [] 0 0 (zI below _ s v) (F0 m 0 ls [])
  refine lv_iload_n hx hb dR_leads_0 rfl (lv_at hl 2 rfl) ?_
  by_cases c1 : a2 < 0
  · rw [if_pos c1] at hv
    refine lv_if_lt (tgt := 27) hx hb dR_leads_1 (by decide) (fun _ => ?_) (fun z => absurd c1 z)
    refine lv_iconst (v := (-1)) hx hb dR_leads_27 (by decide) ?_
    cases hv
    exact zI_ret hx hb hr hlocks dR_leads_28
  · rw [if_neg c1] at hv
    refine lv_if_lt (tgt := 27) hx hb dR_leads_1 (by decide) (fun z => absurd z c1) (fun _ => ?_)
    refine lv_iload_n hx hb dR_leads_4 rfl (lv_at hl 2 rfl) ?_
    refine lv_iload_n hx hb dR_leads_5 rfl (lv_at hl 1 rfl) ?_
    by_cases c6 : a2 = a1
    · rw [if_pos c6] at hv
      refine lv_icmp_eq (tgt := 23) hx hb dR_leads_6 (by decide) (fun _ => ?_) (fun z => absurd c6 z)
      refine lv_iload_n hx hb dR_leads_23 rfl (lv_at hl 2 rfl) ?_
      refine lv_goto (tgt := 28) hx hb dR_leads_24 (by decide) ?_
      cases hv
      exact zI_ret hx hb hr hlocks dR_leads_28
    · rw [if_neg c6] at hv
      refine lv_icmp_eq (tgt := 23) hx hb dR_leads_6 (by decide) (fun z => absurd z c6) (fun _ => ?_)
      refine lv_aload_n hx hb dR_leads_9 rfl (lv_at hl 0 rfl) ?_
      refine va_get (D := D) (ci := 3) (v := .ref (h 8)) (C := RR) (T := TR) (N := 13) hx hb hts hinR hown hK hP 0 rfl rfl 9 (by decide) (hts _ uw215) (fun _ h9 => h9) rfl dR_leads_10 ?_
      refine lv_bipush (v := 24) hx hb dR_leads_13 (by decide) ?_
      refine lv_iload_n hx hb dR_leads_15 rfl (lv_at hl 1 rfl) ?_
      refine lv_imul hx hb dR_leads_16 ?_
      refine lv_iload_n hx hb dR_leads_17 rfl (lv_at hl 2 rfl) ?_
      refine lv_iadd hx hb dR_leads_18 ?_
      have k19 : ¬ (ob (((24 * a1) + a2) : Int32) 576) := fun z => by rw [if_pos z] at hv; cases hv
      rw [if_neg k19] at hv
      refine va_zald hx hb hK hP 8 2 rfl rfl (k19) dR_leads_19 ?_
      by_cases c20 : ((g_rab S) (((24 * a1) + a2) : Int32).toNatClampNeg) = 0
      · rw [if_pos c20] at hv
        refine lv_if_eq (tgt := 27) hx hb dR_leads_20 (by decide) (fun _ => ?_) (fun z => absurd c20 z)
        refine lv_iconst (v := (-1)) hx hb dR_leads_27 (by decide) ?_
        cases hv
        exact zI_ret hx hb hr hlocks dR_leads_28
      · rw [if_neg c20] at hv
        refine lv_if_eq (tgt := 27) hx hb dR_leads_20 (by decide) (fun z => absurd z c20) (fun _ => ?_)
        refine lv_iload_n hx hb dR_leads_23 rfl (lv_at hl 2 rfl) ?_
        refine lv_goto (tgt := 28) hx hb dR_leads_24 (by decide) ?_
        cases hv
        exact zI_ret hx hb hr hlocks dR_leads_28
abbrev rmR_tellRing : Room := { frames := 1, cells := 0, slots := 0, locals := 22 }
set_option maxHeartbeats 4000000 in
set_option maxRecDepth 100000 in
theorem tR_tellRing_14 {p : Program} {l : Launch} {e : Env} {s : State} {m : MethodId} {args : Array Value} {below : List Frame} {meth : Method} {c : Code} {D : va_G} {Y : Nat → ClassId} {h : Nat → Nat} {n : Nat} (hn : n ≤ 24) {A : Nat → Prop} (hA : ∀ q : Nat, s.heap.size ≤ q → A q) (CF : CallFix p m c cR_tellRing 5 s args uT RR) (hr : meth.sig.returnType = none) (hlocks : meth.locks = false) (hK : va_K D vwCl (tysK Y) s) : ∀ (k : Nat) (x1 : Int32) (x2 : Int32) (x3 : Int32) (S : vR) (v : vR), (fR_tellRing_14 n k x1 x2 x3 S) = some v → ∀ (H : Heap) (locs : List Loc), va_P D vwCl (wR Y h n S) H → va_D A (wR Y h n S) → va_S A s.heap H locs → ∀ ls : Array Slot, lv_has ls 5 [(0, .ref (h 0)), (1, .int x1), (2, .int x2), (3, .int x3)] → W p l e rmR_tellRing s m args below meth c H locs 0 0 (zMv D vwCl (tysK Y) A (wR Y h n) below args s 0 0 v) (F0 m 14 ls []) := by
  obtain ⟨hx, hb, hml, hown, hts⟩ := CF
  intro k
  induction k with
  | zero =>
    intro x1 x2 x3 S v hv H locs hP hD hS ls hl
    rw [fR_tellRing_14] at hv
    cases hv
  | succ k ih =>
    intro x1 x2 x3 S v hv H locs hP hD hS ls hl
    rw [fR_tellRing_14] at hv
    refine lv_iload_n hx hb dR_tellRing_14 rfl (lv_at hl 3 rfl) ?_
    refine lv_iload_n hx hb dR_tellRing_15 rfl (lv_at hl 1 rfl) ?_
    by_cases c16 : x3 = x1
    · rw [if_pos c16] at hv
      refine lv_icmp_eq (tgt := 72) hx hb dR_tellRing_16 (by decide) (fun _ => ?_) (fun z => absurd c16 z)
      refine lv_aload_n hx hb dR_tellRing_72 rfl (lv_at hl 0 rfl) ?_
      refine va_get (D := D) (ci := 3) (v := .ref (h 7)) (C := RR) (T := TR) (N := 13) hx hb hts hinR hown hK hP 0 rfl rfl 8 (by decide) (hts _ uw228) (fun _ h9 => h9) rfl dR_tellRing_73 ?_
      refine lv_aload_n hx hb dR_tellRing_76 rfl (lv_at hl 0 rfl) ?_
      refine va_get (D := D) (ci := 3) (v := .int (g_rrg S)) (C := RR) (T := TR) (N := 13) hx hb hts hinR hown hK hP 0 rfl rfl 7 (by decide) (hts _ uw229) (fun _ h9 => h9) rfl dR_tellRing_77 ?_
      refine lv_iload_n hx hb dR_tellRing_80 rfl (lv_at hl 1 rfl) ?_
      have k81 : ¬ (ob ((g_rrg S) : Int32) 30) := fun z => by rw [if_pos z] at hv; cases hv
      rw [if_neg k81] at hv
      refine va_iast hx hb hK hP hD hS 7 0 rfl rfl (k81) dR_tellRing_81 (fun H locs hP hD hS => ?_)
      have hP : va_P D vwCl (wR Y h n (r_rri S (upd (g_rri S) ((g_rrg S) : Int32).toNatClampNeg x1))) H := hP
      have hD : va_D A (wR Y h n (r_rri S (upd (g_rri S) ((g_rrg S) : Int32).toNatClampNeg x1))) := hD
      refine lv_aload_n hx hb dR_tellRing_82 rfl (lv_at hl 0 rfl) ?_
      refine lv_dup hx hb dR_tellRing_83 rfl ?_
      refine va_get (D := D) (ci := 3) (v := .int (g_rrg (r_rri S (upd (g_rri S) ((g_rrg S) : Int32).toNatClampNeg x1)))) (C := RR) (T := TR) (N := 13) hx hb hts hinR hown hK hP 0 rfl rfl 7 (by decide) (hts _ uw229) (fun _ h9 => h9) rfl dR_tellRing_84 ?_
      refine lv_iconst (v := 1) hx hb dR_tellRing_87 (by decide) ?_
      refine lv_iadd hx hb dR_tellRing_88 ?_
      refine va_put (D := D) (ci := 3) (v := .int ((g_rrg (r_rri S (upd (g_rri S) ((g_rrg S) : Int32).toNatClampNeg x1))) + 1)) (ty := .int) (C := RR) (T := TR) (N := 13) hx hb hts hinR tyR tyR_ok nmR hown hK hP hD hS 0 rfl rfl 7 (by decide) (hts _ uw229) (fun _ h9 => h9) rfl (by decide +kernel) rfl rfl (Nat.le_of_ble_eq_true rfl) dR_tellRing_89 (fun H locs hP hD hS => ?_)
      have hP : va_P D vwCl (wR Y h n (r_rrg (r_rri S (upd (g_rri S) ((g_rrg S) : Int32).toNatClampNeg x1)) (((g_rrg (r_rri S (upd (g_rri S) ((g_rrg S) : Int32).toNatClampNeg x1))) + 1)))) H := hP
      have hD : va_D A (wR Y h n (r_rrg (r_rri S (upd (g_rri S) ((g_rrg S) : Int32).toNatClampNeg x1)) (((g_rrg (r_rri S (upd (g_rri S) ((g_rrg S) : Int32).toNatClampNeg x1))) + 1)))) := hD
      cases hv
      exact zMv_ret (u := (r_rrg (r_rri S (upd (g_rri S) ((g_rrg S) : Int32).toNatClampNeg x1)) (((g_rrg (r_rri S (upd (g_rri S) ((g_rrg S) : Int32).toNatClampNeg x1))) + 1)))) hx hb hr hlocks hK hP hD hS dR_tellRing_92
    · rw [if_neg c16] at hv
      refine lv_icmp_eq (tgt := 72) hx hb dR_tellRing_16 (by decide) (fun z => absurd z c16) (fun _ => ?_)
      refine lv_aload_n hx hb dR_tellRing_19 rfl (lv_at hl 0 rfl) ?_
      refine va_get (D := D) (ci := 3) (v := .ref (h 7)) (C := RR) (T := TR) (N := 13) hx hb hts hinR hown hK hP 0 rfl rfl 8 (by decide) (hts _ uw228) (fun _ h9 => h9) rfl dR_tellRing_20 ?_
      refine lv_aload_n hx hb dR_tellRing_23 rfl (lv_at hl 0 rfl) ?_
      refine va_get (D := D) (ci := 3) (v := .int (g_rrg S)) (C := RR) (T := TR) (N := 13) hx hb hts hinR hown hK hP 0 rfl rfl 7 (by decide) (hts _ uw229) (fun _ h9 => h9) rfl dR_tellRing_24 ?_
      refine lv_iload_n hx hb dR_tellRing_27 rfl (lv_at hl 3 rfl) ?_
      have k28 : ¬ (ob ((g_rrg S) : Int32) 30) := fun z => by rw [if_pos z] at hv; cases hv
      rw [if_neg k28] at hv
      refine va_iast hx hb hK hP hD hS 7 0 rfl rfl (k28) dR_tellRing_28 (fun H locs hP hD hS => ?_)
      have hP : va_P D vwCl (wR Y h n (r_rri S (upd (g_rri S) ((g_rrg S) : Int32).toNatClampNeg x3))) H := hP
      have hD : va_D A (wR Y h n (r_rri S (upd (g_rri S) ((g_rrg S) : Int32).toNatClampNeg x3))) := hD
      refine lv_aload_n hx hb dR_tellRing_29 rfl (lv_at hl 0 rfl) ?_
      refine lv_dup hx hb dR_tellRing_30 rfl ?_
      refine va_get (D := D) (ci := 3) (v := .int (g_rrg (r_rri S (upd (g_rri S) ((g_rrg S) : Int32).toNatClampNeg x3)))) (C := RR) (T := TR) (N := 13) hx hb hts hinR hown hK hP 0 rfl rfl 7 (by decide) (hts _ uw229) (fun _ h9 => h9) rfl dR_tellRing_31 ?_
      refine lv_iconst (v := 1) hx hb dR_tellRing_34 (by decide) ?_
      refine lv_iadd hx hb dR_tellRing_35 ?_
      refine va_put (D := D) (ci := 3) (v := .int ((g_rrg (r_rri S (upd (g_rri S) ((g_rrg S) : Int32).toNatClampNeg x3))) + 1)) (ty := .int) (C := RR) (T := TR) (N := 13) hx hb hts hinR tyR tyR_ok nmR hown hK hP hD hS 0 rfl rfl 7 (by decide) (hts _ uw229) (fun _ h9 => h9) rfl (by decide +kernel) rfl rfl (Nat.le_of_ble_eq_true rfl) dR_tellRing_36 (fun H locs hP hD hS => ?_)
      have hP : va_P D vwCl (wR Y h n (r_rrg (r_rri S (upd (g_rri S) ((g_rrg S) : Int32).toNatClampNeg x3)) (((g_rrg (r_rri S (upd (g_rri S) ((g_rrg S) : Int32).toNatClampNeg x3))) + 1)))) H := hP
      have hD : va_D A (wR Y h n (r_rrg (r_rri S (upd (g_rri S) ((g_rrg S) : Int32).toNatClampNeg x3)) (((g_rrg (r_rri S (upd (g_rri S) ((g_rrg S) : Int32).toNatClampNeg x3))) + 1)))) := hD
      refine lv_aload_n hx hb dR_tellRing_39 rfl (lv_at hl 0 rfl) ?_
      refine lv_iload_n hx hb dR_tellRing_40 rfl (lv_at hl 1 rfl) ?_
      refine lv_aload_n hx hb dR_tellRing_41 rfl (lv_at hl 0 rfl) ?_
      refine va_get (D := D) (ci := 3) (v := .ref (h 1)) (C := RR) (T := TR) (N := 13) hx hb hts hinR hown hK hP 0 rfl rfl 1 (by decide) (hts _ uw217) (fun _ h9 => h9) rfl dR_tellRing_42 ?_
      refine lv_iload_n hx hb dR_tellRing_45 rfl (lv_at hl 3 rfl) ?_
      have k46 : ¬ (ob (x3 : Int32) 24) := fun z => by rw [if_pos z] at hv; cases hv
      rw [if_neg k46] at hv
      refine va_iald hx hb hK hP 1 0 rfl rfl (k46) dR_tellRing_46 ?_
      obtain ⟨r47, e47, hv⟩ := bsome hv
      refine qVi (rest := []) ⟨hx, hb, hml, hown, hts⟩ (kR_leads l D Y h n hn (r_rrg (r_rri S (upd (g_rri S) ((g_rrg S) : Int32).toNatClampNeg x3)) (((g_rrg (r_rri S (upd (g_rri S) ((g_rrg S) : Int32).toNatClampNeg x3))) + 1))) x1 ((g_rmo (r_rrg (r_rri S (upd (g_rri S) ((g_rrg S) : Int32).toNatClampNeg x3)) (((g_rrg (r_rri S (upd (g_rri S) ((g_rrg S) : Int32).toNatClampNeg x3))) + 1)))) (x3 : Int32).toNatClampNeg) r47 e47) (cwV 2 hts (gV uw230 uw231 uw232 uw213 ucR_leads) rfl rfl rfl hvR_leads ⟨Nat.le_of_ble_eq_true rfl, Nat.le_of_ble_eq_true rfl⟩) hK hP (va_recv hK hP (ci := 3) (q0 := 0) rfl rfl) rfl hl.1 rfl (Nat.le_of_ble_eq_true rfl) dR_tellRing_47 ⟨Nat.le_of_ble_eq_true rfl, Nat.le_of_ble_eq_true rfl⟩ ?_
      refine lv_istore (lv' := [(4, .int r47), (0, .ref (h 0)), (1, .int x1), (2, .int x2), (3, .int x3)]) hx hb dR_tellRing_50 hl (by decide) rfl (fun ls hl => ?_)
      refine lv_iload hx hb dR_tellRing_52 (lv_at hl 0 rfl) ?_
      by_cases c54 : r47 < 0
      · rw [if_pos c54] at hv
        refine lv_if_lt (tgt := 62) hx hb dR_tellRing_54 (by decide) (fun _ => ?_) (fun z => absurd c54 z)
        refine lv_aload_n hx hb dR_tellRing_62 rfl (lv_at hl 1 rfl) ?_
        refine va_get (D := D) (ci := 3) (v := .ref (h 2)) (C := RR) (T := TR) (N := 13) hx hb hts hinR hown hK hP 0 rfl rfl 2 (by decide) (hts _ uw218) (fun _ h9 => h9) rfl dR_tellRing_63 ?_
        refine lv_iload_n hx hb dR_tellRing_66 rfl (lv_at hl 4 rfl) ?_
        have k67 : ¬ (ob (x3 : Int32) 24) := fun z => by rw [if_pos z] at hv; cases hv
        rw [if_neg k67] at hv
        refine va_iald hx hb hK hP 2 0 rfl rfl (k67) dR_tellRing_67 ?_
        refine lv_istore_n (lv' := [(3, .int ((g_rfa (r_rrg (r_rri S (upd (g_rri S) ((g_rrg S) : Int32).toNatClampNeg x3)) (((g_rrg (r_rri S (upd (g_rri S) ((g_rrg S) : Int32).toNatClampNeg x3))) + 1)))) (x3 : Int32).toNatClampNeg)), (4, .int r47), (0, .ref (h 0)), (1, .int x1), (2, .int x2)]) hx hb dR_tellRing_68 rfl hl (by decide) rfl (fun ls hl => ?_)
        refine lv_goto (tgt := 14) hx hb dR_tellRing_69 (by decide) ?_
        exact ih x1 x2 ((g_rfa (r_rrg (r_rri S (upd (g_rri S) ((g_rrg S) : Int32).toNatClampNeg x3)) (((g_rrg (r_rri S (upd (g_rri S) ((g_rrg S) : Int32).toNatClampNeg x3))) + 1)))) (x3 : Int32).toNatClampNeg) (r_rrg (r_rri S (upd (g_rri S) ((g_rrg S) : Int32).toNatClampNeg x3)) (((g_rrg (r_rri S (upd (g_rri S) ((g_rrg S) : Int32).toNatClampNeg x3))) + 1))) _ hv _ _ hP hD hS ls (lv_sub hl [2, 3, 4, 0] rfl)
      · rw [if_neg c54] at hv
        refine lv_if_lt (tgt := 62) hx hb dR_tellRing_54 (by decide) (fun z => absurd z c54) (fun _ => ?_)
        refine lv_iload hx hb dR_tellRing_57 (lv_at hl 0 rfl) ?_
        refine lv_goto (tgt := 68) hx hb dR_tellRing_59 (by decide) ?_
        refine lv_istore_n (lv' := [(3, .int r47), (4, .int r47), (0, .ref (h 0)), (1, .int x1), (2, .int x2)]) hx hb dR_tellRing_68 rfl hl (by decide) rfl (fun ls hl => ?_)
        refine lv_goto (tgt := 14) hx hb dR_tellRing_69 (by decide) ?_
        exact ih x1 x2 r47 (r_rrg (r_rri S (upd (g_rri S) ((g_rrg S) : Int32).toNatClampNeg x3)) (((g_rrg (r_rri S (upd (g_rri S) ((g_rrg S) : Int32).toNatClampNeg x3))) + 1))) _ hv _ _ hP hD hS ls (lv_sub hl [2, 3, 4, 0] rfl)
set_option maxHeartbeats 4000000 in
set_option maxRecDepth 100000 in
theorem kR_tellRing (l : Launch) (D : va_G) (Y : Nat → ClassId) (h : Nat → Nat) (n : Nat) (hn : n ≤ 24) (S : vR) (a1 : Int32) (a2 : Int32) (v : vR) (hv : (fR_tellRing n S a1 a2) = some v) (sz : Nat) : Met l yR_tellRing wsR_tellRing rmR_tellRing (va_Pc [.ref (h 0), .int a1, .int a2] (zPreM D vwCl (tysK Y) (wR Y h n S) sz)) (va_Qv (fun u => u = v) (zAt D vwCl (tysK Y) (va_A (wR Y h n S) sz) (wR Y h n)) (va_A (wR Y h n S) sz)) 0 0 (va_A (wR Y h n S) sz) := by
  refine Met.ofW (cc := cR_tellRing) (maxL := 5) (ret := none) (by decide) rfl ?_
  intro p e s m args below meth c s₁ B hml hvv
  obtain ⟨rfl, hsz, hP, hK, hD0⟩ := hvv
  have hx := B.exec
  have hb := B.bytes
  have hr := B.returns
  have hts : ∀ w ∈ uT, w.before _ s = true := fun w hw => atoms_spec (ws := wsR_tellRing) B.pre w (List.mem_cons_of_mem _ hw)
  have hown : s.vm.findClass RR = some m.cls := findClass_of_methodNamed B.named
  have hlocks := B.notSynchronized
  subst hsz
  have hD := hD0.self (sz := s.heap.size)
  generalize hAe : va_A (wR Y h n S) s.heap.size = A at hD ⊢
  have hA : ∀ q : Nat, s.heap.size ≤ q → A q := fun q h => by rw [← hAe]; exact Or.inr h
  have hS : va_S A s.heap s.heap [] := va_S.rf
  have hl := lv_entry ([.ref (h 0), .int a1, .int a2]) (n := 5) (Nat.le_of_ble_eq_true rfl)
  rw [lg_entry_eq]
  generalize (lg_sl ([.ref (h 0), .int a1, .int a2]) ++ List.replicate (5 - (lg_sl ([.ref (h 0), .int a1, .int a2])).length) Slot.unset).toArray = ls at hl ⊢
  have hl : lv_has ls 5 [(0, .ref (h 0)), (1, .int a1), (2, .int a2)] := hl
  unfold fR_tellRing at hv
  show W p l e rmR_tellRing s m _ below meth c s.heap [] 0 0 (zMv D vwCl (tysK Y) A (wR Y h n) below _ s 0 0 v) (F0 m 0 ls [])
  refine lv_aload_n hx hb dR_tellRing_0 rfl (lv_at hl 0 rfl) ?_
  refine va_get (D := D) (ci := 3) (v := .ref (h 7)) (C := RR) (T := TR) (N := 13) hx hb hts hinR hown hK hP 0 rfl rfl 8 (by decide) (hts _ uw228) (fun _ h9 => h9) rfl dR_tellRing_1 ?_
  refine lv_iconst (v := 0) hx hb dR_tellRing_4 (by decide) ?_
  refine lv_iload_n hx hb dR_tellRing_5 rfl (lv_at hl 1 rfl) ?_
  refine va_iast hx hb hK hP hD hS 7 0 rfl rfl (vp_in_nI (n := 0) (by omega) (by omega)) dR_tellRing_6 (fun H locs hP hD hS => ?_)
  have hP : va_P D vwCl (wR Y h n (r_rri S (upd (g_rri S) (0 : Int32).toNatClampNeg a1))) H := hP
  have hD : va_D A (wR Y h n (r_rri S (upd (g_rri S) (0 : Int32).toNatClampNeg a1))) := hD
  refine lv_aload_n hx hb dR_tellRing_7 rfl (lv_at hl 0 rfl) ?_
  refine lv_iconst (v := 1) hx hb dR_tellRing_8 (by decide) ?_
  refine va_put (D := D) (ci := 3) (v := .int 1) (ty := .int) (C := RR) (T := TR) (N := 13) hx hb hts hinR tyR tyR_ok nmR hown hK hP hD hS 0 rfl rfl 7 (by decide) (hts _ uw229) (fun _ h9 => h9) rfl (by decide +kernel) rfl rfl (Nat.le_of_ble_eq_true rfl) dR_tellRing_9 (fun H locs hP hD hS => ?_)
  have hP : va_P D vwCl (wR Y h n (r_rrg (r_rri S (upd (g_rri S) (0 : Int32).toNatClampNeg a1)) (1))) H := hP
  have hD : va_D A (wR Y h n (r_rrg (r_rri S (upd (g_rri S) (0 : Int32).toNatClampNeg a1)) (1))) := hD
  refine lv_iload_n hx hb dR_tellRing_12 rfl (lv_at hl 2 rfl) ?_
  refine lv_istore_n (lv' := [(3, .int a2), (0, .ref (h 0)), (1, .int a1), (2, .int a2)]) hx hb dR_tellRing_13 rfl hl (by decide) rfl (fun ls hl => ?_)
  exact tR_tellRing_14 hn hA ⟨hx, hb, hml, hown, hts⟩ hr hlocks hK 40 a1 a2 a2 (r_rrg (r_rri S (upd (g_rri S) (0 : Int32).toNatClampNeg a1)) (1)) _ hv _ _ hP hD hS ls (lv_sub hl [1, 2, 3, 0] rfl)
abbrev rmR_isOlder : Room := { frames := 0, cells := 0, slots := 0, locals := 0 }
set_option maxHeartbeats 4000000 in
set_option maxRecDepth 100000 in
theorem kR_isOlder (l : Launch) (D : va_G) (Y : Nat → ClassId) (h : Nat → Nat) (n : Nat) (hn : n ≤ 24) (S : vR) (a1 : Int32) (a2 : Int32) (v : Int32) (hv : (fR_isOlder n S a1 a2) = some v) : Met l yR_isOlder wsR_isOlder rmR_isOlder (va_Pc [.ref (h 0), .int a1, .int a2] (zPre D vwCl (tysK Y) (wR Y h n S))) (vp_Si (fun r => r = v)) 0 0 (fun _ => False) := by
  refine Met.ofW (cc := cR_isOlder) (maxL := 3) (ret := (some .boolean)) (by decide) rfl ?_
  intro p e s m args below meth c s₁ B hml hvv
  obtain ⟨rfl, hP, hK⟩ := hvv
  have hx := B.exec
  have hb := B.bytes
  have hr := B.returns
  have hts : ∀ w ∈ uT, w.before _ s = true := fun w hw => atoms_spec (ws := wsR_isOlder) B.pre w (List.mem_cons_of_mem _ hw)
  have hown : s.vm.findClass RR = some m.cls := findClass_of_methodNamed B.named
  have hlocks := B.notSynchronized
  have hl := lv_entry ([.ref (h 0), .int a1, .int a2]) (n := 3) (Nat.le_of_ble_eq_true rfl)
  rw [lg_entry_eq]
  generalize (lg_sl ([.ref (h 0), .int a1, .int a2]) ++ List.replicate (3 - (lg_sl ([.ref (h 0), .int a1, .int a2])).length) Slot.unset).toArray = ls at hl ⊢
  have hl : lv_has ls 3 [(0, .ref (h 0)), (1, .int a1), (2, .int a2)] := hl
  unfold fR_isOlder at hv
  show W p l e rmR_isOlder s m _ below meth c s.heap [] 0 0 (zI below _ s v) (F0 m 0 ls [])
  refine lv_iload_n hx hb dR_isOlder_0 rfl (lv_at hl 1 rfl) ?_
  by_cases c1 : a1 < 0
  · rw [if_pos c1] at hv
    refine lv_if_lt (tgt := 37) hx hb dR_isOlder_1 (by decide) (fun _ => ?_) (fun z => absurd c1 z)
    refine lv_iconst (v := 1) hx hb dR_isOlder_37 (by decide) ?_
    refine lv_goto (tgt := 42) hx hb dR_isOlder_38 (by decide) ?_
    cases hv
    exact zB_ret hx hb hr hlocks (Or.inr rfl) dR_isOlder_42
  · rw [if_neg c1] at hv
    refine lv_if_lt (tgt := 37) hx hb dR_isOlder_1 (by decide) (fun z => absurd z c1) (fun _ => ?_)
    refine lv_aload_n hx hb dR_isOlder_4 rfl (lv_at hl 0 rfl) ?_
    refine va_get (D := D) (ci := 3) (v := .ref (h 4)) (C := RR) (T := TR) (N := 13) hx hb hts hinR hown hK hP 0 rfl rfl 4 (by decide) (hts _ uw233) (fun _ h9 => h9) rfl dR_isOlder_5 ?_
    refine lv_iload_n hx hb dR_isOlder_8 rfl (lv_at hl 1 rfl) ?_
    have k9 : ¬ (ob (a1 : Int32) 24) := fun z => by rw [if_pos z] at hv; cases hv
    rw [if_neg k9] at hv
    refine va_iald hx hb hK hP 4 0 rfl rfl (k9) dR_isOlder_9 ?_
    by_cases c10 : ((g_rdy S) (a1 : Int32).toNatClampNeg) < 0
    · rw [if_pos c10] at hv
      refine lv_if_lt (tgt := 37) hx hb dR_isOlder_10 (by decide) (fun _ => ?_) (fun z => absurd c10 z)
      refine lv_iconst (v := 1) hx hb dR_isOlder_37 (by decide) ?_
      refine lv_goto (tgt := 42) hx hb dR_isOlder_38 (by decide) ?_
      cases hv
      exact zB_ret hx hb hr hlocks (Or.inr rfl) dR_isOlder_42
    · rw [if_neg c10] at hv
      refine lv_if_lt (tgt := 37) hx hb dR_isOlder_10 (by decide) (fun z => absurd z c10) (fun _ => ?_)
      refine lv_aload_n hx hb dR_isOlder_13 rfl (lv_at hl 0 rfl) ?_
      refine va_get (D := D) (ci := 3) (v := .ref (h 4)) (C := RR) (T := TR) (N := 13) hx hb hts hinR hown hK hP 0 rfl rfl 4 (by decide) (hts _ uw233) (fun _ h9 => h9) rfl dR_isOlder_14 ?_
      refine lv_iload_n hx hb dR_isOlder_17 rfl (lv_at hl 2 rfl) ?_
      have k18 : ¬ (ob (a2 : Int32) 24) := fun z => by rw [if_pos z] at hv; cases hv
      rw [if_neg k18] at hv
      refine va_iald hx hb hK hP 4 0 rfl rfl (k18) dR_isOlder_18 ?_
      by_cases c19 : ((g_rdy S) (a2 : Int32).toNatClampNeg) < 0
      · rw [if_pos c19] at hv
        refine lv_if_lt (tgt := 37) hx hb dR_isOlder_19 (by decide) (fun _ => ?_) (fun z => absurd c19 z)
        refine lv_iconst (v := 1) hx hb dR_isOlder_37 (by decide) ?_
        refine lv_goto (tgt := 42) hx hb dR_isOlder_38 (by decide) ?_
        cases hv
        exact zB_ret hx hb hr hlocks (Or.inr rfl) dR_isOlder_42
      · rw [if_neg c19] at hv
        refine lv_if_lt (tgt := 37) hx hb dR_isOlder_19 (by decide) (fun z => absurd z c19) (fun _ => ?_)
        refine lv_aload_n hx hb dR_isOlder_22 rfl (lv_at hl 0 rfl) ?_
        refine va_get (D := D) (ci := 3) (v := .ref (h 4)) (C := RR) (T := TR) (N := 13) hx hb hts hinR hown hK hP 0 rfl rfl 4 (by decide) (hts _ uw233) (fun _ h9 => h9) rfl dR_isOlder_23 ?_
        refine lv_iload_n hx hb dR_isOlder_26 rfl (lv_at hl 1 rfl) ?_
        have k27 : ¬ (ob (a1 : Int32) 24) := fun z => by rw [if_pos z] at hv; cases hv
        rw [if_neg k27] at hv
        refine va_iald hx hb hK hP 4 0 rfl rfl (k27) dR_isOlder_27 ?_
        refine lv_aload_n hx hb dR_isOlder_28 rfl (lv_at hl 0 rfl) ?_
        refine va_get (D := D) (ci := 3) (v := .ref (h 4)) (C := RR) (T := TR) (N := 13) hx hb hts hinR hown hK hP 0 rfl rfl 4 (by decide) (hts _ uw233) (fun _ h9 => h9) rfl dR_isOlder_29 ?_
        refine lv_iload_n hx hb dR_isOlder_32 rfl (lv_at hl 2 rfl) ?_
        have k33 : ¬ (ob (a2 : Int32) 24) := fun z => by rw [if_pos z] at hv; cases hv
        rw [if_neg k33] at hv
        refine va_iald hx hb hK hP 4 0 rfl rfl (k33) dR_isOlder_33 ?_
        by_cases c34 : ((g_rdy S) (a2 : Int32).toNatClampNeg) ≤ ((g_rdy S) (a1 : Int32).toNatClampNeg)
        · rw [if_pos c34] at hv
          refine lv_icmp_ge (tgt := 41) hx hb dR_isOlder_34 (by decide) (fun _ => ?_) (fun z => absurd c34 z)
          refine lv_iconst (v := 0) hx hb dR_isOlder_41 (by decide) ?_
          cases hv
          exact zB_ret hx hb hr hlocks (Or.inl rfl) dR_isOlder_42
        · rw [if_neg c34] at hv
          refine lv_icmp_ge (tgt := 41) hx hb dR_isOlder_34 (by decide) (fun z => absurd z c34) (fun _ => ?_)
          refine lv_iconst (v := 1) hx hb dR_isOlder_37 (by decide) ?_
          refine lv_goto (tgt := 42) hx hb dR_isOlder_38 (by decide) ?_
          cases hv
          exact zB_ret hx hb hr hlocks (Or.inr rfl) dR_isOlder_42
abbrev rmR_parents : Room := { frames := 2, cells := 0, slots := 0, locals := 46 }
set_option maxHeartbeats 4000000 in
set_option maxRecDepth 100000 in
theorem kR_parents (l : Launch) (D : va_G) (Y : Nat → ClassId) (h : Nat → Nat) (n : Nat) (hn : n ≤ 24) (S : vR) (a1 : Int32) (a2 : Int32) (a3 : Int32) (v : Int32 × vR) (hv : (fR_parents n S a1 a2 a3) = some v) (sz : Nat) : Met l yR_parents wsR_parents rmR_parents (va_Pc [.ref (h 0), .int a1, .int a2, .int a3] (zPreM D vwCl (tysK Y) (wR Y h n S) sz)) (va_Qi (fun r u => (r, u) = v) (zAt D vwCl (tysK Y) (va_A (wR Y h n S) sz) (wR Y h n)) (va_A (wR Y h n S) sz)) 0 0 (va_A (wR Y h n S) sz) := by
  refine Met.ofW (cc := cR_parents) (maxL := 5) (ret := (some .boolean)) (by decide) rfl ?_
  intro p e s m args below meth c s₁ B hml hvv
  obtain ⟨rfl, hsz, hP, hK, hD0⟩ := hvv
  have hx := B.exec
  have hb := B.bytes
  have hr := B.returns
  have hts : ∀ w ∈ uT, w.before _ s = true := fun w hw => atoms_spec (ws := wsR_parents) B.pre w (List.mem_cons_of_mem _ hw)
  have hown : s.vm.findClass RR = some m.cls := findClass_of_methodNamed B.named
  have hlocks := B.notSynchronized
  subst hsz
  have hD := hD0.self (sz := s.heap.size)
  generalize hAe : va_A (wR Y h n S) s.heap.size = A at hD ⊢
  have hA : ∀ q : Nat, s.heap.size ≤ q → A q := fun q h => by rw [← hAe]; exact Or.inr h
  have hS : va_S A s.heap s.heap [] := va_S.rf
  have hl := lv_entry ([.ref (h 0), .int a1, .int a2, .int a3]) (n := 5) (Nat.le_of_ble_eq_true rfl)
  rw [lg_entry_eq]
  generalize (lg_sl ([.ref (h 0), .int a1, .int a2, .int a3]) ++ List.replicate (5 - (lg_sl ([.ref (h 0), .int a1, .int a2, .int a3])).length) Slot.unset).toArray = ls at hl ⊢
  have hl : lv_has ls 5 [(0, .ref (h 0)), (1, .int a1), (2, .int a2), (3, .int a3)] := hl
  unfold fR_parents at hv
  show W p l e rmR_parents s m _ below meth c s.heap [] 0 0 (zMi D vwCl (tysK Y) A (wR Y h n) below _ s 0 0 v) (F0 m 0 ls [])
  refine lv_aload_n hx hb dR_parents_0 rfl (lv_at hl 0 rfl) ?_
  refine lv_iconst (v := 0) hx hb dR_parents_1 (by decide) ?_
  refine va_put (D := D) (ci := 3) (v := .int 0) (ty := .int) (C := RR) (T := TR) (N := 13) hx hb hts hinR tyR tyR_ok nmR hown hK hP hD hS 0 rfl rfl 7 (by decide) (hts _ uw229) (fun _ h9 => h9) rfl (by decide +kernel) rfl rfl (Nat.le_of_ble_eq_true rfl) dR_parents_2 (fun H locs hP hD hS => ?_)
  have hP : va_P D vwCl (wR Y h n (r_rrg S (0))) H := hP
  have hD : va_D A (wR Y h n (r_rrg S (0))) := hD
  refine lv_aload_n hx hb dR_parents_5 rfl (lv_at hl 0 rfl) ?_
  refine lv_iload_n hx hb dR_parents_6 rfl (lv_at hl 1 rfl) ?_
  refine qVi (rest := []) ⟨hx, hb, hml, hown, hts⟩ (kR_is l D Y h n hn (r_rrg S (0)) a1) (cwV 1 hts (gV uw210 uw211 uw212 uw213 ucR_is) rfl rfl rfl hvR_is ⟨Nat.le_of_ble_eq_true rfl, Nat.le_of_ble_eq_true rfl⟩) hK hP (va_recv hK hP (ci := 3) (q0 := 0) rfl rfl) rfl hl.1 rfl (Nat.le_of_ble_eq_true rfl) dR_parents_7 ⟨Nat.le_of_ble_eq_true rfl, Nat.le_of_ble_eq_true rfl⟩ ?_
  by_cases c10 : (fR_is n a1) = 0
  · rw [if_pos c10] at hv
    refine lv_if_eq (tgt := 38) hx hb dR_parents_10 (by decide) (fun _ => ?_) (fun z => absurd c10 z)
    refine lv_iconst (v := 0) hx hb dR_parents_38 (by decide) ?_
    cases hv
    exact zMb_ret (u := (r_rrg S (0))) hx hb hr hlocks hK hP hD hS (Or.inl rfl) dR_parents_39
  · rw [if_neg c10] at hv
    refine lv_if_eq (tgt := 38) hx hb dR_parents_10 (by decide) (fun z => absurd z c10) (fun _ => ?_)
    refine lv_aload_n hx hb dR_parents_13 rfl (lv_at hl 0 rfl) ?_
    refine lv_iload_n hx hb dR_parents_14 rfl (lv_at hl 2 rfl) ?_
    refine qVi (rest := []) ⟨hx, hb, hml, hown, hts⟩ (kR_isOrNone l D Y h n hn (r_rrg S (0)) a2) (cwV 1 hts (gV uw234 uw235 uw236 uw213 ucR_isOrNone) rfl rfl rfl hvR_isOrNone ⟨Nat.le_of_ble_eq_true rfl, Nat.le_of_ble_eq_true rfl⟩) hK hP (va_recv hK hP (ci := 3) (q0 := 0) rfl rfl) rfl hl.1 rfl (Nat.le_of_ble_eq_true rfl) dR_parents_15 ⟨Nat.le_of_ble_eq_true rfl, Nat.le_of_ble_eq_true rfl⟩ ?_
    by_cases c18 : (fR_isOrNone n a2) = 0
    · rw [if_pos c18] at hv
      refine lv_if_eq (tgt := 38) hx hb dR_parents_18 (by decide) (fun _ => ?_) (fun z => absurd c18 z)
      refine lv_iconst (v := 0) hx hb dR_parents_38 (by decide) ?_
      cases hv
      exact zMb_ret (u := (r_rrg S (0))) hx hb hr hlocks hK hP hD hS (Or.inl rfl) dR_parents_39
    · rw [if_neg c18] at hv
      refine lv_if_eq (tgt := 38) hx hb dR_parents_18 (by decide) (fun z => absurd z c18) (fun _ => ?_)
      refine lv_aload_n hx hb dR_parents_21 rfl (lv_at hl 0 rfl) ?_
      refine lv_iload_n hx hb dR_parents_22 rfl (lv_at hl 3 rfl) ?_
      refine qVi (rest := []) ⟨hx, hb, hml, hown, hts⟩ (kR_isOrNone l D Y h n hn (r_rrg S (0)) a3) (cwV 1 hts (gV uw234 uw235 uw236 uw213 ucR_isOrNone) rfl rfl rfl hvR_isOrNone ⟨Nat.le_of_ble_eq_true rfl, Nat.le_of_ble_eq_true rfl⟩) hK hP (va_recv hK hP (ci := 3) (q0 := 0) rfl rfl) rfl hl.1 rfl (Nat.le_of_ble_eq_true rfl) dR_parents_23 ⟨Nat.le_of_ble_eq_true rfl, Nat.le_of_ble_eq_true rfl⟩ ?_
      by_cases c26 : (fR_isOrNone n a3) = 0
      · rw [if_pos c26] at hv
        refine lv_if_eq (tgt := 38) hx hb dR_parents_26 (by decide) (fun _ => ?_) (fun z => absurd c26 z)
        refine lv_iconst (v := 0) hx hb dR_parents_38 (by decide) ?_
        cases hv
        exact zMb_ret (u := (r_rrg S (0))) hx hb hr hlocks hK hP hD hS (Or.inl rfl) dR_parents_39
      · rw [if_neg c26] at hv
        refine lv_if_eq (tgt := 38) hx hb dR_parents_26 (by decide) (fun z => absurd z c26) (fun _ => ?_)
        refine lv_iload_n hx hb dR_parents_29 rfl (lv_at hl 2 rfl) ?_
        refine lv_iload_n hx hb dR_parents_30 rfl (lv_at hl 3 rfl) ?_
        by_cases c31 : a2 = a3
        · rw [if_pos c31] at hv
          refine lv_icmp_ne (tgt := 40) hx hb dR_parents_31 (by decide) (fun z => absurd c31 z) (fun _ => ?_)
          refine lv_iload_n hx hb dR_parents_34 rfl (lv_at hl 2 rfl) ?_
          by_cases c35 : a2 < 0
          · rw [if_pos c35] at hv
            refine lv_if_lt (tgt := 40) hx hb dR_parents_35 (by decide) (fun _ => ?_) (fun z => absurd c35 z)
            refine lv_aload_n hx hb dR_parents_40 rfl (lv_at hl 0 rfl) ?_
            obtain ⟨r41, e41, hv⟩ := bsome hv
            refine qNVv (w := wR Y h n) (rest := []) ⟨hx, hb, hml, hown, hts⟩ (kR_find l D Y h n hn (r_rrg S (0)) r41 e41 _) (cwV 0 hts (gV uw220 uw221 uw222 uw213 ucR_find) rfl rfl rfl hvR_find ⟨Nat.le_of_ble_eq_true rfl, Nat.le_of_ble_eq_true rfl⟩) hK hP hD hS hA (va_recv hK hP (ci := 3) (q0 := 0) rfl rfl) rfl hl.1 rfl (Nat.le_of_ble_eq_true rfl) dR_parents_41 ⟨Nat.le_of_ble_eq_true rfl, Nat.le_of_ble_eq_true rfl⟩ (fun H locs hP hD hS => ?_)
            refine lv_aload_n hx hb dR_parents_44 rfl (lv_at hl 0 rfl) ?_
            refine lv_iload_n hx hb dR_parents_45 rfl (lv_at hl 1 rfl) ?_
            refine lv_iload_n hx hb dR_parents_46 rfl (lv_at hl 2 rfl) ?_
            obtain ⟨r47, e47, hv⟩ := bsome hv
            refine qVi (rest := []) ⟨hx, hb, hml, hown, hts⟩ (kR_leads l D Y h n hn r41 a1 a2 r47 e47) (cwV 2 hts (gV uw230 uw231 uw232 uw213 ucR_leads) rfl rfl rfl hvR_leads ⟨Nat.le_of_ble_eq_true rfl, Nat.le_of_ble_eq_true rfl⟩) hK hP (va_recv hK hP (ci := 3) (q0 := 0) rfl rfl) rfl hl.1 rfl (Nat.le_of_ble_eq_true rfl) dR_parents_47 ⟨Nat.le_of_ble_eq_true rfl, Nat.le_of_ble_eq_true rfl⟩ ?_
            by_cases c50 : r47 < 0
            · rw [if_pos c50] at hv
              refine lv_if_lt (tgt := 57) hx hb dR_parents_50 (by decide) (fun _ => ?_) (fun z => absurd c50 z)
              refine lv_aload_n hx hb dR_parents_57 rfl (lv_at hl 0 rfl) ?_
              refine lv_iload_n hx hb dR_parents_58 rfl (lv_at hl 1 rfl) ?_
              refine lv_iload_n hx hb dR_parents_59 rfl (lv_at hl 3 rfl) ?_
              obtain ⟨r60, e60, hv⟩ := bsome hv
              refine qVi (rest := []) ⟨hx, hb, hml, hown, hts⟩ (kR_leads l D Y h n hn r41 a1 a3 r60 e60) (cwV 2 hts (gV uw230 uw231 uw232 uw213 ucR_leads) rfl rfl rfl hvR_leads ⟨Nat.le_of_ble_eq_true rfl, Nat.le_of_ble_eq_true rfl⟩) hK hP (va_recv hK hP (ci := 3) (q0 := 0) rfl rfl) rfl hl.1 rfl (Nat.le_of_ble_eq_true rfl) dR_parents_60 ⟨Nat.le_of_ble_eq_true rfl, Nat.le_of_ble_eq_true rfl⟩ ?_
              refine lv_istore (lv' := [(4, .int r60), (0, .ref (h 0)), (1, .int a1), (2, .int a2), (3, .int a3)]) hx hb dR_parents_63 hl (by decide) rfl (fun ls hl => ?_)
              refine lv_iload hx hb dR_parents_65 (lv_at hl 0 rfl) ?_
              by_cases c67 : r60 < 0
              · rw [if_pos c67] at hv
                refine lv_if_lt (tgt := 79) hx hb dR_parents_67 (by decide) (fun _ => ?_) (fun z => absurd c67 z)
                refine lv_iload_n hx hb dR_parents_79 rfl (lv_at hl 3 rfl) ?_
                refine lv_if_lt (tgt := 93) hx hb dR_parents_80 (by decide) (fun _ => ?_) (fun z => absurd c35 z)
                refine lv_iload_n hx hb dR_parents_93 rfl (lv_at hl 4 rfl) ?_
                by_cases c94 : a3 < 0
                · rw [if_pos c94] at hv
                  refine lv_if_lt (tgt := 107) hx hb dR_parents_94 (by decide) (fun _ => ?_) (fun z => absurd c94 z)
                  refine lv_aload_n hx hb dR_parents_107 rfl (lv_at hl 1 rfl) ?_
                  refine lv_iload_n hx hb dR_parents_108 rfl (lv_at hl 3 rfl) ?_
                  refine lv_iload_n hx hb dR_parents_109 rfl (lv_at hl 2 rfl) ?_
                  obtain ⟨r110, e110, hv⟩ := bsome hv
                  refine qVi (rest := []) ⟨hx, hb, hml, hown, hts⟩ (kR_isOlder l D Y h n hn r41 a2 a1 r110 e110) (cwV 2 hts (gV uw237 uw238 uw239 uw213 ucR_isOlder) rfl rfl rfl hvR_isOlder ⟨Nat.le_of_ble_eq_true rfl, Nat.le_of_ble_eq_true rfl⟩) hK hP (va_recv hK hP (ci := 3) (q0 := 0) rfl rfl) rfl hl.1 rfl (Nat.le_of_ble_eq_true rfl) dR_parents_110 ⟨Nat.le_of_ble_eq_true rfl, Nat.le_of_ble_eq_true rfl⟩ ?_
                  by_cases c113 : r110 = 0
                  · rw [if_pos c113] at hv
                    refine lv_if_eq (tgt := 125) hx hb dR_parents_113 (by decide) (fun _ => ?_) (fun z => absurd c113 z)
                    refine lv_iconst (v := 0) hx hb dR_parents_125 (by decide) ?_
                    cases hv
                    exact zMb_ret (u := r41) hx hb hr hlocks hK hP hD hS (Or.inl rfl) dR_parents_126
                  · rw [if_neg c113] at hv
                    refine lv_if_eq (tgt := 125) hx hb dR_parents_113 (by decide) (fun z => absurd z c113) (fun _ => ?_)
                    refine lv_aload_n hx hb dR_parents_116 rfl (lv_at hl 1 rfl) ?_
                    refine lv_iload_n hx hb dR_parents_117 rfl (lv_at hl 4 rfl) ?_
                    refine lv_iload_n hx hb dR_parents_118 rfl (lv_at hl 2 rfl) ?_
                    obtain ⟨r119, e119, hv⟩ := bsome hv
                    refine qVi (rest := []) ⟨hx, hb, hml, hown, hts⟩ (kR_isOlder l D Y h n hn r41 a3 a1 r119 e119) (cwV 2 hts (gV uw237 uw238 uw239 uw213 ucR_isOlder) rfl rfl rfl hvR_isOlder ⟨Nat.le_of_ble_eq_true rfl, Nat.le_of_ble_eq_true rfl⟩) hK hP (va_recv hK hP (ci := 3) (q0 := 0) rfl rfl) rfl hl.1 rfl (Nat.le_of_ble_eq_true rfl) dR_parents_119 ⟨Nat.le_of_ble_eq_true rfl, Nat.le_of_ble_eq_true rfl⟩ ?_
                    by_cases c122 : r119 = 0
                    · rw [if_pos c122] at hv
                      refine lv_if_ne (tgt := 127) hx hb dR_parents_122 (by decide) (fun z => absurd c122 z) (fun _ => ?_)
                      refine lv_iconst (v := 0) hx hb dR_parents_125 (by decide) ?_
                      cases hv
                      exact zMb_ret (u := r41) hx hb hr hlocks hK hP hD hS (Or.inl rfl) dR_parents_126
                    · rw [if_neg c122] at hv
                      refine lv_if_ne (tgt := 127) hx hb dR_parents_122 (by decide) (fun _ => ?_) (fun z => absurd z c122)
                      refine lv_aload_n hx hb dR_parents_127 rfl (lv_at hl 1 rfl) ?_
                      refine va_get (D := D) (ci := 3) (v := .ref (h 1)) (C := RR) (T := TR) (N := 13) hx hb hts hinR hown hK hP 0 rfl rfl 1 (by decide) (hts _ uw217) (fun _ h9 => h9) rfl dR_parents_128 ?_
                      refine lv_iload_n hx hb dR_parents_131 rfl (lv_at hl 2 rfl) ?_
                      refine lv_iload_n hx hb dR_parents_132 rfl (lv_at hl 3 rfl) ?_
                      refine va_iast hx hb hK hP hD hS 1 0 rfl rfl (is_in hn c10) dR_parents_133 (fun H locs hP hD hS => ?_)
                      have hP : va_P D vwCl (wR Y h n (r_rmo r41 (upd (g_rmo r41) (a1 : Int32).toNatClampNeg a2))) H := hP
                      have hD : va_D A (wR Y h n (r_rmo r41 (upd (g_rmo r41) (a1 : Int32).toNatClampNeg a2))) := hD
                      refine lv_aload_n hx hb dR_parents_134 rfl (lv_at hl 1 rfl) ?_
                      refine va_get (D := D) (ci := 3) (v := .ref (h 2)) (C := RR) (T := TR) (N := 13) hx hb hts hinR hown hK hP 0 rfl rfl 2 (by decide) (hts _ uw218) (fun _ h9 => h9) rfl dR_parents_135 ?_
                      refine lv_iload_n hx hb dR_parents_138 rfl (lv_at hl 2 rfl) ?_
                      refine lv_iload_n hx hb dR_parents_139 rfl (lv_at hl 4 rfl) ?_
                      refine va_iast hx hb hK hP hD hS 2 0 rfl rfl (is_in hn c10) dR_parents_140 (fun H locs hP hD hS => ?_)
                      have hP : va_P D vwCl (wR Y h n (r_rfa (r_rmo r41 (upd (g_rmo r41) (a1 : Int32).toNatClampNeg a2)) (upd (g_rfa (r_rmo r41 (upd (g_rmo r41) (a1 : Int32).toNatClampNeg a2))) (a1 : Int32).toNatClampNeg a3))) H := hP
                      have hD : va_D A (wR Y h n (r_rfa (r_rmo r41 (upd (g_rmo r41) (a1 : Int32).toNatClampNeg a2)) (upd (g_rfa (r_rmo r41 (upd (g_rmo r41) (a1 : Int32).toNatClampNeg a2))) (a1 : Int32).toNatClampNeg a3))) := hD
                      refine lv_iconst (v := 1) hx hb dR_parents_141 (by decide) ?_
                      cases hv
                      exact zMb_ret (u := (r_rfa (r_rmo r41 (upd (g_rmo r41) (a1 : Int32).toNatClampNeg a2)) (upd (g_rfa (r_rmo r41 (upd (g_rmo r41) (a1 : Int32).toNatClampNeg a2))) (a1 : Int32).toNatClampNeg a3))) hx hb hr hlocks hK hP hD hS (Or.inr rfl) dR_parents_142
                · rw [if_neg c94] at hv
                  refine lv_if_lt (tgt := 107) hx hb dR_parents_94 (by decide) (fun z => absurd z c94) (fun _ => ?_)
                  refine lv_aload_n hx hb dR_parents_97 rfl (lv_at hl 1 rfl) ?_
                  refine va_get (D := D) (ci := 3) (v := .ref (h 3)) (C := RR) (T := TR) (N := 13) hx hb hts hinR hown hK hP 0 rfl rfl 3 (by decide) (hts _ uw240) (fun _ h9 => h9) rfl dR_parents_98 ?_
                  refine lv_iload_n hx hb dR_parents_101 rfl (lv_at hl 4 rfl) ?_
                  have k102 : ¬ (ob (a3 : Int32) 24) := fun z => by rw [if_pos z] at hv; cases hv
                  rw [if_neg k102] at hv
                  refine va_iald hx hb hK hP 3 0 rfl rfl (k102) dR_parents_102 ?_
                  refine lv_iconst (v := 1) hx hb dR_parents_103 (by decide) ?_
                  by_cases c104 : ((g_rsx r41) (a3 : Int32).toNatClampNeg) = 1
                  · rw [if_pos c104] at hv
                    refine lv_icmp_eq (tgt := 125) hx hb dR_parents_104 (by decide) (fun _ => ?_) (fun z => absurd c104 z)
                    refine lv_iconst (v := 0) hx hb dR_parents_125 (by decide) ?_
                    cases hv
                    exact zMb_ret (u := r41) hx hb hr hlocks hK hP hD hS (Or.inl rfl) dR_parents_126
                  · rw [if_neg c104] at hv
                    refine lv_icmp_eq (tgt := 125) hx hb dR_parents_104 (by decide) (fun z => absurd z c104) (fun _ => ?_)
                    refine lv_aload_n hx hb dR_parents_107 rfl (lv_at hl 1 rfl) ?_
                    refine lv_iload_n hx hb dR_parents_108 rfl (lv_at hl 3 rfl) ?_
                    refine lv_iload_n hx hb dR_parents_109 rfl (lv_at hl 2 rfl) ?_
                    obtain ⟨r110, e110, hv⟩ := bsome hv
                    refine qVi (rest := []) ⟨hx, hb, hml, hown, hts⟩ (kR_isOlder l D Y h n hn r41 a2 a1 r110 e110) (cwV 2 hts (gV uw237 uw238 uw239 uw213 ucR_isOlder) rfl rfl rfl hvR_isOlder ⟨Nat.le_of_ble_eq_true rfl, Nat.le_of_ble_eq_true rfl⟩) hK hP (va_recv hK hP (ci := 3) (q0 := 0) rfl rfl) rfl hl.1 rfl (Nat.le_of_ble_eq_true rfl) dR_parents_110 ⟨Nat.le_of_ble_eq_true rfl, Nat.le_of_ble_eq_true rfl⟩ ?_
                    by_cases c113 : r110 = 0
                    · rw [if_pos c113] at hv
                      refine lv_if_eq (tgt := 125) hx hb dR_parents_113 (by decide) (fun _ => ?_) (fun z => absurd c113 z)
                      refine lv_iconst (v := 0) hx hb dR_parents_125 (by decide) ?_
                      cases hv
                      exact zMb_ret (u := r41) hx hb hr hlocks hK hP hD hS (Or.inl rfl) dR_parents_126
                    · rw [if_neg c113] at hv
                      refine lv_if_eq (tgt := 125) hx hb dR_parents_113 (by decide) (fun z => absurd z c113) (fun _ => ?_)
                      refine lv_aload_n hx hb dR_parents_116 rfl (lv_at hl 1 rfl) ?_
                      refine lv_iload_n hx hb dR_parents_117 rfl (lv_at hl 4 rfl) ?_
                      refine lv_iload_n hx hb dR_parents_118 rfl (lv_at hl 2 rfl) ?_
                      obtain ⟨r119, e119, hv⟩ := bsome hv
                      refine qVi (rest := []) ⟨hx, hb, hml, hown, hts⟩ (kR_isOlder l D Y h n hn r41 a3 a1 r119 e119) (cwV 2 hts (gV uw237 uw238 uw239 uw213 ucR_isOlder) rfl rfl rfl hvR_isOlder ⟨Nat.le_of_ble_eq_true rfl, Nat.le_of_ble_eq_true rfl⟩) hK hP (va_recv hK hP (ci := 3) (q0 := 0) rfl rfl) rfl hl.1 rfl (Nat.le_of_ble_eq_true rfl) dR_parents_119 ⟨Nat.le_of_ble_eq_true rfl, Nat.le_of_ble_eq_true rfl⟩ ?_
                      by_cases c122 : r119 = 0
                      · rw [if_pos c122] at hv
                        refine lv_if_ne (tgt := 127) hx hb dR_parents_122 (by decide) (fun z => absurd c122 z) (fun _ => ?_)
                        refine lv_iconst (v := 0) hx hb dR_parents_125 (by decide) ?_
                        cases hv
                        exact zMb_ret (u := r41) hx hb hr hlocks hK hP hD hS (Or.inl rfl) dR_parents_126
                      · rw [if_neg c122] at hv
                        refine lv_if_ne (tgt := 127) hx hb dR_parents_122 (by decide) (fun _ => ?_) (fun z => absurd z c122)
                        refine lv_aload_n hx hb dR_parents_127 rfl (lv_at hl 1 rfl) ?_
                        refine va_get (D := D) (ci := 3) (v := .ref (h 1)) (C := RR) (T := TR) (N := 13) hx hb hts hinR hown hK hP 0 rfl rfl 1 (by decide) (hts _ uw217) (fun _ h9 => h9) rfl dR_parents_128 ?_
                        refine lv_iload_n hx hb dR_parents_131 rfl (lv_at hl 2 rfl) ?_
                        refine lv_iload_n hx hb dR_parents_132 rfl (lv_at hl 3 rfl) ?_
                        refine va_iast hx hb hK hP hD hS 1 0 rfl rfl (is_in hn c10) dR_parents_133 (fun H locs hP hD hS => ?_)
                        have hP : va_P D vwCl (wR Y h n (r_rmo r41 (upd (g_rmo r41) (a1 : Int32).toNatClampNeg a2))) H := hP
                        have hD : va_D A (wR Y h n (r_rmo r41 (upd (g_rmo r41) (a1 : Int32).toNatClampNeg a2))) := hD
                        refine lv_aload_n hx hb dR_parents_134 rfl (lv_at hl 1 rfl) ?_
                        refine va_get (D := D) (ci := 3) (v := .ref (h 2)) (C := RR) (T := TR) (N := 13) hx hb hts hinR hown hK hP 0 rfl rfl 2 (by decide) (hts _ uw218) (fun _ h9 => h9) rfl dR_parents_135 ?_
                        refine lv_iload_n hx hb dR_parents_138 rfl (lv_at hl 2 rfl) ?_
                        refine lv_iload_n hx hb dR_parents_139 rfl (lv_at hl 4 rfl) ?_
                        refine va_iast hx hb hK hP hD hS 2 0 rfl rfl (is_in hn c10) dR_parents_140 (fun H locs hP hD hS => ?_)
                        have hP : va_P D vwCl (wR Y h n (r_rfa (r_rmo r41 (upd (g_rmo r41) (a1 : Int32).toNatClampNeg a2)) (upd (g_rfa (r_rmo r41 (upd (g_rmo r41) (a1 : Int32).toNatClampNeg a2))) (a1 : Int32).toNatClampNeg a3))) H := hP
                        have hD : va_D A (wR Y h n (r_rfa (r_rmo r41 (upd (g_rmo r41) (a1 : Int32).toNatClampNeg a2)) (upd (g_rfa (r_rmo r41 (upd (g_rmo r41) (a1 : Int32).toNatClampNeg a2))) (a1 : Int32).toNatClampNeg a3))) := hD
                        refine lv_iconst (v := 1) hx hb dR_parents_141 (by decide) ?_
                        cases hv
                        exact zMb_ret (u := (r_rfa (r_rmo r41 (upd (g_rmo r41) (a1 : Int32).toNatClampNeg a2)) (upd (g_rfa (r_rmo r41 (upd (g_rmo r41) (a1 : Int32).toNatClampNeg a2))) (a1 : Int32).toNatClampNeg a3))) hx hb hr hlocks hK hP hD hS (Or.inr rfl) dR_parents_142
              · rw [if_neg c67] at hv
                refine lv_if_lt (tgt := 79) hx hb dR_parents_67 (by decide) (fun z => absurd z c67) (fun _ => ?_)
                refine lv_aload_n hx hb dR_parents_70 rfl (lv_at hl 1 rfl) ?_
                refine lv_iload_n hx hb dR_parents_71 rfl (lv_at hl 2 rfl) ?_
                refine lv_iload hx hb dR_parents_72 (lv_at hl 0 rfl) ?_
                obtain ⟨r74, e74, hv⟩ := bsome hv
                refine qNVv (w := wR Y h n) (rest := []) ⟨hx, hb, hml, hown, hts⟩ (kR_tellRing l D Y h n hn r41 a1 r60 r74 e74 _) (cwV 2 hts (gV uw241 uw242 uw243 uw213 ucR_tellRing) rfl rfl rfl hvR_tellRing ⟨Nat.le_of_ble_eq_true rfl, Nat.le_of_ble_eq_true rfl⟩) hK hP hD hS hA (va_recv hK hP (ci := 3) (q0 := 0) rfl rfl) rfl hl.1 rfl (Nat.le_of_ble_eq_true rfl) dR_parents_74 ⟨Nat.le_of_ble_eq_true rfl, Nat.le_of_ble_eq_true rfl⟩ (fun H locs hP hD hS => ?_)
                refine lv_iconst (v := 0) hx hb dR_parents_77 (by decide) ?_
                cases hv
                exact zMb_ret (u := r74) hx hb hr hlocks hK hP hD hS (Or.inl rfl) dR_parents_78
            · rw [if_neg c50] at hv
              refine lv_if_lt (tgt := 57) hx hb dR_parents_50 (by decide) (fun z => absurd z c50) (fun _ => ?_)
              refine lv_iload_n hx hb dR_parents_53 rfl (lv_at hl 2 rfl) ?_
              refine lv_goto (tgt := 63) hx hb dR_parents_54 (by decide) ?_
              refine lv_istore (lv' := [(4, .int a2), (0, .ref (h 0)), (1, .int a1), (2, .int a2), (3, .int a3)]) hx hb dR_parents_63 hl (by decide) rfl (fun ls hl => ?_)
              refine lv_iload hx hb dR_parents_65 (lv_at hl 0 rfl) ?_
              refine lv_if_lt (tgt := 79) hx hb dR_parents_67 (by decide) (fun _ => ?_) (fun z => absurd c35 z)
              refine lv_iload_n hx hb dR_parents_79 rfl (lv_at hl 3 rfl) ?_
              refine lv_if_lt (tgt := 93) hx hb dR_parents_80 (by decide) (fun _ => ?_) (fun z => absurd c35 z)
              refine lv_iload_n hx hb dR_parents_93 rfl (lv_at hl 4 rfl) ?_
              by_cases c94 : a3 < 0
              · rw [if_pos c94] at hv
                refine lv_if_lt (tgt := 107) hx hb dR_parents_94 (by decide) (fun _ => ?_) (fun z => absurd c94 z)
                refine lv_aload_n hx hb dR_parents_107 rfl (lv_at hl 1 rfl) ?_
                refine lv_iload_n hx hb dR_parents_108 rfl (lv_at hl 3 rfl) ?_
                refine lv_iload_n hx hb dR_parents_109 rfl (lv_at hl 2 rfl) ?_
                obtain ⟨r110, e110, hv⟩ := bsome hv
                refine qVi (rest := []) ⟨hx, hb, hml, hown, hts⟩ (kR_isOlder l D Y h n hn r41 a2 a1 r110 e110) (cwV 2 hts (gV uw237 uw238 uw239 uw213 ucR_isOlder) rfl rfl rfl hvR_isOlder ⟨Nat.le_of_ble_eq_true rfl, Nat.le_of_ble_eq_true rfl⟩) hK hP (va_recv hK hP (ci := 3) (q0 := 0) rfl rfl) rfl hl.1 rfl (Nat.le_of_ble_eq_true rfl) dR_parents_110 ⟨Nat.le_of_ble_eq_true rfl, Nat.le_of_ble_eq_true rfl⟩ ?_
                by_cases c113 : r110 = 0
                · rw [if_pos c113] at hv
                  refine lv_if_eq (tgt := 125) hx hb dR_parents_113 (by decide) (fun _ => ?_) (fun z => absurd c113 z)
                  refine lv_iconst (v := 0) hx hb dR_parents_125 (by decide) ?_
                  cases hv
                  exact zMb_ret (u := r41) hx hb hr hlocks hK hP hD hS (Or.inl rfl) dR_parents_126
                · rw [if_neg c113] at hv
                  refine lv_if_eq (tgt := 125) hx hb dR_parents_113 (by decide) (fun z => absurd z c113) (fun _ => ?_)
                  refine lv_aload_n hx hb dR_parents_116 rfl (lv_at hl 1 rfl) ?_
                  refine lv_iload_n hx hb dR_parents_117 rfl (lv_at hl 4 rfl) ?_
                  refine lv_iload_n hx hb dR_parents_118 rfl (lv_at hl 2 rfl) ?_
                  obtain ⟨r119, e119, hv⟩ := bsome hv
                  refine qVi (rest := []) ⟨hx, hb, hml, hown, hts⟩ (kR_isOlder l D Y h n hn r41 a3 a1 r119 e119) (cwV 2 hts (gV uw237 uw238 uw239 uw213 ucR_isOlder) rfl rfl rfl hvR_isOlder ⟨Nat.le_of_ble_eq_true rfl, Nat.le_of_ble_eq_true rfl⟩) hK hP (va_recv hK hP (ci := 3) (q0 := 0) rfl rfl) rfl hl.1 rfl (Nat.le_of_ble_eq_true rfl) dR_parents_119 ⟨Nat.le_of_ble_eq_true rfl, Nat.le_of_ble_eq_true rfl⟩ ?_
                  by_cases c122 : r119 = 0
                  · rw [if_pos c122] at hv
                    refine lv_if_ne (tgt := 127) hx hb dR_parents_122 (by decide) (fun z => absurd c122 z) (fun _ => ?_)
                    refine lv_iconst (v := 0) hx hb dR_parents_125 (by decide) ?_
                    cases hv
                    exact zMb_ret (u := r41) hx hb hr hlocks hK hP hD hS (Or.inl rfl) dR_parents_126
                  · rw [if_neg c122] at hv
                    refine lv_if_ne (tgt := 127) hx hb dR_parents_122 (by decide) (fun _ => ?_) (fun z => absurd z c122)
                    refine lv_aload_n hx hb dR_parents_127 rfl (lv_at hl 1 rfl) ?_
                    refine va_get (D := D) (ci := 3) (v := .ref (h 1)) (C := RR) (T := TR) (N := 13) hx hb hts hinR hown hK hP 0 rfl rfl 1 (by decide) (hts _ uw217) (fun _ h9 => h9) rfl dR_parents_128 ?_
                    refine lv_iload_n hx hb dR_parents_131 rfl (lv_at hl 2 rfl) ?_
                    refine lv_iload_n hx hb dR_parents_132 rfl (lv_at hl 3 rfl) ?_
                    refine va_iast hx hb hK hP hD hS 1 0 rfl rfl (is_in hn c10) dR_parents_133 (fun H locs hP hD hS => ?_)
                    have hP : va_P D vwCl (wR Y h n (r_rmo r41 (upd (g_rmo r41) (a1 : Int32).toNatClampNeg a2))) H := hP
                    have hD : va_D A (wR Y h n (r_rmo r41 (upd (g_rmo r41) (a1 : Int32).toNatClampNeg a2))) := hD
                    refine lv_aload_n hx hb dR_parents_134 rfl (lv_at hl 1 rfl) ?_
                    refine va_get (D := D) (ci := 3) (v := .ref (h 2)) (C := RR) (T := TR) (N := 13) hx hb hts hinR hown hK hP 0 rfl rfl 2 (by decide) (hts _ uw218) (fun _ h9 => h9) rfl dR_parents_135 ?_
                    refine lv_iload_n hx hb dR_parents_138 rfl (lv_at hl 2 rfl) ?_
                    refine lv_iload_n hx hb dR_parents_139 rfl (lv_at hl 4 rfl) ?_
                    refine va_iast hx hb hK hP hD hS 2 0 rfl rfl (is_in hn c10) dR_parents_140 (fun H locs hP hD hS => ?_)
                    have hP : va_P D vwCl (wR Y h n (r_rfa (r_rmo r41 (upd (g_rmo r41) (a1 : Int32).toNatClampNeg a2)) (upd (g_rfa (r_rmo r41 (upd (g_rmo r41) (a1 : Int32).toNatClampNeg a2))) (a1 : Int32).toNatClampNeg a3))) H := hP
                    have hD : va_D A (wR Y h n (r_rfa (r_rmo r41 (upd (g_rmo r41) (a1 : Int32).toNatClampNeg a2)) (upd (g_rfa (r_rmo r41 (upd (g_rmo r41) (a1 : Int32).toNatClampNeg a2))) (a1 : Int32).toNatClampNeg a3))) := hD
                    refine lv_iconst (v := 1) hx hb dR_parents_141 (by decide) ?_
                    cases hv
                    exact zMb_ret (u := (r_rfa (r_rmo r41 (upd (g_rmo r41) (a1 : Int32).toNatClampNeg a2)) (upd (g_rfa (r_rmo r41 (upd (g_rmo r41) (a1 : Int32).toNatClampNeg a2))) (a1 : Int32).toNatClampNeg a3))) hx hb hr hlocks hK hP hD hS (Or.inr rfl) dR_parents_142
              · rw [if_neg c94] at hv
                refine lv_if_lt (tgt := 107) hx hb dR_parents_94 (by decide) (fun z => absurd z c94) (fun _ => ?_)
                refine lv_aload_n hx hb dR_parents_97 rfl (lv_at hl 1 rfl) ?_
                refine va_get (D := D) (ci := 3) (v := .ref (h 3)) (C := RR) (T := TR) (N := 13) hx hb hts hinR hown hK hP 0 rfl rfl 3 (by decide) (hts _ uw240) (fun _ h9 => h9) rfl dR_parents_98 ?_
                refine lv_iload_n hx hb dR_parents_101 rfl (lv_at hl 4 rfl) ?_
                have k102x : ¬ (ob (a3 : Int32) 24) := fun z => by rw [if_pos z] at hv; cases hv
                rw [if_neg k102x] at hv
                refine va_iald hx hb hK hP 3 0 rfl rfl (k102x) dR_parents_102 ?_
                refine lv_iconst (v := 1) hx hb dR_parents_103 (by decide) ?_
                by_cases c104 : ((g_rsx r41) (a3 : Int32).toNatClampNeg) = 1
                · rw [if_pos c104] at hv
                  refine lv_icmp_eq (tgt := 125) hx hb dR_parents_104 (by decide) (fun _ => ?_) (fun z => absurd c104 z)
                  refine lv_iconst (v := 0) hx hb dR_parents_125 (by decide) ?_
                  cases hv
                  exact zMb_ret (u := r41) hx hb hr hlocks hK hP hD hS (Or.inl rfl) dR_parents_126
                · rw [if_neg c104] at hv
                  refine lv_icmp_eq (tgt := 125) hx hb dR_parents_104 (by decide) (fun z => absurd z c104) (fun _ => ?_)
                  refine lv_aload_n hx hb dR_parents_107 rfl (lv_at hl 1 rfl) ?_
                  refine lv_iload_n hx hb dR_parents_108 rfl (lv_at hl 3 rfl) ?_
                  refine lv_iload_n hx hb dR_parents_109 rfl (lv_at hl 2 rfl) ?_
                  obtain ⟨r110, e110, hv⟩ := bsome hv
                  refine qVi (rest := []) ⟨hx, hb, hml, hown, hts⟩ (kR_isOlder l D Y h n hn r41 a2 a1 r110 e110) (cwV 2 hts (gV uw237 uw238 uw239 uw213 ucR_isOlder) rfl rfl rfl hvR_isOlder ⟨Nat.le_of_ble_eq_true rfl, Nat.le_of_ble_eq_true rfl⟩) hK hP (va_recv hK hP (ci := 3) (q0 := 0) rfl rfl) rfl hl.1 rfl (Nat.le_of_ble_eq_true rfl) dR_parents_110 ⟨Nat.le_of_ble_eq_true rfl, Nat.le_of_ble_eq_true rfl⟩ ?_
                  by_cases c113 : r110 = 0
                  · rw [if_pos c113] at hv
                    refine lv_if_eq (tgt := 125) hx hb dR_parents_113 (by decide) (fun _ => ?_) (fun z => absurd c113 z)
                    refine lv_iconst (v := 0) hx hb dR_parents_125 (by decide) ?_
                    cases hv
                    exact zMb_ret (u := r41) hx hb hr hlocks hK hP hD hS (Or.inl rfl) dR_parents_126
                  · rw [if_neg c113] at hv
                    refine lv_if_eq (tgt := 125) hx hb dR_parents_113 (by decide) (fun z => absurd z c113) (fun _ => ?_)
                    refine lv_aload_n hx hb dR_parents_116 rfl (lv_at hl 1 rfl) ?_
                    refine lv_iload_n hx hb dR_parents_117 rfl (lv_at hl 4 rfl) ?_
                    refine lv_iload_n hx hb dR_parents_118 rfl (lv_at hl 2 rfl) ?_
                    obtain ⟨r119, e119, hv⟩ := bsome hv
                    refine qVi (rest := []) ⟨hx, hb, hml, hown, hts⟩ (kR_isOlder l D Y h n hn r41 a3 a1 r119 e119) (cwV 2 hts (gV uw237 uw238 uw239 uw213 ucR_isOlder) rfl rfl rfl hvR_isOlder ⟨Nat.le_of_ble_eq_true rfl, Nat.le_of_ble_eq_true rfl⟩) hK hP (va_recv hK hP (ci := 3) (q0 := 0) rfl rfl) rfl hl.1 rfl (Nat.le_of_ble_eq_true rfl) dR_parents_119 ⟨Nat.le_of_ble_eq_true rfl, Nat.le_of_ble_eq_true rfl⟩ ?_
                    by_cases c122 : r119 = 0
                    · rw [if_pos c122] at hv
                      refine lv_if_ne (tgt := 127) hx hb dR_parents_122 (by decide) (fun z => absurd c122 z) (fun _ => ?_)
                      refine lv_iconst (v := 0) hx hb dR_parents_125 (by decide) ?_
                      cases hv
                      exact zMb_ret (u := r41) hx hb hr hlocks hK hP hD hS (Or.inl rfl) dR_parents_126
                    · rw [if_neg c122] at hv
                      refine lv_if_ne (tgt := 127) hx hb dR_parents_122 (by decide) (fun _ => ?_) (fun z => absurd z c122)
                      refine lv_aload_n hx hb dR_parents_127 rfl (lv_at hl 1 rfl) ?_
                      refine va_get (D := D) (ci := 3) (v := .ref (h 1)) (C := RR) (T := TR) (N := 13) hx hb hts hinR hown hK hP 0 rfl rfl 1 (by decide) (hts _ uw217) (fun _ h9 => h9) rfl dR_parents_128 ?_
                      refine lv_iload_n hx hb dR_parents_131 rfl (lv_at hl 2 rfl) ?_
                      refine lv_iload_n hx hb dR_parents_132 rfl (lv_at hl 3 rfl) ?_
                      refine va_iast hx hb hK hP hD hS 1 0 rfl rfl (is_in hn c10) dR_parents_133 (fun H locs hP hD hS => ?_)
                      have hP : va_P D vwCl (wR Y h n (r_rmo r41 (upd (g_rmo r41) (a1 : Int32).toNatClampNeg a2))) H := hP
                      have hD : va_D A (wR Y h n (r_rmo r41 (upd (g_rmo r41) (a1 : Int32).toNatClampNeg a2))) := hD
                      refine lv_aload_n hx hb dR_parents_134 rfl (lv_at hl 1 rfl) ?_
                      refine va_get (D := D) (ci := 3) (v := .ref (h 2)) (C := RR) (T := TR) (N := 13) hx hb hts hinR hown hK hP 0 rfl rfl 2 (by decide) (hts _ uw218) (fun _ h9 => h9) rfl dR_parents_135 ?_
                      refine lv_iload_n hx hb dR_parents_138 rfl (lv_at hl 2 rfl) ?_
                      refine lv_iload_n hx hb dR_parents_139 rfl (lv_at hl 4 rfl) ?_
                      refine va_iast hx hb hK hP hD hS 2 0 rfl rfl (is_in hn c10) dR_parents_140 (fun H locs hP hD hS => ?_)
                      have hP : va_P D vwCl (wR Y h n (r_rfa (r_rmo r41 (upd (g_rmo r41) (a1 : Int32).toNatClampNeg a2)) (upd (g_rfa (r_rmo r41 (upd (g_rmo r41) (a1 : Int32).toNatClampNeg a2))) (a1 : Int32).toNatClampNeg a3))) H := hP
                      have hD : va_D A (wR Y h n (r_rfa (r_rmo r41 (upd (g_rmo r41) (a1 : Int32).toNatClampNeg a2)) (upd (g_rfa (r_rmo r41 (upd (g_rmo r41) (a1 : Int32).toNatClampNeg a2))) (a1 : Int32).toNatClampNeg a3))) := hD
                      refine lv_iconst (v := 1) hx hb dR_parents_141 (by decide) ?_
                      cases hv
                      exact zMb_ret (u := (r_rfa (r_rmo r41 (upd (g_rmo r41) (a1 : Int32).toNatClampNeg a2)) (upd (g_rfa (r_rmo r41 (upd (g_rmo r41) (a1 : Int32).toNatClampNeg a2))) (a1 : Int32).toNatClampNeg a3))) hx hb hr hlocks hK hP hD hS (Or.inr rfl) dR_parents_142
          · rw [if_neg c35] at hv
            refine lv_if_lt (tgt := 40) hx hb dR_parents_35 (by decide) (fun z => absurd z c35) (fun _ => ?_)
            refine lv_iconst (v := 0) hx hb dR_parents_38 (by decide) ?_
            cases hv
            exact zMb_ret (u := (r_rrg S (0))) hx hb hr hlocks hK hP hD hS (Or.inl rfl) dR_parents_39
        · rw [if_neg c31] at hv
          refine lv_icmp_ne (tgt := 40) hx hb dR_parents_31 (by decide) (fun _ => ?_) (fun z => absurd z c31)
          refine lv_aload_n hx hb dR_parents_40 rfl (lv_at hl 0 rfl) ?_
          obtain ⟨r41, e41, hv⟩ := bsome hv
          refine qNVv (w := wR Y h n) (rest := []) ⟨hx, hb, hml, hown, hts⟩ (kR_find l D Y h n hn (r_rrg S (0)) r41 e41 _) (cwV 0 hts (gV uw220 uw221 uw222 uw213 ucR_find) rfl rfl rfl hvR_find ⟨Nat.le_of_ble_eq_true rfl, Nat.le_of_ble_eq_true rfl⟩) hK hP hD hS hA (va_recv hK hP (ci := 3) (q0 := 0) rfl rfl) rfl hl.1 rfl (Nat.le_of_ble_eq_true rfl) dR_parents_41 ⟨Nat.le_of_ble_eq_true rfl, Nat.le_of_ble_eq_true rfl⟩ (fun H locs hP hD hS => ?_)
          refine lv_aload_n hx hb dR_parents_44 rfl (lv_at hl 0 rfl) ?_
          refine lv_iload_n hx hb dR_parents_45 rfl (lv_at hl 1 rfl) ?_
          refine lv_iload_n hx hb dR_parents_46 rfl (lv_at hl 2 rfl) ?_
          obtain ⟨r47, e47, hv⟩ := bsome hv
          refine qVi (rest := []) ⟨hx, hb, hml, hown, hts⟩ (kR_leads l D Y h n hn r41 a1 a2 r47 e47) (cwV 2 hts (gV uw230 uw231 uw232 uw213 ucR_leads) rfl rfl rfl hvR_leads ⟨Nat.le_of_ble_eq_true rfl, Nat.le_of_ble_eq_true rfl⟩) hK hP (va_recv hK hP (ci := 3) (q0 := 0) rfl rfl) rfl hl.1 rfl (Nat.le_of_ble_eq_true rfl) dR_parents_47 ⟨Nat.le_of_ble_eq_true rfl, Nat.le_of_ble_eq_true rfl⟩ ?_
          by_cases c50 : r47 < 0
          · rw [if_pos c50] at hv
            refine lv_if_lt (tgt := 57) hx hb dR_parents_50 (by decide) (fun _ => ?_) (fun z => absurd c50 z)
            refine lv_aload_n hx hb dR_parents_57 rfl (lv_at hl 0 rfl) ?_
            refine lv_iload_n hx hb dR_parents_58 rfl (lv_at hl 1 rfl) ?_
            refine lv_iload_n hx hb dR_parents_59 rfl (lv_at hl 3 rfl) ?_
            obtain ⟨r60, e60, hv⟩ := bsome hv
            refine qVi (rest := []) ⟨hx, hb, hml, hown, hts⟩ (kR_leads l D Y h n hn r41 a1 a3 r60 e60) (cwV 2 hts (gV uw230 uw231 uw232 uw213 ucR_leads) rfl rfl rfl hvR_leads ⟨Nat.le_of_ble_eq_true rfl, Nat.le_of_ble_eq_true rfl⟩) hK hP (va_recv hK hP (ci := 3) (q0 := 0) rfl rfl) rfl hl.1 rfl (Nat.le_of_ble_eq_true rfl) dR_parents_60 ⟨Nat.le_of_ble_eq_true rfl, Nat.le_of_ble_eq_true rfl⟩ ?_
            refine lv_istore (lv' := [(4, .int r60), (0, .ref (h 0)), (1, .int a1), (2, .int a2), (3, .int a3)]) hx hb dR_parents_63 hl (by decide) rfl (fun ls hl => ?_)
            refine lv_iload hx hb dR_parents_65 (lv_at hl 0 rfl) ?_
            by_cases c67 : r60 < 0
            · rw [if_pos c67] at hv
              refine lv_if_lt (tgt := 79) hx hb dR_parents_67 (by decide) (fun _ => ?_) (fun z => absurd c67 z)
              refine lv_iload_n hx hb dR_parents_79 rfl (lv_at hl 3 rfl) ?_
              by_cases c80 : a2 < 0
              · rw [if_pos c80] at hv
                refine lv_if_lt (tgt := 93) hx hb dR_parents_80 (by decide) (fun _ => ?_) (fun z => absurd c80 z)
                refine lv_iload_n hx hb dR_parents_93 rfl (lv_at hl 4 rfl) ?_
                by_cases c94 : a3 < 0
                · rw [if_pos c94] at hv
                  refine lv_if_lt (tgt := 107) hx hb dR_parents_94 (by decide) (fun _ => ?_) (fun z => absurd c94 z)
                  refine lv_aload_n hx hb dR_parents_107 rfl (lv_at hl 1 rfl) ?_
                  refine lv_iload_n hx hb dR_parents_108 rfl (lv_at hl 3 rfl) ?_
                  refine lv_iload_n hx hb dR_parents_109 rfl (lv_at hl 2 rfl) ?_
                  obtain ⟨r110, e110, hv⟩ := bsome hv
                  refine qVi (rest := []) ⟨hx, hb, hml, hown, hts⟩ (kR_isOlder l D Y h n hn r41 a2 a1 r110 e110) (cwV 2 hts (gV uw237 uw238 uw239 uw213 ucR_isOlder) rfl rfl rfl hvR_isOlder ⟨Nat.le_of_ble_eq_true rfl, Nat.le_of_ble_eq_true rfl⟩) hK hP (va_recv hK hP (ci := 3) (q0 := 0) rfl rfl) rfl hl.1 rfl (Nat.le_of_ble_eq_true rfl) dR_parents_110 ⟨Nat.le_of_ble_eq_true rfl, Nat.le_of_ble_eq_true rfl⟩ ?_
                  by_cases c113 : r110 = 0
                  · rw [if_pos c113] at hv
                    refine lv_if_eq (tgt := 125) hx hb dR_parents_113 (by decide) (fun _ => ?_) (fun z => absurd c113 z)
                    refine lv_iconst (v := 0) hx hb dR_parents_125 (by decide) ?_
                    cases hv
                    exact zMb_ret (u := r41) hx hb hr hlocks hK hP hD hS (Or.inl rfl) dR_parents_126
                  · rw [if_neg c113] at hv
                    refine lv_if_eq (tgt := 125) hx hb dR_parents_113 (by decide) (fun z => absurd z c113) (fun _ => ?_)
                    refine lv_aload_n hx hb dR_parents_116 rfl (lv_at hl 1 rfl) ?_
                    refine lv_iload_n hx hb dR_parents_117 rfl (lv_at hl 4 rfl) ?_
                    refine lv_iload_n hx hb dR_parents_118 rfl (lv_at hl 2 rfl) ?_
                    obtain ⟨r119, e119, hv⟩ := bsome hv
                    refine qVi (rest := []) ⟨hx, hb, hml, hown, hts⟩ (kR_isOlder l D Y h n hn r41 a3 a1 r119 e119) (cwV 2 hts (gV uw237 uw238 uw239 uw213 ucR_isOlder) rfl rfl rfl hvR_isOlder ⟨Nat.le_of_ble_eq_true rfl, Nat.le_of_ble_eq_true rfl⟩) hK hP (va_recv hK hP (ci := 3) (q0 := 0) rfl rfl) rfl hl.1 rfl (Nat.le_of_ble_eq_true rfl) dR_parents_119 ⟨Nat.le_of_ble_eq_true rfl, Nat.le_of_ble_eq_true rfl⟩ ?_
                    by_cases c122 : r119 = 0
                    · rw [if_pos c122] at hv
                      refine lv_if_ne (tgt := 127) hx hb dR_parents_122 (by decide) (fun z => absurd c122 z) (fun _ => ?_)
                      refine lv_iconst (v := 0) hx hb dR_parents_125 (by decide) ?_
                      cases hv
                      exact zMb_ret (u := r41) hx hb hr hlocks hK hP hD hS (Or.inl rfl) dR_parents_126
                    · rw [if_neg c122] at hv
                      refine lv_if_ne (tgt := 127) hx hb dR_parents_122 (by decide) (fun _ => ?_) (fun z => absurd z c122)
                      refine lv_aload_n hx hb dR_parents_127 rfl (lv_at hl 1 rfl) ?_
                      refine va_get (D := D) (ci := 3) (v := .ref (h 1)) (C := RR) (T := TR) (N := 13) hx hb hts hinR hown hK hP 0 rfl rfl 1 (by decide) (hts _ uw217) (fun _ h9 => h9) rfl dR_parents_128 ?_
                      refine lv_iload_n hx hb dR_parents_131 rfl (lv_at hl 2 rfl) ?_
                      refine lv_iload_n hx hb dR_parents_132 rfl (lv_at hl 3 rfl) ?_
                      refine va_iast hx hb hK hP hD hS 1 0 rfl rfl (is_in hn c10) dR_parents_133 (fun H locs hP hD hS => ?_)
                      have hP : va_P D vwCl (wR Y h n (r_rmo r41 (upd (g_rmo r41) (a1 : Int32).toNatClampNeg a2))) H := hP
                      have hD : va_D A (wR Y h n (r_rmo r41 (upd (g_rmo r41) (a1 : Int32).toNatClampNeg a2))) := hD
                      refine lv_aload_n hx hb dR_parents_134 rfl (lv_at hl 1 rfl) ?_
                      refine va_get (D := D) (ci := 3) (v := .ref (h 2)) (C := RR) (T := TR) (N := 13) hx hb hts hinR hown hK hP 0 rfl rfl 2 (by decide) (hts _ uw218) (fun _ h9 => h9) rfl dR_parents_135 ?_
                      refine lv_iload_n hx hb dR_parents_138 rfl (lv_at hl 2 rfl) ?_
                      refine lv_iload_n hx hb dR_parents_139 rfl (lv_at hl 4 rfl) ?_
                      refine va_iast hx hb hK hP hD hS 2 0 rfl rfl (is_in hn c10) dR_parents_140 (fun H locs hP hD hS => ?_)
                      have hP : va_P D vwCl (wR Y h n (r_rfa (r_rmo r41 (upd (g_rmo r41) (a1 : Int32).toNatClampNeg a2)) (upd (g_rfa (r_rmo r41 (upd (g_rmo r41) (a1 : Int32).toNatClampNeg a2))) (a1 : Int32).toNatClampNeg a3))) H := hP
                      have hD : va_D A (wR Y h n (r_rfa (r_rmo r41 (upd (g_rmo r41) (a1 : Int32).toNatClampNeg a2)) (upd (g_rfa (r_rmo r41 (upd (g_rmo r41) (a1 : Int32).toNatClampNeg a2))) (a1 : Int32).toNatClampNeg a3))) := hD
                      refine lv_iconst (v := 1) hx hb dR_parents_141 (by decide) ?_
                      cases hv
                      exact zMb_ret (u := (r_rfa (r_rmo r41 (upd (g_rmo r41) (a1 : Int32).toNatClampNeg a2)) (upd (g_rfa (r_rmo r41 (upd (g_rmo r41) (a1 : Int32).toNatClampNeg a2))) (a1 : Int32).toNatClampNeg a3))) hx hb hr hlocks hK hP hD hS (Or.inr rfl) dR_parents_142
                · rw [if_neg c94] at hv
                  refine lv_if_lt (tgt := 107) hx hb dR_parents_94 (by decide) (fun z => absurd z c94) (fun _ => ?_)
                  refine lv_aload_n hx hb dR_parents_97 rfl (lv_at hl 1 rfl) ?_
                  refine va_get (D := D) (ci := 3) (v := .ref (h 3)) (C := RR) (T := TR) (N := 13) hx hb hts hinR hown hK hP 0 rfl rfl 3 (by decide) (hts _ uw240) (fun _ h9 => h9) rfl dR_parents_98 ?_
                  refine lv_iload_n hx hb dR_parents_101 rfl (lv_at hl 4 rfl) ?_
                  have k102xx : ¬ (ob (a3 : Int32) 24) := fun z => by rw [if_pos z] at hv; cases hv
                  rw [if_neg k102xx] at hv
                  refine va_iald hx hb hK hP 3 0 rfl rfl (k102xx) dR_parents_102 ?_
                  refine lv_iconst (v := 1) hx hb dR_parents_103 (by decide) ?_
                  by_cases c104 : ((g_rsx r41) (a3 : Int32).toNatClampNeg) = 1
                  · rw [if_pos c104] at hv
                    refine lv_icmp_eq (tgt := 125) hx hb dR_parents_104 (by decide) (fun _ => ?_) (fun z => absurd c104 z)
                    refine lv_iconst (v := 0) hx hb dR_parents_125 (by decide) ?_
                    cases hv
                    exact zMb_ret (u := r41) hx hb hr hlocks hK hP hD hS (Or.inl rfl) dR_parents_126
                  · rw [if_neg c104] at hv
                    refine lv_icmp_eq (tgt := 125) hx hb dR_parents_104 (by decide) (fun z => absurd z c104) (fun _ => ?_)
                    refine lv_aload_n hx hb dR_parents_107 rfl (lv_at hl 1 rfl) ?_
                    refine lv_iload_n hx hb dR_parents_108 rfl (lv_at hl 3 rfl) ?_
                    refine lv_iload_n hx hb dR_parents_109 rfl (lv_at hl 2 rfl) ?_
                    obtain ⟨r110, e110, hv⟩ := bsome hv
                    refine qVi (rest := []) ⟨hx, hb, hml, hown, hts⟩ (kR_isOlder l D Y h n hn r41 a2 a1 r110 e110) (cwV 2 hts (gV uw237 uw238 uw239 uw213 ucR_isOlder) rfl rfl rfl hvR_isOlder ⟨Nat.le_of_ble_eq_true rfl, Nat.le_of_ble_eq_true rfl⟩) hK hP (va_recv hK hP (ci := 3) (q0 := 0) rfl rfl) rfl hl.1 rfl (Nat.le_of_ble_eq_true rfl) dR_parents_110 ⟨Nat.le_of_ble_eq_true rfl, Nat.le_of_ble_eq_true rfl⟩ ?_
                    by_cases c113 : r110 = 0
                    · rw [if_pos c113] at hv
                      refine lv_if_eq (tgt := 125) hx hb dR_parents_113 (by decide) (fun _ => ?_) (fun z => absurd c113 z)
                      refine lv_iconst (v := 0) hx hb dR_parents_125 (by decide) ?_
                      cases hv
                      exact zMb_ret (u := r41) hx hb hr hlocks hK hP hD hS (Or.inl rfl) dR_parents_126
                    · rw [if_neg c113] at hv
                      refine lv_if_eq (tgt := 125) hx hb dR_parents_113 (by decide) (fun z => absurd z c113) (fun _ => ?_)
                      refine lv_aload_n hx hb dR_parents_116 rfl (lv_at hl 1 rfl) ?_
                      refine lv_iload_n hx hb dR_parents_117 rfl (lv_at hl 4 rfl) ?_
                      refine lv_iload_n hx hb dR_parents_118 rfl (lv_at hl 2 rfl) ?_
                      obtain ⟨r119, e119, hv⟩ := bsome hv
                      refine qVi (rest := []) ⟨hx, hb, hml, hown, hts⟩ (kR_isOlder l D Y h n hn r41 a3 a1 r119 e119) (cwV 2 hts (gV uw237 uw238 uw239 uw213 ucR_isOlder) rfl rfl rfl hvR_isOlder ⟨Nat.le_of_ble_eq_true rfl, Nat.le_of_ble_eq_true rfl⟩) hK hP (va_recv hK hP (ci := 3) (q0 := 0) rfl rfl) rfl hl.1 rfl (Nat.le_of_ble_eq_true rfl) dR_parents_119 ⟨Nat.le_of_ble_eq_true rfl, Nat.le_of_ble_eq_true rfl⟩ ?_
                      by_cases c122 : r119 = 0
                      · rw [if_pos c122] at hv
                        refine lv_if_ne (tgt := 127) hx hb dR_parents_122 (by decide) (fun z => absurd c122 z) (fun _ => ?_)
                        refine lv_iconst (v := 0) hx hb dR_parents_125 (by decide) ?_
                        cases hv
                        exact zMb_ret (u := r41) hx hb hr hlocks hK hP hD hS (Or.inl rfl) dR_parents_126
                      · rw [if_neg c122] at hv
                        refine lv_if_ne (tgt := 127) hx hb dR_parents_122 (by decide) (fun _ => ?_) (fun z => absurd z c122)
                        refine lv_aload_n hx hb dR_parents_127 rfl (lv_at hl 1 rfl) ?_
                        refine va_get (D := D) (ci := 3) (v := .ref (h 1)) (C := RR) (T := TR) (N := 13) hx hb hts hinR hown hK hP 0 rfl rfl 1 (by decide) (hts _ uw217) (fun _ h9 => h9) rfl dR_parents_128 ?_
                        refine lv_iload_n hx hb dR_parents_131 rfl (lv_at hl 2 rfl) ?_
                        refine lv_iload_n hx hb dR_parents_132 rfl (lv_at hl 3 rfl) ?_
                        refine va_iast hx hb hK hP hD hS 1 0 rfl rfl (is_in hn c10) dR_parents_133 (fun H locs hP hD hS => ?_)
                        have hP : va_P D vwCl (wR Y h n (r_rmo r41 (upd (g_rmo r41) (a1 : Int32).toNatClampNeg a2))) H := hP
                        have hD : va_D A (wR Y h n (r_rmo r41 (upd (g_rmo r41) (a1 : Int32).toNatClampNeg a2))) := hD
                        refine lv_aload_n hx hb dR_parents_134 rfl (lv_at hl 1 rfl) ?_
                        refine va_get (D := D) (ci := 3) (v := .ref (h 2)) (C := RR) (T := TR) (N := 13) hx hb hts hinR hown hK hP 0 rfl rfl 2 (by decide) (hts _ uw218) (fun _ h9 => h9) rfl dR_parents_135 ?_
                        refine lv_iload_n hx hb dR_parents_138 rfl (lv_at hl 2 rfl) ?_
                        refine lv_iload_n hx hb dR_parents_139 rfl (lv_at hl 4 rfl) ?_
                        refine va_iast hx hb hK hP hD hS 2 0 rfl rfl (is_in hn c10) dR_parents_140 (fun H locs hP hD hS => ?_)
                        have hP : va_P D vwCl (wR Y h n (r_rfa (r_rmo r41 (upd (g_rmo r41) (a1 : Int32).toNatClampNeg a2)) (upd (g_rfa (r_rmo r41 (upd (g_rmo r41) (a1 : Int32).toNatClampNeg a2))) (a1 : Int32).toNatClampNeg a3))) H := hP
                        have hD : va_D A (wR Y h n (r_rfa (r_rmo r41 (upd (g_rmo r41) (a1 : Int32).toNatClampNeg a2)) (upd (g_rfa (r_rmo r41 (upd (g_rmo r41) (a1 : Int32).toNatClampNeg a2))) (a1 : Int32).toNatClampNeg a3))) := hD
                        refine lv_iconst (v := 1) hx hb dR_parents_141 (by decide) ?_
                        cases hv
                        exact zMb_ret (u := (r_rfa (r_rmo r41 (upd (g_rmo r41) (a1 : Int32).toNatClampNeg a2)) (upd (g_rfa (r_rmo r41 (upd (g_rmo r41) (a1 : Int32).toNatClampNeg a2))) (a1 : Int32).toNatClampNeg a3))) hx hb hr hlocks hK hP hD hS (Or.inr rfl) dR_parents_142
              · rw [if_neg c80] at hv
                refine lv_if_lt (tgt := 93) hx hb dR_parents_80 (by decide) (fun z => absurd z c80) (fun _ => ?_)
                refine lv_aload_n hx hb dR_parents_83 rfl (lv_at hl 1 rfl) ?_
                refine va_get (D := D) (ci := 3) (v := .ref (h 3)) (C := RR) (T := TR) (N := 13) hx hb hts hinR hown hK hP 0 rfl rfl 3 (by decide) (hts _ uw240) (fun _ h9 => h9) rfl dR_parents_84 ?_
                refine lv_iload_n hx hb dR_parents_87 rfl (lv_at hl 3 rfl) ?_
                have k88 : ¬ (ob (a2 : Int32) 24) := fun z => by rw [if_pos z] at hv; cases hv
                rw [if_neg k88] at hv
                refine va_iald hx hb hK hP 3 0 rfl rfl (k88) dR_parents_88 ?_
                refine lv_iconst (v := 2) hx hb dR_parents_89 (by decide) ?_
                by_cases c90 : ((g_rsx r41) (a2 : Int32).toNatClampNeg) = 2
                · rw [if_pos c90] at hv
                  refine lv_icmp_eq (tgt := 125) hx hb dR_parents_90 (by decide) (fun _ => ?_) (fun z => absurd c90 z)
                  refine lv_iconst (v := 0) hx hb dR_parents_125 (by decide) ?_
                  cases hv
                  exact zMb_ret (u := r41) hx hb hr hlocks hK hP hD hS (Or.inl rfl) dR_parents_126
                · rw [if_neg c90] at hv
                  refine lv_icmp_eq (tgt := 125) hx hb dR_parents_90 (by decide) (fun z => absurd z c90) (fun _ => ?_)
                  refine lv_iload_n hx hb dR_parents_93 rfl (lv_at hl 4 rfl) ?_
                  by_cases c94 : a3 < 0
                  · rw [if_pos c94] at hv
                    refine lv_if_lt (tgt := 107) hx hb dR_parents_94 (by decide) (fun _ => ?_) (fun z => absurd c94 z)
                    refine lv_aload_n hx hb dR_parents_107 rfl (lv_at hl 1 rfl) ?_
                    refine lv_iload_n hx hb dR_parents_108 rfl (lv_at hl 3 rfl) ?_
                    refine lv_iload_n hx hb dR_parents_109 rfl (lv_at hl 2 rfl) ?_
                    obtain ⟨r110, e110, hv⟩ := bsome hv
                    refine qVi (rest := []) ⟨hx, hb, hml, hown, hts⟩ (kR_isOlder l D Y h n hn r41 a2 a1 r110 e110) (cwV 2 hts (gV uw237 uw238 uw239 uw213 ucR_isOlder) rfl rfl rfl hvR_isOlder ⟨Nat.le_of_ble_eq_true rfl, Nat.le_of_ble_eq_true rfl⟩) hK hP (va_recv hK hP (ci := 3) (q0 := 0) rfl rfl) rfl hl.1 rfl (Nat.le_of_ble_eq_true rfl) dR_parents_110 ⟨Nat.le_of_ble_eq_true rfl, Nat.le_of_ble_eq_true rfl⟩ ?_
                    by_cases c113 : r110 = 0
                    · rw [if_pos c113] at hv
                      refine lv_if_eq (tgt := 125) hx hb dR_parents_113 (by decide) (fun _ => ?_) (fun z => absurd c113 z)
                      refine lv_iconst (v := 0) hx hb dR_parents_125 (by decide) ?_
                      cases hv
                      exact zMb_ret (u := r41) hx hb hr hlocks hK hP hD hS (Or.inl rfl) dR_parents_126
                    · rw [if_neg c113] at hv
                      refine lv_if_eq (tgt := 125) hx hb dR_parents_113 (by decide) (fun z => absurd z c113) (fun _ => ?_)
                      refine lv_aload_n hx hb dR_parents_116 rfl (lv_at hl 1 rfl) ?_
                      refine lv_iload_n hx hb dR_parents_117 rfl (lv_at hl 4 rfl) ?_
                      refine lv_iload_n hx hb dR_parents_118 rfl (lv_at hl 2 rfl) ?_
                      obtain ⟨r119, e119, hv⟩ := bsome hv
                      refine qVi (rest := []) ⟨hx, hb, hml, hown, hts⟩ (kR_isOlder l D Y h n hn r41 a3 a1 r119 e119) (cwV 2 hts (gV uw237 uw238 uw239 uw213 ucR_isOlder) rfl rfl rfl hvR_isOlder ⟨Nat.le_of_ble_eq_true rfl, Nat.le_of_ble_eq_true rfl⟩) hK hP (va_recv hK hP (ci := 3) (q0 := 0) rfl rfl) rfl hl.1 rfl (Nat.le_of_ble_eq_true rfl) dR_parents_119 ⟨Nat.le_of_ble_eq_true rfl, Nat.le_of_ble_eq_true rfl⟩ ?_
                      by_cases c122 : r119 = 0
                      · rw [if_pos c122] at hv
                        refine lv_if_ne (tgt := 127) hx hb dR_parents_122 (by decide) (fun z => absurd c122 z) (fun _ => ?_)
                        refine lv_iconst (v := 0) hx hb dR_parents_125 (by decide) ?_
                        cases hv
                        exact zMb_ret (u := r41) hx hb hr hlocks hK hP hD hS (Or.inl rfl) dR_parents_126
                      · rw [if_neg c122] at hv
                        refine lv_if_ne (tgt := 127) hx hb dR_parents_122 (by decide) (fun _ => ?_) (fun z => absurd z c122)
                        refine lv_aload_n hx hb dR_parents_127 rfl (lv_at hl 1 rfl) ?_
                        refine va_get (D := D) (ci := 3) (v := .ref (h 1)) (C := RR) (T := TR) (N := 13) hx hb hts hinR hown hK hP 0 rfl rfl 1 (by decide) (hts _ uw217) (fun _ h9 => h9) rfl dR_parents_128 ?_
                        refine lv_iload_n hx hb dR_parents_131 rfl (lv_at hl 2 rfl) ?_
                        refine lv_iload_n hx hb dR_parents_132 rfl (lv_at hl 3 rfl) ?_
                        refine va_iast hx hb hK hP hD hS 1 0 rfl rfl (is_in hn c10) dR_parents_133 (fun H locs hP hD hS => ?_)
                        have hP : va_P D vwCl (wR Y h n (r_rmo r41 (upd (g_rmo r41) (a1 : Int32).toNatClampNeg a2))) H := hP
                        have hD : va_D A (wR Y h n (r_rmo r41 (upd (g_rmo r41) (a1 : Int32).toNatClampNeg a2))) := hD
                        refine lv_aload_n hx hb dR_parents_134 rfl (lv_at hl 1 rfl) ?_
                        refine va_get (D := D) (ci := 3) (v := .ref (h 2)) (C := RR) (T := TR) (N := 13) hx hb hts hinR hown hK hP 0 rfl rfl 2 (by decide) (hts _ uw218) (fun _ h9 => h9) rfl dR_parents_135 ?_
                        refine lv_iload_n hx hb dR_parents_138 rfl (lv_at hl 2 rfl) ?_
                        refine lv_iload_n hx hb dR_parents_139 rfl (lv_at hl 4 rfl) ?_
                        refine va_iast hx hb hK hP hD hS 2 0 rfl rfl (is_in hn c10) dR_parents_140 (fun H locs hP hD hS => ?_)
                        have hP : va_P D vwCl (wR Y h n (r_rfa (r_rmo r41 (upd (g_rmo r41) (a1 : Int32).toNatClampNeg a2)) (upd (g_rfa (r_rmo r41 (upd (g_rmo r41) (a1 : Int32).toNatClampNeg a2))) (a1 : Int32).toNatClampNeg a3))) H := hP
                        have hD : va_D A (wR Y h n (r_rfa (r_rmo r41 (upd (g_rmo r41) (a1 : Int32).toNatClampNeg a2)) (upd (g_rfa (r_rmo r41 (upd (g_rmo r41) (a1 : Int32).toNatClampNeg a2))) (a1 : Int32).toNatClampNeg a3))) := hD
                        refine lv_iconst (v := 1) hx hb dR_parents_141 (by decide) ?_
                        cases hv
                        exact zMb_ret (u := (r_rfa (r_rmo r41 (upd (g_rmo r41) (a1 : Int32).toNatClampNeg a2)) (upd (g_rfa (r_rmo r41 (upd (g_rmo r41) (a1 : Int32).toNatClampNeg a2))) (a1 : Int32).toNatClampNeg a3))) hx hb hr hlocks hK hP hD hS (Or.inr rfl) dR_parents_142
                  · rw [if_neg c94] at hv
                    refine lv_if_lt (tgt := 107) hx hb dR_parents_94 (by decide) (fun z => absurd z c94) (fun _ => ?_)
                    refine lv_aload_n hx hb dR_parents_97 rfl (lv_at hl 1 rfl) ?_
                    refine va_get (D := D) (ci := 3) (v := .ref (h 3)) (C := RR) (T := TR) (N := 13) hx hb hts hinR hown hK hP 0 rfl rfl 3 (by decide) (hts _ uw240) (fun _ h9 => h9) rfl dR_parents_98 ?_
                    refine lv_iload_n hx hb dR_parents_101 rfl (lv_at hl 4 rfl) ?_
                    have k102xxx : ¬ (ob (a3 : Int32) 24) := fun z => by rw [if_pos z] at hv; cases hv
                    rw [if_neg k102xxx] at hv
                    refine va_iald hx hb hK hP 3 0 rfl rfl (k102xxx) dR_parents_102 ?_
                    refine lv_iconst (v := 1) hx hb dR_parents_103 (by decide) ?_
                    by_cases c104 : ((g_rsx r41) (a3 : Int32).toNatClampNeg) = 1
                    · rw [if_pos c104] at hv
                      refine lv_icmp_eq (tgt := 125) hx hb dR_parents_104 (by decide) (fun _ => ?_) (fun z => absurd c104 z)
                      refine lv_iconst (v := 0) hx hb dR_parents_125 (by decide) ?_
                      cases hv
                      exact zMb_ret (u := r41) hx hb hr hlocks hK hP hD hS (Or.inl rfl) dR_parents_126
                    · rw [if_neg c104] at hv
                      refine lv_icmp_eq (tgt := 125) hx hb dR_parents_104 (by decide) (fun z => absurd z c104) (fun _ => ?_)
                      refine lv_aload_n hx hb dR_parents_107 rfl (lv_at hl 1 rfl) ?_
                      refine lv_iload_n hx hb dR_parents_108 rfl (lv_at hl 3 rfl) ?_
                      refine lv_iload_n hx hb dR_parents_109 rfl (lv_at hl 2 rfl) ?_
                      obtain ⟨r110, e110, hv⟩ := bsome hv
                      refine qVi (rest := []) ⟨hx, hb, hml, hown, hts⟩ (kR_isOlder l D Y h n hn r41 a2 a1 r110 e110) (cwV 2 hts (gV uw237 uw238 uw239 uw213 ucR_isOlder) rfl rfl rfl hvR_isOlder ⟨Nat.le_of_ble_eq_true rfl, Nat.le_of_ble_eq_true rfl⟩) hK hP (va_recv hK hP (ci := 3) (q0 := 0) rfl rfl) rfl hl.1 rfl (Nat.le_of_ble_eq_true rfl) dR_parents_110 ⟨Nat.le_of_ble_eq_true rfl, Nat.le_of_ble_eq_true rfl⟩ ?_
                      by_cases c113 : r110 = 0
                      · rw [if_pos c113] at hv
                        refine lv_if_eq (tgt := 125) hx hb dR_parents_113 (by decide) (fun _ => ?_) (fun z => absurd c113 z)
                        refine lv_iconst (v := 0) hx hb dR_parents_125 (by decide) ?_
                        cases hv
                        exact zMb_ret (u := r41) hx hb hr hlocks hK hP hD hS (Or.inl rfl) dR_parents_126
                      · rw [if_neg c113] at hv
                        refine lv_if_eq (tgt := 125) hx hb dR_parents_113 (by decide) (fun z => absurd z c113) (fun _ => ?_)
                        refine lv_aload_n hx hb dR_parents_116 rfl (lv_at hl 1 rfl) ?_
                        refine lv_iload_n hx hb dR_parents_117 rfl (lv_at hl 4 rfl) ?_
                        refine lv_iload_n hx hb dR_parents_118 rfl (lv_at hl 2 rfl) ?_
                        obtain ⟨r119, e119, hv⟩ := bsome hv
                        refine qVi (rest := []) ⟨hx, hb, hml, hown, hts⟩ (kR_isOlder l D Y h n hn r41 a3 a1 r119 e119) (cwV 2 hts (gV uw237 uw238 uw239 uw213 ucR_isOlder) rfl rfl rfl hvR_isOlder ⟨Nat.le_of_ble_eq_true rfl, Nat.le_of_ble_eq_true rfl⟩) hK hP (va_recv hK hP (ci := 3) (q0 := 0) rfl rfl) rfl hl.1 rfl (Nat.le_of_ble_eq_true rfl) dR_parents_119 ⟨Nat.le_of_ble_eq_true rfl, Nat.le_of_ble_eq_true rfl⟩ ?_
                        by_cases c122 : r119 = 0
                        · rw [if_pos c122] at hv
                          refine lv_if_ne (tgt := 127) hx hb dR_parents_122 (by decide) (fun z => absurd c122 z) (fun _ => ?_)
                          refine lv_iconst (v := 0) hx hb dR_parents_125 (by decide) ?_
                          cases hv
                          exact zMb_ret (u := r41) hx hb hr hlocks hK hP hD hS (Or.inl rfl) dR_parents_126
                        · rw [if_neg c122] at hv
                          refine lv_if_ne (tgt := 127) hx hb dR_parents_122 (by decide) (fun _ => ?_) (fun z => absurd z c122)
                          refine lv_aload_n hx hb dR_parents_127 rfl (lv_at hl 1 rfl) ?_
                          refine va_get (D := D) (ci := 3) (v := .ref (h 1)) (C := RR) (T := TR) (N := 13) hx hb hts hinR hown hK hP 0 rfl rfl 1 (by decide) (hts _ uw217) (fun _ h9 => h9) rfl dR_parents_128 ?_
                          refine lv_iload_n hx hb dR_parents_131 rfl (lv_at hl 2 rfl) ?_
                          refine lv_iload_n hx hb dR_parents_132 rfl (lv_at hl 3 rfl) ?_
                          refine va_iast hx hb hK hP hD hS 1 0 rfl rfl (is_in hn c10) dR_parents_133 (fun H locs hP hD hS => ?_)
                          have hP : va_P D vwCl (wR Y h n (r_rmo r41 (upd (g_rmo r41) (a1 : Int32).toNatClampNeg a2))) H := hP
                          have hD : va_D A (wR Y h n (r_rmo r41 (upd (g_rmo r41) (a1 : Int32).toNatClampNeg a2))) := hD
                          refine lv_aload_n hx hb dR_parents_134 rfl (lv_at hl 1 rfl) ?_
                          refine va_get (D := D) (ci := 3) (v := .ref (h 2)) (C := RR) (T := TR) (N := 13) hx hb hts hinR hown hK hP 0 rfl rfl 2 (by decide) (hts _ uw218) (fun _ h9 => h9) rfl dR_parents_135 ?_
                          refine lv_iload_n hx hb dR_parents_138 rfl (lv_at hl 2 rfl) ?_
                          refine lv_iload_n hx hb dR_parents_139 rfl (lv_at hl 4 rfl) ?_
                          refine va_iast hx hb hK hP hD hS 2 0 rfl rfl (is_in hn c10) dR_parents_140 (fun H locs hP hD hS => ?_)
                          have hP : va_P D vwCl (wR Y h n (r_rfa (r_rmo r41 (upd (g_rmo r41) (a1 : Int32).toNatClampNeg a2)) (upd (g_rfa (r_rmo r41 (upd (g_rmo r41) (a1 : Int32).toNatClampNeg a2))) (a1 : Int32).toNatClampNeg a3))) H := hP
                          have hD : va_D A (wR Y h n (r_rfa (r_rmo r41 (upd (g_rmo r41) (a1 : Int32).toNatClampNeg a2)) (upd (g_rfa (r_rmo r41 (upd (g_rmo r41) (a1 : Int32).toNatClampNeg a2))) (a1 : Int32).toNatClampNeg a3))) := hD
                          refine lv_iconst (v := 1) hx hb dR_parents_141 (by decide) ?_
                          cases hv
                          exact zMb_ret (u := (r_rfa (r_rmo r41 (upd (g_rmo r41) (a1 : Int32).toNatClampNeg a2)) (upd (g_rfa (r_rmo r41 (upd (g_rmo r41) (a1 : Int32).toNatClampNeg a2))) (a1 : Int32).toNatClampNeg a3))) hx hb hr hlocks hK hP hD hS (Or.inr rfl) dR_parents_142
            · rw [if_neg c67] at hv
              refine lv_if_lt (tgt := 79) hx hb dR_parents_67 (by decide) (fun z => absurd z c67) (fun _ => ?_)
              refine lv_aload_n hx hb dR_parents_70 rfl (lv_at hl 1 rfl) ?_
              refine lv_iload_n hx hb dR_parents_71 rfl (lv_at hl 2 rfl) ?_
              refine lv_iload hx hb dR_parents_72 (lv_at hl 0 rfl) ?_
              obtain ⟨r74, e74, hv⟩ := bsome hv
              refine qNVv (w := wR Y h n) (rest := []) ⟨hx, hb, hml, hown, hts⟩ (kR_tellRing l D Y h n hn r41 a1 r60 r74 e74 _) (cwV 2 hts (gV uw241 uw242 uw243 uw213 ucR_tellRing) rfl rfl rfl hvR_tellRing ⟨Nat.le_of_ble_eq_true rfl, Nat.le_of_ble_eq_true rfl⟩) hK hP hD hS hA (va_recv hK hP (ci := 3) (q0 := 0) rfl rfl) rfl hl.1 rfl (Nat.le_of_ble_eq_true rfl) dR_parents_74 ⟨Nat.le_of_ble_eq_true rfl, Nat.le_of_ble_eq_true rfl⟩ (fun H locs hP hD hS => ?_)
              refine lv_iconst (v := 0) hx hb dR_parents_77 (by decide) ?_
              cases hv
              exact zMb_ret (u := r74) hx hb hr hlocks hK hP hD hS (Or.inl rfl) dR_parents_78
          · rw [if_neg c50] at hv
            refine lv_if_lt (tgt := 57) hx hb dR_parents_50 (by decide) (fun z => absurd z c50) (fun _ => ?_)
            refine lv_iload_n hx hb dR_parents_53 rfl (lv_at hl 2 rfl) ?_
            refine lv_goto (tgt := 63) hx hb dR_parents_54 (by decide) ?_
            refine lv_istore (lv' := [(4, .int a2), (0, .ref (h 0)), (1, .int a1), (2, .int a2), (3, .int a3)]) hx hb dR_parents_63 hl (by decide) rfl (fun ls hl => ?_)
            refine lv_iload hx hb dR_parents_65 (lv_at hl 0 rfl) ?_
            by_cases c67 : a2 < 0
            · rw [if_pos c67] at hv
              refine lv_if_lt (tgt := 79) hx hb dR_parents_67 (by decide) (fun _ => ?_) (fun z => absurd c67 z)
              refine lv_iload_n hx hb dR_parents_79 rfl (lv_at hl 3 rfl) ?_
              refine lv_if_lt (tgt := 93) hx hb dR_parents_80 (by decide) (fun _ => ?_) (fun z => absurd c67 z)
              refine lv_iload_n hx hb dR_parents_93 rfl (lv_at hl 4 rfl) ?_
              by_cases c94 : a3 < 0
              · rw [if_pos c94] at hv
                refine lv_if_lt (tgt := 107) hx hb dR_parents_94 (by decide) (fun _ => ?_) (fun z => absurd c94 z)
                refine lv_aload_n hx hb dR_parents_107 rfl (lv_at hl 1 rfl) ?_
                refine lv_iload_n hx hb dR_parents_108 rfl (lv_at hl 3 rfl) ?_
                refine lv_iload_n hx hb dR_parents_109 rfl (lv_at hl 2 rfl) ?_
                obtain ⟨r110, e110, hv⟩ := bsome hv
                refine qVi (rest := []) ⟨hx, hb, hml, hown, hts⟩ (kR_isOlder l D Y h n hn r41 a2 a1 r110 e110) (cwV 2 hts (gV uw237 uw238 uw239 uw213 ucR_isOlder) rfl rfl rfl hvR_isOlder ⟨Nat.le_of_ble_eq_true rfl, Nat.le_of_ble_eq_true rfl⟩) hK hP (va_recv hK hP (ci := 3) (q0 := 0) rfl rfl) rfl hl.1 rfl (Nat.le_of_ble_eq_true rfl) dR_parents_110 ⟨Nat.le_of_ble_eq_true rfl, Nat.le_of_ble_eq_true rfl⟩ ?_
                by_cases c113 : r110 = 0
                · rw [if_pos c113] at hv
                  refine lv_if_eq (tgt := 125) hx hb dR_parents_113 (by decide) (fun _ => ?_) (fun z => absurd c113 z)
                  refine lv_iconst (v := 0) hx hb dR_parents_125 (by decide) ?_
                  cases hv
                  exact zMb_ret (u := r41) hx hb hr hlocks hK hP hD hS (Or.inl rfl) dR_parents_126
                · rw [if_neg c113] at hv
                  refine lv_if_eq (tgt := 125) hx hb dR_parents_113 (by decide) (fun z => absurd z c113) (fun _ => ?_)
                  refine lv_aload_n hx hb dR_parents_116 rfl (lv_at hl 1 rfl) ?_
                  refine lv_iload_n hx hb dR_parents_117 rfl (lv_at hl 4 rfl) ?_
                  refine lv_iload_n hx hb dR_parents_118 rfl (lv_at hl 2 rfl) ?_
                  obtain ⟨r119, e119, hv⟩ := bsome hv
                  refine qVi (rest := []) ⟨hx, hb, hml, hown, hts⟩ (kR_isOlder l D Y h n hn r41 a3 a1 r119 e119) (cwV 2 hts (gV uw237 uw238 uw239 uw213 ucR_isOlder) rfl rfl rfl hvR_isOlder ⟨Nat.le_of_ble_eq_true rfl, Nat.le_of_ble_eq_true rfl⟩) hK hP (va_recv hK hP (ci := 3) (q0 := 0) rfl rfl) rfl hl.1 rfl (Nat.le_of_ble_eq_true rfl) dR_parents_119 ⟨Nat.le_of_ble_eq_true rfl, Nat.le_of_ble_eq_true rfl⟩ ?_
                  by_cases c122 : r119 = 0
                  · rw [if_pos c122] at hv
                    refine lv_if_ne (tgt := 127) hx hb dR_parents_122 (by decide) (fun z => absurd c122 z) (fun _ => ?_)
                    refine lv_iconst (v := 0) hx hb dR_parents_125 (by decide) ?_
                    cases hv
                    exact zMb_ret (u := r41) hx hb hr hlocks hK hP hD hS (Or.inl rfl) dR_parents_126
                  · rw [if_neg c122] at hv
                    refine lv_if_ne (tgt := 127) hx hb dR_parents_122 (by decide) (fun _ => ?_) (fun z => absurd z c122)
                    refine lv_aload_n hx hb dR_parents_127 rfl (lv_at hl 1 rfl) ?_
                    refine va_get (D := D) (ci := 3) (v := .ref (h 1)) (C := RR) (T := TR) (N := 13) hx hb hts hinR hown hK hP 0 rfl rfl 1 (by decide) (hts _ uw217) (fun _ h9 => h9) rfl dR_parents_128 ?_
                    refine lv_iload_n hx hb dR_parents_131 rfl (lv_at hl 2 rfl) ?_
                    refine lv_iload_n hx hb dR_parents_132 rfl (lv_at hl 3 rfl) ?_
                    refine va_iast hx hb hK hP hD hS 1 0 rfl rfl (is_in hn c10) dR_parents_133 (fun H locs hP hD hS => ?_)
                    have hP : va_P D vwCl (wR Y h n (r_rmo r41 (upd (g_rmo r41) (a1 : Int32).toNatClampNeg a2))) H := hP
                    have hD : va_D A (wR Y h n (r_rmo r41 (upd (g_rmo r41) (a1 : Int32).toNatClampNeg a2))) := hD
                    refine lv_aload_n hx hb dR_parents_134 rfl (lv_at hl 1 rfl) ?_
                    refine va_get (D := D) (ci := 3) (v := .ref (h 2)) (C := RR) (T := TR) (N := 13) hx hb hts hinR hown hK hP 0 rfl rfl 2 (by decide) (hts _ uw218) (fun _ h9 => h9) rfl dR_parents_135 ?_
                    refine lv_iload_n hx hb dR_parents_138 rfl (lv_at hl 2 rfl) ?_
                    refine lv_iload_n hx hb dR_parents_139 rfl (lv_at hl 4 rfl) ?_
                    refine va_iast hx hb hK hP hD hS 2 0 rfl rfl (is_in hn c10) dR_parents_140 (fun H locs hP hD hS => ?_)
                    have hP : va_P D vwCl (wR Y h n (r_rfa (r_rmo r41 (upd (g_rmo r41) (a1 : Int32).toNatClampNeg a2)) (upd (g_rfa (r_rmo r41 (upd (g_rmo r41) (a1 : Int32).toNatClampNeg a2))) (a1 : Int32).toNatClampNeg a3))) H := hP
                    have hD : va_D A (wR Y h n (r_rfa (r_rmo r41 (upd (g_rmo r41) (a1 : Int32).toNatClampNeg a2)) (upd (g_rfa (r_rmo r41 (upd (g_rmo r41) (a1 : Int32).toNatClampNeg a2))) (a1 : Int32).toNatClampNeg a3))) := hD
                    refine lv_iconst (v := 1) hx hb dR_parents_141 (by decide) ?_
                    cases hv
                    exact zMb_ret (u := (r_rfa (r_rmo r41 (upd (g_rmo r41) (a1 : Int32).toNatClampNeg a2)) (upd (g_rfa (r_rmo r41 (upd (g_rmo r41) (a1 : Int32).toNatClampNeg a2))) (a1 : Int32).toNatClampNeg a3))) hx hb hr hlocks hK hP hD hS (Or.inr rfl) dR_parents_142
              · rw [if_neg c94] at hv
                refine lv_if_lt (tgt := 107) hx hb dR_parents_94 (by decide) (fun z => absurd z c94) (fun _ => ?_)
                refine lv_aload_n hx hb dR_parents_97 rfl (lv_at hl 1 rfl) ?_
                refine va_get (D := D) (ci := 3) (v := .ref (h 3)) (C := RR) (T := TR) (N := 13) hx hb hts hinR hown hK hP 0 rfl rfl 3 (by decide) (hts _ uw240) (fun _ h9 => h9) rfl dR_parents_98 ?_
                refine lv_iload_n hx hb dR_parents_101 rfl (lv_at hl 4 rfl) ?_
                have k102xxxx : ¬ (ob (a3 : Int32) 24) := fun z => by rw [if_pos z] at hv; cases hv
                rw [if_neg k102xxxx] at hv
                refine va_iald hx hb hK hP 3 0 rfl rfl (k102xxxx) dR_parents_102 ?_
                refine lv_iconst (v := 1) hx hb dR_parents_103 (by decide) ?_
                by_cases c104 : ((g_rsx r41) (a3 : Int32).toNatClampNeg) = 1
                · rw [if_pos c104] at hv
                  refine lv_icmp_eq (tgt := 125) hx hb dR_parents_104 (by decide) (fun _ => ?_) (fun z => absurd c104 z)
                  refine lv_iconst (v := 0) hx hb dR_parents_125 (by decide) ?_
                  cases hv
                  exact zMb_ret (u := r41) hx hb hr hlocks hK hP hD hS (Or.inl rfl) dR_parents_126
                · rw [if_neg c104] at hv
                  refine lv_icmp_eq (tgt := 125) hx hb dR_parents_104 (by decide) (fun z => absurd z c104) (fun _ => ?_)
                  refine lv_aload_n hx hb dR_parents_107 rfl (lv_at hl 1 rfl) ?_
                  refine lv_iload_n hx hb dR_parents_108 rfl (lv_at hl 3 rfl) ?_
                  refine lv_iload_n hx hb dR_parents_109 rfl (lv_at hl 2 rfl) ?_
                  obtain ⟨r110, e110, hv⟩ := bsome hv
                  refine qVi (rest := []) ⟨hx, hb, hml, hown, hts⟩ (kR_isOlder l D Y h n hn r41 a2 a1 r110 e110) (cwV 2 hts (gV uw237 uw238 uw239 uw213 ucR_isOlder) rfl rfl rfl hvR_isOlder ⟨Nat.le_of_ble_eq_true rfl, Nat.le_of_ble_eq_true rfl⟩) hK hP (va_recv hK hP (ci := 3) (q0 := 0) rfl rfl) rfl hl.1 rfl (Nat.le_of_ble_eq_true rfl) dR_parents_110 ⟨Nat.le_of_ble_eq_true rfl, Nat.le_of_ble_eq_true rfl⟩ ?_
                  by_cases c113 : r110 = 0
                  · rw [if_pos c113] at hv
                    refine lv_if_eq (tgt := 125) hx hb dR_parents_113 (by decide) (fun _ => ?_) (fun z => absurd c113 z)
                    refine lv_iconst (v := 0) hx hb dR_parents_125 (by decide) ?_
                    cases hv
                    exact zMb_ret (u := r41) hx hb hr hlocks hK hP hD hS (Or.inl rfl) dR_parents_126
                  · rw [if_neg c113] at hv
                    refine lv_if_eq (tgt := 125) hx hb dR_parents_113 (by decide) (fun z => absurd z c113) (fun _ => ?_)
                    refine lv_aload_n hx hb dR_parents_116 rfl (lv_at hl 1 rfl) ?_
                    refine lv_iload_n hx hb dR_parents_117 rfl (lv_at hl 4 rfl) ?_
                    refine lv_iload_n hx hb dR_parents_118 rfl (lv_at hl 2 rfl) ?_
                    obtain ⟨r119, e119, hv⟩ := bsome hv
                    refine qVi (rest := []) ⟨hx, hb, hml, hown, hts⟩ (kR_isOlder l D Y h n hn r41 a3 a1 r119 e119) (cwV 2 hts (gV uw237 uw238 uw239 uw213 ucR_isOlder) rfl rfl rfl hvR_isOlder ⟨Nat.le_of_ble_eq_true rfl, Nat.le_of_ble_eq_true rfl⟩) hK hP (va_recv hK hP (ci := 3) (q0 := 0) rfl rfl) rfl hl.1 rfl (Nat.le_of_ble_eq_true rfl) dR_parents_119 ⟨Nat.le_of_ble_eq_true rfl, Nat.le_of_ble_eq_true rfl⟩ ?_
                    by_cases c122 : r119 = 0
                    · rw [if_pos c122] at hv
                      refine lv_if_ne (tgt := 127) hx hb dR_parents_122 (by decide) (fun z => absurd c122 z) (fun _ => ?_)
                      refine lv_iconst (v := 0) hx hb dR_parents_125 (by decide) ?_
                      cases hv
                      exact zMb_ret (u := r41) hx hb hr hlocks hK hP hD hS (Or.inl rfl) dR_parents_126
                    · rw [if_neg c122] at hv
                      refine lv_if_ne (tgt := 127) hx hb dR_parents_122 (by decide) (fun _ => ?_) (fun z => absurd z c122)
                      refine lv_aload_n hx hb dR_parents_127 rfl (lv_at hl 1 rfl) ?_
                      refine va_get (D := D) (ci := 3) (v := .ref (h 1)) (C := RR) (T := TR) (N := 13) hx hb hts hinR hown hK hP 0 rfl rfl 1 (by decide) (hts _ uw217) (fun _ h9 => h9) rfl dR_parents_128 ?_
                      refine lv_iload_n hx hb dR_parents_131 rfl (lv_at hl 2 rfl) ?_
                      refine lv_iload_n hx hb dR_parents_132 rfl (lv_at hl 3 rfl) ?_
                      refine va_iast hx hb hK hP hD hS 1 0 rfl rfl (is_in hn c10) dR_parents_133 (fun H locs hP hD hS => ?_)
                      have hP : va_P D vwCl (wR Y h n (r_rmo r41 (upd (g_rmo r41) (a1 : Int32).toNatClampNeg a2))) H := hP
                      have hD : va_D A (wR Y h n (r_rmo r41 (upd (g_rmo r41) (a1 : Int32).toNatClampNeg a2))) := hD
                      refine lv_aload_n hx hb dR_parents_134 rfl (lv_at hl 1 rfl) ?_
                      refine va_get (D := D) (ci := 3) (v := .ref (h 2)) (C := RR) (T := TR) (N := 13) hx hb hts hinR hown hK hP 0 rfl rfl 2 (by decide) (hts _ uw218) (fun _ h9 => h9) rfl dR_parents_135 ?_
                      refine lv_iload_n hx hb dR_parents_138 rfl (lv_at hl 2 rfl) ?_
                      refine lv_iload_n hx hb dR_parents_139 rfl (lv_at hl 4 rfl) ?_
                      refine va_iast hx hb hK hP hD hS 2 0 rfl rfl (is_in hn c10) dR_parents_140 (fun H locs hP hD hS => ?_)
                      have hP : va_P D vwCl (wR Y h n (r_rfa (r_rmo r41 (upd (g_rmo r41) (a1 : Int32).toNatClampNeg a2)) (upd (g_rfa (r_rmo r41 (upd (g_rmo r41) (a1 : Int32).toNatClampNeg a2))) (a1 : Int32).toNatClampNeg a3))) H := hP
                      have hD : va_D A (wR Y h n (r_rfa (r_rmo r41 (upd (g_rmo r41) (a1 : Int32).toNatClampNeg a2)) (upd (g_rfa (r_rmo r41 (upd (g_rmo r41) (a1 : Int32).toNatClampNeg a2))) (a1 : Int32).toNatClampNeg a3))) := hD
                      refine lv_iconst (v := 1) hx hb dR_parents_141 (by decide) ?_
                      cases hv
                      exact zMb_ret (u := (r_rfa (r_rmo r41 (upd (g_rmo r41) (a1 : Int32).toNatClampNeg a2)) (upd (g_rfa (r_rmo r41 (upd (g_rmo r41) (a1 : Int32).toNatClampNeg a2))) (a1 : Int32).toNatClampNeg a3))) hx hb hr hlocks hK hP hD hS (Or.inr rfl) dR_parents_142
            · rw [if_neg c67] at hv
              refine lv_if_lt (tgt := 79) hx hb dR_parents_67 (by decide) (fun z => absurd z c67) (fun _ => ?_)
              refine lv_aload_n hx hb dR_parents_70 rfl (lv_at hl 1 rfl) ?_
              refine lv_iload_n hx hb dR_parents_71 rfl (lv_at hl 2 rfl) ?_
              refine lv_iload hx hb dR_parents_72 (lv_at hl 0 rfl) ?_
              obtain ⟨r74, e74, hv⟩ := bsome hv
              refine qNVv (w := wR Y h n) (rest := []) ⟨hx, hb, hml, hown, hts⟩ (kR_tellRing l D Y h n hn r41 a1 a2 r74 e74 _) (cwV 2 hts (gV uw241 uw242 uw243 uw213 ucR_tellRing) rfl rfl rfl hvR_tellRing ⟨Nat.le_of_ble_eq_true rfl, Nat.le_of_ble_eq_true rfl⟩) hK hP hD hS hA (va_recv hK hP (ci := 3) (q0 := 0) rfl rfl) rfl hl.1 rfl (Nat.le_of_ble_eq_true rfl) dR_parents_74 ⟨Nat.le_of_ble_eq_true rfl, Nat.le_of_ble_eq_true rfl⟩ (fun H locs hP hD hS => ?_)
              refine lv_iconst (v := 0) hx hb dR_parents_77 (by decide) ?_
              cases hv
              exact zMb_ret (u := r74) hx hb hr hlocks hK hP hD hS (Or.inl rfl) dR_parents_78
