theorem uw266 : Cond.methodLink RR 1 yO_init ∈ uT := uk (um2 (List.mem_of_getElem? (i := 147) (by decide +kernel))) rfl
theorem dR_init_0 : decode cR_init 0 = .ok (.aload_n 0, 1) := by decide +kernel
theorem dR_init_1 : decode cR_init 1 = .ok (.invokespecial 1, 3) := by decide +kernel
theorem dR_init_4 : decode cR_init 4 = .ok (.aload_n 0, 1) := by decide +kernel
theorem dR_init_5 : decode cR_init 5 = .ok (.bipush 24, 2) := by decide +kernel
theorem dR_init_7 : decode cR_init 7 = .ok (.newarray .int, 2) := by decide +kernel
theorem dR_init_9 : decode cR_init 9 = .ok (.putfield 7, 3) := by decide +kernel
theorem dR_init_12 : decode cR_init 12 = .ok (.aload_n 0, 1) := by decide +kernel
theorem dR_init_13 : decode cR_init 13 = .ok (.bipush 24, 2) := by decide +kernel
theorem dR_init_15 : decode cR_init 15 = .ok (.newarray .int, 2) := by decide +kernel
theorem dR_init_17 : decode cR_init 17 = .ok (.putfield 13, 3) := by decide +kernel
theorem dR_init_20 : decode cR_init 20 = .ok (.aload_n 0, 1) := by decide +kernel
theorem dR_init_21 : decode cR_init 21 = .ok (.bipush 24, 2) := by decide +kernel
theorem dR_init_23 : decode cR_init 23 = .ok (.newarray .int, 2) := by decide +kernel
theorem dR_init_25 : decode cR_init 25 = .ok (.putfield 16, 3) := by decide +kernel
theorem dR_init_28 : decode cR_init 28 = .ok (.aload_n 0, 1) := by decide +kernel
theorem dR_init_29 : decode cR_init 29 = .ok (.bipush 24, 2) := by decide +kernel
theorem dR_init_31 : decode cR_init 31 = .ok (.newarray .int, 2) := by decide +kernel
theorem dR_init_33 : decode cR_init 33 = .ok (.putfield 19, 3) := by decide +kernel
theorem dR_init_36 : decode cR_init 36 = .ok (.aload_n 0, 1) := by decide +kernel
theorem dR_init_37 : decode cR_init 37 = .ok (.bipush 24, 2) := by decide +kernel
theorem dR_init_39 : decode cR_init 39 = .ok (.newarray .boolean, 2) := by decide +kernel
theorem dR_init_41 : decode cR_init 41 = .ok (.putfield 22, 3) := by decide +kernel
theorem dR_init_44 : decode cR_init 44 = .ok (.aload_n 0, 1) := by decide +kernel
theorem dR_init_45 : decode cR_init 45 = .ok (.bipush 96, 2) := by decide +kernel
theorem dR_init_47 : decode cR_init 47 = .ok (.newarray .int, 2) := by decide +kernel
theorem dR_init_49 : decode cR_init 49 = .ok (.putfield 26, 3) := by decide +kernel
theorem dR_init_52 : decode cR_init 52 = .ok (.aload_n 0, 1) := by decide +kernel
theorem dR_init_53 : decode cR_init 53 = .ok (.bipush 30, 2) := by decide +kernel
theorem dR_init_55 : decode cR_init 55 = .ok (.newarray .int, 2) := by decide +kernel
theorem dR_init_57 : decode cR_init 57 = .ok (.putfield 29, 3) := by decide +kernel
theorem dR_init_60 : decode cR_init 60 = .ok (.aload_n 0, 1) := by decide +kernel
theorem dR_init_61 : decode cR_init 61 = .ok (.sipush 576, 3) := by decide +kernel
theorem dR_init_64 : decode cR_init 64 = .ok (.newarray .boolean, 2) := by decide +kernel
theorem dR_init_66 : decode cR_init 66 = .ok (.putfield 32, 3) := by decide +kernel
theorem dR_init_69 : decode cR_init 69 = .ok (.aload_n 0, 1) := by decide +kernel
theorem dR_init_70 : decode cR_init 70 = .ok (.bipush 24, 2) := by decide +kernel
theorem dR_init_72 : decode cR_init 72 = .ok (.newarray .int, 2) := by decide +kernel
theorem dR_init_74 : decode cR_init 74 = .ok (.putfield 35, 3) := by decide +kernel
theorem dR_init_77 : decode cR_init 77 = .ok (.aload_n 0, 1) := by decide +kernel
theorem dR_init_78 : decode cR_init 78 = .ok (.bipush 24, 2) := by decide +kernel
theorem dR_init_80 : decode cR_init 80 = .ok (.newarray .int, 2) := by decide +kernel
theorem dR_init_82 : decode cR_init 82 = .ok (.putfield 38, 3) := by decide +kernel
theorem dR_init_85 : decode cR_init 85 = .ok (.aload_n 0, 1) := by decide +kernel
theorem dR_init_86 : decode cR_init 86 = .ok (.sipush 576, 3) := by decide +kernel
theorem dR_init_89 : decode cR_init 89 = .ok (.newarray .long, 2) := by decide +kernel
theorem dR_init_91 : decode cR_init 91 = .ok (.putfield 41, 3) := by decide +kernel
theorem dR_init_94 : decode cR_init 94 = .ok (.aload_n 0, 1) := by decide +kernel
theorem dR_init_95 : decode cR_init 95 = .ok (.iload_n 1, 1) := by decide +kernel
theorem dR_init_96 : decode cR_init 96 = .ok (.iconst 1, 1) := by decide +kernel
theorem dR_init_97 : decode cR_init 97 = .ok (.if_icmp .ge 7, 3) := by decide +kernel
theorem dR_init_100 : decode cR_init 100 = .ok (.iconst 1, 1) := by decide +kernel
theorem dR_init_101 : decode cR_init 101 = .ok (.goto 15, 3) := by decide +kernel
theorem dR_init_104 : decode cR_init 104 = .ok (.iload_n 1, 1) := by decide +kernel
theorem dR_init_105 : decode cR_init 105 = .ok (.bipush 24, 2) := by decide +kernel
theorem dR_init_107 : decode cR_init 107 = .ok (.if_icmp .le 8, 3) := by decide +kernel
theorem dR_init_110 : decode cR_init 110 = .ok (.bipush 24, 2) := by decide +kernel
theorem dR_init_112 : decode cR_init 112 = .ok (.goto 4, 3) := by decide +kernel
theorem dR_init_115 : decode cR_init 115 = .ok (.iload_n 1, 1) := by decide +kernel
theorem dR_init_116 : decode cR_init 116 = .ok (.putfield 45, 3) := by decide +kernel
theorem dR_init_119 : decode cR_init 119 = .ok (.iconst 0, 1) := by decide +kernel
theorem dR_init_120 : decode cR_init 120 = .ok (.istore_n 2, 1) := by decide +kernel
theorem dR_init_121 : decode cR_init 121 = .ok (.iload_n 2, 1) := by decide +kernel
theorem dR_init_122 : decode cR_init 122 = .ok (.bipush 24, 2) := by decide +kernel
theorem dR_init_124 : decode cR_init 124 = .ok (.if_icmp .ge 30, 3) := by decide +kernel
theorem dR_init_127 : decode cR_init 127 = .ok (.aload_n 0, 1) := by decide +kernel
theorem dR_init_128 : decode cR_init 128 = .ok (.getfield 7, 3) := by decide +kernel
theorem dR_init_131 : decode cR_init 131 = .ok (.iload_n 2, 1) := by decide +kernel
theorem dR_init_132 : decode cR_init 132 = .ok (.iconst (-1), 1) := by decide +kernel
theorem dR_init_133 : decode cR_init 133 = .ok (.iastore, 1) := by decide +kernel
theorem dR_init_134 : decode cR_init 134 = .ok (.aload_n 0, 1) := by decide +kernel
theorem dR_init_135 : decode cR_init 135 = .ok (.getfield 13, 3) := by decide +kernel
theorem dR_init_138 : decode cR_init 138 = .ok (.iload_n 2, 1) := by decide +kernel
theorem dR_init_139 : decode cR_init 139 = .ok (.iconst (-1), 1) := by decide +kernel
theorem dR_init_140 : decode cR_init 140 = .ok (.iastore, 1) := by decide +kernel
theorem dR_init_141 : decode cR_init 141 = .ok (.aload_n 0, 1) := by decide +kernel
theorem dR_init_142 : decode cR_init 142 = .ok (.getfield 19, 3) := by decide +kernel
theorem dR_init_145 : decode cR_init 145 = .ok (.iload_n 2, 1) := by decide +kernel
theorem dR_init_146 : decode cR_init 146 = .ok (.iconst (-1), 1) := by decide +kernel
theorem dR_init_147 : decode cR_init 147 = .ok (.iastore, 1) := by decide +kernel
theorem dR_init_148 : decode cR_init 148 = .ok (.iinc 2 1, 3) := by decide +kernel
theorem dR_init_151 : decode cR_init 151 = .ok (.goto (-30), 3) := by decide +kernel
theorem dR_init_154 : decode cR_init 154 = .ok (.iconst 0, 1) := by decide +kernel
theorem dR_init_155 : decode cR_init 155 = .ok (.istore_n 2, 1) := by decide +kernel
theorem dR_init_156 : decode cR_init 156 = .ok (.iload_n 2, 1) := by decide +kernel
theorem dR_init_157 : decode cR_init 157 = .ok (.bipush 96, 2) := by decide +kernel
theorem dR_init_159 : decode cR_init 159 = .ok (.if_icmp .ge 16, 3) := by decide +kernel
theorem dR_init_162 : decode cR_init 162 = .ok (.aload_n 0, 1) := by decide +kernel
theorem dR_init_163 : decode cR_init 163 = .ok (.getfield 26, 3) := by decide +kernel
theorem dR_init_166 : decode cR_init 166 = .ok (.iload_n 2, 1) := by decide +kernel
theorem dR_init_167 : decode cR_init 167 = .ok (.iconst (-1), 1) := by decide +kernel
theorem dR_init_168 : decode cR_init 168 = .ok (.iastore, 1) := by decide +kernel
theorem dR_init_169 : decode cR_init 169 = .ok (.iinc 2 1, 3) := by decide +kernel
theorem dR_init_172 : decode cR_init 172 = .ok (.goto (-16), 3) := by decide +kernel
theorem dR_init_175 : decode cR_init 175 = .ok (.return_, 1) := by decide +kernel
def fR_init_121 (n : Nat) : Nat → Nat → vR → vR
  | 0, i, S => (S)
  | k + 1, i, S => (fR_init_121 n k (i + 1) (r_rdy (r_rfa (r_rmo S (upd (g_rmo S) ((nI i) : Int32).toNatClampNeg (-1))) (upd (g_rfa (r_rmo S (upd (g_rmo S) ((nI i) : Int32).toNatClampNeg (-1)))) ((nI i) : Int32).toNatClampNeg (-1))) (upd (g_rdy (r_rfa (r_rmo S (upd (g_rmo S) ((nI i) : Int32).toNatClampNeg (-1))) (upd (g_rfa (r_rmo S (upd (g_rmo S) ((nI i) : Int32).toNatClampNeg (-1)))) ((nI i) : Int32).toNatClampNeg (-1)))) ((nI i) : Int32).toNatClampNeg (-1))))
def fR_init_156 (n : Nat) : Nat → Nat → vR → vR
  | 0, i, S => (S)
  | k + 1, i, S => (fR_init_156 n k (i + 1) (r_rfo S (upd (g_rfo S) ((nI i) : Int32).toNatClampNeg (-1))))
def fR_init (n : Nat) : vR :=
  (fR_init_156 n 96 0 (fR_init_121 n 24 0 ((fun _ => 0), (fun _ => 0), (fun _ => 0), (fun _ => 0), (fun _ => 0), (fun _ => 0), 0, (fun _ => 0), (fun _ => 0), (fun _ => 0), (fun _ => 0), (fun _ => 0))))
abbrev rmR_init : Room := { frames := 1, cells := 11, slots := 1446, locals := 20 }
set_option maxHeartbeats 4000000 in
set_option maxRecDepth 100000 in
theorem tR_init_121 {p : Program} {l : Launch} {e : Env} {s : State} {m : MethodId} {args : Array Value} {below : List Frame} {meth : Method} {c : Code} {D : va_G} {Y : Nat → ClassId} {h : Nat → Nat} {n : Nat} (hn : n ≤ 24) {A : Nat → Prop} (hA : ∀ q : Nat, s.heap.size ≤ q → A q) (CF : CallFix p m c cR_init 3 s args uT RR) (hr : meth.sig.returnType = none) (hlocks : meth.locks = false) (hK : va_K D vwCl (tysK Y) s) {Q : State → Prop} : ∀ (k i : Nat) (S : vR), i + k = 24 → ∀ (H : Heap) (locs : List Loc), va_P D vwCl (wR Y h n S) H → va_D A (wR Y h n S) → va_S A s.heap H locs → ∀ ls : Array Slot, lv_has ls 3 [(0, .ref (h 0)), (2, .int (nI i))] → (∀ (H : Heap) (locs : List Loc), va_P D vwCl (wR Y h n (fR_init_121 n k i S)) H → va_D A (wR Y h n (fR_init_121 n k i S)) → va_S A s.heap H locs → ∀ ls : Array Slot, lv_has ls 3 [(0, .ref (h 0))] → W p l e rmR_init s m args below meth c H locs 11 1446 Q (F0 m 154 ls [])) → W p l e rmR_init s m args below meth c H locs 11 1446 Q (F0 m 121 ls []) := by
  obtain ⟨hx, hb, hml, hown, hts⟩ := CF
  intro k
  induction k with
  | zero =>
    intro i  S hi  H locs hP hD hS ls hl kk
    refine lv_iload_n hx hb dR_init_121 rfl (lv_at hl 1 rfl) ?_
    refine lv_bipush (v := 24) hx hb dR_init_122 (by decide) ?_
    refine lv_icmp_ge (tgt := 154) hx hb dR_init_124 (by decide) (fun _ => ?_) (fun z => absurd (lp_ge (n := 24) hi) z)
    exact kk _ _ hP hD hS ls (lv_sub hl [0] rfl)
  | succ k ih =>
    intro i  S hi  H locs hP hD hS ls hl kk
    rw [fR_init_121] at kk
    refine lv_iload_n hx hb dR_init_121 rfl (lv_at hl 1 rfl) ?_
    refine lv_bipush (v := 24) hx hb dR_init_122 (by decide) ?_
    refine lv_icmp_ge (tgt := 154) hx hb dR_init_124 (by decide) (fun z => absurd z (lp_lt (n := 24) hi (by omega))) (fun _ => ?_)
    refine lv_aload_n hx hb dR_init_127 rfl (lv_at hl 0 rfl) ?_
    refine va_get (D := D) (ci := 3) (v := .ref (h 1)) (C := RR) (T := TR) (N := 13) hx hb hts hinR hown hK hP 0 rfl rfl 1 (by decide) (hts _ uw217) (fun _ h9 => h9) rfl dR_init_128 ?_
    refine lv_iload_n hx hb dR_init_131 rfl (lv_at hl 1 rfl) ?_
    refine lv_iconst (v := (-1)) hx hb dR_init_132 (by decide) ?_
    refine va_iast hx hb hK hP hD hS 1 0 rfl rfl (vp_in_nI (n := i) (by omega) (by omega)) dR_init_133 (fun H locs hP hD hS => ?_)
    have hP : va_P D vwCl (wR Y h n (r_rmo S (upd (g_rmo S) ((nI i) : Int32).toNatClampNeg (-1)))) H := hP
    have hD : va_D A (wR Y h n (r_rmo S (upd (g_rmo S) ((nI i) : Int32).toNatClampNeg (-1)))) := hD
    refine lv_aload_n hx hb dR_init_134 rfl (lv_at hl 0 rfl) ?_
    refine va_get (D := D) (ci := 3) (v := .ref (h 2)) (C := RR) (T := TR) (N := 13) hx hb hts hinR hown hK hP 0 rfl rfl 2 (by decide) (hts _ uw218) (fun _ h9 => h9) rfl dR_init_135 ?_
    refine lv_iload_n hx hb dR_init_138 rfl (lv_at hl 1 rfl) ?_
    refine lv_iconst (v := (-1)) hx hb dR_init_139 (by decide) ?_
    refine va_iast hx hb hK hP hD hS 2 0 rfl rfl (vp_in_nI (n := i) (by omega) (by omega)) dR_init_140 (fun H locs hP hD hS => ?_)
    have hP : va_P D vwCl (wR Y h n (r_rfa (r_rmo S (upd (g_rmo S) ((nI i) : Int32).toNatClampNeg (-1))) (upd (g_rfa (r_rmo S (upd (g_rmo S) ((nI i) : Int32).toNatClampNeg (-1)))) ((nI i) : Int32).toNatClampNeg (-1)))) H := hP
    have hD : va_D A (wR Y h n (r_rfa (r_rmo S (upd (g_rmo S) ((nI i) : Int32).toNatClampNeg (-1))) (upd (g_rfa (r_rmo S (upd (g_rmo S) ((nI i) : Int32).toNatClampNeg (-1)))) ((nI i) : Int32).toNatClampNeg (-1)))) := hD
    refine lv_aload_n hx hb dR_init_141 rfl (lv_at hl 0 rfl) ?_
    refine va_get (D := D) (ci := 3) (v := .ref (h 4)) (C := RR) (T := TR) (N := 13) hx hb hts hinR hown hK hP 0 rfl rfl 4 (by decide) (hts _ uw233) (fun _ h9 => h9) rfl dR_init_142 ?_
    refine lv_iload_n hx hb dR_init_145 rfl (lv_at hl 1 rfl) ?_
    refine lv_iconst (v := (-1)) hx hb dR_init_146 (by decide) ?_
    refine va_iast hx hb hK hP hD hS 4 0 rfl rfl (vp_in_nI (n := i) (by omega) (by omega)) dR_init_147 (fun H locs hP hD hS => ?_)
    have hP : va_P D vwCl (wR Y h n (r_rdy (r_rfa (r_rmo S (upd (g_rmo S) ((nI i) : Int32).toNatClampNeg (-1))) (upd (g_rfa (r_rmo S (upd (g_rmo S) ((nI i) : Int32).toNatClampNeg (-1)))) ((nI i) : Int32).toNatClampNeg (-1))) (upd (g_rdy (r_rfa (r_rmo S (upd (g_rmo S) ((nI i) : Int32).toNatClampNeg (-1))) (upd (g_rfa (r_rmo S (upd (g_rmo S) ((nI i) : Int32).toNatClampNeg (-1)))) ((nI i) : Int32).toNatClampNeg (-1)))) ((nI i) : Int32).toNatClampNeg (-1)))) H := hP
    have hD : va_D A (wR Y h n (r_rdy (r_rfa (r_rmo S (upd (g_rmo S) ((nI i) : Int32).toNatClampNeg (-1))) (upd (g_rfa (r_rmo S (upd (g_rmo S) ((nI i) : Int32).toNatClampNeg (-1)))) ((nI i) : Int32).toNatClampNeg (-1))) (upd (g_rdy (r_rfa (r_rmo S (upd (g_rmo S) ((nI i) : Int32).toNatClampNeg (-1))) (upd (g_rfa (r_rmo S (upd (g_rmo S) ((nI i) : Int32).toNatClampNeg (-1)))) ((nI i) : Int32).toNatClampNeg (-1)))) ((nI i) : Int32).toNatClampNeg (-1)))) := hD
    refine lv_iinc (v := (nI (i + 1))) (lv' := [(2, .int (nI (i + 1))), (0, .ref (h 0))]) hx hb dR_init_148 hl (k := 1) rfl (nI_1 _) (by decide) rfl (fun ls hl => ?_)
    refine lv_goto (tgt := 121) hx hb dR_init_151 (by decide) ?_
    exact ih (i + 1) (r_rdy (r_rfa (r_rmo S (upd (g_rmo S) ((nI i) : Int32).toNatClampNeg (-1))) (upd (g_rfa (r_rmo S (upd (g_rmo S) ((nI i) : Int32).toNatClampNeg (-1)))) ((nI i) : Int32).toNatClampNeg (-1))) (upd (g_rdy (r_rfa (r_rmo S (upd (g_rmo S) ((nI i) : Int32).toNatClampNeg (-1))) (upd (g_rfa (r_rmo S (upd (g_rmo S) ((nI i) : Int32).toNatClampNeg (-1)))) ((nI i) : Int32).toNatClampNeg (-1)))) ((nI i) : Int32).toNatClampNeg (-1))) (by omega) _ _ hP hD hS ls (lv_sub hl [1, 0] rfl) kk
set_option maxHeartbeats 4000000 in
set_option maxRecDepth 100000 in
theorem tR_init_156 {p : Program} {l : Launch} {e : Env} {s : State} {m : MethodId} {args : Array Value} {below : List Frame} {meth : Method} {c : Code} {D : va_G} {Y : Nat → ClassId} {h : Nat → Nat} {n : Nat} (hn : n ≤ 24) {A : Nat → Prop} (hA : ∀ q : Nat, s.heap.size ≤ q → A q) (CF : CallFix p m c cR_init 3 s args uT RR) (hr : meth.sig.returnType = none) (hlocks : meth.locks = false) (hK : va_K D vwCl (tysK Y) s) {Q : State → Prop} : ∀ (k i : Nat) (S : vR), i + k = 96 → ∀ (H : Heap) (locs : List Loc), va_P D vwCl (wR Y h n S) H → va_D A (wR Y h n S) → va_S A s.heap H locs → ∀ ls : Array Slot, lv_has ls 3 [(0, .ref (h 0)), (2, .int (nI i))] → (∀ (H : Heap) (locs : List Loc), va_P D vwCl (wR Y h n (fR_init_156 n k i S)) H → va_D A (wR Y h n (fR_init_156 n k i S)) → va_S A s.heap H locs → ∀ ls : Array Slot, lv_has ls 3 [(0, .ref (h 0))] → W p l e rmR_init s m args below meth c H locs 11 1446 Q (F0 m 175 ls [])) → W p l e rmR_init s m args below meth c H locs 11 1446 Q (F0 m 156 ls []) := by
  obtain ⟨hx, hb, hml, hown, hts⟩ := CF
  intro k
  induction k with
  | zero =>
    intro i  S hi  H locs hP hD hS ls hl kk
    refine lv_iload_n hx hb dR_init_156 rfl (lv_at hl 1 rfl) ?_
    refine lv_bipush (v := 96) hx hb dR_init_157 (by decide) ?_
    refine lv_icmp_ge (tgt := 175) hx hb dR_init_159 (by decide) (fun _ => ?_) (fun z => absurd (lp_ge (n := 96) hi) z)
    exact kk _ _ hP hD hS ls (lv_sub hl [0] rfl)
  | succ k ih =>
    intro i  S hi  H locs hP hD hS ls hl kk
    rw [fR_init_156] at kk
    refine lv_iload_n hx hb dR_init_156 rfl (lv_at hl 1 rfl) ?_
    refine lv_bipush (v := 96) hx hb dR_init_157 (by decide) ?_
    refine lv_icmp_ge (tgt := 175) hx hb dR_init_159 (by decide) (fun z => absurd z (lp_lt (n := 96) hi (by omega))) (fun _ => ?_)
    refine lv_aload_n hx hb dR_init_162 rfl (lv_at hl 0 rfl) ?_
    refine va_get (D := D) (ci := 3) (v := .ref (h 6)) (C := RR) (T := TR) (N := 13) hx hb hts hinR hown hK hP 0 rfl rfl 6 (by decide) (hts _ uw261) (fun _ h9 => h9) rfl dR_init_163 ?_
    refine lv_iload_n hx hb dR_init_166 rfl (lv_at hl 1 rfl) ?_
    refine lv_iconst (v := (-1)) hx hb dR_init_167 (by decide) ?_
    refine va_iast hx hb hK hP hD hS 6 0 rfl rfl (vp_in_nI (n := i) (by omega) (by omega)) dR_init_168 (fun H locs hP hD hS => ?_)
    have hP : va_P D vwCl (wR Y h n (r_rfo S (upd (g_rfo S) ((nI i) : Int32).toNatClampNeg (-1)))) H := hP
    have hD : va_D A (wR Y h n (r_rfo S (upd (g_rfo S) ((nI i) : Int32).toNatClampNeg (-1)))) := hD
    refine lv_iinc (v := (nI (i + 1))) (lv' := [(2, .int (nI (i + 1))), (0, .ref (h 0))]) hx hb dR_init_169 hl (k := 1) rfl (nI_1 _) (by decide) rfl (fun ls hl => ?_)
    refine lv_goto (tgt := 156) hx hb dR_init_172 (by decide) ?_
    exact ih (i + 1) (r_rfo S (upd (g_rfo S) ((nI i) : Int32).toNatClampNeg (-1))) (by omega) _ _ hP hD hS ls (lv_sub hl [1, 0] rfl) kk
set_option maxHeartbeats 4000000 in
set_option maxRecDepth 100000 in
theorem kR_init (l : Launch) (D : va_G) (Y : Nat → ClassId) (h0 : Nat) (a1 : Int32) (n : Nat) (hn : n ≤ 24) (en : (if (1 : Int32) ≤ a1 then (if a1 ≤ 24 then a1 else 24) else 1) = nI n) (sz : Nat) : Met l yR_init wsR_init rmR_init (va_Pc [.ref h0, .int a1] (zPreM D vwCl (tysK Y) ([(h0, .inr (3, [.int 0, .null, .null, .null, .null, .null, .null, .int 0, .null, .null, .null, .null, .null]))]) sz)) (va_Qv (fun u : (Nat → Nat) × vR => u.1 0 = h0 ∧ u.2 = (fR_init n)) (zAt D vwCl (tysK Y) (va_A ([(h0, .inr (3, [.int 0, .null, .null, .null, .null, .null, .null, .int 0, .null, .null, .null, .null, .null]))]) sz) (fun u => wR Y u.1 n u.2)) (va_A ([(h0, .inr (3, [.int 0, .null, .null, .null, .null, .null, .null, .int 0, .null, .null, .null, .null, .null]))]) sz)) 11 1446 (va_A ([(h0, .inr (3, [.int 0, .null, .null, .null, .null, .null, .null, .int 0, .null, .null, .null, .null, .null]))]) sz) := by
  refine Met.ofW (cc := cR_init) (maxL := 3) (ret := none) (by decide) rfl ?_
  intro p e s m args below meth c s₁ B hml hv
  obtain ⟨rfl, hsz, hP, hK, hD0⟩ := hv
  have hx := B.exec
  have hb := B.bytes
  have hr := B.returns
  have hts : ∀ w ∈ uT, w.before _ s = true := fun w hw => atoms_spec (ws := wsR_init) B.pre w (List.mem_cons_of_mem _ hw)
  have hown : s.vm.findClass RR = some m.cls := findClass_of_methodNamed B.named
  have hlocks := B.notSynchronized
  have hin9 : meth.name = "<init>" := (name_of_methodNamed B.named B.method).1
  subst hsz
  have hD := hD0.self (sz := s.heap.size)
  generalize hAe : va_A ([(h0, .inr (3, [.int 0, .null, .null, .null, .null, .null, .null, .int 0, .null, .null, .null, .null, .null]))]) s.heap.size = A at hD ⊢
  have hA : ∀ q : Nat, s.heap.size ≤ q → A q := fun q h => by rw [← hAe]; exact Or.inr h
  have hS : va_S A s.heap s.heap [] := va_S.rf
  have hl := lv_entry ([.ref h0, .int a1]) (n := 3) (Nat.le_of_ble_eq_true rfl)
  rw [lg_entry_eq]
  generalize (lg_sl ([.ref h0, .int a1]) ++ List.replicate (3 - (lg_sl ([.ref h0, .int a1])).length) Slot.unset).toArray = ls at hl ⊢
  have hl : lv_has ls 3 [(0, .ref h0), (1, .int a1)] := hl
  show W p l e rmR_init s m _ below meth c s.heap [] 0 0 (zMc (fun h S => wR Y h n S) D vwCl (tysK Y) A h0 below _ s 11 1446 (fR_init n)) (F0 m 0 ls [])
  refine lv_aload_n hx hb dR_init_0 rfl (lv_at hl 0 rfl) ?_
  refine W.objInit hx hb hown (hts _ uw266) (hts _ uw190) (hts _ ucO_init) rfl (by rw [hml]; exact hl.1) rfl dR_init_1 (Nat.le_of_ble_eq_true rfl) (Nat.le_of_ble_eq_true rfl) ?_
  refine W.eq (g2 := F0 m 4 ls []) rfl ?_
  refine lv_aload_n hx hb dR_init_4 rfl (lv_at hl 0 rfl) ?_
  refine lv_bipush (v := 24) hx hb dR_init_5 (by decide) ?_
  refine q_newa (N' := 24) (a0 := (24, .inl (fun _ => 0))) .int hx hb (hts _ uw191) rfl hK 0 rfl (fun _ hh => hh) hP hD hS hA (fun _ => rfl) (by decide) (by decide) (by decide) (Nat.le_of_ble_eq_true rfl) (Nat.le_of_ble_eq_true rfl) dR_init_7 (fun q1 H hP hD hS => ?_)
  have hP : va_P D vwCl ([(h0, .inr (3, [.int 0, .null, .null, .null, .null, .null, .null, .int 0, .null, .null, .null, .null, .null])), (q1, .inl (Y 0, 24, .inl (fun _ => 0)))]) H := hP
  have hD : va_D A ([(h0, .inr (3, [.int 0, .null, .null, .null, .null, .null, .null, .int 0, .null, .null, .null, .null, .null])), (q1, .inl (Y 0, 24, .inl (fun _ => 0)))]) := hD
  refine va_putF (D := D) (ci := 3) (v := .ref q1) (ty := .array .int) (C := RR) (T := TR) (N := 13) hx hb hts hinR tyR tyR_ok nmR hown hK hP hD hS 0 rfl rfl 1 (by decide) (hts _ uw217) (fun _ h9 => h9) rfl hin9 rfl (by decide +kernel) rfl rfl (Nat.le_of_ble_eq_true rfl) dR_init_9 (fun H locs hP hD hS => ?_)
  have hP : va_P D vwCl ([(h0, .inr (3, [.int 0, .ref q1, .null, .null, .null, .null, .null, .int 0, .null, .null, .null, .null, .null])), (q1, .inl (Y 0, 24, .inl (fun _ => 0)))]) H := hP
  have hD : va_D A ([(h0, .inr (3, [.int 0, .ref q1, .null, .null, .null, .null, .null, .int 0, .null, .null, .null, .null, .null])), (q1, .inl (Y 0, 24, .inl (fun _ => 0)))]) := hD
  refine lv_aload_n hx hb dR_init_12 rfl (lv_at hl 0 rfl) ?_
  refine lv_bipush (v := 24) hx hb dR_init_13 (by decide) ?_
  refine q_newa (N' := 24) (a0 := (24, .inl (fun _ => 0))) .int hx hb (hts _ uw191) rfl hK 0 rfl (fun _ hh => hh) hP hD hS hA (fun _ => rfl) (by decide) (by decide) (by decide) (Nat.le_of_ble_eq_true rfl) (Nat.le_of_ble_eq_true rfl) dR_init_15 (fun q2 H hP hD hS => ?_)
  have hP : va_P D vwCl ([(h0, .inr (3, [.int 0, .ref q1, .null, .null, .null, .null, .null, .int 0, .null, .null, .null, .null, .null])), (q1, .inl (Y 0, 24, .inl (fun _ => 0))), (q2, .inl (Y 0, 24, .inl (fun _ => 0)))]) H := hP
  have hD : va_D A ([(h0, .inr (3, [.int 0, .ref q1, .null, .null, .null, .null, .null, .int 0, .null, .null, .null, .null, .null])), (q1, .inl (Y 0, 24, .inl (fun _ => 0))), (q2, .inl (Y 0, 24, .inl (fun _ => 0)))]) := hD
  refine va_putF (D := D) (ci := 3) (v := .ref q2) (ty := .array .int) (C := RR) (T := TR) (N := 13) hx hb hts hinR tyR tyR_ok nmR hown hK hP hD hS 0 rfl rfl 2 (by decide) (hts _ uw218) (fun _ h9 => h9) rfl hin9 rfl (by decide +kernel) rfl rfl (Nat.le_of_ble_eq_true rfl) dR_init_17 (fun H locs hP hD hS => ?_)
  have hP : va_P D vwCl ([(h0, .inr (3, [.int 0, .ref q1, .ref q2, .null, .null, .null, .null, .int 0, .null, .null, .null, .null, .null])), (q1, .inl (Y 0, 24, .inl (fun _ => 0))), (q2, .inl (Y 0, 24, .inl (fun _ => 0)))]) H := hP
  have hD : va_D A ([(h0, .inr (3, [.int 0, .ref q1, .ref q2, .null, .null, .null, .null, .int 0, .null, .null, .null, .null, .null])), (q1, .inl (Y 0, 24, .inl (fun _ => 0))), (q2, .inl (Y 0, 24, .inl (fun _ => 0)))]) := hD
  refine lv_aload_n hx hb dR_init_20 rfl (lv_at hl 0 rfl) ?_
  refine lv_bipush (v := 24) hx hb dR_init_21 (by decide) ?_
  refine q_newa (N' := 24) (a0 := (24, .inl (fun _ => 0))) .int hx hb (hts _ uw191) rfl hK 0 rfl (fun _ hh => hh) hP hD hS hA (fun _ => rfl) (by decide) (by decide) (by decide) (Nat.le_of_ble_eq_true rfl) (Nat.le_of_ble_eq_true rfl) dR_init_23 (fun q3 H hP hD hS => ?_)
  have hP : va_P D vwCl ([(h0, .inr (3, [.int 0, .ref q1, .ref q2, .null, .null, .null, .null, .int 0, .null, .null, .null, .null, .null])), (q1, .inl (Y 0, 24, .inl (fun _ => 0))), (q2, .inl (Y 0, 24, .inl (fun _ => 0))), (q3, .inl (Y 0, 24, .inl (fun _ => 0)))]) H := hP
  have hD : va_D A ([(h0, .inr (3, [.int 0, .ref q1, .ref q2, .null, .null, .null, .null, .int 0, .null, .null, .null, .null, .null])), (q1, .inl (Y 0, 24, .inl (fun _ => 0))), (q2, .inl (Y 0, 24, .inl (fun _ => 0))), (q3, .inl (Y 0, 24, .inl (fun _ => 0)))]) := hD
  refine va_putF (D := D) (ci := 3) (v := .ref q3) (ty := .array .int) (C := RR) (T := TR) (N := 13) hx hb hts hinR tyR tyR_ok nmR hown hK hP hD hS 0 rfl rfl 3 (by decide) (hts _ uw240) (fun _ h9 => h9) rfl hin9 rfl (by decide +kernel) rfl rfl (Nat.le_of_ble_eq_true rfl) dR_init_25 (fun H locs hP hD hS => ?_)
  have hP : va_P D vwCl ([(h0, .inr (3, [.int 0, .ref q1, .ref q2, .ref q3, .null, .null, .null, .int 0, .null, .null, .null, .null, .null])), (q1, .inl (Y 0, 24, .inl (fun _ => 0))), (q2, .inl (Y 0, 24, .inl (fun _ => 0))), (q3, .inl (Y 0, 24, .inl (fun _ => 0)))]) H := hP
  have hD : va_D A ([(h0, .inr (3, [.int 0, .ref q1, .ref q2, .ref q3, .null, .null, .null, .int 0, .null, .null, .null, .null, .null])), (q1, .inl (Y 0, 24, .inl (fun _ => 0))), (q2, .inl (Y 0, 24, .inl (fun _ => 0))), (q3, .inl (Y 0, 24, .inl (fun _ => 0)))]) := hD
  refine lv_aload_n hx hb dR_init_28 rfl (lv_at hl 0 rfl) ?_
  refine lv_bipush (v := 24) hx hb dR_init_29 (by decide) ?_
  refine q_newa (N' := 24) (a0 := (24, .inl (fun _ => 0))) .int hx hb (hts _ uw191) rfl hK 0 rfl (fun _ hh => hh) hP hD hS hA (fun _ => rfl) (by decide) (by decide) (by decide) (Nat.le_of_ble_eq_true rfl) (Nat.le_of_ble_eq_true rfl) dR_init_31 (fun q4 H hP hD hS => ?_)
  have hP : va_P D vwCl ([(h0, .inr (3, [.int 0, .ref q1, .ref q2, .ref q3, .null, .null, .null, .int 0, .null, .null, .null, .null, .null])), (q1, .inl (Y 0, 24, .inl (fun _ => 0))), (q2, .inl (Y 0, 24, .inl (fun _ => 0))), (q3, .inl (Y 0, 24, .inl (fun _ => 0))), (q4, .inl (Y 0, 24, .inl (fun _ => 0)))]) H := hP
  have hD : va_D A ([(h0, .inr (3, [.int 0, .ref q1, .ref q2, .ref q3, .null, .null, .null, .int 0, .null, .null, .null, .null, .null])), (q1, .inl (Y 0, 24, .inl (fun _ => 0))), (q2, .inl (Y 0, 24, .inl (fun _ => 0))), (q3, .inl (Y 0, 24, .inl (fun _ => 0))), (q4, .inl (Y 0, 24, .inl (fun _ => 0)))]) := hD
  refine va_putF (D := D) (ci := 3) (v := .ref q4) (ty := .array .int) (C := RR) (T := TR) (N := 13) hx hb hts hinR tyR tyR_ok nmR hown hK hP hD hS 0 rfl rfl 4 (by decide) (hts _ uw233) (fun _ h9 => h9) rfl hin9 rfl (by decide +kernel) rfl rfl (Nat.le_of_ble_eq_true rfl) dR_init_33 (fun H locs hP hD hS => ?_)
  have hP : va_P D vwCl ([(h0, .inr (3, [.int 0, .ref q1, .ref q2, .ref q3, .ref q4, .null, .null, .int 0, .null, .null, .null, .null, .null])), (q1, .inl (Y 0, 24, .inl (fun _ => 0))), (q2, .inl (Y 0, 24, .inl (fun _ => 0))), (q3, .inl (Y 0, 24, .inl (fun _ => 0))), (q4, .inl (Y 0, 24, .inl (fun _ => 0)))]) H := hP
  have hD : va_D A ([(h0, .inr (3, [.int 0, .ref q1, .ref q2, .ref q3, .ref q4, .null, .null, .int 0, .null, .null, .null, .null, .null])), (q1, .inl (Y 0, 24, .inl (fun _ => 0))), (q2, .inl (Y 0, 24, .inl (fun _ => 0))), (q3, .inl (Y 0, 24, .inl (fun _ => 0))), (q4, .inl (Y 0, 24, .inl (fun _ => 0)))]) := hD
  refine lv_aload_n hx hb dR_init_36 rfl (lv_at hl 0 rfl) ?_
  refine lv_bipush (v := 24) hx hb dR_init_37 (by decide) ?_
  refine q_newa (N' := 24) (a0 := (24, .inl (fun _ => 0))) .boolean hx hb (hts _ uw196) rfl hK 2 rfl (fun _ hh => hh) hP hD hS hA (fun _ => rfl) (by decide) (by decide) (by decide) (Nat.le_of_ble_eq_true rfl) (Nat.le_of_ble_eq_true rfl) dR_init_39 (fun q5 H hP hD hS => ?_)
  have hP : va_P D vwCl ([(h0, .inr (3, [.int 0, .ref q1, .ref q2, .ref q3, .ref q4, .null, .null, .int 0, .null, .null, .null, .null, .null])), (q1, .inl (Y 0, 24, .inl (fun _ => 0))), (q2, .inl (Y 0, 24, .inl (fun _ => 0))), (q3, .inl (Y 0, 24, .inl (fun _ => 0))), (q4, .inl (Y 0, 24, .inl (fun _ => 0))), (q5, .inl (Y 2, 24, .inl (fun _ => 0)))]) H := hP
  have hD : va_D A ([(h0, .inr (3, [.int 0, .ref q1, .ref q2, .ref q3, .ref q4, .null, .null, .int 0, .null, .null, .null, .null, .null])), (q1, .inl (Y 0, 24, .inl (fun _ => 0))), (q2, .inl (Y 0, 24, .inl (fun _ => 0))), (q3, .inl (Y 0, 24, .inl (fun _ => 0))), (q4, .inl (Y 0, 24, .inl (fun _ => 0))), (q5, .inl (Y 2, 24, .inl (fun _ => 0)))]) := hD
  refine va_putF (D := D) (ci := 3) (v := .ref q5) (ty := .array .boolean) (C := RR) (T := TR) (N := 13) hx hb hts hinR tyR tyR_ok nmR hown hK hP hD hS 0 rfl rfl 5 (by decide) (hts _ uw245) (fun _ h9 => h9) rfl hin9 rfl (by decide +kernel) rfl rfl (Nat.le_of_ble_eq_true rfl) dR_init_41 (fun H locs hP hD hS => ?_)
  have hP : va_P D vwCl ([(h0, .inr (3, [.int 0, .ref q1, .ref q2, .ref q3, .ref q4, .ref q5, .null, .int 0, .null, .null, .null, .null, .null])), (q1, .inl (Y 0, 24, .inl (fun _ => 0))), (q2, .inl (Y 0, 24, .inl (fun _ => 0))), (q3, .inl (Y 0, 24, .inl (fun _ => 0))), (q4, .inl (Y 0, 24, .inl (fun _ => 0))), (q5, .inl (Y 2, 24, .inl (fun _ => 0)))]) H := hP
  have hD : va_D A ([(h0, .inr (3, [.int 0, .ref q1, .ref q2, .ref q3, .ref q4, .ref q5, .null, .int 0, .null, .null, .null, .null, .null])), (q1, .inl (Y 0, 24, .inl (fun _ => 0))), (q2, .inl (Y 0, 24, .inl (fun _ => 0))), (q3, .inl (Y 0, 24, .inl (fun _ => 0))), (q4, .inl (Y 0, 24, .inl (fun _ => 0))), (q5, .inl (Y 2, 24, .inl (fun _ => 0)))]) := hD
  refine lv_aload_n hx hb dR_init_44 rfl (lv_at hl 0 rfl) ?_
  refine lv_bipush (v := 96) hx hb dR_init_45 (by decide) ?_
  refine q_newa (N' := 96) (a0 := (96, .inl (fun _ => 0))) .int hx hb (hts _ uw191) rfl hK 0 rfl (fun _ hh => hh) hP hD hS hA (fun _ => rfl) (by decide) (by decide) (by decide) (Nat.le_of_ble_eq_true rfl) (Nat.le_of_ble_eq_true rfl) dR_init_47 (fun q6 H hP hD hS => ?_)
  have hP : va_P D vwCl ([(h0, .inr (3, [.int 0, .ref q1, .ref q2, .ref q3, .ref q4, .ref q5, .null, .int 0, .null, .null, .null, .null, .null])), (q1, .inl (Y 0, 24, .inl (fun _ => 0))), (q2, .inl (Y 0, 24, .inl (fun _ => 0))), (q3, .inl (Y 0, 24, .inl (fun _ => 0))), (q4, .inl (Y 0, 24, .inl (fun _ => 0))), (q5, .inl (Y 2, 24, .inl (fun _ => 0))), (q6, .inl (Y 0, 96, .inl (fun _ => 0)))]) H := hP
  have hD : va_D A ([(h0, .inr (3, [.int 0, .ref q1, .ref q2, .ref q3, .ref q4, .ref q5, .null, .int 0, .null, .null, .null, .null, .null])), (q1, .inl (Y 0, 24, .inl (fun _ => 0))), (q2, .inl (Y 0, 24, .inl (fun _ => 0))), (q3, .inl (Y 0, 24, .inl (fun _ => 0))), (q4, .inl (Y 0, 24, .inl (fun _ => 0))), (q5, .inl (Y 2, 24, .inl (fun _ => 0))), (q6, .inl (Y 0, 96, .inl (fun _ => 0)))]) := hD
  refine va_putF (D := D) (ci := 3) (v := .ref q6) (ty := .array .int) (C := RR) (T := TR) (N := 13) hx hb hts hinR tyR tyR_ok nmR hown hK hP hD hS 0 rfl rfl 6 (by decide) (hts _ uw261) (fun _ h9 => h9) rfl hin9 rfl (by decide +kernel) rfl rfl (Nat.le_of_ble_eq_true rfl) dR_init_49 (fun H locs hP hD hS => ?_)
  have hP : va_P D vwCl ([(h0, .inr (3, [.int 0, .ref q1, .ref q2, .ref q3, .ref q4, .ref q5, .ref q6, .int 0, .null, .null, .null, .null, .null])), (q1, .inl (Y 0, 24, .inl (fun _ => 0))), (q2, .inl (Y 0, 24, .inl (fun _ => 0))), (q3, .inl (Y 0, 24, .inl (fun _ => 0))), (q4, .inl (Y 0, 24, .inl (fun _ => 0))), (q5, .inl (Y 2, 24, .inl (fun _ => 0))), (q6, .inl (Y 0, 96, .inl (fun _ => 0)))]) H := hP
  have hD : va_D A ([(h0, .inr (3, [.int 0, .ref q1, .ref q2, .ref q3, .ref q4, .ref q5, .ref q6, .int 0, .null, .null, .null, .null, .null])), (q1, .inl (Y 0, 24, .inl (fun _ => 0))), (q2, .inl (Y 0, 24, .inl (fun _ => 0))), (q3, .inl (Y 0, 24, .inl (fun _ => 0))), (q4, .inl (Y 0, 24, .inl (fun _ => 0))), (q5, .inl (Y 2, 24, .inl (fun _ => 0))), (q6, .inl (Y 0, 96, .inl (fun _ => 0)))]) := hD
  refine lv_aload_n hx hb dR_init_52 rfl (lv_at hl 0 rfl) ?_
  refine lv_bipush (v := 30) hx hb dR_init_53 (by decide) ?_
  refine q_newa (N' := 30) (a0 := (30, .inl (fun _ => 0))) .int hx hb (hts _ uw191) rfl hK 0 rfl (fun _ hh => hh) hP hD hS hA (fun _ => rfl) (by decide) (by decide) (by decide) (Nat.le_of_ble_eq_true rfl) (Nat.le_of_ble_eq_true rfl) dR_init_55 (fun q7 H hP hD hS => ?_)
  have hP : va_P D vwCl ([(h0, .inr (3, [.int 0, .ref q1, .ref q2, .ref q3, .ref q4, .ref q5, .ref q6, .int 0, .null, .null, .null, .null, .null])), (q1, .inl (Y 0, 24, .inl (fun _ => 0))), (q2, .inl (Y 0, 24, .inl (fun _ => 0))), (q3, .inl (Y 0, 24, .inl (fun _ => 0))), (q4, .inl (Y 0, 24, .inl (fun _ => 0))), (q5, .inl (Y 2, 24, .inl (fun _ => 0))), (q6, .inl (Y 0, 96, .inl (fun _ => 0))), (q7, .inl (Y 0, 30, .inl (fun _ => 0)))]) H := hP
  have hD : va_D A ([(h0, .inr (3, [.int 0, .ref q1, .ref q2, .ref q3, .ref q4, .ref q5, .ref q6, .int 0, .null, .null, .null, .null, .null])), (q1, .inl (Y 0, 24, .inl (fun _ => 0))), (q2, .inl (Y 0, 24, .inl (fun _ => 0))), (q3, .inl (Y 0, 24, .inl (fun _ => 0))), (q4, .inl (Y 0, 24, .inl (fun _ => 0))), (q5, .inl (Y 2, 24, .inl (fun _ => 0))), (q6, .inl (Y 0, 96, .inl (fun _ => 0))), (q7, .inl (Y 0, 30, .inl (fun _ => 0)))]) := hD
  refine va_putF (D := D) (ci := 3) (v := .ref q7) (ty := .array .int) (C := RR) (T := TR) (N := 13) hx hb hts hinR tyR tyR_ok nmR hown hK hP hD hS 0 rfl rfl 8 (by decide) (hts _ uw228) (fun _ h9 => h9) rfl hin9 rfl (by decide +kernel) rfl rfl (Nat.le_of_ble_eq_true rfl) dR_init_57 (fun H locs hP hD hS => ?_)
  have hP : va_P D vwCl ([(h0, .inr (3, [.int 0, .ref q1, .ref q2, .ref q3, .ref q4, .ref q5, .ref q6, .int 0, .ref q7, .null, .null, .null, .null])), (q1, .inl (Y 0, 24, .inl (fun _ => 0))), (q2, .inl (Y 0, 24, .inl (fun _ => 0))), (q3, .inl (Y 0, 24, .inl (fun _ => 0))), (q4, .inl (Y 0, 24, .inl (fun _ => 0))), (q5, .inl (Y 2, 24, .inl (fun _ => 0))), (q6, .inl (Y 0, 96, .inl (fun _ => 0))), (q7, .inl (Y 0, 30, .inl (fun _ => 0)))]) H := hP
  have hD : va_D A ([(h0, .inr (3, [.int 0, .ref q1, .ref q2, .ref q3, .ref q4, .ref q5, .ref q6, .int 0, .ref q7, .null, .null, .null, .null])), (q1, .inl (Y 0, 24, .inl (fun _ => 0))), (q2, .inl (Y 0, 24, .inl (fun _ => 0))), (q3, .inl (Y 0, 24, .inl (fun _ => 0))), (q4, .inl (Y 0, 24, .inl (fun _ => 0))), (q5, .inl (Y 2, 24, .inl (fun _ => 0))), (q6, .inl (Y 0, 96, .inl (fun _ => 0))), (q7, .inl (Y 0, 30, .inl (fun _ => 0)))]) := hD
  refine lv_aload_n hx hb dR_init_60 rfl (lv_at hl 0 rfl) ?_
  refine lv_sipush (v := 576) hx hb dR_init_61 (by decide) ?_
  refine q_newa (N' := 576) (a0 := (576, .inl (fun _ => 0))) .boolean hx hb (hts _ uw196) rfl hK 2 rfl (fun _ hh => hh) hP hD hS hA (fun _ => rfl) (by decide) (by decide) (by decide) (Nat.le_of_ble_eq_true rfl) (Nat.le_of_ble_eq_true rfl) dR_init_64 (fun q8 H hP hD hS => ?_)
  have hP : va_P D vwCl ([(h0, .inr (3, [.int 0, .ref q1, .ref q2, .ref q3, .ref q4, .ref q5, .ref q6, .int 0, .ref q7, .null, .null, .null, .null])), (q1, .inl (Y 0, 24, .inl (fun _ => 0))), (q2, .inl (Y 0, 24, .inl (fun _ => 0))), (q3, .inl (Y 0, 24, .inl (fun _ => 0))), (q4, .inl (Y 0, 24, .inl (fun _ => 0))), (q5, .inl (Y 2, 24, .inl (fun _ => 0))), (q6, .inl (Y 0, 96, .inl (fun _ => 0))), (q7, .inl (Y 0, 30, .inl (fun _ => 0))), (q8, .inl (Y 2, 576, .inl (fun _ => 0)))]) H := hP
  have hD : va_D A ([(h0, .inr (3, [.int 0, .ref q1, .ref q2, .ref q3, .ref q4, .ref q5, .ref q6, .int 0, .ref q7, .null, .null, .null, .null])), (q1, .inl (Y 0, 24, .inl (fun _ => 0))), (q2, .inl (Y 0, 24, .inl (fun _ => 0))), (q3, .inl (Y 0, 24, .inl (fun _ => 0))), (q4, .inl (Y 0, 24, .inl (fun _ => 0))), (q5, .inl (Y 2, 24, .inl (fun _ => 0))), (q6, .inl (Y 0, 96, .inl (fun _ => 0))), (q7, .inl (Y 0, 30, .inl (fun _ => 0))), (q8, .inl (Y 2, 576, .inl (fun _ => 0)))]) := hD
  refine va_putF (D := D) (ci := 3) (v := .ref q8) (ty := .array .boolean) (C := RR) (T := TR) (N := 13) hx hb hts hinR tyR tyR_ok nmR hown hK hP hD hS 0 rfl rfl 9 (by decide) (hts _ uw215) (fun _ h9 => h9) rfl hin9 rfl (by decide +kernel) rfl rfl (Nat.le_of_ble_eq_true rfl) dR_init_66 (fun H locs hP hD hS => ?_)
  have hP : va_P D vwCl ([(h0, .inr (3, [.int 0, .ref q1, .ref q2, .ref q3, .ref q4, .ref q5, .ref q6, .int 0, .ref q7, .ref q8, .null, .null, .null])), (q1, .inl (Y 0, 24, .inl (fun _ => 0))), (q2, .inl (Y 0, 24, .inl (fun _ => 0))), (q3, .inl (Y 0, 24, .inl (fun _ => 0))), (q4, .inl (Y 0, 24, .inl (fun _ => 0))), (q5, .inl (Y 2, 24, .inl (fun _ => 0))), (q6, .inl (Y 0, 96, .inl (fun _ => 0))), (q7, .inl (Y 0, 30, .inl (fun _ => 0))), (q8, .inl (Y 2, 576, .inl (fun _ => 0)))]) H := hP
  have hD : va_D A ([(h0, .inr (3, [.int 0, .ref q1, .ref q2, .ref q3, .ref q4, .ref q5, .ref q6, .int 0, .ref q7, .ref q8, .null, .null, .null])), (q1, .inl (Y 0, 24, .inl (fun _ => 0))), (q2, .inl (Y 0, 24, .inl (fun _ => 0))), (q3, .inl (Y 0, 24, .inl (fun _ => 0))), (q4, .inl (Y 0, 24, .inl (fun _ => 0))), (q5, .inl (Y 2, 24, .inl (fun _ => 0))), (q6, .inl (Y 0, 96, .inl (fun _ => 0))), (q7, .inl (Y 0, 30, .inl (fun _ => 0))), (q8, .inl (Y 2, 576, .inl (fun _ => 0)))]) := hD
  refine lv_aload_n hx hb dR_init_69 rfl (lv_at hl 0 rfl) ?_
  refine lv_bipush (v := 24) hx hb dR_init_70 (by decide) ?_
  refine q_newa (N' := 24) (a0 := (24, .inl (fun _ => 0))) .int hx hb (hts _ uw191) rfl hK 0 rfl (fun _ hh => hh) hP hD hS hA (fun _ => rfl) (by decide) (by decide) (by decide) (Nat.le_of_ble_eq_true rfl) (Nat.le_of_ble_eq_true rfl) dR_init_72 (fun q9 H hP hD hS => ?_)
  have hP : va_P D vwCl ([(h0, .inr (3, [.int 0, .ref q1, .ref q2, .ref q3, .ref q4, .ref q5, .ref q6, .int 0, .ref q7, .ref q8, .null, .null, .null])), (q1, .inl (Y 0, 24, .inl (fun _ => 0))), (q2, .inl (Y 0, 24, .inl (fun _ => 0))), (q3, .inl (Y 0, 24, .inl (fun _ => 0))), (q4, .inl (Y 0, 24, .inl (fun _ => 0))), (q5, .inl (Y 2, 24, .inl (fun _ => 0))), (q6, .inl (Y 0, 96, .inl (fun _ => 0))), (q7, .inl (Y 0, 30, .inl (fun _ => 0))), (q8, .inl (Y 2, 576, .inl (fun _ => 0))), (q9, .inl (Y 0, 24, .inl (fun _ => 0)))]) H := hP
  have hD : va_D A ([(h0, .inr (3, [.int 0, .ref q1, .ref q2, .ref q3, .ref q4, .ref q5, .ref q6, .int 0, .ref q7, .ref q8, .null, .null, .null])), (q1, .inl (Y 0, 24, .inl (fun _ => 0))), (q2, .inl (Y 0, 24, .inl (fun _ => 0))), (q3, .inl (Y 0, 24, .inl (fun _ => 0))), (q4, .inl (Y 0, 24, .inl (fun _ => 0))), (q5, .inl (Y 2, 24, .inl (fun _ => 0))), (q6, .inl (Y 0, 96, .inl (fun _ => 0))), (q7, .inl (Y 0, 30, .inl (fun _ => 0))), (q8, .inl (Y 2, 576, .inl (fun _ => 0))), (q9, .inl (Y 0, 24, .inl (fun _ => 0)))]) := hD
  refine va_putF (D := D) (ci := 3) (v := .ref q9) (ty := .array .int) (C := RR) (T := TR) (N := 13) hx hb hts hinR tyR tyR_ok nmR hown hK hP hD hS 0 rfl rfl 10 (by decide) (hts _ uw216) (fun _ h9 => h9) rfl hin9 rfl (by decide +kernel) rfl rfl (Nat.le_of_ble_eq_true rfl) dR_init_74 (fun H locs hP hD hS => ?_)
  have hP : va_P D vwCl ([(h0, .inr (3, [.int 0, .ref q1, .ref q2, .ref q3, .ref q4, .ref q5, .ref q6, .int 0, .ref q7, .ref q8, .ref q9, .null, .null])), (q1, .inl (Y 0, 24, .inl (fun _ => 0))), (q2, .inl (Y 0, 24, .inl (fun _ => 0))), (q3, .inl (Y 0, 24, .inl (fun _ => 0))), (q4, .inl (Y 0, 24, .inl (fun _ => 0))), (q5, .inl (Y 2, 24, .inl (fun _ => 0))), (q6, .inl (Y 0, 96, .inl (fun _ => 0))), (q7, .inl (Y 0, 30, .inl (fun _ => 0))), (q8, .inl (Y 2, 576, .inl (fun _ => 0))), (q9, .inl (Y 0, 24, .inl (fun _ => 0)))]) H := hP
  have hD : va_D A ([(h0, .inr (3, [.int 0, .ref q1, .ref q2, .ref q3, .ref q4, .ref q5, .ref q6, .int 0, .ref q7, .ref q8, .ref q9, .null, .null])), (q1, .inl (Y 0, 24, .inl (fun _ => 0))), (q2, .inl (Y 0, 24, .inl (fun _ => 0))), (q3, .inl (Y 0, 24, .inl (fun _ => 0))), (q4, .inl (Y 0, 24, .inl (fun _ => 0))), (q5, .inl (Y 2, 24, .inl (fun _ => 0))), (q6, .inl (Y 0, 96, .inl (fun _ => 0))), (q7, .inl (Y 0, 30, .inl (fun _ => 0))), (q8, .inl (Y 2, 576, .inl (fun _ => 0))), (q9, .inl (Y 0, 24, .inl (fun _ => 0)))]) := hD
  refine lv_aload_n hx hb dR_init_77 rfl (lv_at hl 0 rfl) ?_
  refine lv_bipush (v := 24) hx hb dR_init_78 (by decide) ?_
  refine q_newa (N' := 24) (a0 := (24, .inl (fun _ => 0))) .int hx hb (hts _ uw191) rfl hK 0 rfl (fun _ hh => hh) hP hD hS hA (fun _ => rfl) (by decide) (by decide) (by decide) (Nat.le_of_ble_eq_true rfl) (Nat.le_of_ble_eq_true rfl) dR_init_80 (fun q10 H hP hD hS => ?_)
  have hP : va_P D vwCl ([(h0, .inr (3, [.int 0, .ref q1, .ref q2, .ref q3, .ref q4, .ref q5, .ref q6, .int 0, .ref q7, .ref q8, .ref q9, .null, .null])), (q1, .inl (Y 0, 24, .inl (fun _ => 0))), (q2, .inl (Y 0, 24, .inl (fun _ => 0))), (q3, .inl (Y 0, 24, .inl (fun _ => 0))), (q4, .inl (Y 0, 24, .inl (fun _ => 0))), (q5, .inl (Y 2, 24, .inl (fun _ => 0))), (q6, .inl (Y 0, 96, .inl (fun _ => 0))), (q7, .inl (Y 0, 30, .inl (fun _ => 0))), (q8, .inl (Y 2, 576, .inl (fun _ => 0))), (q9, .inl (Y 0, 24, .inl (fun _ => 0))), (q10, .inl (Y 0, 24, .inl (fun _ => 0)))]) H := hP
  have hD : va_D A ([(h0, .inr (3, [.int 0, .ref q1, .ref q2, .ref q3, .ref q4, .ref q5, .ref q6, .int 0, .ref q7, .ref q8, .ref q9, .null, .null])), (q1, .inl (Y 0, 24, .inl (fun _ => 0))), (q2, .inl (Y 0, 24, .inl (fun _ => 0))), (q3, .inl (Y 0, 24, .inl (fun _ => 0))), (q4, .inl (Y 0, 24, .inl (fun _ => 0))), (q5, .inl (Y 2, 24, .inl (fun _ => 0))), (q6, .inl (Y 0, 96, .inl (fun _ => 0))), (q7, .inl (Y 0, 30, .inl (fun _ => 0))), (q8, .inl (Y 2, 576, .inl (fun _ => 0))), (q9, .inl (Y 0, 24, .inl (fun _ => 0))), (q10, .inl (Y 0, 24, .inl (fun _ => 0)))]) := hD
  refine va_putF (D := D) (ci := 3) (v := .ref q10) (ty := .array .int) (C := RR) (T := TR) (N := 13) hx hb hts hinR tyR tyR_ok nmR hown hK hP hD hS 0 rfl rfl 11 (by decide) (hts _ uw219) (fun _ h9 => h9) rfl hin9 rfl (by decide +kernel) rfl rfl (Nat.le_of_ble_eq_true rfl) dR_init_82 (fun H locs hP hD hS => ?_)
  have hP : va_P D vwCl ([(h0, .inr (3, [.int 0, .ref q1, .ref q2, .ref q3, .ref q4, .ref q5, .ref q6, .int 0, .ref q7, .ref q8, .ref q9, .ref q10, .null])), (q1, .inl (Y 0, 24, .inl (fun _ => 0))), (q2, .inl (Y 0, 24, .inl (fun _ => 0))), (q3, .inl (Y 0, 24, .inl (fun _ => 0))), (q4, .inl (Y 0, 24, .inl (fun _ => 0))), (q5, .inl (Y 2, 24, .inl (fun _ => 0))), (q6, .inl (Y 0, 96, .inl (fun _ => 0))), (q7, .inl (Y 0, 30, .inl (fun _ => 0))), (q8, .inl (Y 2, 576, .inl (fun _ => 0))), (q9, .inl (Y 0, 24, .inl (fun _ => 0))), (q10, .inl (Y 0, 24, .inl (fun _ => 0)))]) H := hP
  have hD : va_D A ([(h0, .inr (3, [.int 0, .ref q1, .ref q2, .ref q3, .ref q4, .ref q5, .ref q6, .int 0, .ref q7, .ref q8, .ref q9, .ref q10, .null])), (q1, .inl (Y 0, 24, .inl (fun _ => 0))), (q2, .inl (Y 0, 24, .inl (fun _ => 0))), (q3, .inl (Y 0, 24, .inl (fun _ => 0))), (q4, .inl (Y 0, 24, .inl (fun _ => 0))), (q5, .inl (Y 2, 24, .inl (fun _ => 0))), (q6, .inl (Y 0, 96, .inl (fun _ => 0))), (q7, .inl (Y 0, 30, .inl (fun _ => 0))), (q8, .inl (Y 2, 576, .inl (fun _ => 0))), (q9, .inl (Y 0, 24, .inl (fun _ => 0))), (q10, .inl (Y 0, 24, .inl (fun _ => 0)))]) := hD
  refine lv_aload_n hx hb dR_init_85 rfl (lv_at hl 0 rfl) ?_
  refine lv_sipush (v := 576) hx hb dR_init_86 (by decide) ?_
  refine q_newa (N' := 576) (a0 := (576, .inr (.inl (fun _ => 0)))) .long hx hb (hts _ uw192) rfl hK 1 rfl (fun _ hh => hh) hP hD hS hA (fun _ => rfl) (by decide) (by decide) (by decide) (Nat.le_of_ble_eq_true rfl) (Nat.le_of_ble_eq_true rfl) dR_init_89 (fun q11 H hP hD hS => ?_)
  have hP : va_P D vwCl ([(h0, .inr (3, [.int 0, .ref q1, .ref q2, .ref q3, .ref q4, .ref q5, .ref q6, .int 0, .ref q7, .ref q8, .ref q9, .ref q10, .null])), (q1, .inl (Y 0, 24, .inl (fun _ => 0))), (q2, .inl (Y 0, 24, .inl (fun _ => 0))), (q3, .inl (Y 0, 24, .inl (fun _ => 0))), (q4, .inl (Y 0, 24, .inl (fun _ => 0))), (q5, .inl (Y 2, 24, .inl (fun _ => 0))), (q6, .inl (Y 0, 96, .inl (fun _ => 0))), (q7, .inl (Y 0, 30, .inl (fun _ => 0))), (q8, .inl (Y 2, 576, .inl (fun _ => 0))), (q9, .inl (Y 0, 24, .inl (fun _ => 0))), (q10, .inl (Y 0, 24, .inl (fun _ => 0))), (q11, .inl (Y 1, 576, .inr (.inl (fun _ => 0))))]) H := hP
  have hD : va_D A ([(h0, .inr (3, [.int 0, .ref q1, .ref q2, .ref q3, .ref q4, .ref q5, .ref q6, .int 0, .ref q7, .ref q8, .ref q9, .ref q10, .null])), (q1, .inl (Y 0, 24, .inl (fun _ => 0))), (q2, .inl (Y 0, 24, .inl (fun _ => 0))), (q3, .inl (Y 0, 24, .inl (fun _ => 0))), (q4, .inl (Y 0, 24, .inl (fun _ => 0))), (q5, .inl (Y 2, 24, .inl (fun _ => 0))), (q6, .inl (Y 0, 96, .inl (fun _ => 0))), (q7, .inl (Y 0, 30, .inl (fun _ => 0))), (q8, .inl (Y 2, 576, .inl (fun _ => 0))), (q9, .inl (Y 0, 24, .inl (fun _ => 0))), (q10, .inl (Y 0, 24, .inl (fun _ => 0))), (q11, .inl (Y 1, 576, .inr (.inl (fun _ => 0))))]) := hD
  refine va_putF (D := D) (ci := 3) (v := .ref q11) (ty := .array .long) (C := RR) (T := TR) (N := 13) hx hb hts hinR tyR tyR_ok nmR hown hK hP hD hS 0 rfl rfl 12 (by decide) (hts _ uw214) (fun _ h9 => h9) rfl hin9 rfl (by decide +kernel) rfl rfl (Nat.le_of_ble_eq_true rfl) dR_init_91 (fun H locs hP hD hS => ?_)
  have hP : va_P D vwCl ([(h0, .inr (3, [.int 0, .ref q1, .ref q2, .ref q3, .ref q4, .ref q5, .ref q6, .int 0, .ref q7, .ref q8, .ref q9, .ref q10, .ref q11])), (q1, .inl (Y 0, 24, .inl (fun _ => 0))), (q2, .inl (Y 0, 24, .inl (fun _ => 0))), (q3, .inl (Y 0, 24, .inl (fun _ => 0))), (q4, .inl (Y 0, 24, .inl (fun _ => 0))), (q5, .inl (Y 2, 24, .inl (fun _ => 0))), (q6, .inl (Y 0, 96, .inl (fun _ => 0))), (q7, .inl (Y 0, 30, .inl (fun _ => 0))), (q8, .inl (Y 2, 576, .inl (fun _ => 0))), (q9, .inl (Y 0, 24, .inl (fun _ => 0))), (q10, .inl (Y 0, 24, .inl (fun _ => 0))), (q11, .inl (Y 1, 576, .inr (.inl (fun _ => 0))))]) H := hP
  have hD : va_D A ([(h0, .inr (3, [.int 0, .ref q1, .ref q2, .ref q3, .ref q4, .ref q5, .ref q6, .int 0, .ref q7, .ref q8, .ref q9, .ref q10, .ref q11])), (q1, .inl (Y 0, 24, .inl (fun _ => 0))), (q2, .inl (Y 0, 24, .inl (fun _ => 0))), (q3, .inl (Y 0, 24, .inl (fun _ => 0))), (q4, .inl (Y 0, 24, .inl (fun _ => 0))), (q5, .inl (Y 2, 24, .inl (fun _ => 0))), (q6, .inl (Y 0, 96, .inl (fun _ => 0))), (q7, .inl (Y 0, 30, .inl (fun _ => 0))), (q8, .inl (Y 2, 576, .inl (fun _ => 0))), (q9, .inl (Y 0, 24, .inl (fun _ => 0))), (q10, .inl (Y 0, 24, .inl (fun _ => 0))), (q11, .inl (Y 1, 576, .inr (.inl (fun _ => 0))))]) := hD
  suffices hh : W p l e rmR_init s m ([.ref h0, .int a1]).toArray below meth c H locs 11 1446 (zMc (fun h S => wR Y h n S) D vwCl (tysK Y) A h0 below ([.ref h0, .int a1]).toArray s 11 1446 (fR_init n)) (F0 m 116 ls [.int (nI n), .ref h0]) by
    refine lv_aload_n hx hb dR_init_94 rfl (lv_at hl 0 rfl) ?_
    refine lv_iload_n hx hb dR_init_95 rfl (lv_at hl 1 rfl) ?_
    refine lv_iconst (v := 1) hx hb dR_init_96 (by decide) ?_
    by_cases c97 : (1 : Int32) ≤ a1
    · rw [if_pos c97] at en
      refine lv_icmp_ge (tgt := 104) hx hb dR_init_97 (by decide) (fun _ => ?_) (fun z => absurd c97 z)
      refine lv_iload_n hx hb dR_init_104 rfl (lv_at hl 1 rfl) ?_
      refine lv_bipush (v := 24) hx hb dR_init_105 (by decide) ?_
      by_cases c107 : a1 ≤ 24
      · rw [if_pos c107] at en
        refine lv_icmp_le (tgt := 115) hx hb dR_init_107 (by decide) (fun _ => ?_) (fun z => absurd c107 z)
        refine lv_iload_n hx hb dR_init_115 rfl (lv_at hl 1 rfl) ?_
        exact W.eq (g2 := F0 m 116 ls [.int (nI n), .ref h0]) (by rw [en]) hh
      · rw [if_neg c107] at en
        refine lv_icmp_le (tgt := 115) hx hb dR_init_107 (by decide) (fun z => absurd z c107) (fun _ => ?_)
        refine lv_bipush (v := 24) hx hb dR_init_110 (by decide) ?_
        refine lv_goto (tgt := 116) hx hb dR_init_112 (by decide) ?_
        exact W.eq (g2 := F0 m 116 ls [.int (nI n), .ref h0]) (by rw [← en]) hh
    · rw [if_neg c97] at en
      refine lv_icmp_ge (tgt := 104) hx hb dR_init_97 (by decide) (fun z => absurd z c97) (fun _ => ?_)
      refine lv_iconst (v := 1) hx hb dR_init_100 (by decide) ?_
      refine lv_goto (tgt := 116) hx hb dR_init_101 (by decide) ?_
      exact W.eq (g2 := F0 m 116 ls [.int (nI n), .ref h0]) (by rw [← en]) hh
  refine va_putF (D := D) (ci := 3) (v := .int (nI n)) (ty := .int) (C := RR) (T := TR) (N := 13) hx hb hts hinR tyR tyR_ok nmR hown hK hP hD hS 0 rfl rfl 0 (by decide) (hts _ uw209) (fun _ h9 => h9) rfl hin9 rfl (by decide +kernel) rfl rfl (Nat.le_of_ble_eq_true rfl) dR_init_116 (fun H locs hP hD hS => ?_)
  have hP : va_P D vwCl (wR Y (fun i => [h0, q1, q2, q3, q4, q5, q6, q7, q8, q9, q10, q11].getD i 0) n ((fun _ => 0), (fun _ => 0), (fun _ => 0), (fun _ => 0), (fun _ => 0), (fun _ => 0), 0, (fun _ => 0), (fun _ => 0), (fun _ => 0), (fun _ => 0), (fun _ => 0))) H := hP
  have hD : va_D A (wR Y (fun i => [h0, q1, q2, q3, q4, q5, q6, q7, q8, q9, q10, q11].getD i 0) n ((fun _ => 0), (fun _ => 0), (fun _ => 0), (fun _ => 0), (fun _ => 0), (fun _ => 0), 0, (fun _ => 0), (fun _ => 0), (fun _ => 0), (fun _ => 0), (fun _ => 0))) := hD
  refine lv_iconst (v := 0) hx hb dR_init_119 (by decide) ?_
  refine lv_istore_n (lv' := [(2, .int 0), (0, .ref h0), (1, .int a1)]) hx hb dR_init_120 rfl hl (by decide) rfl (fun ls hl => ?_)
  refine tR_init_121 (h := (fun i => [h0, q1, q2, q3, q4, q5, q6, q7, q8, q9, q10, q11].getD i 0)) hn hA ⟨hx, hb, hml, hown, hts⟩ hr hlocks hK 24 0 ((fun _ => 0), (fun _ => 0), (fun _ => 0), (fun _ => 0), (fun _ => 0), (fun _ => 0), 0, (fun _ => 0), (fun _ => 0), (fun _ => 0), (fun _ => 0), (fun _ => 0)) (by omega) _ _ hP hD hS ls (lv_sub hl [1, 0] rfl) (fun H locs hP hD hS ls hl => ?_)
  have hl : lv_has ls 3 [(0, .ref h0)] := hl
  refine lv_iconst (v := 0) hx hb dR_init_154 (by decide) ?_
  refine lv_istore_n (lv' := [(2, .int 0), (0, .ref h0)]) hx hb dR_init_155 rfl hl (by decide) rfl (fun ls hl => ?_)
  refine tR_init_156 (h := (fun i => [h0, q1, q2, q3, q4, q5, q6, q7, q8, q9, q10, q11].getD i 0)) hn hA ⟨hx, hb, hml, hown, hts⟩ hr hlocks hK 96 0 (fR_init_121 n 24 0 ((fun _ => 0), (fun _ => 0), (fun _ => 0), (fun _ => 0), (fun _ => 0), (fun _ => 0), 0, (fun _ => 0), (fun _ => 0), (fun _ => 0), (fun _ => 0), (fun _ => 0))) (by omega) _ _ hP hD hS ls (lv_sub hl [1, 0] rfl) (fun H locs hP hD hS ls hl => ?_)
  exact zMc_ret (S := vR) (w := fun h S => wR Y h n S) (hh := (fun i => [h0, q1, q2, q3, q4, q5, q6, q7, q8, q9, q10, q11].getD i 0)) (u := (fR_init_156 n 96 0 (fR_init_121 n 24 0 ((fun _ => 0), (fun _ => 0), (fun _ => 0), (fun _ => 0), (fun _ => 0), (fun _ => 0), 0, (fun _ => 0), (fun _ => 0), (fun _ => 0), (fun _ => 0), (fun _ => 0))))) rfl hx hb hr hlocks hK hP hD hS dR_init_175
