-- ===== the derived layer: judgements that carry the answer, calls of methods that change nothing, calls that change their world =====
section QA
variable {p : Program} {l : Launch} {e : Env} {R : Room} {s : State} {m : MethodId} {args : Array Value} {below : List Frame} {meth : Method} {c : Code} {H : Heap} {locs : List Loc} {cells slots : Nat} {Q : State → Prop}
variable {cc : ByteArray} {pc nL : Nat} {ls : Array Slot} {st0 rest : List Value} {D : va_G} {cl : List vw_C} {A : Nat → Prop} {tys : List (ClassId × FieldType)} {ws wc wr : va_W}
/-- a method that changes nothing answers v -/
def zI (below : List Frame) (args : Array Value) (s : State) (v : Int32) : State → Prop := MQ below (vp_Si (fun r => r = v)) args s 0 0 (fun _ => False)
def zL (below : List Frame) (args : Array Value) (s : State) (v : Int64) : State → Prop := MQ below (vp_Sl (fun r => r = v)) args s 0 0 (fun _ => False)
/-- the world behind a method -/
def zAt {S : Type} (D : va_G) (cl : List vw_C) (tys : List (ClassId × FieldType)) (A : Nat → Prop) (w : S → va_W) (u : S) (t : State) : Prop := va_P D cl (w u) t.heap ∧ va_K D cl tys t ∧ va_D A (w u)
def zMi {S : Type} (D : va_G) (cl : List vw_C) (tys : List (ClassId × FieldType)) (A : Nat → Prop) (w : S → va_W) (below : List Frame) (args : Array Value) (s : State) (mc ms : Nat) (v : Int32 × S) : State → Prop := MQ below (va_Qi (fun r u => (r, u) = v) (zAt D cl tys A w) A) args s mc ms A
def zMl {S : Type} (D : va_G) (cl : List vw_C) (tys : List (ClassId × FieldType)) (A : Nat → Prop) (w : S → va_W) (below : List Frame) (args : Array Value) (s : State) (mc ms : Nat) (v : Int64 × S) : State → Prop := MQ below (va_Ql (fun r u => (r, u) = v) (zAt D cl tys A w) A) args s mc ms A
def zMv {S : Type} (D : va_G) (cl : List vw_C) (tys : List (ClassId × FieldType)) (A : Nat → Prop) (w : S → va_W) (below : List Frame) (args : Array Value) (s : State) (mc ms : Nat) (v : S) : State → Prop := MQ below (va_Qv (fun u => u = v) (zAt D cl tys A w) A) args s mc ms A
theorem zif {V : Type} {Z : V → State → Prop} {C : Prop} {dd : Decidable C} {v1 v2 : V} {g : JFrame} (h1 : C → W p l e R s m args below meth c H locs cells slots (Z v1) g) (h2 : ¬ C → W p l e R s m args below meth c H locs cells slots (Z v2) g) : W p l e R s m args below meth c H locs cells slots (Z (@ite V C dd v1 v2)) g := by
  by_cases h : C
  · rw [if_pos h]; exact h1 h
  · rw [if_neg h]; exact h2 h
theorem zeq {V : Type} {Z : V → State → Prop} {v1 v2 : V} {g : JFrame} (h : v1 = v2) (k : W p l e R s m args below meth c H locs cells slots (Z v2) g) : W p l e R s m args below meth c H locs cells slots (Z v1) g := by rw [h]; exact k
-- answers of methods that change nothing
theorem zI_ret (hx : p.tables.exec = Jvm.exec) (hb : c.code = cc) (hr : meth.sig.returnType = some .int) (hlocks : meth.locks = false) {v : Int32} (hdg : decode cc pc = .ok (.ireturn, 1)) : W p l e R s m args below meth c s.heap [] 0 0 (zI below args s v) (F0 m pc ls [.int v]) :=
  W.iret hx hb hr (fun _ ht _ => ⟨v, rfl, rfl, ht⟩) (fun _ h => by cases h) hdg hlocks
theorem zB_ret (hx : p.tables.exec = Jvm.exec) (hb : c.code = cc) (hr : meth.sig.returnType = some .boolean) (hlocks : meth.locks = false) {v : Int32} (hn : v = 0 ∨ v = 1) (hdg : decode cc pc = .ok (.ireturn, 1)) : W p l e R s m args below meth c s.heap [] 0 0 (zI below args s v) (F0 m pc ls [.int v]) :=
  W.zret hx hb hr (by rcases hn with h | h <;> subst h <;> decide) (fun _ ht _ => ⟨v, rfl, rfl, ht⟩) (fun _ h => by cases h) hdg hlocks
theorem zL_ret (hx : p.tables.exec = Jvm.exec) (hb : c.code = cc) (hr : meth.sig.returnType = some .long) (hlocks : meth.locks = false) {v : Int64} (hdg : decode cc pc = .ok (.lreturn, 1)) : W p l e R s m args below meth c s.heap [] 0 0 (zL below args s v) (F0 m pc ls [.long v]) :=
  W.lret hx hb hr (fun _ ht _ => ⟨v, rfl, rfl, ht⟩) (fun _ h => by cases h) hdg hlocks
-- answers of methods that change their world
theorem zMi_ret {S : Type} {w : S → va_W} {u : S} (hx : p.tables.exec = Jvm.exec) (hb : c.code = cc) (hr : meth.sig.returnType = some .int) (hlocks : meth.locks = false) (hK : va_K D cl tys s) (hP : va_P D cl (w u) H) (hD : va_D A (w u)) (hS : va_S A s.heap H locs) {v : Int32} (hdg : decode cc pc = .ok (.ireturn, 1)) : W p l e R s m args below meth c H locs cells slots (zMi D cl tys A w below args s cells slots (v, u)) (F0 m pc ls [.int v]) :=
  W.iret hx hb hr (fun t ht hW => ⟨⟨v, u, rfl, rfl, by rw [ht]; exact hP, va_K.moved hW.alike hK, hD⟩, hS.F ht⟩) hS.2.2 hdg hlocks
theorem zMb_ret {S : Type} {w : S → va_W} {u : S} (hx : p.tables.exec = Jvm.exec) (hb : c.code = cc) (hr : meth.sig.returnType = some .boolean) (hlocks : meth.locks = false) (hK : va_K D cl tys s) (hP : va_P D cl (w u) H) (hD : va_D A (w u)) (hS : va_S A s.heap H locs) {v : Int32} (hn : v = 0 ∨ v = 1) (hdg : decode cc pc = .ok (.ireturn, 1)) : W p l e R s m args below meth c H locs cells slots (zMi D cl tys A w below args s cells slots (v, u)) (F0 m pc ls [.int v]) :=
  W.zret hx hb hr (by rcases hn with h | h <;> subst h <;> decide) (fun t ht hW => ⟨⟨v, u, rfl, rfl, by rw [ht]; exact hP, va_K.moved hW.alike hK, hD⟩, hS.F ht⟩) hS.2.2 hdg hlocks
theorem zMl_ret {S : Type} {w : S → va_W} {u : S} (hx : p.tables.exec = Jvm.exec) (hb : c.code = cc) (hr : meth.sig.returnType = some .long) (hlocks : meth.locks = false) (hK : va_K D cl tys s) (hP : va_P D cl (w u) H) (hD : va_D A (w u)) (hS : va_S A s.heap H locs) {v : Int64} (hdg : decode cc pc = .ok (.lreturn, 1)) : W p l e R s m args below meth c H locs cells slots (zMl D cl tys A w below args s cells slots (v, u)) (F0 m pc ls [.long v]) :=
  W.lret hx hb hr (fun t ht hW => ⟨⟨v, u, rfl, rfl, by rw [ht]; exact hP, va_K.moved hW.alike hK, hD⟩, hS.F ht⟩) hS.2.2 hdg hlocks
theorem zMv_ret {S : Type} {w : S → va_W} {u : S} (hx : p.tables.exec = Jvm.exec) (hb : c.code = cc) (hr : meth.sig.returnType = none) (hlocks : meth.locks = false) (hK : va_K D cl tys s) (hP : va_P D cl (w u) H) (hD : va_D A (w u)) (hS : va_S A s.heap H locs) (hdg : decode cc pc = .ok (.return_, 1)) : W p l e R s m args below meth c H locs cells slots (zMv D cl tys A w below args s cells slots u) (F0 m pc ls []) :=
  W.vret hx hb hr (fun t ht hW => ⟨⟨u, rfl, rfl, by rw [ht]; exact hP, va_K.moved hW.alike hK, hD⟩, hS.F ht⟩) hS.2.2 hdg hlocks
/-- the start of a method that changes nothing, and of one that changes its world -/
def zPre (D : va_G) (cl : List vw_C) (tys : List (ClassId × FieldType)) (wc : va_W) (U : State) : Prop := va_P D cl wc U.heap ∧ va_K D cl tys U
def zPreM (D : va_G) (cl : List vw_C) (tys : List (ClassId × FieldType)) (wc : va_W) (sz : Nat) (U : State) : Prop := U.heap.size = sz ∧ va_P D cl wc U.heap ∧ va_K D cl tys U ∧ va_D (fun _ => True) wc
theorem zPre_blind {As : List Value} : FrameBlind (va_Pc As (zPre D cl tys wc)) := fun a U g mk q => ⟨q.1, q.2.1, va_K.moved (u := U) (U := U.calling g mk a) (Vm.Alike.refl U.vm) q.2.2⟩
theorem zPreM_blind {As : List Value} {sz : Nat} : FrameBlind (va_Pc As (zPreM D cl tys wc sz)) := fun a U g mk q => ⟨q.1, q.2.1, q.2.2.1, va_K.moved (u := U) (U := U.calling g mk a) (Vm.Alike.refl U.vm) q.2.2.2.1, q.2.2.2.2⟩
theorem zPre_at {As : List Value} (hK : va_K D cl tys s) (hP : va_P D cl wc H) : ∀ U : State, U.heap = H → s.WarmedH U.vm → va_Pc As (zPre D cl tys wc) As.toArray U := fun U hU hW => ⟨rfl, by rw [hU]; exact hP, va_K.moved hW.alike hK⟩
theorem zPreM_at {As : List Value} (hK : va_K D cl tys s) (hP : va_P D cl wc H) (hD : va_D A wc) : ∀ U : State, U.heap = H → s.WarmedH U.vm → va_Pc As (zPreM D cl tys wc H.size) As.toArray U := fun U hU hW => ⟨rfl, by rw [hU], by rw [hU]; exact hP, va_K.moved hW.alike hK, hD.weaken (fun _ _ _ _ => trivial)⟩
variable {y : MethodName} {bytes : ByteArray} {maxL n index : Nat} {ret : Option FieldType} {wsy : List Cond} {rm : Room} {Ts : List Cond} {own C : String} {b : Addr} {As : List Value}
-- calls of methods that change nothing: virtual, static; int, long
theorem qVi {v : Int32} (CF : CallFix p m c cc nL s args Ts own) (hM : Met l y wsy rm (va_Pc (.ref b :: As) (zPre D cl tys wc)) (vp_Si (fun r => r = v)) 0 0 (fun _ => False)) (cw : CallW R s args own C index y bytes maxL ret wsy rm 0 0 n) (hK : va_K D cl tys s) (hP : va_P D cl wc H) (hrc : ∃ cell : Cell, H[b]? = some cell ∧ cell.vm.isStatics = false ∧ s.vm.findClass C = some cell.cls) (hn : As.length = n) (hsz : ls.size = nL) (hst : st0 = As.reverse ++ .ref b :: rest) (hW : (rest.map fun v => v.category).sum ≤ 8) (hdg : decode cc pc = .ok (.invokevirtual index, 3)) (hf : cells ≤ R.cells ∧ slots ≤ R.slots)
    (kk : W p l e R s m args below meth c H locs cells slots Q (F0 m (pc + 3) ls (.int v :: rest))) : W p l e R s m args below meth c H locs cells slots Q (F0 m pc ls st0) :=
  vp_callSi (W.runV CF hM cw ⟨zPre_blind, hrc, zPre_at hK hP⟩ rfl hn hsz hst (lv_room hW) hdg hf) (fun r hr => by subst hr; exact kk)
theorem qVl {v : Int64} (CF : CallFix p m c cc nL s args Ts own) (hM : Met l y wsy rm (va_Pc (.ref b :: As) (zPre D cl tys wc)) (vp_Sl (fun r => r = v)) 0 0 (fun _ => False)) (cw : CallW R s args own C index y bytes maxL ret wsy rm 0 0 n) (hK : va_K D cl tys s) (hP : va_P D cl wc H) (hrc : ∃ cell : Cell, H[b]? = some cell ∧ cell.vm.isStatics = false ∧ s.vm.findClass C = some cell.cls) (hn : As.length = n) (hsz : ls.size = nL) (hst : st0 = As.reverse ++ .ref b :: rest) (hW : (rest.map fun v => v.category).sum ≤ 8) (hdg : decode cc pc = .ok (.invokevirtual index, 3)) (hf : cells ≤ R.cells ∧ slots ≤ R.slots)
    (kk : W p l e R s m args below meth c H locs cells slots Q (F0 m (pc + 3) ls (.long v :: rest))) : W p l e R s m args below meth c H locs cells slots Q (F0 m pc ls st0) :=
  vp_callSl (W.runV CF hM cw ⟨zPre_blind, hrc, zPre_at hK hP⟩ rfl hn hsz hst (lv_room hW) hdg hf) (fun r hr => by subst hr; exact kk)
theorem qSi {v : Int32} (CF : CallFix p m c cc nL s args Ts own) (hM : Met l y wsy rm (va_Pc As (zPre D cl tys wc)) (vp_Si (fun r => r = v)) 0 0 (fun _ => False)) (cw : CallB R s args own index y bytes maxL ret wsy rm 0 0 n ∧ (Cond.static y).before args s = true) (hK : va_K D cl tys s) (hP : va_P D cl wc H) (hn : As.length = n) (hsz : ls.size = nL) (hst : st0 = As.reverse ++ rest) (hW : (rest.map fun v => v.category).sum ≤ 8) (hdg : decode cc pc = .ok (.invokestatic index, 3)) (hf : cells ≤ R.cells ∧ slots ≤ R.slots)
    (kk : W p l e R s m args below meth c H locs cells slots Q (F0 m (pc + 3) ls (.int v :: rest))) : W p l e R s m args below meth c H locs cells slots Q (F0 m pc ls st0) :=
  vp_callSi (W.runS CF hM cw ⟨zPre_blind, zPre_at hK hP⟩ rfl hn hsz hst (lv_room hW) hdg hf) (fun r hr => by subst hr; exact kk)
theorem qSl {v : Int64} (CF : CallFix p m c cc nL s args Ts own) (hM : Met l y wsy rm (va_Pc As (zPre D cl tys wc)) (vp_Sl (fun r => r = v)) 0 0 (fun _ => False)) (cw : CallB R s args own index y bytes maxL ret wsy rm 0 0 n ∧ (Cond.static y).before args s = true) (hK : va_K D cl tys s) (hP : va_P D cl wc H) (hn : As.length = n) (hsz : ls.size = nL) (hst : st0 = As.reverse ++ rest) (hW : (rest.map fun v => v.category).sum ≤ 8) (hdg : decode cc pc = .ok (.invokestatic index, 3)) (hf : cells ≤ R.cells ∧ slots ≤ R.slots)
    (kk : W p l e R s m args below meth c H locs cells slots Q (F0 m (pc + 3) ls (.long v :: rest))) : W p l e R s m args below meth c H locs cells slots Q (F0 m pc ls st0) :=
  vp_callSl (W.runS CF hM cw ⟨zPre_blind, zPre_at hK hP⟩ rfl hn hsz hst (lv_room hW) hdg hf) (fun r hr => by subst hr; exact kk)
-- calls of methods that change their world wc, a part of ours: behind the call ours is ws' (the rest and the new part, put in order by isB)
theorem zjoin {S : Type} {w : S → va_W} {u : S} {t : State} {H1 : Heap} {ws' : va_W} (isC isR isB : List Nat) (hP : va_P D cl ws H) (hD : va_D A ws) (hC : isC.map (fun i => ws[i]?) = wc.map some) (hR : isR.map (fun i => ws[i]?) = wr.map some) (hn : va_nd isR = true) (hdis : ∀ i ∈ isR, i ∉ isC) (hB : isB.map (fun i => (wr ++ w u)[i]?) = ws'.map some) (hnB : va_nd isB = true)
    (hk : ∀ q : Nat, q < H.size → ¬ va_A wc H.size q → H1[q]? = H[q]?) (hF : ∀ q, va_A wc H.size q → A q) (ht : t.heap = H1) (hz : zAt D cl tys (va_A wc H.size) w u t) : va_P D cl ws' H1 ∧ va_D A ws' := by
  obtain ⟨h1, -, h3⟩ := hz
  rw [ht] at h1
  obtain ⟨g1, g2⟩ := va_join hP hD isC isR hC hR hn hdis hk hF h1 h3
  refine ⟨fun k q hq => ?_, g2.sub isB hnB hB⟩
  have h4 : (isB.map (fun i => (wr ++ w u)[i]?))[k]? = some (some q) := by rw [hB, List.getElem?_map, hq]; rfl
  rw [List.getElem?_map] at h4
  cases hi : isB[k]? with
  | none => rw [hi] at h4; cases h4
  | some i => rw [hi] at h4; exact g1 i q (Option.some.inj h4)
theorem zsub {wc : va_W} (isC : List Nat) (hP : va_P D cl ws H) (hC : isC.map (fun i => ws[i]?) = wc.map some) : va_P D cl wc H := by
  intro k q hq
  have h4 : (isC.map (fun i => ws[i]?))[k]? = some (some q) := by rw [hC, List.getElem?_map, hq]; rfl
  rw [List.getElem?_map] at h4
  cases hi : isC[k]? with
  | none => rw [hi] at h4; cases h4
  | some i => rw [hi] at h4; exact hP i q (Option.some.inj h4)
theorem zfree (hD : va_D A ws) (hS : va_S A s.heap H locs) (hA : ∀ q : Nat, s.heap.size ≤ q → A q) : ∀ q, va_A ws H.size q → A q := by
  intro q h
  rcases h with ⟨k, e, h⟩ | h
  · exact hD.2 k (q, e) h
  · exact hA q (Nat.le_trans hS.1 h)
theorem qNVi {S : Type} {w : S → va_W} {v : Int32 × S} {mc ms : Nat} (CF : CallFix p m c cc nL s args Ts own) (hM : Met l y wsy rm (va_Pc (.ref b :: As) (zPreM D cl tys ws H.size)) (va_Qi (fun r u => (r, u) = v) (zAt D cl tys (va_A ws H.size) w) (va_A ws H.size)) mc ms (va_A ws H.size)) (cw : CallW R s args own C index y bytes maxL ret wsy rm mc ms n) (hK : va_K D cl tys s) (hP : va_P D cl ws H) (hD : va_D A ws) (hS : va_S A s.heap H locs) (hA : ∀ q : Nat, s.heap.size ≤ q → A q) (hrc : ∃ cell : Cell, H[b]? = some cell ∧ cell.vm.isStatics = false ∧ s.vm.findClass C = some cell.cls) (hn : As.length = n) (hsz : ls.size = nL) (hst : st0 = As.reverse ++ .ref b :: rest) (hW : (rest.map fun v => v.category).sum ≤ 8) (hdg : decode cc pc = .ok (.invokevirtual index, 3)) (hf : cells + mc ≤ R.cells ∧ slots + ms ≤ R.slots)
    (kk : ∀ (H1 : Heap) (locs1 : List Loc), va_P D cl (w v.2) H1 → va_D A (w v.2) → va_S A s.heap H1 locs1 → W p l e R s m args below meth c H1 locs1 (cells + mc) (slots + ms) Q (F0 m (pc + 3) ls (.int v.1 :: rest))) : W p l e R s m args below meth c H locs cells slots Q (F0 m pc ls st0) :=
  va_calli (va_runV CF hM cw ⟨zPreM_blind, hrc, zPreM_at hK hP hD⟩ rfl hn hsz hst (lv_room hW) hdg hf) hS (fun q _ h => zfree hD hS hA q h) (zfree hD hS hA) (fun r u t H1 locs1 ht hvm hw hB1 hz1 hk1 hS1 => by
    subst hw
    obtain ⟨g1, -, g3⟩ := hB1
    rw [ht] at g1
    exact kk H1 locs1 g1 (g3.weaken (fun _ q _ h => zfree hD hS hA q.1 h)) hS1)
theorem qMVi {S : Type} {w : S → va_W} {v : Int32 × S} {ws' : va_W} {mc ms : Nat} (CF : CallFix p m c cc nL s args Ts own) (hM : Met l y wsy rm (va_Pc (.ref b :: As) (zPreM D cl tys wc H.size)) (va_Qi (fun r u => (r, u) = v) (zAt D cl tys (va_A wc H.size) w) (va_A wc H.size)) mc ms (va_A wc H.size)) (cw : CallW R s args own C index y bytes maxL ret wsy rm mc ms n) (hK : va_K D cl tys s) (hP : va_P D cl ws H) (hD : va_D A ws) (hS : va_S A s.heap H locs) (hA : ∀ q : Nat, s.heap.size ≤ q → A q) (isC isR isB : List Nat) (hC : isC.map (fun i => ws[i]?) = wc.map some) (hR : isR.map (fun i => ws[i]?) = wr.map some) (hnC : va_nd isC = true) (hnR : va_nd isR = true) (hdis : ∀ i ∈ isR, i ∉ isC) (hB : isB.map (fun i => (wr ++ w v.2)[i]?) = ws'.map some) (hnB : va_nd isB = true) (hrc : ∃ cell : Cell, H[b]? = some cell ∧ cell.vm.isStatics = false ∧ s.vm.findClass C = some cell.cls) (hn : As.length = n) (hsz : ls.size = nL) (hst : st0 = As.reverse ++ .ref b :: rest) (hW : (rest.map fun v => v.category).sum ≤ 8) (hdg : decode cc pc = .ok (.invokevirtual index, 3)) (hf : cells + mc ≤ R.cells ∧ slots + ms ≤ R.slots)
    (kk : ∀ (H1 : Heap) (locs1 : List Loc), va_P D cl ws' H1 → va_D A ws' → va_S A s.heap H1 locs1 → W p l e R s m args below meth c H1 locs1 (cells + mc) (slots + ms) Q (F0 m (pc + 3) ls (.int v.1 :: rest))) : W p l e R s m args below meth c H locs cells slots Q (F0 m pc ls st0) :=
  have hFc := va_free (wc := wc) hD hS hA isC hC
  va_calli (va_runV CF hM cw ⟨zPreM_blind, hrc, zPreM_at hK (zsub isC hP hC) (hD.sub isC hnC hC)⟩ rfl hn hsz hst (lv_room hW) hdg hf) hS (fun q _ h => hFc q h) hFc (fun r u t H1 locs1 ht hvm hw hB1 hz1 hk1 hS1 => by
    subst hw
    obtain ⟨g1, g2⟩ := zjoin isC isR isB hP hD hC hR hnR hdis hB hnB hk1 hFc ht hB1
    exact kk H1 locs1 g1 g2 hS1)
theorem qNVl {S : Type} {w : S → va_W} {v : Int64 × S} {mc ms : Nat} (CF : CallFix p m c cc nL s args Ts own) (hM : Met l y wsy rm (va_Pc (.ref b :: As) (zPreM D cl tys ws H.size)) (va_Ql (fun r u => (r, u) = v) (zAt D cl tys (va_A ws H.size) w) (va_A ws H.size)) mc ms (va_A ws H.size)) (cw : CallW R s args own C index y bytes maxL ret wsy rm mc ms n) (hK : va_K D cl tys s) (hP : va_P D cl ws H) (hD : va_D A ws) (hS : va_S A s.heap H locs) (hA : ∀ q : Nat, s.heap.size ≤ q → A q) (hrc : ∃ cell : Cell, H[b]? = some cell ∧ cell.vm.isStatics = false ∧ s.vm.findClass C = some cell.cls) (hn : As.length = n) (hsz : ls.size = nL) (hst : st0 = As.reverse ++ .ref b :: rest) (hW : (rest.map fun v => v.category).sum ≤ 8) (hdg : decode cc pc = .ok (.invokevirtual index, 3)) (hf : cells + mc ≤ R.cells ∧ slots + ms ≤ R.slots)
    (kk : ∀ (H1 : Heap) (locs1 : List Loc), va_P D cl (w v.2) H1 → va_D A (w v.2) → va_S A s.heap H1 locs1 → W p l e R s m args below meth c H1 locs1 (cells + mc) (slots + ms) Q (F0 m (pc + 3) ls (.long v.1 :: rest))) : W p l e R s m args below meth c H locs cells slots Q (F0 m pc ls st0) :=
  va_calll (va_runV CF hM cw ⟨zPreM_blind, hrc, zPreM_at hK hP hD⟩ rfl hn hsz hst (lv_room hW) hdg hf) hS (fun q _ h => zfree hD hS hA q h) (zfree hD hS hA) (fun r u t H1 locs1 ht hvm hw hB1 hz1 hk1 hS1 => by
    subst hw
    obtain ⟨g1, -, g3⟩ := hB1
    rw [ht] at g1
    exact kk H1 locs1 g1 (g3.weaken (fun _ q _ h => zfree hD hS hA q.1 h)) hS1)
theorem qMVl {S : Type} {w : S → va_W} {v : Int64 × S} {ws' : va_W} {mc ms : Nat} (CF : CallFix p m c cc nL s args Ts own) (hM : Met l y wsy rm (va_Pc (.ref b :: As) (zPreM D cl tys wc H.size)) (va_Ql (fun r u => (r, u) = v) (zAt D cl tys (va_A wc H.size) w) (va_A wc H.size)) mc ms (va_A wc H.size)) (cw : CallW R s args own C index y bytes maxL ret wsy rm mc ms n) (hK : va_K D cl tys s) (hP : va_P D cl ws H) (hD : va_D A ws) (hS : va_S A s.heap H locs) (hA : ∀ q : Nat, s.heap.size ≤ q → A q) (isC isR isB : List Nat) (hC : isC.map (fun i => ws[i]?) = wc.map some) (hR : isR.map (fun i => ws[i]?) = wr.map some) (hnC : va_nd isC = true) (hnR : va_nd isR = true) (hdis : ∀ i ∈ isR, i ∉ isC) (hB : isB.map (fun i => (wr ++ w v.2)[i]?) = ws'.map some) (hnB : va_nd isB = true) (hrc : ∃ cell : Cell, H[b]? = some cell ∧ cell.vm.isStatics = false ∧ s.vm.findClass C = some cell.cls) (hn : As.length = n) (hsz : ls.size = nL) (hst : st0 = As.reverse ++ .ref b :: rest) (hW : (rest.map fun v => v.category).sum ≤ 8) (hdg : decode cc pc = .ok (.invokevirtual index, 3)) (hf : cells + mc ≤ R.cells ∧ slots + ms ≤ R.slots)
    (kk : ∀ (H1 : Heap) (locs1 : List Loc), va_P D cl ws' H1 → va_D A ws' → va_S A s.heap H1 locs1 → W p l e R s m args below meth c H1 locs1 (cells + mc) (slots + ms) Q (F0 m (pc + 3) ls (.long v.1 :: rest))) : W p l e R s m args below meth c H locs cells slots Q (F0 m pc ls st0) :=
  have hFc := va_free (wc := wc) hD hS hA isC hC
  va_calll (va_runV CF hM cw ⟨zPreM_blind, hrc, zPreM_at hK (zsub isC hP hC) (hD.sub isC hnC hC)⟩ rfl hn hsz hst (lv_room hW) hdg hf) hS (fun q _ h => hFc q h) hFc (fun r u t H1 locs1 ht hvm hw hB1 hz1 hk1 hS1 => by
    subst hw
    obtain ⟨g1, g2⟩ := zjoin isC isR isB hP hD hC hR hnR hdis hB hnB hk1 hFc ht hB1
    exact kk H1 locs1 g1 g2 hS1)
theorem qNVv {S : Type} {w : S → va_W} {v : S} {mc ms : Nat} (CF : CallFix p m c cc nL s args Ts own) (hM : Met l y wsy rm (va_Pc (.ref b :: As) (zPreM D cl tys ws H.size)) (va_Qv (fun u => u = v) (zAt D cl tys (va_A ws H.size) w) (va_A ws H.size)) mc ms (va_A ws H.size)) (cw : CallW R s args own C index y bytes maxL ret wsy rm mc ms n) (hK : va_K D cl tys s) (hP : va_P D cl ws H) (hD : va_D A ws) (hS : va_S A s.heap H locs) (hA : ∀ q : Nat, s.heap.size ≤ q → A q) (hrc : ∃ cell : Cell, H[b]? = some cell ∧ cell.vm.isStatics = false ∧ s.vm.findClass C = some cell.cls) (hn : As.length = n) (hsz : ls.size = nL) (hst : st0 = As.reverse ++ .ref b :: rest) (hW : (rest.map fun v => v.category).sum ≤ 8) (hdg : decode cc pc = .ok (.invokevirtual index, 3)) (hf : cells + mc ≤ R.cells ∧ slots + ms ≤ R.slots)
    (kk : ∀ (H1 : Heap) (locs1 : List Loc), va_P D cl (w v) H1 → va_D A (w v) → va_S A s.heap H1 locs1 → W p l e R s m args below meth c H1 locs1 (cells + mc) (slots + ms) Q (F0 m (pc + 3) ls rest)) : W p l e R s m args below meth c H locs cells slots Q (F0 m pc ls st0) :=
  va_callv (va_runV CF hM cw ⟨zPreM_blind, hrc, zPreM_at hK hP hD⟩ rfl hn hsz hst (lv_room hW) hdg hf) hS (fun q _ h => zfree hD hS hA q h) (zfree hD hS hA) (fun u t H1 locs1 ht hvm hw hB1 hz1 hk1 hS1 => by
    subst hw
    obtain ⟨g1, -, g3⟩ := hB1
    rw [ht] at g1
    exact kk H1 locs1 g1 (g3.weaken (fun _ q _ h => zfree hD hS hA q.1 h)) hS1)
theorem qMVv {S : Type} {w : S → va_W} {v : S} {ws' : va_W} {mc ms : Nat} (CF : CallFix p m c cc nL s args Ts own) (hM : Met l y wsy rm (va_Pc (.ref b :: As) (zPreM D cl tys wc H.size)) (va_Qv (fun u => u = v) (zAt D cl tys (va_A wc H.size) w) (va_A wc H.size)) mc ms (va_A wc H.size)) (cw : CallW R s args own C index y bytes maxL ret wsy rm mc ms n) (hK : va_K D cl tys s) (hP : va_P D cl ws H) (hD : va_D A ws) (hS : va_S A s.heap H locs) (hA : ∀ q : Nat, s.heap.size ≤ q → A q) (isC isR isB : List Nat) (hC : isC.map (fun i => ws[i]?) = wc.map some) (hR : isR.map (fun i => ws[i]?) = wr.map some) (hnC : va_nd isC = true) (hnR : va_nd isR = true) (hdis : ∀ i ∈ isR, i ∉ isC) (hB : isB.map (fun i => (wr ++ w v)[i]?) = ws'.map some) (hnB : va_nd isB = true) (hrc : ∃ cell : Cell, H[b]? = some cell ∧ cell.vm.isStatics = false ∧ s.vm.findClass C = some cell.cls) (hn : As.length = n) (hsz : ls.size = nL) (hst : st0 = As.reverse ++ .ref b :: rest) (hW : (rest.map fun v => v.category).sum ≤ 8) (hdg : decode cc pc = .ok (.invokevirtual index, 3)) (hf : cells + mc ≤ R.cells ∧ slots + ms ≤ R.slots)
    (kk : ∀ (H1 : Heap) (locs1 : List Loc), va_P D cl ws' H1 → va_D A ws' → va_S A s.heap H1 locs1 → W p l e R s m args below meth c H1 locs1 (cells + mc) (slots + ms) Q (F0 m (pc + 3) ls rest)) : W p l e R s m args below meth c H locs cells slots Q (F0 m pc ls st0) :=
  have hFc := va_free (wc := wc) hD hS hA isC hC
  va_callv (va_runV CF hM cw ⟨zPreM_blind, hrc, zPreM_at hK (zsub isC hP hC) (hD.sub isC hnC hC)⟩ rfl hn hsz hst (lv_room hW) hdg hf) hS (fun q _ h => hFc q h) hFc (fun u t H1 locs1 ht hvm hw hB1 hz1 hk1 hS1 => by
    subst hw
    obtain ⟨g1, g2⟩ := zjoin isC isR isB hP hD hC hR hnR hdis hB hnB hk1 hFc ht hB1
    exact kk H1 locs1 g1 g2 hS1)
theorem qNSi {S : Type} {w : S → va_W} {v : Int32 × S} {mc ms : Nat} (CF : CallFix p m c cc nL s args Ts own) (hM : Met l y wsy rm (va_Pc As (zPreM D cl tys ws H.size)) (va_Qi (fun r u => (r, u) = v) (zAt D cl tys (va_A ws H.size) w) (va_A ws H.size)) mc ms (va_A ws H.size)) (cw : CallB R s args own index y bytes maxL ret wsy rm mc ms n ∧ (Cond.static y).before args s = true) (hK : va_K D cl tys s) (hP : va_P D cl ws H) (hD : va_D A ws) (hS : va_S A s.heap H locs) (hA : ∀ q : Nat, s.heap.size ≤ q → A q) (hn : As.length = n) (hsz : ls.size = nL) (hst : st0 = As.reverse ++ rest) (hW : (rest.map fun v => v.category).sum ≤ 8) (hdg : decode cc pc = .ok (.invokestatic index, 3)) (hf : cells + mc ≤ R.cells ∧ slots + ms ≤ R.slots)
    (kk : ∀ (H1 : Heap) (locs1 : List Loc), va_P D cl (w v.2) H1 → va_D A (w v.2) → va_S A s.heap H1 locs1 → W p l e R s m args below meth c H1 locs1 (cells + mc) (slots + ms) Q (F0 m (pc + 3) ls (.int v.1 :: rest))) : W p l e R s m args below meth c H locs cells slots Q (F0 m pc ls st0) :=
  va_calli (va_runS CF hM cw ⟨zPreM_blind, zPreM_at hK hP hD⟩ rfl hn hsz hst (lv_room hW) hdg hf) hS (fun q _ h => zfree hD hS hA q h) (zfree hD hS hA) (fun r u t H1 locs1 ht hvm hw hB1 hz1 hk1 hS1 => by
    subst hw
    obtain ⟨g1, -, g3⟩ := hB1
    rw [ht] at g1
    exact kk H1 locs1 g1 (g3.weaken (fun _ q _ h => zfree hD hS hA q.1 h)) hS1)
theorem qMSi {S : Type} {w : S → va_W} {v : Int32 × S} {ws' : va_W} {mc ms : Nat} (CF : CallFix p m c cc nL s args Ts own) (hM : Met l y wsy rm (va_Pc As (zPreM D cl tys wc H.size)) (va_Qi (fun r u => (r, u) = v) (zAt D cl tys (va_A wc H.size) w) (va_A wc H.size)) mc ms (va_A wc H.size)) (cw : CallB R s args own index y bytes maxL ret wsy rm mc ms n ∧ (Cond.static y).before args s = true) (hK : va_K D cl tys s) (hP : va_P D cl ws H) (hD : va_D A ws) (hS : va_S A s.heap H locs) (hA : ∀ q : Nat, s.heap.size ≤ q → A q) (isC isR isB : List Nat) (hC : isC.map (fun i => ws[i]?) = wc.map some) (hR : isR.map (fun i => ws[i]?) = wr.map some) (hnC : va_nd isC = true) (hnR : va_nd isR = true) (hdis : ∀ i ∈ isR, i ∉ isC) (hB : isB.map (fun i => (wr ++ w v.2)[i]?) = ws'.map some) (hnB : va_nd isB = true) (hn : As.length = n) (hsz : ls.size = nL) (hst : st0 = As.reverse ++ rest) (hW : (rest.map fun v => v.category).sum ≤ 8) (hdg : decode cc pc = .ok (.invokestatic index, 3)) (hf : cells + mc ≤ R.cells ∧ slots + ms ≤ R.slots)
    (kk : ∀ (H1 : Heap) (locs1 : List Loc), va_P D cl ws' H1 → va_D A ws' → va_S A s.heap H1 locs1 → W p l e R s m args below meth c H1 locs1 (cells + mc) (slots + ms) Q (F0 m (pc + 3) ls (.int v.1 :: rest))) : W p l e R s m args below meth c H locs cells slots Q (F0 m pc ls st0) :=
  have hFc := va_free (wc := wc) hD hS hA isC hC
  va_calli (va_runS CF hM cw ⟨zPreM_blind, zPreM_at hK (zsub isC hP hC) (hD.sub isC hnC hC)⟩ rfl hn hsz hst (lv_room hW) hdg hf) hS (fun q _ h => hFc q h) hFc (fun r u t H1 locs1 ht hvm hw hB1 hz1 hk1 hS1 => by
    subst hw
    obtain ⟨g1, g2⟩ := zjoin isC isR isB hP hD hC hR hnR hdis hB hnB hk1 hFc ht hB1
    exact kk H1 locs1 g1 g2 hS1)
theorem qNSl {S : Type} {w : S → va_W} {v : Int64 × S} {mc ms : Nat} (CF : CallFix p m c cc nL s args Ts own) (hM : Met l y wsy rm (va_Pc As (zPreM D cl tys ws H.size)) (va_Ql (fun r u => (r, u) = v) (zAt D cl tys (va_A ws H.size) w) (va_A ws H.size)) mc ms (va_A ws H.size)) (cw : CallB R s args own index y bytes maxL ret wsy rm mc ms n ∧ (Cond.static y).before args s = true) (hK : va_K D cl tys s) (hP : va_P D cl ws H) (hD : va_D A ws) (hS : va_S A s.heap H locs) (hA : ∀ q : Nat, s.heap.size ≤ q → A q) (hn : As.length = n) (hsz : ls.size = nL) (hst : st0 = As.reverse ++ rest) (hW : (rest.map fun v => v.category).sum ≤ 8) (hdg : decode cc pc = .ok (.invokestatic index, 3)) (hf : cells + mc ≤ R.cells ∧ slots + ms ≤ R.slots)
    (kk : ∀ (H1 : Heap) (locs1 : List Loc), va_P D cl (w v.2) H1 → va_D A (w v.2) → va_S A s.heap H1 locs1 → W p l e R s m args below meth c H1 locs1 (cells + mc) (slots + ms) Q (F0 m (pc + 3) ls (.long v.1 :: rest))) : W p l e R s m args below meth c H locs cells slots Q (F0 m pc ls st0) :=
  va_calll (va_runS CF hM cw ⟨zPreM_blind, zPreM_at hK hP hD⟩ rfl hn hsz hst (lv_room hW) hdg hf) hS (fun q _ h => zfree hD hS hA q h) (zfree hD hS hA) (fun r u t H1 locs1 ht hvm hw hB1 hz1 hk1 hS1 => by
    subst hw
    obtain ⟨g1, -, g3⟩ := hB1
    rw [ht] at g1
    exact kk H1 locs1 g1 (g3.weaken (fun _ q _ h => zfree hD hS hA q.1 h)) hS1)
theorem qMSl {S : Type} {w : S → va_W} {v : Int64 × S} {ws' : va_W} {mc ms : Nat} (CF : CallFix p m c cc nL s args Ts own) (hM : Met l y wsy rm (va_Pc As (zPreM D cl tys wc H.size)) (va_Ql (fun r u => (r, u) = v) (zAt D cl tys (va_A wc H.size) w) (va_A wc H.size)) mc ms (va_A wc H.size)) (cw : CallB R s args own index y bytes maxL ret wsy rm mc ms n ∧ (Cond.static y).before args s = true) (hK : va_K D cl tys s) (hP : va_P D cl ws H) (hD : va_D A ws) (hS : va_S A s.heap H locs) (hA : ∀ q : Nat, s.heap.size ≤ q → A q) (isC isR isB : List Nat) (hC : isC.map (fun i => ws[i]?) = wc.map some) (hR : isR.map (fun i => ws[i]?) = wr.map some) (hnC : va_nd isC = true) (hnR : va_nd isR = true) (hdis : ∀ i ∈ isR, i ∉ isC) (hB : isB.map (fun i => (wr ++ w v.2)[i]?) = ws'.map some) (hnB : va_nd isB = true) (hn : As.length = n) (hsz : ls.size = nL) (hst : st0 = As.reverse ++ rest) (hW : (rest.map fun v => v.category).sum ≤ 8) (hdg : decode cc pc = .ok (.invokestatic index, 3)) (hf : cells + mc ≤ R.cells ∧ slots + ms ≤ R.slots)
    (kk : ∀ (H1 : Heap) (locs1 : List Loc), va_P D cl ws' H1 → va_D A ws' → va_S A s.heap H1 locs1 → W p l e R s m args below meth c H1 locs1 (cells + mc) (slots + ms) Q (F0 m (pc + 3) ls (.long v.1 :: rest))) : W p l e R s m args below meth c H locs cells slots Q (F0 m pc ls st0) :=
  have hFc := va_free (wc := wc) hD hS hA isC hC
  va_calll (va_runS CF hM cw ⟨zPreM_blind, zPreM_at hK (zsub isC hP hC) (hD.sub isC hnC hC)⟩ rfl hn hsz hst (lv_room hW) hdg hf) hS (fun q _ h => hFc q h) hFc (fun r u t H1 locs1 ht hvm hw hB1 hz1 hk1 hS1 => by
    subst hw
    obtain ⟨g1, g2⟩ := zjoin isC isR isB hP hD hC hR hnR hdis hB hnB hk1 hFc ht hB1
    exact kk H1 locs1 g1 g2 hS1)
theorem qNSv {S : Type} {w : S → va_W} {v : S} {mc ms : Nat} (CF : CallFix p m c cc nL s args Ts own) (hM : Met l y wsy rm (va_Pc As (zPreM D cl tys ws H.size)) (va_Qv (fun u => u = v) (zAt D cl tys (va_A ws H.size) w) (va_A ws H.size)) mc ms (va_A ws H.size)) (cw : CallB R s args own index y bytes maxL ret wsy rm mc ms n ∧ (Cond.static y).before args s = true) (hK : va_K D cl tys s) (hP : va_P D cl ws H) (hD : va_D A ws) (hS : va_S A s.heap H locs) (hA : ∀ q : Nat, s.heap.size ≤ q → A q) (hn : As.length = n) (hsz : ls.size = nL) (hst : st0 = As.reverse ++ rest) (hW : (rest.map fun v => v.category).sum ≤ 8) (hdg : decode cc pc = .ok (.invokestatic index, 3)) (hf : cells + mc ≤ R.cells ∧ slots + ms ≤ R.slots)
    (kk : ∀ (H1 : Heap) (locs1 : List Loc), va_P D cl (w v) H1 → va_D A (w v) → va_S A s.heap H1 locs1 → W p l e R s m args below meth c H1 locs1 (cells + mc) (slots + ms) Q (F0 m (pc + 3) ls rest)) : W p l e R s m args below meth c H locs cells slots Q (F0 m pc ls st0) :=
  va_callv (va_runS CF hM cw ⟨zPreM_blind, zPreM_at hK hP hD⟩ rfl hn hsz hst (lv_room hW) hdg hf) hS (fun q _ h => zfree hD hS hA q h) (zfree hD hS hA) (fun u t H1 locs1 ht hvm hw hB1 hz1 hk1 hS1 => by
    subst hw
    obtain ⟨g1, -, g3⟩ := hB1
    rw [ht] at g1
    exact kk H1 locs1 g1 (g3.weaken (fun _ q _ h => zfree hD hS hA q.1 h)) hS1)
theorem qMSv {S : Type} {w : S → va_W} {v : S} {ws' : va_W} {mc ms : Nat} (CF : CallFix p m c cc nL s args Ts own) (hM : Met l y wsy rm (va_Pc As (zPreM D cl tys wc H.size)) (va_Qv (fun u => u = v) (zAt D cl tys (va_A wc H.size) w) (va_A wc H.size)) mc ms (va_A wc H.size)) (cw : CallB R s args own index y bytes maxL ret wsy rm mc ms n ∧ (Cond.static y).before args s = true) (hK : va_K D cl tys s) (hP : va_P D cl ws H) (hD : va_D A ws) (hS : va_S A s.heap H locs) (hA : ∀ q : Nat, s.heap.size ≤ q → A q) (isC isR isB : List Nat) (hC : isC.map (fun i => ws[i]?) = wc.map some) (hR : isR.map (fun i => ws[i]?) = wr.map some) (hnC : va_nd isC = true) (hnR : va_nd isR = true) (hdis : ∀ i ∈ isR, i ∉ isC) (hB : isB.map (fun i => (wr ++ w v)[i]?) = ws'.map some) (hnB : va_nd isB = true) (hn : As.length = n) (hsz : ls.size = nL) (hst : st0 = As.reverse ++ rest) (hW : (rest.map fun v => v.category).sum ≤ 8) (hdg : decode cc pc = .ok (.invokestatic index, 3)) (hf : cells + mc ≤ R.cells ∧ slots + ms ≤ R.slots)
    (kk : ∀ (H1 : Heap) (locs1 : List Loc), va_P D cl ws' H1 → va_D A ws' → va_S A s.heap H1 locs1 → W p l e R s m args below meth c H1 locs1 (cells + mc) (slots + ms) Q (F0 m (pc + 3) ls rest)) : W p l e R s m args below meth c H locs cells slots Q (F0 m pc ls st0) :=
  have hFc := va_free (wc := wc) hD hS hA isC hC
  va_callv (va_runS CF hM cw ⟨zPreM_blind, zPreM_at hK (zsub isC hP hC) (hD.sub isC hnC hC)⟩ rfl hn hsz hst (lv_room hW) hdg hf) hS (fun q _ h => hFc q h) hFc (fun u t H1 locs1 ht hvm hw hB1 hz1 hk1 hS1 => by
    subst hw
    obtain ⟨g1, g2⟩ := zjoin isC isR isB hP hD hC hR hnR hdis hB hnB hk1 hFc ht hB1
    exact kk H1 locs1 g1 g2 hS1)
theorem qNIv {S : Type} {w : S → va_W} {v : S} {mc ms : Nat} (CF : CallFix p m c cc nL s args Ts own) (hM : Met l y wsy rm (va_Pc (.ref b :: As) (zPreM D cl tys ws H.size)) (va_Qv (fun u => u = v) (zAt D cl tys (va_A ws H.size) w) (va_A ws H.size)) mc ms (va_A ws H.size)) (cw : CallB R s args own index y bytes maxL none wsy rm mc ms n ∧ y.name = "<init>" ∧ (Cond.instanceMethod y).before args s = true) (hK : va_K D cl tys s) (hP : va_P D cl ws H) (hD : va_D A ws) (hS : va_S A s.heap H locs) (hA : ∀ q : Nat, s.heap.size ≤ q → A q) (hn : As.length = n) (hsz : ls.size = nL) (hst : st0 = As.reverse ++ .ref b :: rest) (hW : (rest.map fun v => v.category).sum ≤ 8) (hdg : decode cc pc = .ok (.invokespecial index, 3)) (hf : cells + mc ≤ R.cells ∧ slots + ms ≤ R.slots)
    (kk : ∀ (H1 : Heap) (locs1 : List Loc), va_P D cl (w v) H1 → va_D A (w v) → va_S A s.heap H1 locs1 → W p l e R s m args below meth c H1 locs1 (cells + mc) (slots + ms) Q (F0 m (pc + 3) ls rest)) : W p l e R s m args below meth c H locs cells slots Q (F0 m pc ls st0) :=
  va_callv (va_runI CF hM cw ⟨zPreM_blind, zPreM_at hK hP hD⟩ rfl hn hsz hst (lv_room hW) hdg hf) hS (fun q _ h => zfree hD hS hA q h) (zfree hD hS hA) (fun u t H1 locs1 ht hvm hw hB1 hz1 hk1 hS1 => by
    subst hw
    obtain ⟨g1, -, g3⟩ := hB1
    rw [ht] at g1
    exact kk H1 locs1 g1 (g3.weaken (fun _ q _ h => zfree hD hS hA q.1 h)) hS1)
theorem qMIv {S : Type} {w : S → va_W} {v : S} {ws' : va_W} {mc ms : Nat} (CF : CallFix p m c cc nL s args Ts own) (hM : Met l y wsy rm (va_Pc (.ref b :: As) (zPreM D cl tys wc H.size)) (va_Qv (fun u => u = v) (zAt D cl tys (va_A wc H.size) w) (va_A wc H.size)) mc ms (va_A wc H.size)) (cw : CallB R s args own index y bytes maxL none wsy rm mc ms n ∧ y.name = "<init>" ∧ (Cond.instanceMethod y).before args s = true) (hK : va_K D cl tys s) (hP : va_P D cl ws H) (hD : va_D A ws) (hS : va_S A s.heap H locs) (hA : ∀ q : Nat, s.heap.size ≤ q → A q) (isC isR isB : List Nat) (hC : isC.map (fun i => ws[i]?) = wc.map some) (hR : isR.map (fun i => ws[i]?) = wr.map some) (hnC : va_nd isC = true) (hnR : va_nd isR = true) (hdis : ∀ i ∈ isR, i ∉ isC) (hB : isB.map (fun i => (wr ++ w v)[i]?) = ws'.map some) (hnB : va_nd isB = true) (hn : As.length = n) (hsz : ls.size = nL) (hst : st0 = As.reverse ++ .ref b :: rest) (hW : (rest.map fun v => v.category).sum ≤ 8) (hdg : decode cc pc = .ok (.invokespecial index, 3)) (hf : cells + mc ≤ R.cells ∧ slots + ms ≤ R.slots)
    (kk : ∀ (H1 : Heap) (locs1 : List Loc), va_P D cl ws' H1 → va_D A ws' → va_S A s.heap H1 locs1 → W p l e R s m args below meth c H1 locs1 (cells + mc) (slots + ms) Q (F0 m (pc + 3) ls rest)) : W p l e R s m args below meth c H locs cells slots Q (F0 m pc ls st0) :=
  have hFc := va_free (wc := wc) hD hS hA isC hC
  va_callv (va_runI CF hM cw ⟨zPreM_blind, zPreM_at hK (zsub isC hP hC) (hD.sub isC hnC hC)⟩ rfl hn hsz hst (lv_room hW) hdg hf) hS (fun q _ h => hFc q h) hFc (fun u t H1 locs1 ht hvm hw hB1 hz1 hk1 hS1 => by
    subst hw
    obtain ⟨g1, g2⟩ := zjoin isC isR isB hP hD hC hR hnR hdis hB hnB hk1 hFc ht hB1
    exact kk H1 locs1 g1 g2 hS1)
/-- a new array of a type whose class the tables' words name -/
theorem q_newa {H0 : Heap} {ty : FieldType} (atype : ArrayType) (hx : p.tables.exec = Jvm.exec) (hb : c.code = cc) (harr : (Cond.arrayClass (newarray.typeOf atype)).before args s = true) (hty : newarray.typeOf atype = ty) (hK : va_K D cl tys s) (t0 : Nat) {cY : ClassId} (ht : tys[t0]? = some (cY, ty)) (hra : ∀ c : ClassId, va_RA s c ty → s.vm.findClass ("[" ++ ty.toString) = some c) (hP : va_P D cl ws H) (hD : va_D A ws) (hS : va_S A H0 H locs) (hA : ∀ q, H0.size ≤ q → A q)
    {n : Int32} {N' : Nat} {a0 : vp_A} (ha : ∀ cA : ClassId, vp_cell cA a0 = arrV cA N' (fun _ => defaultValue ty)) (hn : ¬ n < 0) (hN : n.toNatClampNeg = N') (hbytes : N' * componentBytes ty ≤ 536870912) (hcells : cells + 1 ≤ R.cells) (hslots : slots + N' ≤ R.slots) (hdg : decode cc pc = .ok (.newarray atype, 2))
    (kk : ∀ (q : Nat) (H1 : Heap), va_P D cl (ws ++ [(q, .inl (cY, a0))]) H1 → va_D A (ws ++ [(q, .inl (cY, a0))]) → va_S A H0 H1 locs → W p l e R s m args below meth c H1 locs (cells + 1) (slots + N') Q (F0 m (pc + 2) ls (.ref q :: rest))) : W p l e R s m args below meth c H locs cells slots Q (F0 m pc ls (.int n :: rest)) :=
  va_newa hx hb harr hty hK hP hD hS hA ha hn hN hbytes hcells hslots hdg (fun q cA H1 hK' hP' hD' hS' => by
    have e1 := hra cA (hK'.2 tys.length (cA, ty) (by simp)).2
    have e2 := hra cY (hK.2 t0 _ ht).2
    have e3 : cA = cY := Option.some.inj (e1.symm.trans e2)
    subst e3
    exact kk q H1 hP' hD' hS')
/-- a constructor's end: its own cell is the first address, what it made the others -/
def zMc {S : Type} (w : (Nat → Nat) → S → va_W) (D : va_G) (cl : List vw_C) (tys : List (ClassId × FieldType)) (A : Nat → Prop) (h0 : Nat) (below : List Frame) (args : Array Value) (s : State) (mc ms : Nat) (v : S) : State → Prop := MQ below (va_Qv (fun u : (Nat → Nat) × S => u.1 0 = h0 ∧ u.2 = v) (zAt D cl tys A (fun u => w u.1 u.2)) A) args s mc ms A
theorem zMc_ret {S : Type} {w : (Nat → Nat) → S → va_W} {hh : Nat → Nat} {u : S} {h0 : Nat} (h00 : hh 0 = h0) (hx : p.tables.exec = Jvm.exec) (hb : c.code = cc) (hr : meth.sig.returnType = none) (hlocks : meth.locks = false) (hK : va_K D cl tys s) (hP : va_P D cl (w hh u) H) (hD : va_D A (w hh u)) (hS : va_S A s.heap H locs) (hdg : decode cc pc = .ok (.return_, 1)) : W p l e R s m args below meth c H locs cells slots (zMc w D cl tys A h0 below args s cells slots u) (F0 m pc ls []) :=
  W.vret hx hb hr (fun t ht hW => ⟨⟨(hh, u), rfl, ⟨h00, rfl⟩, by rw [ht]; exact hP, va_K.moved hW.alike hK, hD⟩, hS.F ht⟩) hS.2.2 hdg hlocks
theorem qMIc {S : Type} {w : (Nat → Nat) → S → va_W} {v : S} {mc ms : Nat} (CF : CallFix p m c cc nL s args Ts own) (hM : Met l y wsy rm (va_Pc (.ref b :: As) (zPreM D cl tys wc H.size)) (va_Qv (fun u : (Nat → Nat) × S => u.1 0 = b ∧ u.2 = v) (zAt D cl tys (va_A wc H.size) (fun u => w u.1 u.2)) (va_A wc H.size)) mc ms (va_A wc H.size)) (cw : CallB R s args own index y bytes maxL none wsy rm mc ms n ∧ y.name = "<init>" ∧ (Cond.instanceMethod y).before args s = true) (hK : va_K D cl tys s) (hP : va_P D cl ws H) (hD : va_D A ws) (hS : va_S A s.heap H locs) (hA : ∀ q : Nat, s.heap.size ≤ q → A q) (isC isR : List Nat) (hC : isC.map (fun i => ws[i]?) = wc.map some) (hR : isR.map (fun i => ws[i]?) = wr.map some) (hnC : va_nd isC = true) (hnR : va_nd isR = true) (hdis : ∀ i ∈ isR, i ∉ isC) (hn : As.length = n) (hsz : ls.size = nL) (hst : st0 = As.reverse ++ .ref b :: rest) (hW : (rest.map fun v => v.category).sum ≤ 8) (hdg : decode cc pc = .ok (.invokespecial index, 3)) (hf : cells + mc ≤ R.cells ∧ slots + ms ≤ R.slots)
    (kk : ∀ (hh : Nat → Nat), hh 0 = b → ∀ (H1 : Heap) (locs1 : List Loc), va_P D cl (wr ++ w hh v) H1 → va_D A (wr ++ w hh v) → va_S A s.heap H1 locs1 → W p l e R s m args below meth c H1 locs1 (cells + mc) (slots + ms) Q (F0 m (pc + 3) ls rest)) : W p l e R s m args below meth c H locs cells slots Q (F0 m pc ls st0) :=
  have hFc := va_free (wc := wc) hD hS hA isC hC
  va_callv (va_runI CF hM cw ⟨zPreM_blind, zPreM_at hK (zsub isC hP hC) (hD.sub isC hnC hC)⟩ rfl hn hsz hst (lv_room hW) hdg hf) hS (fun q _ h => hFc q h) hFc (fun u t H1 locs1 ht hvm hw hB1 hz1 hk1 hS1 => by
    obtain ⟨hh, uS⟩ := u
    obtain ⟨hw1, hw2⟩ := hw
    obtain ⟨g1, -, g3⟩ := hB1
    dsimp only at hw1 hw2 g1 g3
    subst hw2
    rw [ht] at g1
    obtain ⟨j1, j2⟩ := va_join hP hD isC isR hC hR hnR hdis hk1 hFc g1 g3
    exact kk hh hw1 H1 locs1 j1 j2 hS1)
end QA
theorem lp_ge {i n : Nat} (h : i + 0 = n) : nI n ≤ nI i := by
  subst h
  exact Int32.le_refl _
theorem lp_lt {i k n : Nat} (h : i + (k + 1) = n) (hn : n < 2 ^ 31) : ¬ nI n ≤ nI i := nI_ge (by omega) hn
theorem sw_i {x k : Int32} {a : Int} (h : ¬ x = k) (hk : k.toInt = a) : ¬ x.toInt = a := fun q => h (Int32.toInt_inj.mp (by rw [hk]; exact q))
theorem sw_out6 {x : Int32} (h0 : ¬ x = 0) (h1 : ¬ x = 1) (h2 : ¬ x = 2) (h3 : ¬ x = 3) (h4 : ¬ x = 4) (h5 : ¬ x = 5) : x.toInt < 0 ∨ 5 < x.toInt := by
  have a0 := sw_i (a := 0) h0 rfl
  have a1 := sw_i (a := 1) h1 rfl
  have a2 := sw_i (a := 2) h2 rfl
  have a3 := sw_i (a := 3) h3 rfl
  have a4 := sw_i (a := 4) h4 rfl
  have a5 := sw_i (a := 5) h5 rfl
  omega
theorem vin_lt {a : Int32} {n N : Nat} (hn : n ≤ N) (hN : N < 2 ^ 31) (h0 : ¬ a < 0) (h1 : ¬ nI n ≤ a) : vp_in a N := by
  obtain ⟨j, hj, rfl⟩ := nI_of h0
  refine vp_in_nI ?_ hN
  rcases Nat.lt_or_ge j n with q | q
  · omega
  · exact absurd (nI_le q hj) h1
theorem lcmp_nz {x : Int64} (h : ¬ lg_cmp x 0 = 0) : ¬ x = 0 := fun z => h (by subst z; decide)
theorem low_nz {x : Int64} (h : 0 ≤ lg_cmp x 1) : ¬ x = 0 := fun z => by subst z; exact absurd h (by decide)
theorem ord_lt {x n : Nat} (h : x ≤ n) (hn : n ≤ 24) (c : ¬ nI n ≤ nI x) : x + 1 ≤ n := by
  rcases Nat.lt_or_ge x n with q | q
  · exact q
  · exact absurd (nI_le q (by omega)) c
section QB
variable {p : Program} {l : Launch} {e : Env} {R : Room} {s : State} {m : MethodId} {args : Array Value} {below : List Frame} {meth : Method} {c : Code} {H : Heap} {locs : List Loc} {cells slots : Nat} {Q : State → Prop}
variable {pc : Nat} {ls : Array Slot} {rest : List Value}
def fJ_max (x y : Int32) : Int32 := if x < y then y else x
def fJ_min (x y : Int32) : Int32 := if y < x then y else x
def fJ_abs (x : Int32) : Int32 := if 0 ≤ x then x else 0 - x
theorem q_max {cc : ByteArray} (hexec : p.tables.exec = Jvm.exec) (hb : c.code = cc) (hml : c.maxLocals = ls.size) {own : String} {index : Nat} (hown : s.vm.findClass own = some m.cls) (hlink : (Cond.methodLink own index Lib.Math.max.name).before args s = true) (hstat : (Cond.static Lib.Math.max.name).before args s = true) (hini : (Cond.initialized "java/lang/Math").before args s = true) (hcode : (Cond.code Lib.Math.max.name Lib.Math.max.code 2 (some .int)).before args s = true)
    (hframes : 1 ≤ R.frames) (hlocals : (rest.map fun v => v.category).sum + 13 ≤ R.locals) (hc : cells ≤ R.cells) (hs : slots ≤ R.slots) {x y : Int32} (hdg : decode cc pc = .ok (.invokestatic index, 3))
    (kk : W p l e R s m args below meth c H locs cells slots Q (F0 m (pc + 3) ls (.int (fJ_max x y) :: rest))) : W p l e R s m args below meth c H locs cells slots Q (F0 m pc ls (.int y :: .int x :: rest)) := va_mmax hexec hb hml hown hlink hstat hini hcode hframes hlocals hc hs hdg kk
theorem q_min {cc : ByteArray} (hexec : p.tables.exec = Jvm.exec) (hb : c.code = cc) (hml : c.maxLocals = ls.size) {own : String} {index : Nat} (hown : s.vm.findClass own = some m.cls) (hlink : (Cond.methodLink own index Lib.Math.min.name).before args s = true) (hstat : (Cond.static Lib.Math.min.name).before args s = true) (hini : (Cond.initialized "java/lang/Math").before args s = true) (hcode : (Cond.code Lib.Math.min.name Lib.Math.min.code 2 (some .int)).before args s = true)
    (hframes : 1 ≤ R.frames) (hlocals : (rest.map fun v => v.category).sum + 13 ≤ R.locals) (hc : cells ≤ R.cells) (hs : slots ≤ R.slots) {x y : Int32} (hdg : decode cc pc = .ok (.invokestatic index, 3))
    (kk : W p l e R s m args below meth c H locs cells slots Q (F0 m (pc + 3) ls (.int (fJ_min x y) :: rest))) : W p l e R s m args below meth c H locs cells slots Q (F0 m pc ls (.int y :: .int x :: rest)) := va_mmin hexec hb hml hown hlink hstat hini hcode hframes hlocals hc hs hdg kk
theorem q_abs {cc : ByteArray} (hexec : p.tables.exec = Jvm.exec) (hb : c.code = cc) (hml : c.maxLocals = ls.size) {own : String} {index : Nat} (hown : s.vm.findClass own = some m.cls) (hlink : (Cond.methodLink own index Lib.Math.abs.name).before args s = true) (hstat : (Cond.static Lib.Math.abs.name).before args s = true) (hini : (Cond.initialized "java/lang/Math").before args s = true) (hcode : (Cond.code Lib.Math.abs.name Lib.Math.abs.code 1 (some .int)).before args s = true)
    (hframes : 1 ≤ R.frames) (hlocals : (rest.map fun v => v.category).sum + 13 ≤ R.locals) (hc : cells ≤ R.cells) (hs : slots ≤ R.slots) {x : Int32} (hdg : decode cc pc = .ok (.invokestatic index, 3))
    (kk : W p l e R s m args below meth c H locs cells slots Q (F0 m (pc + 3) ls (.int (fJ_abs x) :: rest))) : W p l e R s m args below meth c H locs cells slots Q (F0 m pc ls (.int x :: rest)) := va_mabs hexec hb hml hown hlink hstat hini hcode hframes hlocals hc hs hdg kk
end QB
