/-! exceptions that a method of the class throws, in the Y layer -/
section YX
variable {l : Launch} {G : GT} {cc : ByteArray} {own : String} {nL : Nat} {R : Room} {D : va_G} {tys : List (ClassId × FieldType)} {nm : String}
variable {ce sl : Nat} {ws : va_W} {pc : Nat} {lv : List (Nat × Value)} {st : List Value}
abbrev exN : List String := ["java/lang/RuntimeException", "java/lang/Exception"]
/-- what a 'throw new' of this class needs of the tables -/
def exOK (own cls : String) (ik ic : Nat) : Prop := Cond.classLink own ik cls ∈ wsL_law ∧ Cond.initialized cls ∈ wsL_law ∧ (∀ w ∈ vx_atS own ic cls exN, w ∈ wsL_law ∨ w ∈ exW) ∧ Bundle.fit cls = true ∧ cls ∈ exL
theorem exN_fit : ∀ n ∈ exN, Bundle.fit n = true := by decide +kernel
theorem ex_all {own cls : String} {ic : Nat} (h : (vx_atS own ic cls exN).all (fun w => goodWord w || decide (w ∈ exW)) = true) (h2 : ∀ w ∈ (vx_atS own ic cls exN).filter goodWord, w ∈ wsL_law) : ∀ w ∈ vx_atS own ic cls exN, w ∈ wsL_law ∨ w ∈ exW := by
  intro w hw
  have h3 := List.all_eq_true.mp h w hw
  rw [Bool.or_eq_true, decide_eq_true_eq] at h3
  exact h3.elim (fun g => Or.inl (h2 w (List.mem_filter.mpr ⟨hw, g⟩))) Or.inr
theorem exOK1 : exOK RX5 "java/lang/IndexOutOfBoundsException" 57 61 := ⟨(inLr5 _ (List.mem_of_getElem? (i := 10) rfl)), (inLr5 _ (List.mem_of_getElem? (i := 11) rfl)), ex_all (by decide +kernel) (fun w h => List.mem_append_left _ (List.mem_append_left _ (List.mem_append_right _ h))), by decide +kernel, by decide⟩
theorem exOK2 : exOK RX5 "java/lang/IllegalArgumentException" 67 71 := ⟨(inLr5 _ (List.mem_of_getElem? (i := 12) rfl)), (inLr5 _ (List.mem_of_getElem? (i := 13) rfl)), ex_all (by decide +kernel) (fun w h => List.mem_append_left _ (List.mem_append_right _ h)), by decide +kernel, by decide⟩
theorem exOK3 : exOK RX5 "java/lang/IllegalStateException" 137 141 := ⟨(inLr14 _ (List.mem_of_getElem? (i := 17) rfl)), (inLr14 _ (List.mem_of_getElem? (i := 18) rfl)), ex_all (by decide +kernel) (fun w h => List.mem_append_right _ h), by decide +kernel, by decide⟩
/-- the throw rule that a body gets: from a state with the world of its start -/
def XR (G : GT) (cc : ByteArray) (own : String) (rm : Room) (ws : va_W) (px : String → Prop) : Prop :=
  ∀ (ce sl pc : Nat) (lv : List (Nat × Value)) (st : List Value) (cls text : String) (ik is ic : Nat), exOK own cls ik ic → (own, is, text) ∈ strL → px cls →
    decode cc pc = .ok (.new ik, 3) → decode cc (pc + 3) = .ok (.dup, 1) → decode cc (pc + 4) = .ok (.ldc is, 2) → decode cc (pc + 6) = .ok (.invokespecial ic, 3) → decode cc (pc + 9) = .ok (.athrow, 1) →
    5 < rm.frames → (st.map fun v => v.category).sum + 82 ≤ rm.locals → ce + 1 ≤ rm.cells → sl + 6 ≤ rm.slots → G ce sl ws pc lv st
set_option maxHeartbeats 1000000 in
theorem XI.of {y : MethodName} {maxL : Nat} {ty : FieldType} {rm : Room} {av : List Value} {S : Type} {post : Int32 → S → Prop} {wf : S → va_W} {px : String → Prop} (hlt : l.stackTraces = false) (hy : plainName y.cls = true) (hav : (lg_sl av).length ≤ maxL)
    (body : ∀ G : GT, Cx l G cc y.cls maxL rm D tys y.name → (∀ (r : Int32) (u : S) (ce sl pc : Nat) (lv : List (Nat × Value)), decode cc pc = .ok (.ireturn, 1) → ce ≤ rm.cells → sl ≤ rm.slots → narrow ty (.int r) = .int r → post r u → G ce sl (wf u) pc lv [.int r]) → XR G cc y.cls rm ws px → G 0 0 ws 0 (lv_args 0 av) []) : XI l D tys y cc maxL ty rm av ws post wf px := by
  intro sz
  refine vx_ofW (cc := cc) (maxL := maxL) (ret := some ty) hy rfl ?_
  intro p e s m args below meth c s₁ B hml hno hv
  obtain ⟨rfl, hsz, hP, hD0, hK, hT⟩ := hv
  subst hsz
  have hD := hD0.self (sz := s.heap.size)
  have hA : ∀ q : Nat, s.heap.size ≤ q → va_A ws s.heap.size q := fun q h => Or.inr h
  have hT9 : gT (va_A ws s.heap.size) s s.heap := hT.re (fun q hq h => h.elim id (fun h => absurd hq (Nat.not_lt.mpr h)))
  have hts0 := atoms_spec (ws := Cond.code y cc maxL (some ty) :: wsL_law) B.pre
  have hts : ∀ w ∈ wsL_law, w.before av.toArray s = true := fun w h => hts0 w (List.mem_cons_of_mem _ h)
  have hl := lv_entry av (n := maxL) hav
  have hown : s.vm.findClass y.cls = some m.cls := findClass_of_methodNamed B.named
  rw [lg_entry_eq]
  refine body (Y p l e rm s m av.toArray below meth c (va_A ws s.heap.size) D maxL (vx_MQ below (va_Qi post (gB D (va_A ws s.heap.size) wf) (va_A ws s.heap.size)) (gX D ws s.heap.size px) av.toArray s rm.cells rm.slots (va_A ws s.heap.size))) ⟨p, e, s, m, av.toArray, below, meth, c, va_A ws s.heap.size, _, ⟨B.exec, B.bytes, hml, hown, hts⟩, hK, hT9, hA, (name_of_methodNamed B.named B.method).1, B.notSynchronized, rfl⟩ ?_ ?_ s.heap [] _ hP hD va_S.rf hl
  · intro r u ce sl pc lv hdg h1 h2 hn hp H locs ls hP hD hS hl
    refine W.widen h1 h2 (vx_ret ?_)
    exact W.zret (v := r) (ty := ty) B.exec B.bytes B.returns hn (fun t ht hW => ⟨⟨r, u, rfl, hp, by rw [ht]; exact hP, hD⟩, hS.F ht⟩) hS.2.2 hdg
  · intro ce sl pc lv st cls text ik is ic hok hstr hpx d0 d3 d4 d6 d9 hfr hlo hc hs H locs ls hP hD hS hl
    obtain ⟨sa, hsa⟩ := hK.2.2.1 _ hstr
    refine vx_throwS (A := va_A ws s.heap.size) (names := exN) B.exec B.bytes hlt hown hok.2.2.2.1 exN_fit (hts _ hok.1) (hts _ hok.2.1) hsa (fun w hw => (hok.2.2.1 w hw).elim (hts w) (fun q => va_Nw.use (exW_tab w q) (hK.2.2.2.2.1 w q))) ?_ hT9.1 hT9.2 hS (hl.1.trans hml.symm) d0 d3 d4 d6 d9 (fun x hx => (hno x hx).elim) hfr hlo hc hs B.notSynchronized ?_ hS.2.2 hc hs
    · intro w hw
      have hg : w ∈ wsL_law ∨ w ∈ exW := by
        rcases List.mem_cons.mp hw with h | hw
        · rw [h]; exact Or.inl hok.1
        · rcases List.mem_cons.mp hw with h | hw
          · rw [h]; exact Or.inl hok.2.1
          · exact hok.2.2.1 w hw
      show (w.onTables || goodWord w) = true
      rcases hg with hg | hg
      · rw [all_good w hg, Bool.or_true]
      · rw [exW_tab w hg, Bool.true_or]
    · intro t hvm hz hk
      exact ⟨(), trivial, ⟨hpx, hP.kept (fun k q hq => hk q.1 ((hP k q hq).lt)), hD⟩, ⟨Nat.le_trans hS.1 hz, fun q h1 h2 => (hk q (Nat.lt_of_lt_of_le h1 hS.1)).trans (hS.2.1 q h1 h2)⟩⟩
/-- a method with a table of its own, that returns -/
def XW (l : Launch) (D : va_G) (tys : List (ClassId × FieldType)) (y : MethodName) (cc : ByteArray) (maxL : Nat) (hh : List (Nat × Nat × Nat × Nat)) (rm : Room) (av : List Value) (ws : va_W) {S : Type} (post : Int32 → S → Prop) (wf : S → va_W) : Prop :=
  ∀ sz : Nat, vx_Met l y (Cond.codeWith y cc maxL (some .int) hh :: wsL_law) rm (gPc av sz D tys ws) (va_Qi post (gB D (va_A ws sz) wf) (va_A ws sz)) (gX D ws sz (fun _ => False)) rm.cells rm.slots (va_A ws sz)
def CxT (l : Launch) (G : GT) (cc : ByteArray) (own : String) (nL : Nat) (R : Room) (D : va_G) (tys : List (ClassId × FieldType)) (nm : String) (hh : List (Nat × Nat × Nat × Nat)) : Prop :=
  ∃ (p : Program) (e : Env) (s : State) (m : MethodId) (args : Array Value) (below : List Frame) (meth : Method) (c : Code) (A : Nat → Prop) (Q : State → Prop),
    (CallFix p m c cc nL s args wsL_law own ∧ gK D tys s ∧ gT A s s.heap ∧ (∀ q, s.heap.size ≤ q → A q) ∧ meth.name = nm ∧ meth.locks = false ∧ G = Y p l e R s m args below meth c A D nL Q) ∧ c.exceptionTable.toList = tableOf hh
theorem CxT.cx {hh : List (Nat × Nat × Nat × Nat)} (h : CxT l G cc own nL R D tys nm hh) : Cx l G cc own nL R D tys nm := by
  obtain ⟨p, e, s, m, args, below, meth, c, A, Q, h1, -⟩ := h
  exact ⟨p, e, s, m, args, below, meth, c, A, Q, h1⟩
set_option maxHeartbeats 1000000 in
theorem XW.of {y : MethodName} {maxL : Nat} {hh : List (Nat × Nat × Nat × Nat)} {rm : Room} {av : List Value} {S : Type} {post : Int32 → S → Prop} {wf : S → va_W} (hy : plainName y.cls = true) (hav : (lg_sl av).length ≤ maxL)
    (body : ∀ G : GT, CxT l G cc y.cls maxL rm D tys y.name hh → (∀ (r : Int32) (u : S) (ce sl pc : Nat) (lv : List (Nat × Value)), decode cc pc = .ok (.ireturn, 1) → ce ≤ rm.cells → sl ≤ rm.slots → narrow .int (.int r) = .int r → post r u → G ce sl (wf u) pc lv [.int r]) → G 0 0 ws 0 (lv_args 0 av) []) : XW l D tys y cc maxL hh rm av ws post wf := by
  intro sz
  refine vx_ofWH (cc := cc) (maxL := maxL) (ret := some .int) (hh := hh) hy rfl ?_
  intro p e s m args below meth c s₁ B hml hv
  obtain ⟨rfl, hsz, hP, hD0, hK, hT⟩ := hv
  subst hsz
  have hD := hD0.self (sz := s.heap.size)
  have hA : ∀ q : Nat, s.heap.size ≤ q → va_A ws s.heap.size q := fun q h => Or.inr h
  have hT9 : gT (va_A ws s.heap.size) s s.heap := hT.re (fun q hq h => h.elim id (fun h => absurd hq (Nat.not_lt.mpr h)))
  have hts0 := atoms_spec (ws := Cond.codeWith y cc maxL (some .int) hh :: wsL_law) B.pre
  have hts : ∀ w ∈ wsL_law, w.before av.toArray s = true := fun w h => hts0 w (List.mem_cons_of_mem _ h)
  have hl := lv_entry av (n := maxL) hav
  have hown : s.vm.findClass y.cls = some m.cls := findClass_of_methodNamed B.named
  have htab := vx_table (x := y) B (hts0 _ List.mem_cons_self)
  rw [lg_entry_eq]
  refine body (Y p l e rm s m av.toArray below meth c (va_A ws s.heap.size) D maxL (vx_MQ below (va_Qi post (gB D (va_A ws s.heap.size) wf) (va_A ws s.heap.size)) (gX D ws s.heap.size (fun _ => False)) av.toArray s rm.cells rm.slots (va_A ws s.heap.size))) ⟨p, e, s, m, av.toArray, below, meth, c, va_A ws s.heap.size, _, ⟨⟨B.exec, B.bytes, hml, hown, hts⟩, hK, hT9, hA, (name_of_methodNamed B.named B.method).1, B.notSynchronized, rfl⟩, htab⟩ ?_ s.heap [] _ hP hD va_S.rf hl
  intro r u ce sl pc lv hdg h1 h2 hn hp H locs ls hP hD hS hl
  refine W.widen h1 h2 (vx_ret ?_)
  exact W.zret (v := r) (ty := .int) B.exec B.bytes B.returns hn (fun t ht hW => ⟨⟨r, u, rfl, hp, by rw [ht]; exact hP, hD⟩, hS.F ht⟩) hS.2.2 hdg
set_option maxHeartbeats 1000000 in
/-- a virtual call that may throw, under a table that catches it -/
theorem y_callX_i {hh : List (Nat × Nat × Nat × Nat)} (hC : CxT l G cc own nL R D tys nm hh) {y : MethodName} {bytes : ByteArray} {maxL n index : Nat} {ty : FieldType} {rm : Room} {As rest : List Value} {S : Type} {post : Int32 → S → Prop} {wf : S → va_W} {px : String → Prop} {b : Nat} {C : String} {wc : va_W} (hM : XI l D tys y bytes maxL ty rm (.ref b :: As) wc post wf px) (hY : yV y C bytes maxL (some ty) n) (hlk9 : Cond.methodLink own index y ∈ wsL_law) (isC isR isB isX : List Nat) (w2 : S → va_W) (hC9 : isC.map (fun i => ws[i]?) = wc.map some) (hR9 : isR.map (fun i => ws[i]?) = (isR.filterMap (fun i => ws[i]?)).map some) (hnC : va_nd isC = true) (hnR : va_nd isR = true) (hdis : ∀ i ∈ isR, i ∉ isC) (hnB : va_nd isB = true) (hB : ∀ u, isB.map (fun i => (isR.filterMap (fun i => ws[i]?) ++ wf u)[i]?) = (w2 u).map some) (hnX : va_nd isX = true) (hBX : isX.map (fun i => (isR.filterMap (fun i => ws[i]?) ++ wc)[i]?) = ws.map some) (kb : Nat) {ci : Nat} {fs : List Value} {T : u_T} {N : Nat} (hb0 : wc[kb]? = some (b, .inr (ci, fs))) (hci : vwCl[ci]? = some (C, T, N)) (hn : As.length = n) (hst : st = As.reverse ++ .ref b :: rest) (hcat : (rest.map fun v => v.category).sum ≤ 8) (hdg : decode cc pc = .ok (.invokevirtual index, 3)) (hR : rm.frames + 1 ≤ R.frames ∧ 8 + (maxL + 11) + rm.locals ≤ R.locals) (hf : ce + rm.cells ≤ R.cells ∧ sl + rm.slots ≤ R.slots)
    (kx : ∀ E : String, px E → ∃ (pre : List ExceptionTableEntry) (x : ExceptionTableEntry) (suf : List ExceptionTableEntry), tableOf hh = pre ++ x :: suf ∧ (∀ z ∈ pre, covers z pc = false ∨ (z.catchType ≠ 0 ∧ ∃ nm : String, Cond.classLink own z.catchType nm ∈ wsL_law ∧ (E, nm) ∈ ncL)) ∧ covers x pc = true ∧ x.catchType ≠ 0 ∧ Cond.classLink own x.catchType E ∈ wsL_law ∧ E ∈ exL ∧ ∀ q : Nat, G (ce + rm.cells) (sl + rm.slots) ws x.handlerPc lv [.ref q])
    (kk : ∀ (r : Int32) (u : S), post r u → G (ce + rm.cells) (sl + rm.slots) (w2 u) (pc + 3) lv (.int r :: rest)) : G ce sl ws pc lv st := by
  obtain ⟨p, e, s, m, args, below, meth, c, A, Q, ⟨hfix, hK, hT, hA, hnm, hlk, rfl⟩, htab⟩ := hC
  obtain ⟨hx, hb, hml, hown, hts⟩ := id hfix
  intro H locs ls hP hD hS hl
  subst hst
  have hPc : va_P D vwCl wc H := hP.sub isC (by
    have h9 := congrArg (fun z : List (Option (Nat × va_E)) => z.filterMap id) hC9
    simpa [List.filterMap_map, Function.comp_def] using h9)
  have hFc := va_free (wc := wc) hD hS hA isC hC9
  refine vx_calli (vx_runV (As := As) (rest := rest) hfix (hM H.size) (y_cwV hts hY hlk9 hR) ⟨gPc_blind, va_recv hK.1 hPc hci hb0, y_preU hK hT hP hD hS isC hC9 hnC (.ref b :: As)⟩ rfl hn hl.1 rfl (lv_room hcat) hdg hf) hS (fun q _ h => hFc q h) hFc (fun q _ h => hFc q h) (fun E ce9 q9 u t H1 locs ht hvm hu hBx hz1 hk1 hS hcell hcv hcl => ?_) (fun r u t H1 locs ht hvm hw hB9 hz1 hk1 hS => ?_)
  · obtain ⟨hpx, hP1, hD1⟩ := hBx
    rw [ht] at hP1
    obtain ⟨hP2, hD2⟩ := y_aft hP hD isC isR isX hC9 hR9 hnR hdis hk1 hFc hP1 hD1 hnX hBX
    obtain ⟨pre, x, suf, h1, h2, h3, h4, h5, h6, h7⟩ := kx E hpx
    refine vx_catch (name := E) hown pre x suf (htab.trans h1) (fun z hz => ?_) h3 h4 (hts _ h5) (va_Nw.use rfl (hK.2.2.2.2.1 _ (exL_cast h6))) hcell hcv hcl (h7 q9 H1 locs ls hP2 hD2 hS hl)
    rcases h2 z hz with h | ⟨hz0, nm9, hl9, hn9⟩
    · exact Or.inl h
    · exact Or.inr ⟨hz0, nm9, hts _ hl9, hK.2.2.2.1 _ hn9⟩
  · obtain ⟨hP1, hD1⟩ := hB9
    rw [ht] at hP1
    obtain ⟨hP2, hD2⟩ := y_aft hP hD isC isR isB hC9 hR9 hnR hdis hk1 hFc hP1 hD1 hnB (hB u)
    exact kk r u hw H1 locs ls hP2 hD2 hS hl
set_option maxHeartbeats 1000000 in
/-- a static call of a method with a table, that returns -/
theorem y_callSX_i (hC : Cx l G cc own nL R D tys nm) {y : MethodName} {bytes : ByteArray} {maxL n index : Nat} {hh : List (Nat × Nat × Nat × Nat)} {rm : Room} {As rest : List Value} {S : Type} {post : Int32 → S → Prop} {wf : S → va_W} {wc : va_W} (hM : XW l D tys y bytes maxL hh rm As wc post wf) (hY : Cond.static y ∈ wsL_law ∧ Cond.initialized y.cls ∈ wsL_law ∧ Cond.codeWith y bytes maxL (some .int) hh ∈ wsL_law ∧ (y.cls ≠ "java/lang/invoke/MethodHandle" ∧ y.cls ≠ "java/lang/invoke/VarHandle" ∧ (parseMethodDescriptor y.desc).map (fun d => d.parameters.length) = some n)) (hlk9 : Cond.methodLink own index y ∈ wsL_law) (isC isR isB : List Nat) (w2 : S → va_W) (hC9 : isC.map (fun i => ws[i]?) = wc.map some) (hR9 : isR.map (fun i => ws[i]?) = (isR.filterMap (fun i => ws[i]?)).map some) (hnC : va_nd isC = true) (hnR : va_nd isR = true) (hdis : ∀ i ∈ isR, i ∉ isC) (hnB : va_nd isB = true) (hB : ∀ u, isB.map (fun i => (isR.filterMap (fun i => ws[i]?) ++ wf u)[i]?) = (w2 u).map some) (hn : As.length = n) (hst : st = As.reverse ++ rest) (hcat : (rest.map fun v => v.category).sum ≤ 8) (hdg : decode cc pc = .ok (.invokestatic index, 3)) (hR : rm.frames + 1 ≤ R.frames ∧ 8 + (maxL + 11) + rm.locals ≤ R.locals) (hf : ce + rm.cells ≤ R.cells ∧ sl + rm.slots ≤ R.slots)
    (kk : ∀ (r : Int32) (u : S), post r u → G (ce + rm.cells) (sl + rm.slots) (w2 u) (pc + 3) lv (.int r :: rest)) : G ce sl ws pc lv st := by
  obtain ⟨p, e, s, m, args, below, meth, c, A, Q, hfix, hK, hT, hA, hnm, hlk, rfl⟩ := hC
  obtain ⟨hx, hb, hml, hown, hts⟩ := id hfix
  intro H locs ls hP hD hS hl
  subst hst
  have hFc := va_free (wc := wc) hD hS hA isC hC9
  have hcw := vx_cwSW (rm := rm) (R := R) n hts (all_in (mem_cc hlk9 (mem_cc hY.1 (mem_cc hY.2.1 (mem_cc hY.2.2.1 (fun w h => h)))))) rfl rfl rfl hY.2.2.2 hR
  refine vx_calli (vx_runSX (As := As) (rest := rest) hfix (hM H.size) hcw ⟨gPc_blind, y_preU hK hT hP hD hS isC hC9 hnC As⟩ rfl hn hl.1 rfl (lv_room hcat) hdg hf) hS (fun q _ h => hFc q h) hFc (fun q _ h => hFc q h) (fun E ce9 q9 u t H1 locs ht hvm hu hBx hz1 hk1 hS hcell hcv hcl => hBx.1.elim) (fun r u t H1 locs ht hvm hw hB9 hz1 hk1 hS => ?_)
  obtain ⟨hP1, hD1⟩ := hB9
  rw [ht] at hP1
  obtain ⟨hP2, hD2⟩ := y_aft hP hD isC isR isB hC9 hR9 hnR hdis hk1 hFc hP1 hD1 hnB (hB u)
  exact kk r u hw H1 locs ls hP2 hD2 hS hl
end YX
