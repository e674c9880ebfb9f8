section P1W
variable {l : Launch} {D : va_G} {cI cO cJ cZ : ClassId}
set_option maxHeartbeats 4000000 in
set_option maxRecDepth 100000 in
theorem w_setLetter (hlt : l.stackTraces = false) (b : Nat → Nat) (o : Nat) (f : Nat → Int64) (x : Int32) (y : Int32) : XW l D (tyL cI cO cJ cZ) yL_setLetter cL_setLetter 5 [(0, 10, 13, 13), (0, 10, 17, 15)] ({ frames := 10, cells := 1, slots := 6, locals := 300 } : Room) [.ref (b 0), .int x, .int y, .ref o] [((b 0), .inr (5, [.ref (b 1), .ref (b 8), .ref (b 9), .ref (b 12), .ref (b 19), .int (nI 0), .ref (b 20), .int (nI 0), .ref (b 21), .int (nI 0)])), ((b 1), .inr (0, [.ref (b 2), .ref (b 3), .ref (b 4), .ref (b 5), .ref (b 6), .ref (b 7), .int (nI 0)])), ((b 2), .inl (cI, 12, .inl (fun k => nI (Zf k)))), ((b 3), .inl (cI, 12, .inl (fun k => nI (Zf k)))), ((b 5), .inl (cI, 48, .inl (fun k => nI (Zf k)))), (o, .inl (cJ, 1, .inr (.inl f)))] (fun r (u : Nat → Int64) => r = nI (kcSet x y) ∧ (kcSet x y = 0 → u 0 = (nI 0 : Int32).toInt64)) (fun u => [(o, .inl (cJ, 1, .inr (.inl u)))]) := by
  refine XW.of (by decide) (Nat.le_of_ble_eq_true rfl) (fun G hCT hE => ?_)
  have hC := hCT.cx
  show G 0 0 ([((b 0), .inr (5, [.ref (b 1), .ref (b 8), .ref (b 9), .ref (b 12), .ref (b 19), .int (nI 0), .ref (b 20), .int (nI 0), .ref (b 21), .int (nI 0)])), ((b 1), .inr (0, [.ref (b 2), .ref (b 3), .ref (b 4), .ref (b 5), .ref (b 6), .ref (b 7), .int (nI 0)])), ((b 2), .inl (cI, 12, .inl (fun k => nI (Zf k)))), ((b 3), .inl (cI, 12, .inl (fun k => nI (Zf k)))), ((b 5), .inl (cI, 48, .inl (fun k => nI (Zf k)))), (o, .inl (cJ, 1, .inr (.inl f)))]) 0 [(0, .ref (b 0)), (1, .int x), (2, .int y), (3, .ref o)] []
  refine y_aload_n hC dL_setLetter_0 3 rfl rfl ?_
  refine y_iconst hC (v := nI 0) dL_setLetter_1 rfl ?_
  refine y_aload_n hC dL_setLetter_2 0 rfl rfl ?_
  refine y_iload_n hC dL_setLetter_3 1 rfl rfl ?_
  refine y_iload_n hC dL_setLetter_4 2 rfl rfl ?_
  refine y_callX_i hCT (As := [.int x, .int y]) (rest := [.int (nI 0), .ref o]) (q_X5_setLetter hlt b x y) nV_X5_setLetter (inLr5 _ (List.mem_of_getElem? (i := 6) rfl)) [0, 1, 2, 3, 4] [5] [0] [1, 2, 3, 4, 5, 0] (fun u => [(o, .inl (cJ, 1, .inr (.inl f)))]) rfl rfl rfl rfl (by decide) rfl (fun _ => rfl) rfl rfl 0 rfl rfl rfl rfl (Nat.le_of_ble_eq_true rfl) dL_setLetter_5 ⟨(Nat.le_of_ble_eq_true rfl), (Nat.le_of_ble_eq_true rfl)⟩ ⟨(Nat.le_of_ble_eq_true rfl), (Nat.le_of_ble_eq_true rfl)⟩ (fun E hE9 => ?_) (fun r u hw => ?_)
  · rcases hE9 with ⟨rfl, hk⟩ | ⟨rfl, hk⟩
    · refine ⟨[], ⟨0, 10, 13, 13⟩, [⟨0, 10, 17, 15⟩], rfl, (fun z hz => nomatch hz), rfl, by decide, (inLr5 _ (List.mem_of_getElem? (i := 4) rfl)), by decide, fun q => ?_⟩
      refine y_astore hC [(4, .ref q), (0, .ref (b 0)), (1, .int x), (2, .int y), (3, .ref o)] dL_setLetter_13 (by decide) rfl ?_
      refine y_iconst hC (v := nI 1) dL_setLetter_15 rfl ?_
      refine y_world hC [5] (ws' := [(o, .inl (cJ, 1, .inr (.inl f)))]) rfl rfl ?_
      exact hE (nI 1) f _ _ _ _ dL_setLetter_16 (Nat.le_of_ble_eq_true rfl) (Nat.le_of_ble_eq_true rfl) rfl ⟨by rw [hk], fun h => absurd (hk.symm.trans h) (by decide)⟩
    · refine ⟨[⟨0, 10, 13, 13⟩], ⟨0, 10, 17, 15⟩, [], rfl, (fun z hz => by rcases List.mem_singleton.mp hz with rfl; exact Or.inr ⟨by decide, _, (inLr5 _ (List.mem_of_getElem? (i := 4) rfl)), by decide⟩), rfl, by decide, (inLr5 _ (List.mem_of_getElem? (i := 5) rfl)), by decide, fun q => ?_⟩
      refine y_astore hC [(4, .ref q), (0, .ref (b 0)), (1, .int x), (2, .int y), (3, .ref o)] dL_setLetter_17 (by decide) rfl ?_
      refine y_iconst hC (v := nI 2) dL_setLetter_19 rfl ?_
      refine y_world hC [5] (ws' := [(o, .inl (cJ, 1, .inr (.inl f)))]) rfl rfl ?_
      exact hE (nI 2) f _ _ _ _ dL_setLetter_20 (Nat.le_of_ble_eq_true rfl) (Nat.le_of_ble_eq_true rfl) rfl ⟨by rw [hk], fun h => absurd (hk.symm.trans h) (by decide)⟩
  · refine y_i2l hC (v := (r).toInt64) dL_setLetter_8 rfl ?_
    refine y_last hC 0 2 rfl rfl 0 rfl (by omega) (by decide) dL_setLetter_9 ([(o, .inl (cJ, 1, .inr (.inl (vp_updL f 0 ((r).toInt64)))))]) rfl ?_
    refine y_goto hC 21 dL_setLetter_10 (by decide) ?_
    refine y_iconst hC (v := nI 0) dL_setLetter_21 rfl ?_
    refine y_world hC [0] (ws' := [(o, .inl (cJ, 1, .inr (.inl (vp_updL f 0 ((r).toInt64)))))]) rfl rfl ?_
    exact hE (nI 0) (vp_updL f 0 ((r).toInt64)) _ _ _ _ dL_setLetter_22 (Nat.le_of_ble_eq_true rfl) (Nat.le_of_ble_eq_true rfl) rfl ⟨by rw [hw.1], fun _ => by show vp_updL _ _ _ _ = _; rw [pk_uLs, hw.2]⟩
theorem nW_setLetter : Cond.static yL_setLetter ∈ wsL_law ∧ Cond.initialized yL_setLetter.cls ∈ wsL_law ∧ Cond.codeWith yL_setLetter cL_setLetter 5 (some .int) [(0, 10, 13, 13), (0, 10, 17, 15)] ∈ wsL_law ∧ (yL_setLetter.cls ≠ "java/lang/invoke/MethodHandle" ∧ yL_setLetter.cls ≠ "java/lang/invoke/VarHandle" ∧ (parseMethodDescriptor yL_setLetter.desc).map (fun d => d.parameters.length) = some 4) := ⟨(inLr5 _ (List.mem_of_getElem? (i := 1) rfl)), (inLr5 _ (List.mem_of_getElem? (i := 2) rfl)), (inLr5 _ (List.mem_of_getElem? (i := 3) rfl)), by decide, by decide, by decide +kernel⟩
set_option maxHeartbeats 4000000 in
set_option maxRecDepth 100000 in
theorem w_letter (hlt : l.stackTraces = false) (b : Nat → Nat) (o : Nat) (f : Nat → Int64) (x : Int32) (y : Int32) : XW l D (tyL cI cO cJ cZ) yL_letter cL_letter 5 [(0, 10, 13, 13)] ({ frames := 10, cells := 1, slots := 6, locals := 300 } : Room) [.ref (b 0), .int x, .int y, .ref o] [((b 0), .inr (5, [.ref (b 1), .ref (b 8), .ref (b 9), .ref (b 12), .ref (b 19), .int (nI 0), .ref (b 20), .int (nI 0), .ref (b 21), .int (nI 0)])), ((b 1), .inr (0, [.ref (b 2), .ref (b 3), .ref (b 4), .ref (b 5), .ref (b 6), .ref (b 7), .int (nI 0)])), ((b 2), .inl (cI, 12, .inl (fun k => nI (Zf k)))), ((b 3), .inl (cI, 12, .inl (fun k => nI (Zf k)))), ((b 4), .inl (cI, 12, .inl (fun k => nI (Zf k)))), (o, .inl (cJ, 1, .inr (.inl f)))] (fun r (u : Nat → Int64) => r = nI (kcLet x y) ∧ (kcLet x y = 0 → u 0 = (nI 0 : Int32).toInt64)) (fun u => [(o, .inl (cJ, 1, .inr (.inl u)))]) := by
  refine XW.of (by decide) (Nat.le_of_ble_eq_true rfl) (fun G hCT hE => ?_)
  have hC := hCT.cx
  show G 0 0 ([((b 0), .inr (5, [.ref (b 1), .ref (b 8), .ref (b 9), .ref (b 12), .ref (b 19), .int (nI 0), .ref (b 20), .int (nI 0), .ref (b 21), .int (nI 0)])), ((b 1), .inr (0, [.ref (b 2), .ref (b 3), .ref (b 4), .ref (b 5), .ref (b 6), .ref (b 7), .int (nI 0)])), ((b 2), .inl (cI, 12, .inl (fun k => nI (Zf k)))), ((b 3), .inl (cI, 12, .inl (fun k => nI (Zf k)))), ((b 4), .inl (cI, 12, .inl (fun k => nI (Zf k)))), (o, .inl (cJ, 1, .inr (.inl f)))]) 0 [(0, .ref (b 0)), (1, .int x), (2, .int y), (3, .ref o)] []
  refine y_aload_n hC dL_letter_0 3 rfl rfl ?_
  refine y_iconst hC (v := nI 0) dL_letter_1 rfl ?_
  refine y_aload_n hC dL_letter_2 0 rfl rfl ?_
  refine y_iload_n hC dL_letter_3 1 rfl rfl ?_
  refine y_iload_n hC dL_letter_4 2 rfl rfl ?_
  refine y_callX_i hCT (As := [.int x, .int y]) (rest := [.int (nI 0), .ref o]) (q_X5_letter hlt b x y) nV_X5_letter (inLr7 _ (List.mem_of_getElem? (i := 1) rfl)) [0, 1, 2, 3, 4] [5] [0] [1, 2, 3, 4, 5, 0] (fun u => [(o, .inl (cJ, 1, .inr (.inl f)))]) rfl rfl rfl rfl (by decide) rfl (fun _ => rfl) rfl rfl 0 rfl rfl rfl rfl (Nat.le_of_ble_eq_true rfl) dL_letter_5 ⟨(Nat.le_of_ble_eq_true rfl), (Nat.le_of_ble_eq_true rfl)⟩ ⟨(Nat.le_of_ble_eq_true rfl), (Nat.le_of_ble_eq_true rfl)⟩ (fun E hE9 => ?_) (fun r u hw => ?_)
  · obtain ⟨rfl, hk⟩ := hE9
    refine ⟨[], ⟨0, 10, 13, 13⟩, [], rfl, (fun z hz => nomatch hz), rfl, by decide, (inLr5 _ (List.mem_of_getElem? (i := 4) rfl)), by decide, fun q => ?_⟩
    refine y_astore hC [(4, .ref q), (0, .ref (b 0)), (1, .int x), (2, .int y), (3, .ref o)] dL_letter_13 (by decide) rfl ?_
    refine y_iconst hC (v := nI 1) dL_letter_15 rfl ?_
    refine y_world hC [5] (ws' := [(o, .inl (cJ, 1, .inr (.inl f)))]) rfl rfl ?_
    exact hE (nI 1) f _ _ _ _ dL_letter_16 (Nat.le_of_ble_eq_true rfl) (Nat.le_of_ble_eq_true rfl) rfl ⟨by rw [hk], fun h => absurd (hk.symm.trans h) (by decide)⟩
  · refine y_i2l hC (v := (r).toInt64) dL_letter_8 rfl ?_
    refine y_last hC 0 2 rfl rfl 0 rfl (by omega) (by decide) dL_letter_9 ([(o, .inl (cJ, 1, .inr (.inl (vp_updL f 0 ((r).toInt64)))))]) rfl ?_
    refine y_goto hC 17 dL_letter_10 (by decide) ?_
    refine y_iconst hC (v := nI 0) dL_letter_17 rfl ?_
    refine y_world hC [0] (ws' := [(o, .inl (cJ, 1, .inr (.inl (vp_updL f 0 ((r).toInt64)))))]) rfl rfl ?_
    exact hE (nI 0) (vp_updL f 0 ((r).toInt64)) _ _ _ _ dL_letter_18 (Nat.le_of_ble_eq_true rfl) (Nat.le_of_ble_eq_true rfl) rfl ⟨by rw [hw.1], fun _ => by show vp_updL _ _ _ _ = _; rw [pk_uLs, hw.2]⟩
theorem nW_letter : Cond.static yL_letter ∈ wsL_law ∧ Cond.initialized yL_letter.cls ∈ wsL_law ∧ Cond.codeWith yL_letter cL_letter 5 (some .int) [(0, 10, 13, 13)] ∈ wsL_law ∧ (yL_letter.cls ≠ "java/lang/invoke/MethodHandle" ∧ yL_letter.cls ≠ "java/lang/invoke/VarHandle" ∧ (parseMethodDescriptor yL_letter.desc).map (fun d => d.parameters.length) = some 4) := ⟨(inLr6 _ (List.mem_of_getElem? (i := 23) rfl)), (inLr5 _ (List.mem_of_getElem? (i := 2) rfl)), (inLr7 _ (List.mem_of_getElem? (i := 0) rfl)), by decide, by decide, by decide +kernel⟩
set_option maxHeartbeats 4000000 in
set_option maxRecDepth 100000 in
theorem w_alike (hlt : l.stackTraces = false) (b : Nat → Nat) (o : Nat) (f : Nat → Int64) (x : Int32) (y : Int32) : XW l D (tyL cI cO cJ cZ) yL_alike cL_alike 5 [(0, 10, 13, 13)] ({ frames := 10, cells := 1, slots := 6, locals := 300 } : Room) [.ref (b 0), .int x, .int y, .ref o] [((b 0), .inr (5, [.ref (b 1), .ref (b 8), .ref (b 9), .ref (b 12), .ref (b 19), .int (nI 0), .ref (b 20), .int (nI 0), .ref (b 21), .int (nI 0)])), ((b 1), .inr (0, [.ref (b 2), .ref (b 3), .ref (b 4), .ref (b 5), .ref (b 6), .ref (b 7), .int (nI 0)])), ((b 2), .inl (cI, 12, .inl (fun k => nI (Zf k)))), (o, .inl (cJ, 1, .inr (.inl f)))] (fun r (u : Nat → Int64) => r = nI (kcAli x y) ∧ (kcAli x y = 0 → u 0 = ((-1) : Int32).toInt64)) (fun u => [(o, .inl (cJ, 1, .inr (.inl u)))]) := by
  refine XW.of (by decide) (Nat.le_of_ble_eq_true rfl) (fun G hCT hE => ?_)
  have hC := hCT.cx
  show G 0 0 ([((b 0), .inr (5, [.ref (b 1), .ref (b 8), .ref (b 9), .ref (b 12), .ref (b 19), .int (nI 0), .ref (b 20), .int (nI 0), .ref (b 21), .int (nI 0)])), ((b 1), .inr (0, [.ref (b 2), .ref (b 3), .ref (b 4), .ref (b 5), .ref (b 6), .ref (b 7), .int (nI 0)])), ((b 2), .inl (cI, 12, .inl (fun k => nI (Zf k)))), (o, .inl (cJ, 1, .inr (.inl f)))]) 0 [(0, .ref (b 0)), (1, .int x), (2, .int y), (3, .ref o)] []
  refine y_aload_n hC dL_alike_0 3 rfl rfl ?_
  refine y_iconst hC (v := nI 0) dL_alike_1 rfl ?_
  refine y_aload_n hC dL_alike_2 0 rfl rfl ?_
  refine y_iload_n hC dL_alike_3 1 rfl rfl ?_
  refine y_iload_n hC dL_alike_4 2 rfl rfl ?_
  refine y_callX_i hCT (As := [.int x, .int y]) (rest := [.int (nI 0), .ref o]) (q_X5_alike hlt b x y) nV_X5_alike (inLr10 _ (List.mem_of_getElem? (i := 5) rfl)) [0, 1, 2] [3] [0] [1, 2, 3, 0] (fun u => [(o, .inl (cJ, 1, .inr (.inl f)))]) rfl rfl rfl rfl (by decide) rfl (fun _ => rfl) rfl rfl 0 rfl rfl rfl rfl (Nat.le_of_ble_eq_true rfl) dL_alike_5 ⟨(Nat.le_of_ble_eq_true rfl), (Nat.le_of_ble_eq_true rfl)⟩ ⟨(Nat.le_of_ble_eq_true rfl), (Nat.le_of_ble_eq_true rfl)⟩ (fun E hE9 => ?_) (fun r u hw => ?_)
  · obtain ⟨rfl, hk⟩ := hE9
    refine ⟨[], ⟨0, 10, 13, 13⟩, [], rfl, (fun z hz => nomatch hz), rfl, by decide, (inLr5 _ (List.mem_of_getElem? (i := 4) rfl)), by decide, fun q => ?_⟩
    refine y_astore hC [(4, .ref q), (0, .ref (b 0)), (1, .int x), (2, .int y), (3, .ref o)] dL_alike_13 (by decide) rfl ?_
    refine y_iconst hC (v := nI 1) dL_alike_15 rfl ?_
    refine y_world hC [3] (ws' := [(o, .inl (cJ, 1, .inr (.inl f)))]) rfl rfl ?_
    exact hE (nI 1) f _ _ _ _ dL_alike_16 (Nat.le_of_ble_eq_true rfl) (Nat.le_of_ble_eq_true rfl) rfl ⟨by rw [hk], fun h => absurd (hk.symm.trans h) (by decide)⟩
  · refine y_i2l hC (v := (r).toInt64) dL_alike_8 rfl ?_
    refine y_last hC 0 2 rfl rfl 0 rfl (by omega) (by decide) dL_alike_9 ([(o, .inl (cJ, 1, .inr (.inl (vp_updL f 0 ((r).toInt64)))))]) rfl ?_
    refine y_goto hC 17 dL_alike_10 (by decide) ?_
    refine y_iconst hC (v := nI 0) dL_alike_17 rfl ?_
    refine y_world hC [0] (ws' := [(o, .inl (cJ, 1, .inr (.inl (vp_updL f 0 ((r).toInt64)))))]) rfl rfl ?_
    exact hE (nI 0) (vp_updL f 0 ((r).toInt64)) _ _ _ _ dL_alike_18 (Nat.le_of_ble_eq_true rfl) (Nat.le_of_ble_eq_true rfl) rfl ⟨by rw [hw.1], fun _ => by show vp_updL _ _ _ _ = _; rw [pk_uLs, hw.2]⟩
theorem nW_alike : Cond.static yL_alike ∈ wsL_law ∧ Cond.initialized yL_alike.cls ∈ wsL_law ∧ Cond.codeWith yL_alike cL_alike 5 (some .int) [(0, 10, 13, 13)] ∈ wsL_law ∧ (yL_alike.cls ≠ "java/lang/invoke/MethodHandle" ∧ yL_alike.cls ≠ "java/lang/invoke/VarHandle" ∧ (parseMethodDescriptor yL_alike.desc).map (fun d => d.parameters.length) = some 4) := ⟨(inLr10 _ (List.mem_of_getElem? (i := 3) rfl)), (inLr5 _ (List.mem_of_getElem? (i := 2) rfl)), (inLr10 _ (List.mem_of_getElem? (i := 4) rfl)), by decide, by decide, by decide +kernel⟩
set_option maxHeartbeats 4000000 in
set_option maxRecDepth 100000 in
theorem w_setKnotter (hlt : l.stackTraces = false) (b : Nat → Nat) (o : Nat) (f : Nat → Int64) (x : Int32) (y : Int32) : XW l D (tyL cI cO cJ cZ) yL_setKnotter cL_setKnotter 5 [(0, 10, 13, 15)] ({ frames := 10, cells := 1, slots := 6, locals := 300 } : Room) [.ref (b 0), .int x, .int y, .ref o] [((b 0), .inr (5, [.ref (b 1), .ref (b 8), .ref (b 9), .ref (b 12), .ref (b 19), .int (nI 0), .ref (b 20), .int (nI 0), .ref (b 21), .int (nI 0)])), ((b 8), .inr (3, [.int (nI 0), .int (nI 0), .int (nI 0), .int (nI 0), .int (nI 0)])), (o, .inl (cJ, 1, .inr (.inl f)))] (fun r (u : Nat → Int64) => r = nI (kcKno x y) ∧ (kcKno x y = 0 → u 0 = (nI 0 : Int32).toInt64)) (fun u => [(o, .inl (cJ, 1, .inr (.inl u)))]) := by
  refine XW.of (by decide) (Nat.le_of_ble_eq_true rfl) (fun G hCT hE => ?_)
  have hC := hCT.cx
  show G 0 0 ([((b 0), .inr (5, [.ref (b 1), .ref (b 8), .ref (b 9), .ref (b 12), .ref (b 19), .int (nI 0), .ref (b 20), .int (nI 0), .ref (b 21), .int (nI 0)])), ((b 8), .inr (3, [.int (nI 0), .int (nI 0), .int (nI 0), .int (nI 0), .int (nI 0)])), (o, .inl (cJ, 1, .inr (.inl f)))]) 0 [(0, .ref (b 0)), (1, .int x), (2, .int y), (3, .ref o)] []
  refine y_aload_n hC dL_setKnotter_0 3 rfl rfl ?_
  refine y_iconst hC (v := nI 0) dL_setKnotter_1 rfl ?_
  refine y_aload_n hC dL_setKnotter_2 0 rfl rfl ?_
  refine y_iload_n hC dL_setKnotter_3 1 rfl rfl ?_
  refine y_iload_n hC dL_setKnotter_4 2 rfl rfl ?_
  refine y_callX_i hCT (As := [.int x, .int y]) (rest := [.int (nI 0), .ref o]) (q_X5_setKnotter hlt b x y) nV_X5_setKnotter (inLr12 _ (List.mem_of_getElem? (i := 15) rfl)) [0, 1] [2] [0] [1, 2, 0] (fun u => [(o, .inl (cJ, 1, .inr (.inl f)))]) rfl rfl rfl rfl (by decide) rfl (fun _ => rfl) rfl rfl 0 rfl rfl rfl rfl (Nat.le_of_ble_eq_true rfl) dL_setKnotter_5 ⟨(Nat.le_of_ble_eq_true rfl), (Nat.le_of_ble_eq_true rfl)⟩ ⟨(Nat.le_of_ble_eq_true rfl), (Nat.le_of_ble_eq_true rfl)⟩ (fun E hE9 => ?_) (fun r u hw => ?_)
  · obtain ⟨rfl, hk⟩ := hE9
    refine ⟨[], ⟨0, 10, 13, 15⟩, [], rfl, (fun z hz => nomatch hz), rfl, by decide, (inLr5 _ (List.mem_of_getElem? (i := 5) rfl)), by decide, fun q => ?_⟩
    refine y_astore hC [(4, .ref q), (0, .ref (b 0)), (1, .int x), (2, .int y), (3, .ref o)] dL_setKnotter_13 (by decide) rfl ?_
    refine y_iconst hC (v := nI 1) dL_setKnotter_15 rfl ?_
    refine y_world hC [2] (ws' := [(o, .inl (cJ, 1, .inr (.inl f)))]) rfl rfl ?_
    exact hE (nI 1) f _ _ _ _ dL_setKnotter_16 (Nat.le_of_ble_eq_true rfl) (Nat.le_of_ble_eq_true rfl) rfl ⟨by rw [hk], fun h => absurd (hk.symm.trans h) (by decide)⟩
  · refine y_i2l hC (v := (r).toInt64) dL_setKnotter_8 rfl ?_
    refine y_last hC 0 2 rfl rfl 0 rfl (by omega) (by decide) dL_setKnotter_9 ([(o, .inl (cJ, 1, .inr (.inl (vp_updL f 0 ((r).toInt64)))))]) rfl ?_
    refine y_goto hC 17 dL_setKnotter_10 (by decide) ?_
    refine y_iconst hC (v := nI 0) dL_setKnotter_17 rfl ?_
    refine y_world hC [0] (ws' := [(o, .inl (cJ, 1, .inr (.inl (vp_updL f 0 ((r).toInt64)))))]) rfl rfl ?_
    exact hE (nI 0) (vp_updL f 0 ((r).toInt64)) _ _ _ _ dL_setKnotter_18 (Nat.le_of_ble_eq_true rfl) (Nat.le_of_ble_eq_true rfl) rfl ⟨by rw [hw.1], fun _ => by show vp_updL _ _ _ _ = _; rw [pk_uLs, hw.2]⟩
theorem nW_setKnotter : Cond.static yL_setKnotter ∈ wsL_law ∧ Cond.initialized yL_setKnotter.cls ∈ wsL_law ∧ Cond.codeWith yL_setKnotter cL_setKnotter 5 (some .int) [(0, 10, 13, 15)] ∈ wsL_law ∧ (yL_setKnotter.cls ≠ "java/lang/invoke/MethodHandle" ∧ yL_setKnotter.cls ≠ "java/lang/invoke/VarHandle" ∧ (parseMethodDescriptor yL_setKnotter.desc).map (fun d => d.parameters.length) = some 4) := ⟨(inLr12 _ (List.mem_of_getElem? (i := 13) rfl)), (inLr5 _ (List.mem_of_getElem? (i := 2) rfl)), (inLr12 _ (List.mem_of_getElem? (i := 14) rfl)), by decide, by decide, by decide +kernel⟩
set_option maxHeartbeats 4000000 in
set_option maxRecDepth 100000 in
theorem w_setFeel (hlt : l.stackTraces = false) (b : Nat → Nat) (o : Nat) (f : Nat → Int64) (x : Int32) (y : Int32) (z : Int32) : XW l D (tyL cI cO cJ cZ) yL_setFeel cL_setFeel 6 [(0, 12, 15, 15)] ({ frames := 10, cells := 1, slots := 6, locals := 300 } : Room) [.ref (b 0), .int x, .int y, .int z, .ref o] [((b 0), .inr (5, [.ref (b 1), .ref (b 8), .ref (b 9), .ref (b 12), .ref (b 19), .int (nI 0), .ref (b 20), .int (nI 0), .ref (b 21), .int (nI 0)])), ((b 9), .inr (2, [.int (nI 4), .int (nI 4), .ref (b 10), .ref (b 11)])), ((b 10), .inl (cI, 25, .inl (fun k => nI (Tf k)))), (o, .inl (cJ, 1, .inr (.inl f)))] (fun r (u : Nat → Int64) => r = nI (kcFee x y z) ∧ (kcFee x y z = 0 → u 0 = (nI 3 : Int32).toInt64)) (fun u => [(o, .inl (cJ, 1, .inr (.inl u)))]) := by
  refine XW.of (by decide) (Nat.le_of_ble_eq_true rfl) (fun G hCT hE => ?_)
  have hC := hCT.cx
  show G 0 0 ([((b 0), .inr (5, [.ref (b 1), .ref (b 8), .ref (b 9), .ref (b 12), .ref (b 19), .int (nI 0), .ref (b 20), .int (nI 0), .ref (b 21), .int (nI 0)])), ((b 9), .inr (2, [.int (nI 4), .int (nI 4), .ref (b 10), .ref (b 11)])), ((b 10), .inl (cI, 25, .inl (fun k => nI (Tf k)))), (o, .inl (cJ, 1, .inr (.inl f)))]) 0 [(0, .ref (b 0)), (1, .int x), (2, .int y), (3, .int z), (4, .ref o)] []
  refine y_aload hC dL_setFeel_0 4 rfl ?_
  refine y_iconst hC (v := nI 0) dL_setFeel_2 rfl ?_
  refine y_aload_n hC dL_setFeel_3 0 rfl rfl ?_
  refine y_iload_n hC dL_setFeel_4 1 rfl rfl ?_
  refine y_iload_n hC dL_setFeel_5 2 rfl rfl ?_
  refine y_iload_n hC dL_setFeel_6 3 rfl rfl ?_
  refine y_callX_i hCT (As := [.int x, .int y, .int z]) (rest := [.int (nI 0), .ref o]) (q_X5_setFeel hlt b x y z) nV_X5_setFeel (inLr13 _ (List.mem_of_getElem? (i := 6) rfl)) [0, 1, 2] [3] [0] [1, 2, 3, 0] (fun u => [(o, .inl (cJ, 1, .inr (.inl f)))]) rfl rfl rfl rfl (by decide) rfl (fun _ => rfl) rfl rfl 0 rfl rfl rfl rfl (Nat.le_of_ble_eq_true rfl) dL_setFeel_7 ⟨(Nat.le_of_ble_eq_true rfl), (Nat.le_of_ble_eq_true rfl)⟩ ⟨(Nat.le_of_ble_eq_true rfl), (Nat.le_of_ble_eq_true rfl)⟩ (fun E hE9 => ?_) (fun r u hw => ?_)
  · obtain ⟨rfl, hk⟩ := hE9
    refine ⟨[], ⟨0, 12, 15, 15⟩, [], rfl, (fun z hz => nomatch hz), rfl, by decide, (inLr5 _ (List.mem_of_getElem? (i := 5) rfl)), by decide, fun q => ?_⟩
    refine y_astore hC [(5, .ref q), (0, .ref (b 0)), (1, .int x), (2, .int y), (3, .int z), (4, .ref o)] dL_setFeel_15 (by decide) rfl ?_
    refine y_iconst hC (v := nI 1) dL_setFeel_17 rfl ?_
    refine y_world hC [3] (ws' := [(o, .inl (cJ, 1, .inr (.inl f)))]) rfl rfl ?_
    exact hE (nI 1) f _ _ _ _ dL_setFeel_18 (Nat.le_of_ble_eq_true rfl) (Nat.le_of_ble_eq_true rfl) rfl ⟨by rw [hk], fun h => absurd (hk.symm.trans h) (by decide)⟩
  · refine y_i2l hC (v := (r).toInt64) dL_setFeel_10 rfl ?_
    refine y_last hC 0 2 rfl rfl 0 rfl (by omega) (by decide) dL_setFeel_11 ([(o, .inl (cJ, 1, .inr (.inl (vp_updL f 0 ((r).toInt64)))))]) rfl ?_
    refine y_goto hC 19 dL_setFeel_12 (by decide) ?_
    refine y_iconst hC (v := nI 0) dL_setFeel_19 rfl ?_
    refine y_world hC [0] (ws' := [(o, .inl (cJ, 1, .inr (.inl (vp_updL f 0 ((r).toInt64)))))]) rfl rfl ?_
    exact hE (nI 0) (vp_updL f 0 ((r).toInt64)) _ _ _ _ dL_setFeel_20 (Nat.le_of_ble_eq_true rfl) (Nat.le_of_ble_eq_true rfl) rfl ⟨by rw [hw.1], fun _ => by show vp_updL _ _ _ _ = _; rw [pk_uLs, hw.2]⟩
theorem nW_setFeel : Cond.static yL_setFeel ∈ wsL_law ∧ Cond.initialized yL_setFeel.cls ∈ wsL_law ∧ Cond.codeWith yL_setFeel cL_setFeel 6 (some .int) [(0, 12, 15, 15)] ∈ wsL_law ∧ (yL_setFeel.cls ≠ "java/lang/invoke/MethodHandle" ∧ yL_setFeel.cls ≠ "java/lang/invoke/VarHandle" ∧ (parseMethodDescriptor yL_setFeel.desc).map (fun d => d.parameters.length) = some 5) := ⟨(inLr13 _ (List.mem_of_getElem? (i := 4) rfl)), (inLr5 _ (List.mem_of_getElem? (i := 2) rfl)), (inLr13 _ (List.mem_of_getElem? (i := 5) rfl)), by decide, by decide, by decide +kernel⟩
set_option maxHeartbeats 4000000 in
set_option maxRecDepth 100000 in
theorem w_setCosts (hlt : l.stackTraces = false) (b : Nat → Nat) (o : Nat) (f : Nat → Int64) (x : Int32) (y : Int32) : XW l D (tyL cI cO cJ cZ) yL_setCosts cL_setCosts 5 [(0, 10, 13, 15)] ({ frames := 10, cells := 1, slots := 6, locals := 300 } : Room) [.ref (b 0), .int x, .int y, .ref o] [((b 0), .inr (5, [.ref (b 1), .ref (b 8), .ref (b 9), .ref (b 12), .ref (b 19), .int (nI 0), .ref (b 20), .int (nI 0), .ref (b 21), .int (nI 0)])), ((b 9), .inr (2, [.int (nI 4), .int (nI 4), .ref (b 10), .ref (b 11)])), (o, .inl (cJ, 1, .inr (.inl f)))] (fun r (u : Nat → Int64) => r = nI (kcCos x y) ∧ (kcCos x y = 0 → u 0 = (nI 44 : Int32).toInt64)) (fun u => [(o, .inl (cJ, 1, .inr (.inl u)))]) := by
  refine XW.of (by decide) (Nat.le_of_ble_eq_true rfl) (fun G hCT hE => ?_)
  have hC := hCT.cx
  show G 0 0 ([((b 0), .inr (5, [.ref (b 1), .ref (b 8), .ref (b 9), .ref (b 12), .ref (b 19), .int (nI 0), .ref (b 20), .int (nI 0), .ref (b 21), .int (nI 0)])), ((b 9), .inr (2, [.int (nI 4), .int (nI 4), .ref (b 10), .ref (b 11)])), (o, .inl (cJ, 1, .inr (.inl f)))]) 0 [(0, .ref (b 0)), (1, .int x), (2, .int y), (3, .ref o)] []
  refine y_aload_n hC dL_setCosts_0 3 rfl rfl ?_
  refine y_iconst hC (v := nI 0) dL_setCosts_1 rfl ?_
  refine y_aload_n hC dL_setCosts_2 0 rfl rfl ?_
  refine y_iload_n hC dL_setCosts_3 1 rfl rfl ?_
  refine y_iload_n hC dL_setCosts_4 2 rfl rfl ?_
  refine y_callX_i hCT (As := [.int x, .int y]) (rest := [.int (nI 0), .ref o]) (q_X5_setCosts hlt b x y) nV_X5_setCosts (inLr13 _ (List.mem_of_getElem? (i := 23) rfl)) [0, 1] [2] [0] [1, 2, 0] (fun u => [(o, .inl (cJ, 1, .inr (.inl f)))]) rfl rfl rfl rfl (by decide) rfl (fun _ => rfl) rfl rfl 0 rfl rfl rfl rfl (Nat.le_of_ble_eq_true rfl) dL_setCosts_5 ⟨(Nat.le_of_ble_eq_true rfl), (Nat.le_of_ble_eq_true rfl)⟩ ⟨(Nat.le_of_ble_eq_true rfl), (Nat.le_of_ble_eq_true rfl)⟩ (fun E hE9 => ?_) (fun r u hw => ?_)
  · obtain ⟨rfl, hk⟩ := hE9
    refine ⟨[], ⟨0, 10, 13, 15⟩, [], rfl, (fun z hz => nomatch hz), rfl, by decide, (inLr5 _ (List.mem_of_getElem? (i := 5) rfl)), by decide, fun q => ?_⟩
    refine y_astore hC [(4, .ref q), (0, .ref (b 0)), (1, .int x), (2, .int y), (3, .ref o)] dL_setCosts_13 (by decide) rfl ?_
    refine y_iconst hC (v := nI 1) dL_setCosts_15 rfl ?_
    refine y_world hC [2] (ws' := [(o, .inl (cJ, 1, .inr (.inl f)))]) rfl rfl ?_
    exact hE (nI 1) f _ _ _ _ dL_setCosts_16 (Nat.le_of_ble_eq_true rfl) (Nat.le_of_ble_eq_true rfl) rfl ⟨by rw [hk], fun h => absurd (hk.symm.trans h) (by decide)⟩
  · refine y_i2l hC (v := (r).toInt64) dL_setCosts_8 rfl ?_
    refine y_last hC 0 2 rfl rfl 0 rfl (by omega) (by decide) dL_setCosts_9 ([(o, .inl (cJ, 1, .inr (.inl (vp_updL f 0 ((r).toInt64)))))]) rfl ?_
    refine y_goto hC 17 dL_setCosts_10 (by decide) ?_
    refine y_iconst hC (v := nI 0) dL_setCosts_17 rfl ?_
    refine y_world hC [0] (ws' := [(o, .inl (cJ, 1, .inr (.inl (vp_updL f 0 ((r).toInt64)))))]) rfl rfl ?_
    exact hE (nI 0) (vp_updL f 0 ((r).toInt64)) _ _ _ _ dL_setCosts_18 (Nat.le_of_ble_eq_true rfl) (Nat.le_of_ble_eq_true rfl) rfl ⟨by rw [hw.1], fun _ => by show vp_updL _ _ _ _ = _; rw [pk_uLs, hw.2]⟩
theorem nW_setCosts : Cond.static yL_setCosts ∈ wsL_law ∧ Cond.initialized yL_setCosts.cls ∈ wsL_law ∧ Cond.codeWith yL_setCosts cL_setCosts 5 (some .int) [(0, 10, 13, 15)] ∈ wsL_law ∧ (yL_setCosts.cls ≠ "java/lang/invoke/MethodHandle" ∧ yL_setCosts.cls ≠ "java/lang/invoke/VarHandle" ∧ (parseMethodDescriptor yL_setCosts.desc).map (fun d => d.parameters.length) = some 4) := ⟨(inLr13 _ (List.mem_of_getElem? (i := 21) rfl)), (inLr5 _ (List.mem_of_getElem? (i := 2) rfl)), (inLr13 _ (List.mem_of_getElem? (i := 22) rfl)), by decide, by decide, by decide +kernel⟩
set_option maxHeartbeats 4000000 in
set_option maxRecDepth 100000 in
theorem w_feed (hlt : l.stackTraces = false) (b : Nat → Nat) (o : Nat) (f : Nat → Int64) (x1 : Int32) (x2 : Int32) (x3 : Int32) (x4 : Int32) (x5 : Int32) : XW l D (tyL cI cO cJ cZ) yL_feed cL_feed 8 [(0, 16, 19, 37)] ({ frames := 10, cells := 1, slots := 6, locals := 300 } : Room) [.ref (b 0), .int x1, .int x2, .int x3, .int x4, .int x5, .ref o] [((b 0), .inr (5, [.ref (b 1), .ref (b 8), .ref (b 9), .ref (b 12), .ref (b 19), .int (nI 0), .ref (b 20), .int (nI 0), .ref (b 21), .int (nI 0)])), ((b 20), .inl (cI, 80, .inl (fun k => nI (Zf k)))), (o, .inl (cJ, 1, .inr (.inl f)))] (fun r (u : Nat → Int64) => r = nI (0) ∧ (0 = 0 → u 0 = (nI 20 : Int32).toInt64)) (fun u => [(o, .inl (cJ, 1, .inr (.inl u)))]) := by
  refine XW.of (by decide) (Nat.le_of_ble_eq_true rfl) (fun G hCT hE => ?_)
  have hC := hCT.cx
  show G 0 0 ([((b 0), .inr (5, [.ref (b 1), .ref (b 8), .ref (b 9), .ref (b 12), .ref (b 19), .int (nI 0), .ref (b 20), .int (nI 0), .ref (b 21), .int (nI 0)])), ((b 20), .inl (cI, 80, .inl (fun k => nI (Zf k)))), (o, .inl (cJ, 1, .inr (.inl f)))]) 0 [(0, .ref (b 0)), (1, .int x1), (2, .int x2), (3, .int x3), (4, .int x4), (5, .int x5), (6, .ref o)] []
  refine y_aload hC dL_feed_0 6 rfl ?_
  refine y_iconst hC (v := nI 0) dL_feed_2 rfl ?_
  refine y_aload_n hC dL_feed_3 0 rfl rfl ?_
  refine y_iload_n hC dL_feed_4 1 rfl rfl ?_
  refine y_iload_n hC dL_feed_5 2 rfl rfl ?_
  refine y_iload_n hC dL_feed_6 3 rfl rfl ?_
  refine y_iload hC dL_feed_7 4 rfl ?_
  refine y_iload hC dL_feed_9 5 rfl ?_
  refine y_callV_i hC (As := [.int x1, .int x2, .int x3, .int x4, .int x5]) (rest := [.int (nI 0), .ref o]) (q_X5_feed b x1 x2 x3 x4 x5) nV_X5_feed (inLr14 _ (List.mem_of_getElem? (i := 13) rfl)) [0, 1] [2] [0] (fun u => [(o, .inl (cJ, 1, .inr (.inl f)))]) rfl rfl rfl rfl (by decide) rfl (fun _ => rfl) 0 rfl rfl rfl rfl (Nat.le_of_ble_eq_true rfl) dL_feed_11 ⟨(Nat.le_of_ble_eq_true rfl), (Nat.le_of_ble_eq_true rfl)⟩ ⟨(Nat.le_of_ble_eq_true rfl), (Nat.le_of_ble_eq_true rfl)⟩ (fun r u hw => ?_)
  refine y_i2l hC (v := (r).toInt64) dL_feed_14 rfl ?_
  refine y_last hC 0 2 rfl rfl 0 rfl (by omega) (by decide) dL_feed_15 ([(o, .inl (cJ, 1, .inr (.inl (vp_updL f 0 ((r).toInt64)))))]) rfl ?_
  refine y_goto hC 23 dL_feed_16 (by decide) ?_
  refine y_iconst hC (v := nI 0) dL_feed_23 rfl ?_
  refine y_world hC [0] (ws' := [(o, .inl (cJ, 1, .inr (.inl (vp_updL f 0 ((r).toInt64)))))]) rfl rfl ?_
  exact hE (nI 0) (vp_updL f 0 ((r).toInt64)) _ _ _ _ dL_feed_24 (Nat.le_of_ble_eq_true rfl) (Nat.le_of_ble_eq_true rfl) rfl ⟨rfl, fun _ => by show vp_updL _ _ _ _ = _; rw [pk_uLs, hw]⟩
theorem nW_feed : Cond.static yL_feed ∈ wsL_law ∧ Cond.initialized yL_feed.cls ∈ wsL_law ∧ Cond.codeWith yL_feed cL_feed 8 (some .int) [(0, 16, 19, 37)] ∈ wsL_law ∧ (yL_feed.cls ≠ "java/lang/invoke/MethodHandle" ∧ yL_feed.cls ≠ "java/lang/invoke/VarHandle" ∧ (parseMethodDescriptor yL_feed.desc).map (fun d => d.parameters.length) = some 7) := ⟨(inLr14 _ (List.mem_of_getElem? (i := 10) rfl)), (inLr5 _ (List.mem_of_getElem? (i := 2) rfl)), (inLr14 _ (List.mem_of_getElem? (i := 11) rfl)), by decide, by decide, by decide +kernel⟩
set_option maxHeartbeats 4000000 in
set_option maxRecDepth 100000 in
theorem w_trim (hlt : l.stackTraces = false) (b : Nat → Nat) (o : Nat) (f : Nat → Int64) (x : Int32) : XW l D (tyL cI cO cJ cZ) yL_trim cL_trim 4 [(0, 9, 12, 15)] ({ frames := 10, cells := 1, slots := 6, locals := 300 } : Room) [.ref (b 0), .int x, .ref o] [((b 0), .inr (5, [.ref (b 1), .ref (b 8), .ref (b 9), .ref (b 12), .ref (b 19), .int (nI 0), .ref (b 20), .int (nI 0), .ref (b 21), .int (nI 0)])), (o, .inl (cJ, 1, .inr (.inl f)))] (fun r (u : Nat → Int64) => r = nI (kcTri x) ∧ (kcTri x = 0 → u 0 = (nI 0 : Int32).toInt64)) (fun u => [(o, .inl (cJ, 1, .inr (.inl u)))]) := by
  refine XW.of (by decide) (Nat.le_of_ble_eq_true rfl) (fun G hCT hE => ?_)
  have hC := hCT.cx
  show G 0 0 ([((b 0), .inr (5, [.ref (b 1), .ref (b 8), .ref (b 9), .ref (b 12), .ref (b 19), .int (nI 0), .ref (b 20), .int (nI 0), .ref (b 21), .int (nI 0)])), (o, .inl (cJ, 1, .inr (.inl f)))]) 0 [(0, .ref (b 0)), (1, .int x), (2, .ref o)] []
  refine y_aload_n hC dL_trim_0 2 rfl rfl ?_
  refine y_iconst hC (v := nI 0) dL_trim_1 rfl ?_
  refine y_aload_n hC dL_trim_2 0 rfl rfl ?_
  refine y_iload_n hC dL_trim_3 1 rfl rfl ?_
  refine y_callX_i hCT (As := [.int x]) (rest := [.int (nI 0), .ref o]) (q_X5_trim hlt b x) nV_X5_trim (inLr15 _ (List.mem_of_getElem? (i := 8) rfl)) [0] [1] [0] [1, 0] (fun u => [(o, .inl (cJ, 1, .inr (.inl f)))]) rfl rfl rfl rfl (by decide) rfl (fun _ => rfl) rfl rfl 0 rfl rfl rfl rfl (Nat.le_of_ble_eq_true rfl) dL_trim_4 ⟨(Nat.le_of_ble_eq_true rfl), (Nat.le_of_ble_eq_true rfl)⟩ ⟨(Nat.le_of_ble_eq_true rfl), (Nat.le_of_ble_eq_true rfl)⟩ (fun E hE9 => ?_) (fun r u hw => ?_)
  · obtain ⟨rfl, hk⟩ := hE9
    refine ⟨[], ⟨0, 9, 12, 15⟩, [], rfl, (fun z hz => nomatch hz), rfl, by decide, (inLr5 _ (List.mem_of_getElem? (i := 5) rfl)), by decide, fun q => ?_⟩
    refine y_astore_n hC [(3, .ref q), (0, .ref (b 0)), (1, .int x), (2, .ref o)] dL_trim_12 rfl (by decide) rfl ?_
    refine y_iconst hC (v := nI 1) dL_trim_13 rfl ?_
    refine y_world hC [1] (ws' := [(o, .inl (cJ, 1, .inr (.inl f)))]) rfl rfl ?_
    exact hE (nI 1) f _ _ _ _ dL_trim_14 (Nat.le_of_ble_eq_true rfl) (Nat.le_of_ble_eq_true rfl) rfl ⟨by rw [hk], fun h => absurd (hk.symm.trans h) (by decide)⟩
  · refine y_i2l hC (v := (r).toInt64) dL_trim_7 rfl ?_
    refine y_last hC 0 2 rfl rfl 0 rfl (by omega) (by decide) dL_trim_8 ([(o, .inl (cJ, 1, .inr (.inl (vp_updL f 0 ((r).toInt64)))))]) rfl ?_
    refine y_goto hC 15 dL_trim_9 (by decide) ?_
    refine y_iconst hC (v := nI 0) dL_trim_15 rfl ?_
    refine y_world hC [0] (ws' := [(o, .inl (cJ, 1, .inr (.inl (vp_updL f 0 ((r).toInt64)))))]) rfl rfl ?_
    exact hE (nI 0) (vp_updL f 0 ((r).toInt64)) _ _ _ _ dL_trim_16 (Nat.le_of_ble_eq_true rfl) (Nat.le_of_ble_eq_true rfl) rfl ⟨by rw [hw.1], fun _ => by show vp_updL _ _ _ _ = _; rw [pk_uLs, hw.2]⟩
theorem nW_trim : Cond.static yL_trim ∈ wsL_law ∧ Cond.initialized yL_trim.cls ∈ wsL_law ∧ Cond.codeWith yL_trim cL_trim 4 (some .int) [(0, 9, 12, 15)] ∈ wsL_law ∧ (yL_trim.cls ≠ "java/lang/invoke/MethodHandle" ∧ yL_trim.cls ≠ "java/lang/invoke/VarHandle" ∧ (parseMethodDescriptor yL_trim.desc).map (fun d => d.parameters.length) = some 3) := ⟨(inLr15 _ (List.mem_of_getElem? (i := 6) rfl)), (inLr5 _ (List.mem_of_getElem? (i := 2) rfl)), (inLr15 _ (List.mem_of_getElem? (i := 7) rfl)), by decide, by decide, by decide +kernel⟩
set_option maxHeartbeats 4000000 in
set_option maxRecDepth 100000 in
theorem w_tie (hlt : l.stackTraces = false) (b : Nat → Nat) (o : Nat) (f : Nat → Int64)  : XW l D (tyL cI cO cJ cZ) yL_tie cL_tie 3 [(0, 8, 11, 37)] ({ frames := 10, cells := 1, slots := 6, locals := 300 } : Room) [.ref (b 0), .ref o] [((b 0), .inr (5, [.ref (b 1), .ref (b 8), .ref (b 9), .ref (b 12), .ref (b 19), .int (nI 0), .ref (b 20), .int (nI 0), .ref (b 21), .int (nI 0)])), ((b 19), .inl (cO, 10, .inr (.inr (.inr (.inr (fun k => if k < 10 then some (b (22 + k)) else none)))))), ((b 20), .inl (cI, 80, .inl (fun k => nI (Zf k)))), (o, .inl (cJ, 1, .inr (.inl f)))] (fun r (u : Nat → Int64) => r = nI (0) ∧ (0 = 0 → u 0 = (nI 0 : Int32).toInt64)) (fun u => [(o, .inl (cJ, 1, .inr (.inl u)))]) := by
  refine XW.of (by decide) (Nat.le_of_ble_eq_true rfl) (fun G hCT hE => ?_)
  have hC := hCT.cx
  show G 0 0 ([((b 0), .inr (5, [.ref (b 1), .ref (b 8), .ref (b 9), .ref (b 12), .ref (b 19), .int (nI 0), .ref (b 20), .int (nI 0), .ref (b 21), .int (nI 0)])), ((b 19), .inl (cO, 10, .inr (.inr (.inr (.inr (fun k => if k < 10 then some (b (22 + k)) else none)))))), ((b 20), .inl (cI, 80, .inl (fun k => nI (Zf k)))), (o, .inl (cJ, 1, .inr (.inl f)))]) 0 [(0, .ref (b 0)), (1, .ref o)] []
  refine y_aload_n hC dL_tie_0 1 rfl rfl ?_
  refine y_iconst hC (v := nI 0) dL_tie_1 rfl ?_
  refine y_aload_n hC dL_tie_2 0 rfl rfl ?_
  refine y_callV_i hC (As := []) (rest := [.int (nI 0), .ref o]) (q_X5_tie b ) nV_X5_tie (inLr15 _ (List.mem_of_getElem? (i := 19) rfl)) [0, 1, 2] [3] [0] (fun u => [(o, .inl (cJ, 1, .inr (.inl f)))]) rfl rfl rfl rfl (by decide) rfl (fun _ => rfl) 0 rfl rfl rfl rfl (Nat.le_of_ble_eq_true rfl) dL_tie_3 ⟨(Nat.le_of_ble_eq_true rfl), (Nat.le_of_ble_eq_true rfl)⟩ ⟨(Nat.le_of_ble_eq_true rfl), (Nat.le_of_ble_eq_true rfl)⟩ (fun r u hw => ?_)
  refine y_i2l hC (v := (r).toInt64) dL_tie_6 rfl ?_
  refine y_last hC 0 2 rfl rfl 0 rfl (by omega) (by decide) dL_tie_7 ([(o, .inl (cJ, 1, .inr (.inl (vp_updL f 0 ((r).toInt64)))))]) rfl ?_
  refine y_goto hC 14 dL_tie_8 (by decide) ?_
  refine y_iconst hC (v := nI 0) dL_tie_14 rfl ?_
  refine y_world hC [0] (ws' := [(o, .inl (cJ, 1, .inr (.inl (vp_updL f 0 ((r).toInt64)))))]) rfl rfl ?_
  exact hE (nI 0) (vp_updL f 0 ((r).toInt64)) _ _ _ _ dL_tie_15 (Nat.le_of_ble_eq_true rfl) (Nat.le_of_ble_eq_true rfl) rfl ⟨rfl, fun _ => by show vp_updL _ _ _ _ = _; rw [pk_uLs, hw]⟩
theorem nW_tie : Cond.static yL_tie ∈ wsL_law ∧ Cond.initialized yL_tie.cls ∈ wsL_law ∧ Cond.codeWith yL_tie cL_tie 3 (some .int) [(0, 8, 11, 37)] ∈ wsL_law ∧ (yL_tie.cls ≠ "java/lang/invoke/MethodHandle" ∧ yL_tie.cls ≠ "java/lang/invoke/VarHandle" ∧ (parseMethodDescriptor yL_tie.desc).map (fun d => d.parameters.length) = some 2) := ⟨(inLr15 _ (List.mem_of_getElem? (i := 17) rfl)), (inLr5 _ (List.mem_of_getElem? (i := 2) rfl)), (inLr15 _ (List.mem_of_getElem? (i := 18) rfl)), by decide, by decide, by decide +kernel⟩
set_option maxHeartbeats 4000000 in
set_option maxRecDepth 100000 in
theorem w_cord (hlt : l.stackTraces = false) (b : Nat → Nat) (o : Nat) (f : Nat → Int64) (x : Int32) (y : Int32) : XW l D (tyL cI cO cJ cZ) yL_cord cL_cord 5 [(0, 10, 13, 13)] ({ frames := 10, cells := 1, slots := 6, locals := 300 } : Room) [.ref (b 0), .int x, .int y, .ref o] [((b 0), .inr (5, [.ref (b 1), .ref (b 8), .ref (b 9), .ref (b 12), .ref (b 19), .int (nI 0), .ref (b 20), .int (nI 0), .ref (b 21), .int (nI 0)])), (o, .inl (cJ, 1, .inr (.inl f)))] (fun r (_ : Nat → Int64) => r = nI 1) (fun u => [(o, .inl (cJ, 1, .inr (.inl u)))]) := by
  refine XW.of (by decide) (Nat.le_of_ble_eq_true rfl) (fun G hCT hE => ?_)
  have hC := hCT.cx
  show G 0 0 ([((b 0), .inr (5, [.ref (b 1), .ref (b 8), .ref (b 9), .ref (b 12), .ref (b 19), .int (nI 0), .ref (b 20), .int (nI 0), .ref (b 21), .int (nI 0)])), (o, .inl (cJ, 1, .inr (.inl f)))]) 0 [(0, .ref (b 0)), (1, .int x), (2, .int y), (3, .ref o)] []
  refine y_aload_n hC dL_cord_0 3 rfl rfl ?_
  refine y_iconst hC (v := nI 0) dL_cord_1 rfl ?_
  refine y_aload_n hC dL_cord_2 0 rfl rfl ?_
  refine y_iload_n hC dL_cord_3 1 rfl rfl ?_
  refine y_iload_n hC dL_cord_4 2 rfl rfl ?_
  refine y_callX_i hCT (As := [.int x, .int y]) (rest := [.int (nI 0), .ref o]) (q_X5_cord hlt b x y) nV_X5_cord (inLr18 _ (List.mem_of_getElem? (i := 15) rfl)) [0] [1] [0] [1, 0] (fun u => [(o, .inl (cJ, 1, .inr (.inl f)))]) rfl rfl rfl rfl (by decide) rfl (fun _ => rfl) rfl rfl 0 rfl rfl rfl rfl (Nat.le_of_ble_eq_true rfl) dL_cord_5 ⟨(Nat.le_of_ble_eq_true rfl), (Nat.le_of_ble_eq_true rfl)⟩ ⟨(Nat.le_of_ble_eq_true rfl), (Nat.le_of_ble_eq_true rfl)⟩ (fun E hE9 => ?_) (fun r u hw => ?_)
  · obtain ⟨rfl, hk⟩ := hE9
    refine ⟨[], ⟨0, 10, 13, 13⟩, [], rfl, (fun z hz => nomatch hz), rfl, by decide, (inLr5 _ (List.mem_of_getElem? (i := 4) rfl)), by decide, fun q => ?_⟩
    refine y_astore hC [(4, .ref q), (0, .ref (b 0)), (1, .int x), (2, .int y), (3, .ref o)] dL_cord_13 (by decide) rfl ?_
    refine y_iconst hC (v := nI 1) dL_cord_15 rfl ?_
    refine y_world hC [1] (ws' := [(o, .inl (cJ, 1, .inr (.inl f)))]) rfl rfl ?_
    exact hE (nI 1) f _ _ _ _ dL_cord_16 (Nat.le_of_ble_eq_true rfl) (Nat.le_of_ble_eq_true rfl) rfl rfl
  · exact hw.elim
theorem nW_cord : Cond.static yL_cord ∈ wsL_law ∧ Cond.initialized yL_cord.cls ∈ wsL_law ∧ Cond.codeWith yL_cord cL_cord 5 (some .int) [(0, 10, 13, 13)] ∈ wsL_law ∧ (yL_cord.cls ≠ "java/lang/invoke/MethodHandle" ∧ yL_cord.cls ≠ "java/lang/invoke/VarHandle" ∧ (parseMethodDescriptor yL_cord.desc).map (fun d => d.parameters.length) = some 4) := ⟨(inLr18 _ (List.mem_of_getElem? (i := 13) rfl)), (inLr5 _ (List.mem_of_getElem? (i := 2) rfl)), (inLr18 _ (List.mem_of_getElem? (i := 14) rfl)), by decide, by decide, by decide +kernel⟩
set_option maxHeartbeats 4000000 in
set_option maxRecDepth 100000 in
theorem w_knot (hlt : l.stackTraces = false) (b : Nat → Nat) (o : Nat) (f : Nat → Int64) (x : Int32) (y : Int32) : XW l D (tyL cI cO cJ cZ) yL_knot cL_knot 5 [(0, 10, 13, 13)] ({ frames := 10, cells := 1, slots := 6, locals := 300 } : Room) [.ref (b 0), .int x, .int y, .ref o] [((b 0), .inr (5, [.ref (b 1), .ref (b 8), .ref (b 9), .ref (b 12), .ref (b 19), .int (nI 0), .ref (b 20), .int (nI 0), .ref (b 21), .int (nI 0)])), (o, .inl (cJ, 1, .inr (.inl f)))] (fun r (_ : Nat → Int64) => r = nI 1) (fun u => [(o, .inl (cJ, 1, .inr (.inl u)))]) := by
  refine XW.of (by decide) (Nat.le_of_ble_eq_true rfl) (fun G hCT hE => ?_)
  have hC := hCT.cx
  show G 0 0 ([((b 0), .inr (5, [.ref (b 1), .ref (b 8), .ref (b 9), .ref (b 12), .ref (b 19), .int (nI 0), .ref (b 20), .int (nI 0), .ref (b 21), .int (nI 0)])), (o, .inl (cJ, 1, .inr (.inl f)))]) 0 [(0, .ref (b 0)), (1, .int x), (2, .int y), (3, .ref o)] []
  refine y_aload_n hC dL_knot_0 3 rfl rfl ?_
  refine y_iconst hC (v := nI 0) dL_knot_1 rfl ?_
  refine y_aload_n hC dL_knot_2 0 rfl rfl ?_
  refine y_iload_n hC dL_knot_3 1 rfl rfl ?_
  refine y_iload_n hC dL_knot_4 2 rfl rfl ?_
  refine y_callX_i hCT (As := [.int x, .int y]) (rest := [.int (nI 0), .ref o]) (q_X5_knot hlt b x y) nV_X5_knot (inLr24 _ (List.mem_of_getElem? (i := 0) rfl)) [0] [1] [0] [1, 0] (fun u => [(o, .inl (cJ, 1, .inr (.inl f)))]) rfl rfl rfl rfl (by decide) rfl (fun _ => rfl) rfl rfl 0 rfl rfl rfl rfl (Nat.le_of_ble_eq_true rfl) dL_knot_5 ⟨(Nat.le_of_ble_eq_true rfl), (Nat.le_of_ble_eq_true rfl)⟩ ⟨(Nat.le_of_ble_eq_true rfl), (Nat.le_of_ble_eq_true rfl)⟩ (fun E hE9 => ?_) (fun r u hw => ?_)
  · obtain ⟨rfl, hk⟩ := hE9
    refine ⟨[], ⟨0, 10, 13, 13⟩, [], rfl, (fun z hz => nomatch hz), rfl, by decide, (inLr5 _ (List.mem_of_getElem? (i := 4) rfl)), by decide, fun q => ?_⟩
    refine y_astore hC [(4, .ref q), (0, .ref (b 0)), (1, .int x), (2, .int y), (3, .ref o)] dL_knot_13 (by decide) rfl ?_
    refine y_iconst hC (v := nI 1) dL_knot_15 rfl ?_
    refine y_world hC [1] (ws' := [(o, .inl (cJ, 1, .inr (.inl f)))]) rfl rfl ?_
    exact hE (nI 1) f _ _ _ _ dL_knot_16 (Nat.le_of_ble_eq_true rfl) (Nat.le_of_ble_eq_true rfl) rfl rfl
  · exact hw.elim
theorem nW_knot : Cond.static yL_knot ∈ wsL_law ∧ Cond.initialized yL_knot.cls ∈ wsL_law ∧ Cond.codeWith yL_knot cL_knot 5 (some .int) [(0, 10, 13, 13)] ∈ wsL_law ∧ (yL_knot.cls ≠ "java/lang/invoke/MethodHandle" ∧ yL_knot.cls ≠ "java/lang/invoke/VarHandle" ∧ (parseMethodDescriptor yL_knot.desc).map (fun d => d.parameters.length) = some 4) := ⟨(inLr23 _ (List.mem_of_getElem? (i := 22) rfl)), (inLr5 _ (List.mem_of_getElem? (i := 2) rfl)), (inLr23 _ (List.mem_of_getElem? (i := 23) rfl)), by decide, by decide, by decide +kernel⟩
set_option maxHeartbeats 4000000 in
set_option maxRecDepth 100000 in
theorem w_retie (hlt : l.stackTraces = false) (b : Nat → Nat) (o : Nat) (f : Nat → Int64) (x : Int32) (y : Int32) (z : Int32) : XW l D (tyL cI cO cJ cZ) yL_retie cL_retie 6 [(0, 12, 15, 13), (0, 12, 19, 15), (0, 12, 23, 37)] ({ frames := 10, cells := 1, slots := 6, locals := 300 } : Room) [.ref (b 0), .int x, .int y, .int z, .ref o] [((b 0), .inr (5, [.ref (b 1), .ref (b 8), .ref (b 9), .ref (b 12), .ref (b 19), .int (nI 0), .ref (b 20), .int (nI 0), .ref (b 21), .int (nI 0)])), (o, .inl (cJ, 1, .inr (.inl f)))] (fun r (_ : Nat → Int64) => r = nI 1) (fun u => [(o, .inl (cJ, 1, .inr (.inl u)))]) := by
  refine XW.of (by decide) (Nat.le_of_ble_eq_true rfl) (fun G hCT hE => ?_)
  have hC := hCT.cx
  show G 0 0 ([((b 0), .inr (5, [.ref (b 1), .ref (b 8), .ref (b 9), .ref (b 12), .ref (b 19), .int (nI 0), .ref (b 20), .int (nI 0), .ref (b 21), .int (nI 0)])), (o, .inl (cJ, 1, .inr (.inl f)))]) 0 [(0, .ref (b 0)), (1, .int x), (2, .int y), (3, .int z), (4, .ref o)] []
  refine y_aload hC dL_retie_0 4 rfl ?_
  refine y_iconst hC (v := nI 0) dL_retie_2 rfl ?_
  refine y_aload_n hC dL_retie_3 0 rfl rfl ?_
  refine y_iload_n hC dL_retie_4 1 rfl rfl ?_
  refine y_iload_n hC dL_retie_5 2 rfl rfl ?_
  refine y_iload_n hC dL_retie_6 3 rfl rfl ?_
  refine y_callX_i hCT (As := [.int x, .int y, .int z]) (rest := [.int (nI 0), .ref o]) (q_X5_retie hlt b x y z) nV_X5_retie (inLr24 _ (List.mem_of_getElem? (i := 16) rfl)) [0] [1] [0] [1, 0] (fun u => [(o, .inl (cJ, 1, .inr (.inl f)))]) rfl rfl rfl rfl (by decide) rfl (fun _ => rfl) rfl rfl 0 rfl rfl rfl rfl (Nat.le_of_ble_eq_true rfl) dL_retie_7 ⟨(Nat.le_of_ble_eq_true rfl), (Nat.le_of_ble_eq_true rfl)⟩ ⟨(Nat.le_of_ble_eq_true rfl), (Nat.le_of_ble_eq_true rfl)⟩ (fun E hE9 => ?_) (fun r u hw => ?_)
  · obtain ⟨rfl, hk⟩ := hE9
    refine ⟨[], ⟨0, 12, 15, 13⟩, [⟨0, 12, 19, 15⟩, ⟨0, 12, 23, 37⟩], rfl, (fun z hz => nomatch hz), rfl, by decide, (inLr5 _ (List.mem_of_getElem? (i := 4) rfl)), by decide, fun q => ?_⟩
    refine y_astore hC [(5, .ref q), (0, .ref (b 0)), (1, .int x), (2, .int y), (3, .int z), (4, .ref o)] dL_retie_15 (by decide) rfl ?_
    refine y_iconst hC (v := nI 1) dL_retie_17 rfl ?_
    refine y_world hC [1] (ws' := [(o, .inl (cJ, 1, .inr (.inl f)))]) rfl rfl ?_
    exact hE (nI 1) f _ _ _ _ dL_retie_18 (Nat.le_of_ble_eq_true rfl) (Nat.le_of_ble_eq_true rfl) rfl rfl
  · exact hw.elim
theorem nW_retie : Cond.static yL_retie ∈ wsL_law ∧ Cond.initialized yL_retie.cls ∈ wsL_law ∧ Cond.codeWith yL_retie cL_retie 6 (some .int) [(0, 12, 15, 13), (0, 12, 19, 15), (0, 12, 23, 37)] ∈ wsL_law ∧ (yL_retie.cls ≠ "java/lang/invoke/MethodHandle" ∧ yL_retie.cls ≠ "java/lang/invoke/VarHandle" ∧ (parseMethodDescriptor yL_retie.desc).map (fun d => d.parameters.length) = some 5) := ⟨(inLr24 _ (List.mem_of_getElem? (i := 14) rfl)), (inLr5 _ (List.mem_of_getElem? (i := 2) rfl)), (inLr24 _ (List.mem_of_getElem? (i := 15) rfl)), by decide, by decide, by decide +kernel⟩
set_option maxHeartbeats 4000000 in
set_option maxRecDepth 100000 in
theorem w_distance (hlt : l.stackTraces = false) (b : Nat → Nat) (o : Nat) (f : Nat → Int64) (x : Int32) (y : Int32) : XW l D (tyL cI cO cJ cZ) yL_distance cL_distance 5 [(0, 10, 13, 13)] ({ frames := 10, cells := 1, slots := 6, locals := 300 } : Room) [.ref (b 0), .int x, .int y, .ref o] [((b 0), .inr (5, [.ref (b 1), .ref (b 8), .ref (b 9), .ref (b 12), .ref (b 19), .int (nI 0), .ref (b 20), .int (nI 0), .ref (b 21), .int (nI 0)])), (o, .inl (cJ, 1, .inr (.inl f)))] (fun r (_ : Nat → Int64) => r = nI 1) (fun u => [(o, .inl (cJ, 1, .inr (.inl u)))]) := by
  refine XW.of (by decide) (Nat.le_of_ble_eq_true rfl) (fun G hCT hE => ?_)
  have hC := hCT.cx
  show G 0 0 ([((b 0), .inr (5, [.ref (b 1), .ref (b 8), .ref (b 9), .ref (b 12), .ref (b 19), .int (nI 0), .ref (b 20), .int (nI 0), .ref (b 21), .int (nI 0)])), (o, .inl (cJ, 1, .inr (.inl f)))]) 0 [(0, .ref (b 0)), (1, .int x), (2, .int y), (3, .ref o)] []
  refine y_aload_n hC dL_distance_0 3 rfl rfl ?_
  refine y_iconst hC (v := nI 0) dL_distance_1 rfl ?_
  refine y_aload_n hC dL_distance_2 0 rfl rfl ?_
  refine y_iload_n hC dL_distance_3 1 rfl rfl ?_
  refine y_iload_n hC dL_distance_4 2 rfl rfl ?_
  refine y_callX_i hCT (As := [.int x, .int y]) (rest := [.int (nI 0), .ref o]) (q_X5_distance hlt b x y) nV_X5_distance (inLr25 _ (List.mem_of_getElem? (i := 3) rfl)) [0] [1] [0] [1, 0] (fun u => [(o, .inl (cJ, 1, .inr (.inl f)))]) rfl rfl rfl rfl (by decide) rfl (fun _ => rfl) rfl rfl 0 rfl rfl rfl rfl (Nat.le_of_ble_eq_true rfl) dL_distance_5 ⟨(Nat.le_of_ble_eq_true rfl), (Nat.le_of_ble_eq_true rfl)⟩ ⟨(Nat.le_of_ble_eq_true rfl), (Nat.le_of_ble_eq_true rfl)⟩ (fun E hE9 => ?_) (fun r u hw => ?_)
  · obtain ⟨rfl, hk⟩ := hE9
    refine ⟨[], ⟨0, 10, 13, 13⟩, [], rfl, (fun z hz => nomatch hz), rfl, by decide, (inLr5 _ (List.mem_of_getElem? (i := 4) rfl)), by decide, fun q => ?_⟩
    refine y_astore hC [(4, .ref q), (0, .ref (b 0)), (1, .int x), (2, .int y), (3, .ref o)] dL_distance_13 (by decide) rfl ?_
    refine y_iconst hC (v := nI 1) dL_distance_15 rfl ?_
    refine y_world hC [1] (ws' := [(o, .inl (cJ, 1, .inr (.inl f)))]) rfl rfl ?_
    exact hE (nI 1) f _ _ _ _ dL_distance_16 (Nat.le_of_ble_eq_true rfl) (Nat.le_of_ble_eq_true rfl) rfl rfl
  · exact hw.elim
theorem nW_distance : Cond.static yL_distance ∈ wsL_law ∧ Cond.initialized yL_distance.cls ∈ wsL_law ∧ Cond.codeWith yL_distance cL_distance 5 (some .int) [(0, 10, 13, 13)] ∈ wsL_law ∧ (yL_distance.cls ≠ "java/lang/invoke/MethodHandle" ∧ yL_distance.cls ≠ "java/lang/invoke/VarHandle" ∧ (parseMethodDescriptor yL_distance.desc).map (fun d => d.parameters.length) = some 4) := ⟨(inLr25 _ (List.mem_of_getElem? (i := 1) rfl)), (inLr5 _ (List.mem_of_getElem? (i := 2) rfl)), (inLr25 _ (List.mem_of_getElem? (i := 2) rfl)), by decide, by decide, by decide +kernel⟩
set_option maxHeartbeats 4000000 in
set_option maxRecDepth 100000 in
theorem w_nearest (hlt : l.stackTraces = false) (b : Nat → Nat) (o : Nat) (f : Nat → Int64) (x : Int32) : XW l D (tyL cI cO cJ cZ) yL_nearest cL_nearest 4 [(0, 9, 12, 13)] ({ frames := 10, cells := 1, slots := 6, locals := 300 } : Room) [.ref (b 0), .int x, .ref o] [((b 0), .inr (5, [.ref (b 1), .ref (b 8), .ref (b 9), .ref (b 12), .ref (b 19), .int (nI 0), .ref (b 20), .int (nI 0), .ref (b 21), .int (nI 0)])), (o, .inl (cJ, 1, .inr (.inl f)))] (fun r (_ : Nat → Int64) => r = nI 1) (fun u => [(o, .inl (cJ, 1, .inr (.inl u)))]) := by
  refine XW.of (by decide) (Nat.le_of_ble_eq_true rfl) (fun G hCT hE => ?_)
  have hC := hCT.cx
  show G 0 0 ([((b 0), .inr (5, [.ref (b 1), .ref (b 8), .ref (b 9), .ref (b 12), .ref (b 19), .int (nI 0), .ref (b 20), .int (nI 0), .ref (b 21), .int (nI 0)])), (o, .inl (cJ, 1, .inr (.inl f)))]) 0 [(0, .ref (b 0)), (1, .int x), (2, .ref o)] []
  refine y_aload_n hC dL_nearest_0 2 rfl rfl ?_
  refine y_iconst hC (v := nI 0) dL_nearest_1 rfl ?_
  refine y_aload_n hC dL_nearest_2 0 rfl rfl ?_
  refine y_iload_n hC dL_nearest_3 1 rfl rfl ?_
  refine y_callX_i hCT (As := [.int x]) (rest := [.int (nI 0), .ref o]) (q_X5_nearest hlt b x) nV_X5_nearest (inLr25 _ (List.mem_of_getElem? (i := 22) rfl)) [0] [1] [0] [1, 0] (fun u => [(o, .inl (cJ, 1, .inr (.inl f)))]) rfl rfl rfl rfl (by decide) rfl (fun _ => rfl) rfl rfl 0 rfl rfl rfl rfl (Nat.le_of_ble_eq_true rfl) dL_nearest_4 ⟨(Nat.le_of_ble_eq_true rfl), (Nat.le_of_ble_eq_true rfl)⟩ ⟨(Nat.le_of_ble_eq_true rfl), (Nat.le_of_ble_eq_true rfl)⟩ (fun E hE9 => ?_) (fun r u hw => ?_)
  · obtain ⟨rfl, hk⟩ := hE9
    refine ⟨[], ⟨0, 9, 12, 13⟩, [], rfl, (fun z hz => nomatch hz), rfl, by decide, (inLr5 _ (List.mem_of_getElem? (i := 4) rfl)), by decide, fun q => ?_⟩
    refine y_astore_n hC [(3, .ref q), (0, .ref (b 0)), (1, .int x), (2, .ref o)] dL_nearest_12 rfl (by decide) rfl ?_
    refine y_iconst hC (v := nI 1) dL_nearest_13 rfl ?_
    refine y_world hC [1] (ws' := [(o, .inl (cJ, 1, .inr (.inl f)))]) rfl rfl ?_
    exact hE (nI 1) f _ _ _ _ dL_nearest_14 (Nat.le_of_ble_eq_true rfl) (Nat.le_of_ble_eq_true rfl) rfl rfl
  · exact hw.elim
theorem nW_nearest : Cond.static yL_nearest ∈ wsL_law ∧ Cond.initialized yL_nearest.cls ∈ wsL_law ∧ Cond.codeWith yL_nearest cL_nearest 4 (some .int) [(0, 9, 12, 13)] ∈ wsL_law ∧ (yL_nearest.cls ≠ "java/lang/invoke/MethodHandle" ∧ yL_nearest.cls ≠ "java/lang/invoke/VarHandle" ∧ (parseMethodDescriptor yL_nearest.desc).map (fun d => d.parameters.length) = some 3) := ⟨(inLr25 _ (List.mem_of_getElem? (i := 20) rfl)), (inLr5 _ (List.mem_of_getElem? (i := 2) rfl)), (inLr25 _ (List.mem_of_getElem? (i := 21) rfl)), by decide, by decide, by decide +kernel⟩
set_option maxHeartbeats 4000000 in
set_option maxRecDepth 100000 in
theorem w_read (hlt : l.stackTraces = false) (b : Nat → Nat) (o : Nat) (f : Nat → Int64) (x : Int32) : XW l D (tyL cI cO cJ cZ) yL_read cL_read 4 [(0, 9, 12, 13)] ({ frames := 10, cells := 1, slots := 6, locals := 300 } : Room) [.ref (b 0), .int x, .ref o] [((b 0), .inr (5, [.ref (b 1), .ref (b 8), .ref (b 9), .ref (b 12), .ref (b 19), .int (nI 0), .ref (b 20), .int (nI 0), .ref (b 21), .int (nI 0)])), (o, .inl (cJ, 1, .inr (.inl f)))] (fun r (_ : Nat → Int64) => r = nI 1) (fun u => [(o, .inl (cJ, 1, .inr (.inl u)))]) := by
  refine XW.of (by decide) (Nat.le_of_ble_eq_true rfl) (fun G hCT hE => ?_)
  have hC := hCT.cx
  show G 0 0 ([((b 0), .inr (5, [.ref (b 1), .ref (b 8), .ref (b 9), .ref (b 12), .ref (b 19), .int (nI 0), .ref (b 20), .int (nI 0), .ref (b 21), .int (nI 0)])), (o, .inl (cJ, 1, .inr (.inl f)))]) 0 [(0, .ref (b 0)), (1, .int x), (2, .ref o)] []
  refine y_aload_n hC dL_read_0 2 rfl rfl ?_
  refine y_iconst hC (v := nI 0) dL_read_1 rfl ?_
  refine y_aload_n hC dL_read_2 0 rfl rfl ?_
  refine y_iload_n hC dL_read_3 1 rfl rfl ?_
  refine y_callX_i hCT (As := [.int x]) (rest := [.int (nI 0), .ref o]) (q_X5_read hlt b x) nV_X5_read (inLr26 _ (List.mem_of_getElem? (i := 9) rfl)) [0] [1] [0] [1, 0] (fun u => [(o, .inl (cJ, 1, .inr (.inl f)))]) rfl rfl rfl rfl (by decide) rfl (fun _ => rfl) rfl rfl 0 rfl rfl rfl rfl (Nat.le_of_ble_eq_true rfl) dL_read_4 ⟨(Nat.le_of_ble_eq_true rfl), (Nat.le_of_ble_eq_true rfl)⟩ ⟨(Nat.le_of_ble_eq_true rfl), (Nat.le_of_ble_eq_true rfl)⟩ (fun E hE9 => ?_) (fun r u hw => ?_)
  · obtain ⟨rfl, hk⟩ := hE9
    refine ⟨[], ⟨0, 9, 12, 13⟩, [], rfl, (fun z hz => nomatch hz), rfl, by decide, (inLr5 _ (List.mem_of_getElem? (i := 4) rfl)), by decide, fun q => ?_⟩
    refine y_astore_n hC [(3, .ref q), (0, .ref (b 0)), (1, .int x), (2, .ref o)] dL_read_12 rfl (by decide) rfl ?_
    refine y_iconst hC (v := nI 1) dL_read_13 rfl ?_
    refine y_world hC [1] (ws' := [(o, .inl (cJ, 1, .inr (.inl f)))]) rfl rfl ?_
    exact hE (nI 1) f _ _ _ _ dL_read_14 (Nat.le_of_ble_eq_true rfl) (Nat.le_of_ble_eq_true rfl) rfl rfl
  · exact hw.elim
theorem nW_read : Cond.static yL_read ∈ wsL_law ∧ Cond.initialized yL_read.cls ∈ wsL_law ∧ Cond.codeWith yL_read cL_read 4 (some .int) [(0, 9, 12, 13)] ∈ wsL_law ∧ (yL_read.cls ≠ "java/lang/invoke/MethodHandle" ∧ yL_read.cls ≠ "java/lang/invoke/VarHandle" ∧ (parseMethodDescriptor yL_read.desc).map (fun d => d.parameters.length) = some 3) := ⟨(inLr26 _ (List.mem_of_getElem? (i := 7) rfl)), (inLr5 _ (List.mem_of_getElem? (i := 2) rfl)), (inLr26 _ (List.mem_of_getElem? (i := 8) rfl)), by decide, by decide, by decide +kernel⟩
set_option maxHeartbeats 4000000 in
set_option maxRecDepth 100000 in
theorem w_byteAt (hlt : l.stackTraces = false) (b : Nat → Nat) (o : Nat) (f : Nat → Int64) (x : Int32) : XW l D (tyL cI cO cJ cZ) yL_byteAt cL_byteAt 4 [(0, 9, 12, 13)] ({ frames := 10, cells := 1, slots := 6, locals := 300 } : Room) [.ref (b 0), .int x, .ref o] [((b 0), .inr (5, [.ref (b 1), .ref (b 8), .ref (b 9), .ref (b 12), .ref (b 19), .int (nI 0), .ref (b 20), .int (nI 0), .ref (b 21), .int (nI 0)])), (o, .inl (cJ, 1, .inr (.inl f)))] (fun r (_ : Nat → Int64) => r = nI 1) (fun u => [(o, .inl (cJ, 1, .inr (.inl u)))]) := by
  refine XW.of (by decide) (Nat.le_of_ble_eq_true rfl) (fun G hCT hE => ?_)
  have hC := hCT.cx
  show G 0 0 ([((b 0), .inr (5, [.ref (b 1), .ref (b 8), .ref (b 9), .ref (b 12), .ref (b 19), .int (nI 0), .ref (b 20), .int (nI 0), .ref (b 21), .int (nI 0)])), (o, .inl (cJ, 1, .inr (.inl f)))]) 0 [(0, .ref (b 0)), (1, .int x), (2, .ref o)] []
  refine y_aload_n hC dL_byteAt_0 2 rfl rfl ?_
  refine y_iconst hC (v := nI 0) dL_byteAt_1 rfl ?_
  refine y_aload_n hC dL_byteAt_2 0 rfl rfl ?_
  refine y_iload_n hC dL_byteAt_3 1 rfl rfl ?_
  refine y_callX_i hCT (As := [.int x]) (rest := [.int (nI 0), .ref o]) (q_X5_byteAt hlt b x) nV_X5_byteAt (inLr27 _ (List.mem_of_getElem? (i := 6) rfl)) [0] [1] [0] [1, 0] (fun u => [(o, .inl (cJ, 1, .inr (.inl f)))]) rfl rfl rfl rfl (by decide) rfl (fun _ => rfl) rfl rfl 0 rfl rfl rfl rfl (Nat.le_of_ble_eq_true rfl) dL_byteAt_4 ⟨(Nat.le_of_ble_eq_true rfl), (Nat.le_of_ble_eq_true rfl)⟩ ⟨(Nat.le_of_ble_eq_true rfl), (Nat.le_of_ble_eq_true rfl)⟩ (fun E hE9 => ?_) (fun r u hw => ?_)
  · obtain ⟨rfl, hk⟩ := hE9
    refine ⟨[], ⟨0, 9, 12, 13⟩, [], rfl, (fun z hz => nomatch hz), rfl, by decide, (inLr5 _ (List.mem_of_getElem? (i := 4) rfl)), by decide, fun q => ?_⟩
    refine y_astore_n hC [(3, .ref q), (0, .ref (b 0)), (1, .int x), (2, .ref o)] dL_byteAt_12 rfl (by decide) rfl ?_
    refine y_iconst hC (v := nI 1) dL_byteAt_13 rfl ?_
    refine y_world hC [1] (ws' := [(o, .inl (cJ, 1, .inr (.inl f)))]) rfl rfl ?_
    exact hE (nI 1) f _ _ _ _ dL_byteAt_14 (Nat.le_of_ble_eq_true rfl) (Nat.le_of_ble_eq_true rfl) rfl rfl
  · exact hw.elim
theorem nW_byteAt : Cond.static yL_byteAt ∈ wsL_law ∧ Cond.initialized yL_byteAt.cls ∈ wsL_law ∧ Cond.codeWith yL_byteAt cL_byteAt 4 (some .int) [(0, 9, 12, 13)] ∈ wsL_law ∧ (yL_byteAt.cls ≠ "java/lang/invoke/MethodHandle" ∧ yL_byteAt.cls ≠ "java/lang/invoke/VarHandle" ∧ (parseMethodDescriptor yL_byteAt.desc).map (fun d => d.parameters.length) = some 3) := ⟨(inLr27 _ (List.mem_of_getElem? (i := 4) rfl)), (inLr5 _ (List.mem_of_getElem? (i := 2) rfl)), (inLr27 _ (List.mem_of_getElem? (i := 5) rfl)), by decide, by decide, by decide +kernel⟩
set_option maxHeartbeats 4000000 in
set_option maxRecDepth 100000 in
theorem w_count (hlt : l.stackTraces = false) (b : Nat → Nat) (o : Nat) (f : Nat → Int64) (x : Int32) : XW l D (tyL cI cO cJ cZ) yL_count cL_count 4 [(0, 9, 12, 13)] ({ frames := 10, cells := 1, slots := 6, locals := 300 } : Room) [.ref (b 0), .int x, .ref o] [((b 0), .inr (5, [.ref (b 1), .ref (b 8), .ref (b 9), .ref (b 12), .ref (b 19), .int (nI 0), .ref (b 20), .int (nI 0), .ref (b 21), .int (nI 0)])), ((b 1), .inr (0, [.ref (b 2), .ref (b 3), .ref (b 4), .ref (b 5), .ref (b 6), .ref (b 7), .int (nI 0)])), ((b 2), .inl (cI, 12, .inl (fun k => nI (Zf k)))), ((b 8), .inr (3, [.int (nI 0), .int (nI 0), .int (nI 0), .int (nI 0), .int (nI 0)])), (o, .inl (cJ, 1, .inr (.inl f)))] (fun r (u : Nat → Int64) => r = nI (kcCou x) ∧ (kcCou x = 0 → u 0 = (nI 0 : Int32).toInt64)) (fun u => [(o, .inl (cJ, 1, .inr (.inl u)))]) := by
  refine XW.of (by decide) (Nat.le_of_ble_eq_true rfl) (fun G hCT hE => ?_)
  have hC := hCT.cx
  show G 0 0 ([((b 0), .inr (5, [.ref (b 1), .ref (b 8), .ref (b 9), .ref (b 12), .ref (b 19), .int (nI 0), .ref (b 20), .int (nI 0), .ref (b 21), .int (nI 0)])), ((b 1), .inr (0, [.ref (b 2), .ref (b 3), .ref (b 4), .ref (b 5), .ref (b 6), .ref (b 7), .int (nI 0)])), ((b 2), .inl (cI, 12, .inl (fun k => nI (Zf k)))), ((b 8), .inr (3, [.int (nI 0), .int (nI 0), .int (nI 0), .int (nI 0), .int (nI 0)])), (o, .inl (cJ, 1, .inr (.inl f)))]) 0 [(0, .ref (b 0)), (1, .int x), (2, .ref o)] []
  refine y_aload_n hC dL_count_0 2 rfl rfl ?_
  refine y_iconst hC (v := nI 0) dL_count_1 rfl ?_
  refine y_aload_n hC dL_count_2 0 rfl rfl ?_
  refine y_iload_n hC dL_count_3 1 rfl rfl ?_
  refine y_callX_i hCT (As := [.int x]) (rest := [.int (nI 0), .ref o]) (q_X5_count hlt b x) nV_X5_count (inLr27 _ (List.mem_of_getElem? (i := 17) rfl)) [0, 1, 2, 3] [4] [0] [1, 2, 3, 4, 0] (fun u => [(o, .inl (cJ, 1, .inr (.inl f)))]) rfl rfl rfl rfl (by decide) rfl (fun _ => rfl) rfl rfl 0 rfl rfl rfl rfl (Nat.le_of_ble_eq_true rfl) dL_count_4 ⟨(Nat.le_of_ble_eq_true rfl), (Nat.le_of_ble_eq_true rfl)⟩ ⟨(Nat.le_of_ble_eq_true rfl), (Nat.le_of_ble_eq_true rfl)⟩ (fun E hE9 => ?_) (fun r u hw => ?_)
  · obtain ⟨rfl, hk⟩ := hE9
    refine ⟨[], ⟨0, 9, 12, 13⟩, [], rfl, (fun z hz => nomatch hz), rfl, by decide, (inLr5 _ (List.mem_of_getElem? (i := 4) rfl)), by decide, fun q => ?_⟩
    refine y_astore_n hC [(3, .ref q), (0, .ref (b 0)), (1, .int x), (2, .ref o)] dL_count_12 rfl (by decide) rfl ?_
    refine y_iconst hC (v := nI 1) dL_count_13 rfl ?_
    refine y_world hC [4] (ws' := [(o, .inl (cJ, 1, .inr (.inl f)))]) rfl rfl ?_
    exact hE (nI 1) f _ _ _ _ dL_count_14 (Nat.le_of_ble_eq_true rfl) (Nat.le_of_ble_eq_true rfl) rfl ⟨by rw [hk], fun h => absurd (hk.symm.trans h) (by decide)⟩
  · refine y_i2l hC (v := (r).toInt64) dL_count_7 rfl ?_
    refine y_last hC 0 2 rfl rfl 0 rfl (by omega) (by decide) dL_count_8 ([(o, .inl (cJ, 1, .inr (.inl (vp_updL f 0 ((r).toInt64)))))]) rfl ?_
    refine y_goto hC 15 dL_count_9 (by decide) ?_
    refine y_iconst hC (v := nI 0) dL_count_15 rfl ?_
    refine y_world hC [0] (ws' := [(o, .inl (cJ, 1, .inr (.inl (vp_updL f 0 ((r).toInt64)))))]) rfl rfl ?_
    exact hE (nI 0) (vp_updL f 0 ((r).toInt64)) _ _ _ _ dL_count_16 (Nat.le_of_ble_eq_true rfl) (Nat.le_of_ble_eq_true rfl) rfl ⟨by rw [hw.1], fun _ => by show vp_updL _ _ _ _ = _; rw [pk_uLs, hw.2]⟩
theorem nW_count : Cond.static yL_count ∈ wsL_law ∧ Cond.initialized yL_count.cls ∈ wsL_law ∧ Cond.codeWith yL_count cL_count 4 (some .int) [(0, 9, 12, 13)] ∈ wsL_law ∧ (yL_count.cls ≠ "java/lang/invoke/MethodHandle" ∧ yL_count.cls ≠ "java/lang/invoke/VarHandle" ∧ (parseMethodDescriptor yL_count.desc).map (fun d => d.parameters.length) = some 3) := ⟨(inLr27 _ (List.mem_of_getElem? (i := 15) rfl)), (inLr5 _ (List.mem_of_getElem? (i := 2) rfl)), (inLr27 _ (List.mem_of_getElem? (i := 16) rfl)), by decide, by decide, by decide +kernel⟩
end P1W
