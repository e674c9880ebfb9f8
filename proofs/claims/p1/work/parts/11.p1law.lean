section P1L
variable {l : Launch} {D : va_G} {cI cO cJ cZ : ClassId}
/-- the law's own row: its script too -/
def CxL (l : Launch) (G : GT) (R : Room) (D : va_G) (tys : List (ClassId × FieldType)) (b L : Nat) (xs : Nat → Int32) : Prop :=
  ∃ (p : Program) (e : Env) (s : State) (m : MethodId) (args : Array Value) (below : List Frame) (meth : Method) (c : Code) (A : Nat → Prop) (Q : State → Prop),
    (CallFix p m c cL_law 9 s args wsL_law RL ∧ gK D tys s ∧ gT A s s.heap ∧ (∀ q, s.heap.size ≤ q → A q) ∧ meth.locks = false ∧ G = Y p l e R s m args below meth c A D 9 Q) ∧ va_X b L xs s s.heap ∧ b < s.heap.size ∧ ¬ A b
theorem CxL.cx {G : GT} {R : Room} {tys : List (ClassId × FieldType)} {b L : Nat} {xs : Nat → Int32} (h : CxL l G R D tys b L xs) : ∃ nm : String, Cx l G cL_law RL 9 R D tys nm := by
  obtain ⟨p, e, s, m, args, below, meth, c, A, Q, ⟨h1, h2, h3, h4, h5, h6⟩, -⟩ := h
  exact ⟨meth.name, p, e, s, m, args, below, meth, c, A, Q, h1, h2, h3, h4, rfl, h5, h6⟩
section LawRows
variable {G : GT} {R : Room} {tys : List (ClassId × FieldType)} {b L : Nat} {xs : Nat → Int32} {ce sl : Nat} {ws : va_W} {pc : Nat} {lv : List (Nat × Value)} {st : List Value}
theorem y_slen (h : CxL l G R D tys b L xs) {v : Int32} (hv : Int32.ofNat L = v) (hdg : decode cL_law pc = .ok (.arraylength, 1)) (kk : G ce sl ws (pc + 1) lv (.int v :: st)) : G ce sl ws pc lv (.ref b :: st) := by
  obtain ⟨p, e, s, m, args, below, meth, c, A, Q, ⟨⟨hx, hb, hml, hown, hts⟩, hK, hT, hA, hlk, rfl⟩, hX, hbl, hbA⟩ := h
  subst hv
  intro H locs ls hP hD hS hl
  exact va_slen hx hb hX hbl hbA hS hdg (kk H locs ls hP hD hS hl)
theorem y_sld (h : CxL l G R D tys b L xs) (k : Nat) {i : Int32} (hi : i = nI k) (hk : k < L) (hL : L < 2 ^ 31) (hdg : decode cL_law pc = .ok (.iaload, 1)) (kk : G ce sl ws (pc + 1) lv (.int (xs k) :: st)) : G ce sl ws pc lv (.int i :: .ref b :: st) := by
  obtain ⟨p, e, s, m, args, below, meth, c, A, Q, ⟨⟨hx, hb, hml, hown, hts⟩, hK, hT, hA, hlk, rfl⟩, hX, hbl, hbA⟩ := h
  subst hi
  intro H locs ls hP hD hS hl
  refine va_sld hx hb hX hbl hbA hS (vp_in_nI hk hL) hdg ?_
  rw [nI_clamp (by omega)]
  exact kk H locs ls hP hD hS hl
end LawRows
theorem lg_self (x : Int64) : lg_cmp x x = 0 := (lg_cmp_eq x x).mpr rfl
set_option maxHeartbeats 4000000 in
set_option maxRecDepth 100000 in
theorem p1_setLetter (hlt : l.stackTraces = false) {G : GT} {b : Nat} {xs : Nat → Int32} (hC9 : CxL l G room_1 D (tyL cI cO cJ cZ) b 6 xs) (c a : Nat → Nat) (fl : Nat → Nat) (hfl : ∀ k, k < 25 → fl k = feelv k) (o : Nat) (hT : ∀ ce sl : Nat, ce ≤ 200 → sl ≤ 4000 → G ce sl [] 1387 [(4, .int (nI 0)), (0, .ref b)] []) : G 100 3000 ([((c 0), .inr (5, [.ref (c 1), .ref (c 8), .ref (c 9), .ref (c 12), .ref (c 19), .int (nI 0), .ref (c 20), .int (nI 0), .ref (c 21), .int (nI 0)])), ((c 1), .inr (0, [.ref (c 2), .ref (c 3), .ref (c 4), .ref (c 5), .ref (c 6), .ref (c 7), .int (nI 0)])), ((c 2), .inl (cI, 12, .inl (fun k => nI (Zf k)))), ((c 3), .inl (cI, 12, .inl (fun k => nI (Zf k)))), ((c 5), .inl (cI, 48, .inl (fun k => nI (Zf k)))), ((a 0), .inr (6, [.int (nI 0), .ref (a 1), .ref (a 2), .int (nI 0), .int (nI 0), .int (nI 0), .ref (a 3), .int (nI 4), .int (nI 4), .int (nI 0), .ref (a 4), .ref (a 5), .ref (a 6), .ref (a 7), .ref (a 8), .int (nI 0), .ref (a 9), .int (nI 0), .ref (a 10), .ref (a 11), .ref (a 12), .ref (a 13), .ref (a 14)])), ((a 1), .inl (cI, 12, .inl (fun k => nI (Zf k)))), (o, .inl (cJ, 1, .inr (.inl (fun _ => 0))))]) 148 [(4, .int (nI 0)), (3, .ref o), (2, .ref (a 0)), (1, .ref (c 0)), (0, .ref b)] [] := by
  obtain ⟨nm, hC⟩ := hC9.cx
  refine y_aload_n hC dL_law_148 3 rfl rfl ?_
  refine y_aload_n hC dL_law_149 4 rfl rfl ?_
  refine y_iload hC dL_law_150 0 rfl ?_
  refine y_iconst hC (v := nI 1) dL_law_152 rfl ?_
  refine y_iadd hC (v := nI 1) dL_law_153 (by decide) ?_
  refine y_sld hC9 1 rfl (by decide) (by decide) dL_law_154 ?_
  refine y_aload_n hC dL_law_155 4 rfl rfl ?_
  refine y_iload hC dL_law_156 0 rfl ?_
  refine y_iconst hC (v := nI 2) dL_law_158 rfl ?_
  refine y_iadd hC (v := nI 2) dL_law_159 (by decide) ?_
  refine y_sld hC9 2 rfl (by decide) (by decide) dL_law_160 ?_
  refine y_aload_n hC dL_law_161 1 rfl rfl ?_
  refine y_callSX_i hC (As := [.ref (c 0), .int (xs 1), .int (xs 2), .ref o]) (rest := []) (w_setLetter hlt c o (fun _ => 0) (xs 1) (xs 2)) nW_setLetter (inLr5 _ (List.mem_of_getElem? (i := 0) rfl)) [0, 1, 2, 3, 4, 7] [5, 6] [0, 1, 2] (fun u => [((a 0), .inr (6, [.int (nI 0), .ref (a 1), .ref (a 2), .int (nI 0), .int (nI 0), .int (nI 0), .ref (a 3), .int (nI 4), .int (nI 4), .int (nI 0), .ref (a 4), .ref (a 5), .ref (a 6), .ref (a 7), .ref (a 8), .int (nI 0), .ref (a 9), .int (nI 0), .ref (a 10), .ref (a 11), .ref (a 12), .ref (a 13), .ref (a 14)])), ((a 1), .inl (cI, 12, .inl (fun k => nI (Zf k)))), (o, .inl (cJ, 1, .inr (.inl u)))]) rfl rfl rfl rfl (by decide) rfl (fun _ => rfl) rfl rfl (Nat.le_of_ble_eq_true rfl) dL_law_162 ⟨(Nat.le_of_ble_eq_true rfl), (Nat.le_of_ble_eq_true rfl)⟩ ⟨(Nat.le_of_ble_eq_true rfl), (Nat.le_of_ble_eq_true rfl)⟩ (fun r1 u1 hw1 => ?_)
  refine y_istore hC [(5, .int r1), (4, .int (nI 0)), (3, .ref o), (2, .ref (a 0)), (1, .ref (c 0)), (0, .ref b)] dL_law_165 (by decide) rfl ?_
  refine y_aload_n hC dL_law_167 3 rfl rfl ?_
  refine y_aload_n hC dL_law_168 5 rfl rfl ?_
  refine y_iload hC dL_law_169 1 rfl ?_
  refine y_iconst hC (v := nI 1) dL_law_171 rfl ?_
  refine y_iadd hC (v := nI 1) dL_law_172 (by decide) ?_
  refine y_sld hC9 1 rfl (by decide) (by decide) dL_law_173 ?_
  refine y_aload_n hC dL_law_174 5 rfl rfl ?_
  refine y_iload hC dL_law_175 1 rfl ?_
  refine y_iconst hC (v := nI 2) dL_law_177 rfl ?_
  refine y_iadd hC (v := nI 2) dL_law_178 (by decide) ?_
  refine y_sld hC9 2 rfl (by decide) (by decide) dL_law_179 ?_
  refine y_callV_i hC (As := [.int (xs 1), .int (xs 2)]) (rest := []) (p_X6_setLetter a (xs 1) (xs 2)) nV_X6_setLetter (inLr6 _ (List.mem_of_getElem? (i := 3) rfl)) [0, 1] [2] [0, 1] (fun u => [(o, .inl (cJ, 1, .inr (.inl u1))), ((a 0), .inr (6, .int (nI u.1) :: u.2))]) rfl rfl rfl rfl (by decide) rfl (fun _ => rfl) 0 rfl rfl rfl rfl (Nat.le_of_ble_eq_true rfl) dL_law_180 ⟨(Nat.le_of_ble_eq_true rfl), (Nat.le_of_ble_eq_true rfl)⟩ ⟨(Nat.le_of_ble_eq_true rfl), (Nat.le_of_ble_eq_true rfl)⟩ (fun r2 u2 hw2 => ?_)
  refine y_istore hC [(6, .int r2), (5, .int r1), (4, .int (nI 0)), (3, .ref o), (2, .ref (a 0)), (1, .ref (c 0)), (0, .ref b)] dL_law_183 (by decide) rfl ?_
  refine y_aload_n hC dL_law_185 4 rfl rfl ?_
  refine y_callV_i hC (As := []) (rest := []) (c_X6_thrown (a 0) (nI u2.1) u2.2) nV_X6_thrown (inLr6 _ (List.mem_of_getElem? (i := 18) rfl)) [1] [0] [0, 1] (fun u => [(o, .inl (cJ, 1, .inr (.inl u1))), ((a 0), .inr (6, .int (nI u2.1) :: u2.2))]) rfl rfl rfl rfl (by decide) rfl (fun _ => rfl) 0 rfl rfl rfl rfl (Nat.le_of_ble_eq_true rfl) dL_law_186 ⟨(Nat.le_of_ble_eq_true rfl), (Nat.le_of_ble_eq_true rfl)⟩ ⟨(Nat.le_of_ble_eq_true rfl), (Nat.le_of_ble_eq_true rfl)⟩ (fun r3 u3 hw3 => ?_)
  refine y_iload hC dL_law_189 1 rfl ?_
  refine y_icmp_eq hC 196 dL_law_191 (by decide) (fun _ => ?_) (fun h9 => absurd (by rw [hw3, hw2.1, hw1.1]) h9)
  refine y_iload hC dL_law_196 1 rfl ?_
  refine y_if_ne_n hC 213 dL_law_198 (by decide) (kcSet (xs 1) (xs 2)) hw1.1 (by unfold kcSet; (repeat' split) <;> omega) (fun h8 => ?_) (fun h8 => ?_)
  · refine y_goto hC 1387 dL_law_213 (by decide) ?_
    refine y_world hC [] (ws' := []) rfl rfl ?_
    refine y_sub hC [2, 6] rfl ?_
    exact hT _ _ (Nat.le_of_ble_eq_true rfl) (Nat.le_of_ble_eq_true rfl)
  · refine y_aload_n hC dL_law_201 3 rfl rfl ?_
    refine y_iconst hC (v := nI 0) dL_law_202 rfl ?_
    refine y_lald hC 0 2 rfl rfl 0 rfl (by omega) (by decide) dL_law_203 ?_
    refine y_iload hC dL_law_204 0 rfl ?_
    refine y_i2l hC (v := (r2).toInt64) dL_law_206 rfl ?_
    refine y_lcmp hC dL_law_207 (fun v1 hv1 => ?_)
    refine y_if_eq hC 213 dL_law_208 (by decide) (fun _ => ?_) (fun h9 => absurd (hv1.trans (by rw [hw1.2 h8, hw2.2 h8]; exact lg_self _)) h9)
    refine y_goto hC 1387 dL_law_213 (by decide) ?_
    refine y_world hC [] (ws' := []) rfl rfl ?_
    refine y_sub hC [2, 6] rfl ?_
    exact hT _ _ (Nat.le_of_ble_eq_true rfl) (Nat.le_of_ble_eq_true rfl)
set_option maxHeartbeats 4000000 in
set_option maxRecDepth 100000 in
theorem p1_letter (hlt : l.stackTraces = false) {G : GT} {b : Nat} {xs : Nat → Int32} (hC9 : CxL l G room_1 D (tyL cI cO cJ cZ) b 6 xs) (c a : Nat → Nat) (fl : Nat → Nat) (hfl : ∀ k, k < 25 → fl k = feelv k) (o : Nat) (hT : ∀ ce sl : Nat, ce ≤ 200 → sl ≤ 4000 → G ce sl [] 1387 [(4, .int (nI 0)), (0, .ref b)] []) : G 100 3000 ([((c 0), .inr (5, [.ref (c 1), .ref (c 8), .ref (c 9), .ref (c 12), .ref (c 19), .int (nI 0), .ref (c 20), .int (nI 0), .ref (c 21), .int (nI 0)])), ((c 1), .inr (0, [.ref (c 2), .ref (c 3), .ref (c 4), .ref (c 5), .ref (c 6), .ref (c 7), .int (nI 0)])), ((c 2), .inl (cI, 12, .inl (fun k => nI (Zf k)))), ((c 3), .inl (cI, 12, .inl (fun k => nI (Zf k)))), ((c 4), .inl (cI, 12, .inl (fun k => nI (Zf k)))), ((a 0), .inr (6, [.int (nI 0), .ref (a 1), .ref (a 2), .int (nI 0), .int (nI 0), .int (nI 0), .ref (a 3), .int (nI 4), .int (nI 4), .int (nI 0), .ref (a 4), .ref (a 5), .ref (a 6), .ref (a 7), .ref (a 8), .int (nI 0), .ref (a 9), .int (nI 0), .ref (a 10), .ref (a 11), .ref (a 12), .ref (a 13), .ref (a 14)])), ((a 1), .inl (cI, 12, .inl (fun k => nI (Zf k)))), ((a 2), .inl (cI, 12, .inl (fun k => nI (Zf k)))), (o, .inl (cJ, 1, .inr (.inl (fun _ => 0))))]) 216 [(4, .int (nI 0)), (3, .ref o), (2, .ref (a 0)), (1, .ref (c 0)), (0, .ref b)] [] := by
  obtain ⟨nm, hC⟩ := hC9.cx
  refine y_aload_n hC dL_law_216 3 rfl rfl ?_
  refine y_aload_n hC dL_law_217 4 rfl rfl ?_
  refine y_iload hC dL_law_218 0 rfl ?_
  refine y_iconst hC (v := nI 1) dL_law_220 rfl ?_
  refine y_iadd hC (v := nI 1) dL_law_221 (by decide) ?_
  refine y_sld hC9 1 rfl (by decide) (by decide) dL_law_222 ?_
  refine y_aload_n hC dL_law_223 4 rfl rfl ?_
  refine y_iload hC dL_law_224 0 rfl ?_
  refine y_iconst hC (v := nI 2) dL_law_226 rfl ?_
  refine y_iadd hC (v := nI 2) dL_law_227 (by decide) ?_
  refine y_sld hC9 2 rfl (by decide) (by decide) dL_law_228 ?_
  refine y_aload_n hC dL_law_229 1 rfl rfl ?_
  refine y_callSX_i hC (As := [.ref (c 0), .int (xs 1), .int (xs 2), .ref o]) (rest := []) (w_letter hlt c o (fun _ => 0) (xs 1) (xs 2)) nW_letter (inLr6 _ (List.mem_of_getElem? (i := 22) rfl)) [0, 1, 2, 3, 4, 8] [5, 6, 7] [0, 1, 2, 3] (fun u => [((a 0), .inr (6, [.int (nI 0), .ref (a 1), .ref (a 2), .int (nI 0), .int (nI 0), .int (nI 0), .ref (a 3), .int (nI 4), .int (nI 4), .int (nI 0), .ref (a 4), .ref (a 5), .ref (a 6), .ref (a 7), .ref (a 8), .int (nI 0), .ref (a 9), .int (nI 0), .ref (a 10), .ref (a 11), .ref (a 12), .ref (a 13), .ref (a 14)])), ((a 1), .inl (cI, 12, .inl (fun k => nI (Zf k)))), ((a 2), .inl (cI, 12, .inl (fun k => nI (Zf k)))), (o, .inl (cJ, 1, .inr (.inl u)))]) rfl rfl rfl rfl (by decide) rfl (fun _ => rfl) rfl rfl (Nat.le_of_ble_eq_true rfl) dL_law_230 ⟨(Nat.le_of_ble_eq_true rfl), (Nat.le_of_ble_eq_true rfl)⟩ ⟨(Nat.le_of_ble_eq_true rfl), (Nat.le_of_ble_eq_true rfl)⟩ (fun r1 u1 hw1 => ?_)
  refine y_istore hC [(5, .int r1), (4, .int (nI 0)), (3, .ref o), (2, .ref (a 0)), (1, .ref (c 0)), (0, .ref b)] dL_law_233 (by decide) rfl ?_
  refine y_aload_n hC dL_law_235 3 rfl rfl ?_
  refine y_aload_n hC dL_law_236 5 rfl rfl ?_
  refine y_iload hC dL_law_237 1 rfl ?_
  refine y_iconst hC (v := nI 1) dL_law_239 rfl ?_
  refine y_iadd hC (v := nI 1) dL_law_240 (by decide) ?_
  refine y_sld hC9 1 rfl (by decide) (by decide) dL_law_241 ?_
  refine y_aload_n hC dL_law_242 5 rfl rfl ?_
  refine y_iload hC dL_law_243 1 rfl ?_
  refine y_iconst hC (v := nI 2) dL_law_245 rfl ?_
  refine y_iadd hC (v := nI 2) dL_law_246 (by decide) ?_
  refine y_sld hC9 2 rfl (by decide) (by decide) dL_law_247 ?_
  refine y_callV_i hC (As := [.int (xs 1), .int (xs 2)]) (rest := []) (p_X6_letter a (xs 1) (xs 2)) nV_X6_letter (inLr7 _ (List.mem_of_getElem? (i := 7) rfl)) [0, 1, 2] [3] [0, 1] (fun u => [(o, .inl (cJ, 1, .inr (.inl u1))), ((a 0), .inr (6, .int (nI u.1) :: u.2))]) rfl rfl rfl rfl (by decide) rfl (fun _ => rfl) 0 rfl rfl rfl rfl (Nat.le_of_ble_eq_true rfl) dL_law_248 ⟨(Nat.le_of_ble_eq_true rfl), (Nat.le_of_ble_eq_true rfl)⟩ ⟨(Nat.le_of_ble_eq_true rfl), (Nat.le_of_ble_eq_true rfl)⟩ (fun r2 u2 hw2 => ?_)
  refine y_istore hC [(6, .int r2), (5, .int r1), (4, .int (nI 0)), (3, .ref o), (2, .ref (a 0)), (1, .ref (c 0)), (0, .ref b)] dL_law_251 (by decide) rfl ?_
  refine y_aload_n hC dL_law_253 4 rfl rfl ?_
  refine y_callV_i hC (As := []) (rest := []) (c_X6_thrown (a 0) (nI u2.1) u2.2) nV_X6_thrown (inLr6 _ (List.mem_of_getElem? (i := 18) rfl)) [1] [0] [0, 1] (fun u => [(o, .inl (cJ, 1, .inr (.inl u1))), ((a 0), .inr (6, .int (nI u2.1) :: u2.2))]) rfl rfl rfl rfl (by decide) rfl (fun _ => rfl) 0 rfl rfl rfl rfl (Nat.le_of_ble_eq_true rfl) dL_law_254 ⟨(Nat.le_of_ble_eq_true rfl), (Nat.le_of_ble_eq_true rfl)⟩ ⟨(Nat.le_of_ble_eq_true rfl), (Nat.le_of_ble_eq_true rfl)⟩ (fun r3 u3 hw3 => ?_)
  refine y_iload hC dL_law_257 1 rfl ?_
  refine y_icmp_eq hC 264 dL_law_259 (by decide) (fun _ => ?_) (fun h9 => absurd (by rw [hw3, hw2.1, hw1.1]) h9)
  refine y_iload hC dL_law_264 1 rfl ?_
  refine y_if_ne_n hC 281 dL_law_266 (by decide) (kcLet (xs 1) (xs 2)) hw1.1 (by unfold kcLet; (repeat' split) <;> omega) (fun h8 => ?_) (fun h8 => ?_)
  · refine y_goto hC 1387 dL_law_281 (by decide) ?_
    refine y_world hC [] (ws' := []) rfl rfl ?_
    refine y_sub hC [2, 6] rfl ?_
    exact hT _ _ (Nat.le_of_ble_eq_true rfl) (Nat.le_of_ble_eq_true rfl)
  · refine y_aload_n hC dL_law_269 3 rfl rfl ?_
    refine y_iconst hC (v := nI 0) dL_law_270 rfl ?_
    refine y_lald hC 0 2 rfl rfl 0 rfl (by omega) (by decide) dL_law_271 ?_
    refine y_iload hC dL_law_272 0 rfl ?_
    refine y_i2l hC (v := (r2).toInt64) dL_law_274 rfl ?_
    refine y_lcmp hC dL_law_275 (fun v1 hv1 => ?_)
    refine y_if_eq hC 281 dL_law_276 (by decide) (fun _ => ?_) (fun h9 => absurd (hv1.trans (by rw [hw1.2 h8, hw2.2 h8]; exact lg_self _)) h9)
    refine y_goto hC 1387 dL_law_281 (by decide) ?_
    refine y_world hC [] (ws' := []) rfl rfl ?_
    refine y_sub hC [2, 6] rfl ?_
    exact hT _ _ (Nat.le_of_ble_eq_true rfl) (Nat.le_of_ble_eq_true rfl)
set_option maxHeartbeats 4000000 in
set_option maxRecDepth 100000 in
theorem p1_isFree (hlt : l.stackTraces = false) {G : GT} {b : Nat} {xs : Nat → Int32} (hC9 : CxL l G room_1 D (tyL cI cO cJ cZ) b 6 xs) (c a : Nat → Nat) (fl : Nat → Nat) (hfl : ∀ k, k < 25 → fl k = feelv k) (o : Nat) (hT : ∀ ce sl : Nat, ce ≤ 200 → sl ≤ 4000 → G ce sl [] 1387 [(4, .int (nI 0)), (0, .ref b)] []) : G 100 3000 ([((c 0), .inr (5, [.ref (c 1), .ref (c 8), .ref (c 9), .ref (c 12), .ref (c 19), .int (nI 0), .ref (c 20), .int (nI 0), .ref (c 21), .int (nI 0)])), ((c 1), .inr (0, [.ref (c 2), .ref (c 3), .ref (c 4), .ref (c 5), .ref (c 6), .ref (c 7), .int (nI 0)])), ((c 2), .inl (cI, 12, .inl (fun k => nI (Zf k)))), ((a 0), .inr (6, [.int (nI 0), .ref (a 1), .ref (a 2), .int (nI 0), .int (nI 0), .int (nI 0), .ref (a 3), .int (nI 4), .int (nI 4), .int (nI 0), .ref (a 4), .ref (a 5), .ref (a 6), .ref (a 7), .ref (a 8), .int (nI 0), .ref (a 9), .int (nI 0), .ref (a 10), .ref (a 11), .ref (a 12), .ref (a 13), .ref (a 14)])), ((a 1), .inl (cI, 12, .inl (fun k => nI (Zf k)))), (o, .inl (cJ, 1, .inr (.inl (fun _ => 0))))]) 284 [(4, .int (nI 0)), (3, .ref o), (2, .ref (a 0)), (1, .ref (c 0)), (0, .ref b)] [] := by
  obtain ⟨nm, hC⟩ := hC9.cx
  refine y_aload_n hC dL_law_284 3 rfl rfl ?_
  refine y_callV_i hC (As := []) (rest := []) (q_X5_isFree c) nV_X5_isFree (inLr7 _ (List.mem_of_getElem? (i := 18) rfl)) [0, 1, 2] [3, 4, 5] [0, 1, 2] (fun u => [((a 0), .inr (6, [.int (nI 0), .ref (a 1), .ref (a 2), .int (nI 0), .int (nI 0), .int (nI 0), .ref (a 3), .int (nI 4), .int (nI 4), .int (nI 0), .ref (a 4), .ref (a 5), .ref (a 6), .ref (a 7), .ref (a 8), .int (nI 0), .ref (a 9), .int (nI 0), .ref (a 10), .ref (a 11), .ref (a 12), .ref (a 13), .ref (a 14)])), ((a 1), .inl (cI, 12, .inl (fun k => nI (Zf k)))), (o, .inl (cJ, 1, .inr (.inl (fun _ => 0))))]) rfl rfl rfl rfl (by decide) rfl (fun _ => rfl) 0 rfl rfl rfl rfl (Nat.le_of_ble_eq_true rfl) dL_law_285 ⟨(Nat.le_of_ble_eq_true rfl), (Nat.le_of_ble_eq_true rfl)⟩ ⟨(Nat.le_of_ble_eq_true rfl), (Nat.le_of_ble_eq_true rfl)⟩ (fun r1 u1 hw1 => ?_)
  subst hw1
  refine y_aload_n hC dL_law_288 2 rfl rfl ?_
  refine y_callV_i hC (As := []) (rest := [.int (nI 1)]) (p_X6_isFree a) nV_X6_isFree (inLr8 _ (List.mem_of_getElem? (i := 12) rfl)) [0, 1] [2] [0, 1] (fun u => [(o, .inl (cJ, 1, .inr (.inl (fun _ => 0)))), ((a 0), .inr (6, .int (nI u.1) :: u.2))]) rfl rfl rfl rfl (by decide) rfl (fun _ => rfl) 0 rfl rfl rfl rfl (Nat.le_of_ble_eq_true rfl) dL_law_289 ⟨(Nat.le_of_ble_eq_true rfl), (Nat.le_of_ble_eq_true rfl)⟩ ⟨(Nat.le_of_ble_eq_true rfl), (Nat.le_of_ble_eq_true rfl)⟩ (fun r2 u2 hw2 => ?_)
  obtain ⟨hk2, rfl⟩ := hw2
  refine y_icmp_eq_n hC 1387 dL_law_292 (by decide) 1 1 rfl rfl (by omega) (by omega) (fun c292 => ?_) (fun c292 => absurd c292 (by omega))
  refine y_world hC [] (ws' := []) rfl rfl ?_
  refine y_sub hC [0, 4] rfl ?_
  exact hT _ _ (Nat.le_of_ble_eq_true rfl) (Nat.le_of_ble_eq_true rfl)
set_option maxHeartbeats 4000000 in
set_option maxRecDepth 100000 in
theorem p1_isClear (hlt : l.stackTraces = false) {G : GT} {b : Nat} {xs : Nat → Int32} (hC9 : CxL l G room_1 D (tyL cI cO cJ cZ) b 6 xs) (c a : Nat → Nat) (fl : Nat → Nat) (hfl : ∀ k, k < 25 → fl k = feelv k) (o : Nat) (hT : ∀ ce sl : Nat, ce ≤ 200 → sl ≤ 4000 → G ce sl [] 1387 [(4, .int (nI 0)), (0, .ref b)] []) : G 100 3000 ([((c 0), .inr (5, [.ref (c 1), .ref (c 8), .ref (c 9), .ref (c 12), .ref (c 19), .int (nI 0), .ref (c 20), .int (nI 0), .ref (c 21), .int (nI 0)])), ((c 1), .inr (0, [.ref (c 2), .ref (c 3), .ref (c 4), .ref (c 5), .ref (c 6), .ref (c 7), .int (nI 0)])), ((c 2), .inl (cI, 12, .inl (fun k => nI (Zf k)))), ((c 6), .inl (cI, 84, .inl (fun k => nI (Zf k)))), ((c 7), .inl (cI, 445, .inl (fun k => nI (Zf k)))), ((a 0), .inr (6, [.int (nI 0), .ref (a 1), .ref (a 2), .int (nI 0), .int (nI 0), .int (nI 0), .ref (a 3), .int (nI 4), .int (nI 4), .int (nI 0), .ref (a 4), .ref (a 5), .ref (a 6), .ref (a 7), .ref (a 8), .int (nI 0), .ref (a 9), .int (nI 0), .ref (a 10), .ref (a 11), .ref (a 12), .ref (a 13), .ref (a 14)])), ((a 1), .inl (cI, 12, .inl (fun k => nI (Zf k)))), (o, .inl (cJ, 1, .inr (.inl (fun _ => 0))))]) 297 [(4, .int (nI 0)), (3, .ref o), (2, .ref (a 0)), (1, .ref (c 0)), (0, .ref b)] [] := by
  obtain ⟨nm, hC⟩ := hC9.cx
  refine y_aload_n hC dL_law_297 3 rfl rfl ?_
  refine y_callV_i hC (As := []) (rest := []) (q_X5_isClear c) nV_X5_isClear (inLr8 _ (List.mem_of_getElem? (i := 19) rfl)) [0, 1, 2, 3, 4] [5, 6, 7] [0, 1, 2] (fun u => [((a 0), .inr (6, [.int (nI 0), .ref (a 1), .ref (a 2), .int (nI 0), .int (nI 0), .int (nI 0), .ref (a 3), .int (nI 4), .int (nI 4), .int (nI 0), .ref (a 4), .ref (a 5), .ref (a 6), .ref (a 7), .ref (a 8), .int (nI 0), .ref (a 9), .int (nI 0), .ref (a 10), .ref (a 11), .ref (a 12), .ref (a 13), .ref (a 14)])), ((a 1), .inl (cI, 12, .inl (fun k => nI (Zf k)))), (o, .inl (cJ, 1, .inr (.inl (fun _ => 0))))]) rfl rfl rfl rfl (by decide) rfl (fun _ => rfl) 0 rfl rfl rfl rfl (Nat.le_of_ble_eq_true rfl) dL_law_298 ⟨(Nat.le_of_ble_eq_true rfl), (Nat.le_of_ble_eq_true rfl)⟩ ⟨(Nat.le_of_ble_eq_true rfl), (Nat.le_of_ble_eq_true rfl)⟩ (fun r1 u1 hw1 => ?_)
  subst hw1
  refine y_aload_n hC dL_law_301 2 rfl rfl ?_
  refine y_callV_i hC (As := []) (rest := [.int (nI 1)]) (p_X6_isClear a) nV_X6_isClear (inLr9 _ (List.mem_of_getElem? (i := 13) rfl)) [0, 1] [2] [0, 1] (fun u => [(o, .inl (cJ, 1, .inr (.inl (fun _ => 0)))), ((a 0), .inr (6, .int (nI u.1) :: u.2))]) rfl rfl rfl rfl (by decide) rfl (fun _ => rfl) 0 rfl rfl rfl rfl (Nat.le_of_ble_eq_true rfl) dL_law_302 ⟨(Nat.le_of_ble_eq_true rfl), (Nat.le_of_ble_eq_true rfl)⟩ ⟨(Nat.le_of_ble_eq_true rfl), (Nat.le_of_ble_eq_true rfl)⟩ (fun r2 u2 hw2 => ?_)
  obtain ⟨hk2, rfl⟩ := hw2
  refine y_icmp_eq_n hC 1387 dL_law_305 (by decide) 1 1 rfl rfl (by omega) (by omega) (fun c305 => ?_) (fun c305 => absurd c305 (by omega))
  refine y_world hC [] (ws' := []) rfl rfl ?_
  refine y_sub hC [0, 4] rfl ?_
  exact hT _ _ (Nat.le_of_ble_eq_true rfl) (Nat.le_of_ble_eq_true rfl)
set_option maxHeartbeats 4000000 in
set_option maxRecDepth 100000 in
theorem p1_alike (hlt : l.stackTraces = false) {G : GT} {b : Nat} {xs : Nat → Int32} (hC9 : CxL l G room_1 D (tyL cI cO cJ cZ) b 6 xs) (c a : Nat → Nat) (fl : Nat → Nat) (hfl : ∀ k, k < 25 → fl k = feelv k) (o : Nat) (hT : ∀ ce sl : Nat, ce ≤ 200 → sl ≤ 4000 → G ce sl [] 1387 [(4, .int (nI 0)), (0, .ref b)] []) : G 100 3000 ([((c 0), .inr (5, [.ref (c 1), .ref (c 8), .ref (c 9), .ref (c 12), .ref (c 19), .int (nI 0), .ref (c 20), .int (nI 0), .ref (c 21), .int (nI 0)])), ((c 1), .inr (0, [.ref (c 2), .ref (c 3), .ref (c 4), .ref (c 5), .ref (c 6), .ref (c 7), .int (nI 0)])), ((c 2), .inl (cI, 12, .inl (fun k => nI (Zf k)))), ((a 0), .inr (6, [.int (nI 0), .ref (a 1), .ref (a 2), .int (nI 0), .int (nI 0), .int (nI 0), .ref (a 3), .int (nI 4), .int (nI 4), .int (nI 0), .ref (a 4), .ref (a 5), .ref (a 6), .ref (a 7), .ref (a 8), .int (nI 0), .ref (a 9), .int (nI 0), .ref (a 10), .ref (a 11), .ref (a 12), .ref (a 13), .ref (a 14)])), ((a 1), .inl (cI, 12, .inl (fun k => nI (Zf k)))), (o, .inl (cJ, 1, .inr (.inl (fun _ => 0))))]) 310 [(4, .int (nI 0)), (3, .ref o), (2, .ref (a 0)), (1, .ref (c 0)), (0, .ref b)] [] := by
  obtain ⟨nm, hC⟩ := hC9.cx
  refine y_aload_n hC dL_law_310 3 rfl rfl ?_
  refine y_aload_n hC dL_law_311 4 rfl rfl ?_
  refine y_iload hC dL_law_312 0 rfl ?_
  refine y_iconst hC (v := nI 1) dL_law_314 rfl ?_
  refine y_iadd hC (v := nI 1) dL_law_315 (by decide) ?_
  refine y_sld hC9 1 rfl (by decide) (by decide) dL_law_316 ?_
  refine y_aload_n hC dL_law_317 4 rfl rfl ?_
  refine y_iload hC dL_law_318 0 rfl ?_
  refine y_iconst hC (v := nI 2) dL_law_320 rfl ?_
  refine y_iadd hC (v := nI 2) dL_law_321 (by decide) ?_
  refine y_sld hC9 2 rfl (by decide) (by decide) dL_law_322 ?_
  refine y_aload_n hC dL_law_323 1 rfl rfl ?_
  refine y_callSX_i hC (As := [.ref (c 0), .int (xs 1), .int (xs 2), .ref o]) (rest := []) (w_alike hlt c o (fun _ => 0) (xs 1) (xs 2)) nW_alike (inLr10 _ (List.mem_of_getElem? (i := 2) rfl)) [0, 1, 2, 5] [3, 4] [0, 1, 2] (fun u => [((a 0), .inr (6, [.int (nI 0), .ref (a 1), .ref (a 2), .int (nI 0), .int (nI 0), .int (nI 0), .ref (a 3), .int (nI 4), .int (nI 4), .int (nI 0), .ref (a 4), .ref (a 5), .ref (a 6), .ref (a 7), .ref (a 8), .int (nI 0), .ref (a 9), .int (nI 0), .ref (a 10), .ref (a 11), .ref (a 12), .ref (a 13), .ref (a 14)])), ((a 1), .inl (cI, 12, .inl (fun k => nI (Zf k)))), (o, .inl (cJ, 1, .inr (.inl u)))]) rfl rfl rfl rfl (by decide) rfl (fun _ => rfl) rfl rfl (Nat.le_of_ble_eq_true rfl) dL_law_324 ⟨(Nat.le_of_ble_eq_true rfl), (Nat.le_of_ble_eq_true rfl)⟩ ⟨(Nat.le_of_ble_eq_true rfl), (Nat.le_of_ble_eq_true rfl)⟩ (fun r1 u1 hw1 => ?_)
  refine y_istore hC [(5, .int r1), (4, .int (nI 0)), (3, .ref o), (2, .ref (a 0)), (1, .ref (c 0)), (0, .ref b)] dL_law_327 (by decide) rfl ?_
  refine y_aload_n hC dL_law_329 3 rfl rfl ?_
  refine y_aload_n hC dL_law_330 5 rfl rfl ?_
  refine y_iload hC dL_law_331 1 rfl ?_
  refine y_iconst hC (v := nI 1) dL_law_333 rfl ?_
  refine y_iadd hC (v := nI 1) dL_law_334 (by decide) ?_
  refine y_sld hC9 1 rfl (by decide) (by decide) dL_law_335 ?_
  refine y_aload_n hC dL_law_336 5 rfl rfl ?_
  refine y_iload hC dL_law_337 1 rfl ?_
  refine y_iconst hC (v := nI 2) dL_law_339 rfl ?_
  refine y_iadd hC (v := nI 2) dL_law_340 (by decide) ?_
  refine y_sld hC9 2 rfl (by decide) (by decide) dL_law_341 ?_
  refine y_callV_i hC (As := [.int (xs 1), .int (xs 2)]) (rest := []) (p_X6_alike a (xs 1) (xs 2)) nV_X6_alike (inLr11 _ (List.mem_of_getElem? (i := 8) rfl)) [0, 1] [2] [0, 1] (fun u => [(o, .inl (cJ, 1, .inr (.inl u1))), ((a 0), .inr (6, .int (nI u.1) :: u.2))]) rfl rfl rfl rfl (by decide) rfl (fun _ => rfl) 0 rfl rfl rfl rfl (Nat.le_of_ble_eq_true rfl) dL_law_342 ⟨(Nat.le_of_ble_eq_true rfl), (Nat.le_of_ble_eq_true rfl)⟩ ⟨(Nat.le_of_ble_eq_true rfl), (Nat.le_of_ble_eq_true rfl)⟩ (fun r2 u2 hw2 => ?_)
  refine y_istore hC [(6, .int r2), (5, .int r1), (4, .int (nI 0)), (3, .ref o), (2, .ref (a 0)), (1, .ref (c 0)), (0, .ref b)] dL_law_345 (by decide) rfl ?_
  refine y_aload_n hC dL_law_347 4 rfl rfl ?_
  refine y_callV_i hC (As := []) (rest := []) (c_X6_thrown (a 0) (nI u2.1) u2.2) nV_X6_thrown (inLr6 _ (List.mem_of_getElem? (i := 18) rfl)) [1] [0] [0, 1] (fun u => [(o, .inl (cJ, 1, .inr (.inl u1))), ((a 0), .inr (6, .int (nI u2.1) :: u2.2))]) rfl rfl rfl rfl (by decide) rfl (fun _ => rfl) 0 rfl rfl rfl rfl (Nat.le_of_ble_eq_true rfl) dL_law_348 ⟨(Nat.le_of_ble_eq_true rfl), (Nat.le_of_ble_eq_true rfl)⟩ ⟨(Nat.le_of_ble_eq_true rfl), (Nat.le_of_ble_eq_true rfl)⟩ (fun r3 u3 hw3 => ?_)
  refine y_iload hC dL_law_351 1 rfl ?_
  refine y_icmp_eq hC 358 dL_law_353 (by decide) (fun _ => ?_) (fun h9 => absurd (by rw [hw3, hw2.1, hw1.1]) h9)
  refine y_iload hC dL_law_358 1 rfl ?_
  refine y_if_ne_n hC 375 dL_law_360 (by decide) (kcAli (xs 1) (xs 2)) hw1.1 (by unfold kcAli; (repeat' split) <;> omega) (fun h8 => ?_) (fun h8 => ?_)
  · refine y_goto hC 1387 dL_law_375 (by decide) ?_
    refine y_world hC [] (ws' := []) rfl rfl ?_
    refine y_sub hC [2, 6] rfl ?_
    exact hT _ _ (Nat.le_of_ble_eq_true rfl) (Nat.le_of_ble_eq_true rfl)
  · refine y_aload_n hC dL_law_363 3 rfl rfl ?_
    refine y_iconst hC (v := nI 0) dL_law_364 rfl ?_
    refine y_lald hC 0 2 rfl rfl 0 rfl (by omega) (by decide) dL_law_365 ?_
    refine y_iload hC dL_law_366 0 rfl ?_
    refine y_i2l hC (v := (r2).toInt64) dL_law_368 rfl ?_
    refine y_lcmp hC dL_law_369 (fun v1 hv1 => ?_)
    refine y_if_eq hC 375 dL_law_370 (by decide) (fun _ => ?_) (fun h9 => absurd (hv1.trans (by rw [hw1.2 h8, hw2.2 h8]; exact lg_self _)) h9)
    refine y_goto hC 1387 dL_law_375 (by decide) ?_
    refine y_world hC [] (ws' := []) rfl rfl ?_
    refine y_sub hC [2, 6] rfl ?_
    exact hT _ _ (Nat.le_of_ble_eq_true rfl) (Nat.le_of_ble_eq_true rfl)
set_option maxHeartbeats 4000000 in
set_option maxRecDepth 100000 in
theorem p1_closest (hlt : l.stackTraces = false) {G : GT} {b : Nat} {xs : Nat → Int32} (hC9 : CxL l G room_1 D (tyL cI cO cJ cZ) b 6 xs) (c a : Nat → Nat) (fl : Nat → Nat) (hfl : ∀ k, k < 25 → fl k = feelv k) (o : Nat) (hT : ∀ ce sl : Nat, ce ≤ 200 → sl ≤ 4000 → G ce sl [] 1387 [(4, .int (nI 0)), (0, .ref b)] []) : G 100 3000 ([((c 0), .inr (5, [.ref (c 1), .ref (c 8), .ref (c 9), .ref (c 12), .ref (c 19), .int (nI 0), .ref (c 20), .int (nI 0), .ref (c 21), .int (nI 0)])), ((c 1), .inr (0, [.ref (c 2), .ref (c 3), .ref (c 4), .ref (c 5), .ref (c 6), .ref (c 7), .int (nI 0)])), ((c 2), .inl (cI, 12, .inl (fun k => nI (Zf k)))), ((a 0), .inr (6, [.int (nI 0), .ref (a 1), .ref (a 2), .int (nI 0), .int (nI 0), .int (nI 0), .ref (a 3), .int (nI 4), .int (nI 4), .int (nI 0), .ref (a 4), .ref (a 5), .ref (a 6), .ref (a 7), .ref (a 8), .int (nI 0), .ref (a 9), .int (nI 0), .ref (a 10), .ref (a 11), .ref (a 12), .ref (a 13), .ref (a 14)])), ((a 1), .inl (cI, 12, .inl (fun k => nI (Zf k)))), (o, .inl (cJ, 1, .inr (.inl (fun _ => 0))))]) 378 [(4, .int (nI 0)), (3, .ref o), (2, .ref (a 0)), (1, .ref (c 0)), (0, .ref b)] [] := by
  obtain ⟨nm, hC⟩ := hC9.cx
  refine y_aload_n hC dL_law_378 3 rfl rfl ?_
  refine y_callV_i hC (As := []) (rest := []) (q_X5_closest c) nV_X5_closest (inLr11 _ (List.mem_of_getElem? (i := 17) rfl)) [0, 1, 2] [3, 4, 5] [0, 1, 2] (fun u => [((a 0), .inr (6, [.int (nI 0), .ref (a 1), .ref (a 2), .int (nI 0), .int (nI 0), .int (nI 0), .ref (a 3), .int (nI 4), .int (nI 4), .int (nI 0), .ref (a 4), .ref (a 5), .ref (a 6), .ref (a 7), .ref (a 8), .int (nI 0), .ref (a 9), .int (nI 0), .ref (a 10), .ref (a 11), .ref (a 12), .ref (a 13), .ref (a 14)])), ((a 1), .inl (cI, 12, .inl (fun k => nI (Zf k)))), (o, .inl (cJ, 1, .inr (.inl (fun _ => 0))))]) rfl rfl rfl rfl (by decide) rfl (fun _ => rfl) 0 rfl rfl rfl rfl (Nat.le_of_ble_eq_true rfl) dL_law_379 ⟨(Nat.le_of_ble_eq_true rfl), (Nat.le_of_ble_eq_true rfl)⟩ ⟨(Nat.le_of_ble_eq_true rfl), (Nat.le_of_ble_eq_true rfl)⟩ (fun r1 u1 hw1 => ?_)
  subst hw1
  refine y_aload_n hC dL_law_382 2 rfl rfl ?_
  refine y_callV_i hC (As := []) (rest := [.int (-1)]) (p_X6_closest a) nV_X6_closest (inLr11 _ (List.mem_of_getElem? (i := 21) rfl)) [0, 1] [2] [0, 1] (fun u => [(o, .inl (cJ, 1, .inr (.inl (fun _ => 0)))), ((a 0), .inr (6, .int (nI u.1) :: u.2))]) rfl rfl rfl rfl (by decide) rfl (fun _ => rfl) 0 rfl rfl rfl rfl (Nat.le_of_ble_eq_true rfl) dL_law_383 ⟨(Nat.le_of_ble_eq_true rfl), (Nat.le_of_ble_eq_true rfl)⟩ ⟨(Nat.le_of_ble_eq_true rfl), (Nat.le_of_ble_eq_true rfl)⟩ (fun r2 u2 hw2 => ?_)
  obtain ⟨hk2, rfl⟩ := hw2
  refine y_icmp_eq_w hC 1387 dL_law_386 (by decide) (fun c386 => ?_) (fun c386 => absurd rfl c386)
  refine y_world hC [] (ws' := []) rfl rfl ?_
  refine y_sub hC [0, 4] rfl ?_
  exact hT _ _ (Nat.le_of_ble_eq_true rfl) (Nat.le_of_ble_eq_true rfl)
set_option maxHeartbeats 4000000 in
set_option maxRecDepth 100000 in
theorem p1_advise (hlt : l.stackTraces = false) {G : GT} {b : Nat} {xs : Nat → Int32} (hC9 : CxL l G room_1 D (tyL cI cO cJ cZ) b 6 xs) (c a : Nat → Nat) (fl : Nat → Nat) (hfl : ∀ k, k < 25 → fl k = feelv k) (o : Nat) (hT : ∀ ce sl : Nat, ce ≤ 200 → sl ≤ 4000 → G ce sl [] 1387 [(4, .int (nI 0)), (0, .ref b)] []) : G 100 3000 ([((c 0), .inr (5, [.ref (c 1), .ref (c 8), .ref (c 9), .ref (c 12), .ref (c 19), .int (nI 0), .ref (c 20), .int (nI 0), .ref (c 21), .int (nI 0)])), ((c 1), .inr (0, [.ref (c 2), .ref (c 3), .ref (c 4), .ref (c 5), .ref (c 6), .ref (c 7), .int (nI 0)])), ((c 2), .inl (cI, 12, .inl (fun k => nI (Zf k)))), ((a 0), .inr (6, [.int (nI 0), .ref (a 1), .ref (a 2), .int (nI 0), .int (nI 0), .int (nI 0), .ref (a 3), .int (nI 4), .int (nI 4), .int (nI 0), .ref (a 4), .ref (a 5), .ref (a 6), .ref (a 7), .ref (a 8), .int (nI 0), .ref (a 9), .int (nI 0), .ref (a 10), .ref (a 11), .ref (a 12), .ref (a 13), .ref (a 14)])), ((a 1), .inl (cI, 12, .inl (fun k => nI (Zf k)))), (o, .inl (cJ, 1, .inr (.inl (fun _ => 0))))]) 391 [(4, .int (nI 0)), (3, .ref o), (2, .ref (a 0)), (1, .ref (c 0)), (0, .ref b)] [] := by
  obtain ⟨nm, hC⟩ := hC9.cx
  refine y_aload_n hC dL_law_391 3 rfl rfl ?_
  refine y_callV_i hC (As := []) (rest := []) (q_X5_advise c) nV_X5_advise (inLr12 _ (List.mem_of_getElem? (i := 1) rfl)) [0, 1, 2] [3, 4, 5] [0, 1, 2] (fun u => [((a 0), .inr (6, [.int (nI 0), .ref (a 1), .ref (a 2), .int (nI 0), .int (nI 0), .int (nI 0), .ref (a 3), .int (nI 4), .int (nI 4), .int (nI 0), .ref (a 4), .ref (a 5), .ref (a 6), .ref (a 7), .ref (a 8), .int (nI 0), .ref (a 9), .int (nI 0), .ref (a 10), .ref (a 11), .ref (a 12), .ref (a 13), .ref (a 14)])), ((a 1), .inl (cI, 12, .inl (fun k => nI (Zf k)))), (o, .inl (cJ, 1, .inr (.inl (fun _ => 0))))]) rfl rfl rfl rfl (by decide) rfl (fun _ => rfl) 0 rfl rfl rfl rfl (Nat.le_of_ble_eq_true rfl) dL_law_392 ⟨(Nat.le_of_ble_eq_true rfl), (Nat.le_of_ble_eq_true rfl)⟩ ⟨(Nat.le_of_ble_eq_true rfl), (Nat.le_of_ble_eq_true rfl)⟩ (fun r1 u1 hw1 => ?_)
  subst hw1
  refine y_aload_n hC dL_law_395 2 rfl rfl ?_
  refine y_callV_i hC (As := []) (rest := [.int (nI 1)]) (p_X6_advise a) nV_X6_advise (inLr12 _ (List.mem_of_getElem? (i := 8) rfl)) [0, 1] [2] [0, 1] (fun u => [(o, .inl (cJ, 1, .inr (.inl (fun _ => 0)))), ((a 0), .inr (6, .int (nI u.1) :: u.2))]) rfl rfl rfl rfl (by decide) rfl (fun _ => rfl) 0 rfl rfl rfl rfl (Nat.le_of_ble_eq_true rfl) dL_law_396 ⟨(Nat.le_of_ble_eq_true rfl), (Nat.le_of_ble_eq_true rfl)⟩ ⟨(Nat.le_of_ble_eq_true rfl), (Nat.le_of_ble_eq_true rfl)⟩ (fun r2 u2 hw2 => ?_)
  obtain ⟨hk2, rfl⟩ := hw2
  refine y_icmp_eq_n hC 1387 dL_law_399 (by decide) 1 1 rfl rfl (by omega) (by omega) (fun c399 => ?_) (fun c399 => absurd c399 (by omega))
  refine y_world hC [] (ws' := []) rfl rfl ?_
  refine y_sub hC [0, 4] rfl ?_
  exact hT _ _ (Nat.le_of_ble_eq_true rfl) (Nat.le_of_ble_eq_true rfl)
set_option maxHeartbeats 4000000 in
set_option maxRecDepth 100000 in
theorem p1_setKnotter (hlt : l.stackTraces = false) {G : GT} {b : Nat} {xs : Nat → Int32} (hC9 : CxL l G room_1 D (tyL cI cO cJ cZ) b 6 xs) (c a : Nat → Nat) (fl : Nat → Nat) (hfl : ∀ k, k < 25 → fl k = feelv k) (o : Nat) (hT : ∀ ce sl : Nat, ce ≤ 200 → sl ≤ 4000 → G ce sl [] 1387 [(4, .int (nI 0)), (0, .ref b)] []) : G 100 3000 ([((c 0), .inr (5, [.ref (c 1), .ref (c 8), .ref (c 9), .ref (c 12), .ref (c 19), .int (nI 0), .ref (c 20), .int (nI 0), .ref (c 21), .int (nI 0)])), ((c 8), .inr (3, [.int (nI 0), .int (nI 0), .int (nI 0), .int (nI 0), .int (nI 0)])), ((a 0), .inr (6, [.int (nI 0), .ref (a 1), .ref (a 2), .int (nI 0), .int (nI 0), .int (nI 0), .ref (a 3), .int (nI 4), .int (nI 4), .int (nI 0), .ref (a 4), .ref (a 5), .ref (a 6), .ref (a 7), .ref (a 8), .int (nI 0), .ref (a 9), .int (nI 0), .ref (a 10), .ref (a 11), .ref (a 12), .ref (a 13), .ref (a 14)])), (o, .inl (cJ, 1, .inr (.inl (fun _ => 0))))]) 404 [(4, .int (nI 0)), (3, .ref o), (2, .ref (a 0)), (1, .ref (c 0)), (0, .ref b)] [] := by
  obtain ⟨nm, hC⟩ := hC9.cx
  refine y_aload_n hC dL_law_404 3 rfl rfl ?_
  refine y_aload_n hC dL_law_405 4 rfl rfl ?_
  refine y_iload hC dL_law_406 0 rfl ?_
  refine y_iconst hC (v := nI 1) dL_law_408 rfl ?_
  refine y_iadd hC (v := nI 1) dL_law_409 (by decide) ?_
  refine y_sld hC9 1 rfl (by decide) (by decide) dL_law_410 ?_
  refine y_aload_n hC dL_law_411 4 rfl rfl ?_
  refine y_iload hC dL_law_412 0 rfl ?_
  refine y_iconst hC (v := nI 2) dL_law_414 rfl ?_
  refine y_iadd hC (v := nI 2) dL_law_415 (by decide) ?_
  refine y_sld hC9 2 rfl (by decide) (by decide) dL_law_416 ?_
  refine y_aload_n hC dL_law_417 1 rfl rfl ?_
  refine y_callSX_i hC (As := [.ref (c 0), .int (xs 1), .int (xs 2), .ref o]) (rest := []) (w_setKnotter hlt c o (fun _ => 0) (xs 1) (xs 2)) nW_setKnotter (inLr12 _ (List.mem_of_getElem? (i := 12) rfl)) [0, 1, 3] [2] [0, 1] (fun u => [((a 0), .inr (6, [.int (nI 0), .ref (a 1), .ref (a 2), .int (nI 0), .int (nI 0), .int (nI 0), .ref (a 3), .int (nI 4), .int (nI 4), .int (nI 0), .ref (a 4), .ref (a 5), .ref (a 6), .ref (a 7), .ref (a 8), .int (nI 0), .ref (a 9), .int (nI 0), .ref (a 10), .ref (a 11), .ref (a 12), .ref (a 13), .ref (a 14)])), (o, .inl (cJ, 1, .inr (.inl u)))]) rfl rfl rfl rfl (by decide) rfl (fun _ => rfl) rfl rfl (Nat.le_of_ble_eq_true rfl) dL_law_418 ⟨(Nat.le_of_ble_eq_true rfl), (Nat.le_of_ble_eq_true rfl)⟩ ⟨(Nat.le_of_ble_eq_true rfl), (Nat.le_of_ble_eq_true rfl)⟩ (fun r1 u1 hw1 => ?_)
  refine y_istore hC [(5, .int r1), (4, .int (nI 0)), (3, .ref o), (2, .ref (a 0)), (1, .ref (c 0)), (0, .ref b)] dL_law_421 (by decide) rfl ?_
  refine y_aload_n hC dL_law_423 3 rfl rfl ?_
  refine y_aload_n hC dL_law_424 5 rfl rfl ?_
  refine y_iload hC dL_law_425 1 rfl ?_
  refine y_iconst hC (v := nI 1) dL_law_427 rfl ?_
  refine y_iadd hC (v := nI 1) dL_law_428 (by decide) ?_
  refine y_sld hC9 1 rfl (by decide) (by decide) dL_law_429 ?_
  refine y_aload_n hC dL_law_430 5 rfl rfl ?_
  refine y_iload hC dL_law_431 1 rfl ?_
  refine y_iconst hC (v := nI 2) dL_law_433 rfl ?_
  refine y_iadd hC (v := nI 2) dL_law_434 (by decide) ?_
  refine y_sld hC9 2 rfl (by decide) (by decide) dL_law_435 ?_
  refine y_callV_i hC (As := [.int (xs 1), .int (xs 2)]) (rest := []) (p_X6_setKnotter a (xs 1) (xs 2)) nV_X6_setKnotter (inLr12 _ (List.mem_of_getElem? (i := 21) rfl)) [0] [1] [0, 1] (fun u => [(o, .inl (cJ, 1, .inr (.inl u1))), ((a 0), .inr (6, .int (nI u.1) :: u.2))]) rfl rfl rfl rfl (by decide) rfl (fun _ => rfl) 0 rfl rfl rfl rfl (Nat.le_of_ble_eq_true rfl) dL_law_436 ⟨(Nat.le_of_ble_eq_true rfl), (Nat.le_of_ble_eq_true rfl)⟩ ⟨(Nat.le_of_ble_eq_true rfl), (Nat.le_of_ble_eq_true rfl)⟩ (fun r2 u2 hw2 => ?_)
  refine y_istore hC [(6, .int r2), (5, .int r1), (4, .int (nI 0)), (3, .ref o), (2, .ref (a 0)), (1, .ref (c 0)), (0, .ref b)] dL_law_439 (by decide) rfl ?_
  refine y_aload_n hC dL_law_441 4 rfl rfl ?_
  refine y_callV_i hC (As := []) (rest := []) (c_X6_thrown (a 0) (nI u2.1) u2.2) nV_X6_thrown (inLr6 _ (List.mem_of_getElem? (i := 18) rfl)) [1] [0] [0, 1] (fun u => [(o, .inl (cJ, 1, .inr (.inl u1))), ((a 0), .inr (6, .int (nI u2.1) :: u2.2))]) rfl rfl rfl rfl (by decide) rfl (fun _ => rfl) 0 rfl rfl rfl rfl (Nat.le_of_ble_eq_true rfl) dL_law_442 ⟨(Nat.le_of_ble_eq_true rfl), (Nat.le_of_ble_eq_true rfl)⟩ ⟨(Nat.le_of_ble_eq_true rfl), (Nat.le_of_ble_eq_true rfl)⟩ (fun r3 u3 hw3 => ?_)
  refine y_iload hC dL_law_445 1 rfl ?_
  refine y_icmp_eq hC 452 dL_law_447 (by decide) (fun _ => ?_) (fun h9 => absurd (by rw [hw3, hw2.1, hw1.1]) h9)
  refine y_iload hC dL_law_452 1 rfl ?_
  refine y_if_ne_n hC 469 dL_law_454 (by decide) (kcKno (xs 1) (xs 2)) hw1.1 (by unfold kcKno; (repeat' split) <;> omega) (fun h8 => ?_) (fun h8 => ?_)
  · refine y_goto hC 1387 dL_law_469 (by decide) ?_
    refine y_world hC [] (ws' := []) rfl rfl ?_
    refine y_sub hC [2, 6] rfl ?_
    exact hT _ _ (Nat.le_of_ble_eq_true rfl) (Nat.le_of_ble_eq_true rfl)
  · refine y_aload_n hC dL_law_457 3 rfl rfl ?_
    refine y_iconst hC (v := nI 0) dL_law_458 rfl ?_
    refine y_lald hC 0 2 rfl rfl 0 rfl (by omega) (by decide) dL_law_459 ?_
    refine y_iload hC dL_law_460 0 rfl ?_
    refine y_i2l hC (v := (r2).toInt64) dL_law_462 rfl ?_
    refine y_lcmp hC dL_law_463 (fun v1 hv1 => ?_)
    refine y_if_eq hC 469 dL_law_464 (by decide) (fun _ => ?_) (fun h9 => absurd (hv1.trans (by rw [hw1.2 h8, hw2.2 h8]; exact lg_self _)) h9)
    refine y_goto hC 1387 dL_law_469 (by decide) ?_
    refine y_world hC [] (ws' := []) rfl rfl ?_
    refine y_sub hC [2, 6] rfl ?_
    exact hT _ _ (Nat.le_of_ble_eq_true rfl) (Nat.le_of_ble_eq_true rfl)
set_option maxHeartbeats 4000000 in
set_option maxRecDepth 100000 in
theorem p1_setFeel (hlt : l.stackTraces = false) {G : GT} {b : Nat} {xs : Nat → Int32} (hC9 : CxL l G room_1 D (tyL cI cO cJ cZ) b 6 xs) (c a : Nat → Nat) (fl : Nat → Nat) (hfl : ∀ k, k < 25 → fl k = feelv k) (o : Nat) (hT : ∀ ce sl : Nat, ce ≤ 200 → sl ≤ 4000 → G ce sl [] 1387 [(4, .int (nI 0)), (0, .ref b)] []) : G 100 3000 ([((c 0), .inr (5, [.ref (c 1), .ref (c 8), .ref (c 9), .ref (c 12), .ref (c 19), .int (nI 0), .ref (c 20), .int (nI 0), .ref (c 21), .int (nI 0)])), ((c 9), .inr (2, [.int (nI 4), .int (nI 4), .ref (c 10), .ref (c 11)])), ((c 10), .inl (cI, 25, .inl (fun k => nI (Tf k)))), ((a 0), .inr (6, [.int (nI 0), .ref (a 1), .ref (a 2), .int (nI 0), .int (nI 0), .int (nI 0), .ref (a 3), .int (nI 4), .int (nI 4), .int (nI 0), .ref (a 4), .ref (a 5), .ref (a 6), .ref (a 7), .ref (a 8), .int (nI 0), .ref (a 9), .int (nI 0), .ref (a 10), .ref (a 11), .ref (a 12), .ref (a 13), .ref (a 14)])), ((a 3), .inl (cI, 25, .inl (fun k => nI (fl k)))), (o, .inl (cJ, 1, .inr (.inl (fun _ => 0))))]) 472 [(4, .int (nI 0)), (3, .ref o), (2, .ref (a 0)), (1, .ref (c 0)), (0, .ref b)] [] := by
  obtain ⟨nm, hC⟩ := hC9.cx
  refine y_aload_n hC dL_law_472 3 rfl rfl ?_
  refine y_aload_n hC dL_law_473 4 rfl rfl ?_
  refine y_iload hC dL_law_474 0 rfl ?_
  refine y_iconst hC (v := nI 1) dL_law_476 rfl ?_
  refine y_iadd hC (v := nI 1) dL_law_477 (by decide) ?_
  refine y_sld hC9 1 rfl (by decide) (by decide) dL_law_478 ?_
  refine y_aload_n hC dL_law_479 4 rfl rfl ?_
  refine y_iload hC dL_law_480 0 rfl ?_
  refine y_iconst hC (v := nI 2) dL_law_482 rfl ?_
  refine y_iadd hC (v := nI 2) dL_law_483 (by decide) ?_
  refine y_sld hC9 2 rfl (by decide) (by decide) dL_law_484 ?_
  refine y_aload_n hC dL_law_485 4 rfl rfl ?_
  refine y_iload hC dL_law_486 0 rfl ?_
  refine y_iconst hC (v := nI 3) dL_law_488 rfl ?_
  refine y_iadd hC (v := nI 3) dL_law_489 (by decide) ?_
  refine y_sld hC9 3 rfl (by decide) (by decide) dL_law_490 ?_
  refine y_aload_n hC dL_law_491 1 rfl rfl ?_
  refine y_callSX_i hC (As := [.ref (c 0), .int (xs 1), .int (xs 2), .int (xs 3), .ref o]) (rest := []) (w_setFeel hlt c o (fun _ => 0) (xs 1) (xs 2) (xs 3)) nW_setFeel (inLr13 _ (List.mem_of_getElem? (i := 3) rfl)) [0, 1, 2, 5] [3, 4] [0, 1, 2] (fun u => [((a 0), .inr (6, [.int (nI 0), .ref (a 1), .ref (a 2), .int (nI 0), .int (nI 0), .int (nI 0), .ref (a 3), .int (nI 4), .int (nI 4), .int (nI 0), .ref (a 4), .ref (a 5), .ref (a 6), .ref (a 7), .ref (a 8), .int (nI 0), .ref (a 9), .int (nI 0), .ref (a 10), .ref (a 11), .ref (a 12), .ref (a 13), .ref (a 14)])), ((a 3), .inl (cI, 25, .inl (fun k => nI (fl k)))), (o, .inl (cJ, 1, .inr (.inl u)))]) rfl rfl rfl rfl (by decide) rfl (fun _ => rfl) rfl rfl (Nat.le_of_ble_eq_true rfl) dL_law_492 ⟨(Nat.le_of_ble_eq_true rfl), (Nat.le_of_ble_eq_true rfl)⟩ ⟨(Nat.le_of_ble_eq_true rfl), (Nat.le_of_ble_eq_true rfl)⟩ (fun r1 u1 hw1 => ?_)
  refine y_istore hC [(5, .int r1), (4, .int (nI 0)), (3, .ref o), (2, .ref (a 0)), (1, .ref (c 0)), (0, .ref b)] dL_law_495 (by decide) rfl ?_
  refine y_aload_n hC dL_law_497 3 rfl rfl ?_
  refine y_aload_n hC dL_law_498 5 rfl rfl ?_
  refine y_iload hC dL_law_499 1 rfl ?_
  refine y_iconst hC (v := nI 1) dL_law_501 rfl ?_
  refine y_iadd hC (v := nI 1) dL_law_502 (by decide) ?_
  refine y_sld hC9 1 rfl (by decide) (by decide) dL_law_503 ?_
  refine y_aload_n hC dL_law_504 5 rfl rfl ?_
  refine y_iload hC dL_law_505 1 rfl ?_
  refine y_iconst hC (v := nI 2) dL_law_507 rfl ?_
  refine y_iadd hC (v := nI 2) dL_law_508 (by decide) ?_
  refine y_sld hC9 2 rfl (by decide) (by decide) dL_law_509 ?_
  refine y_aload_n hC dL_law_510 5 rfl rfl ?_
  refine y_iload hC dL_law_511 1 rfl ?_
  refine y_iconst hC (v := nI 3) dL_law_513 rfl ?_
  refine y_iadd hC (v := nI 3) dL_law_514 (by decide) ?_
  refine y_sld hC9 3 rfl (by decide) (by decide) dL_law_515 ?_
  refine y_callV_i hC (As := [.int (xs 1), .int (xs 2), .int (xs 3)]) (rest := []) (p_X6_setFeel a (xs 1) (xs 2) (xs 3) fl hfl) nV_X6_setFeel (inLr13 _ (List.mem_of_getElem? (i := 16) rfl)) [0, 1] [2] [0, 1] (fun u => [(o, .inl (cJ, 1, .inr (.inl u1))), ((a 0), .inr (6, .int (nI u.1) :: u.2))]) rfl rfl rfl rfl (by decide) rfl (fun _ => rfl) 0 rfl rfl rfl rfl (Nat.le_of_ble_eq_true rfl) dL_law_516 ⟨(Nat.le_of_ble_eq_true rfl), (Nat.le_of_ble_eq_true rfl)⟩ ⟨(Nat.le_of_ble_eq_true rfl), (Nat.le_of_ble_eq_true rfl)⟩ (fun r2 u2 hw2 => ?_)
  refine y_istore hC [(6, .int r2), (5, .int r1), (4, .int (nI 0)), (3, .ref o), (2, .ref (a 0)), (1, .ref (c 0)), (0, .ref b)] dL_law_519 (by decide) rfl ?_
  refine y_aload_n hC dL_law_521 4 rfl rfl ?_
  refine y_callV_i hC (As := []) (rest := []) (c_X6_thrown (a 0) (nI u2.1) u2.2) nV_X6_thrown (inLr6 _ (List.mem_of_getElem? (i := 18) rfl)) [1] [0] [0, 1] (fun u => [(o, .inl (cJ, 1, .inr (.inl u1))), ((a 0), .inr (6, .int (nI u2.1) :: u2.2))]) rfl rfl rfl rfl (by decide) rfl (fun _ => rfl) 0 rfl rfl rfl rfl (Nat.le_of_ble_eq_true rfl) dL_law_522 ⟨(Nat.le_of_ble_eq_true rfl), (Nat.le_of_ble_eq_true rfl)⟩ ⟨(Nat.le_of_ble_eq_true rfl), (Nat.le_of_ble_eq_true rfl)⟩ (fun r3 u3 hw3 => ?_)
  refine y_iload hC dL_law_525 1 rfl ?_
  refine y_icmp_eq hC 532 dL_law_527 (by decide) (fun _ => ?_) (fun h9 => absurd (by rw [hw3, hw2.1, hw1.1]) h9)
  refine y_iload hC dL_law_532 1 rfl ?_
  refine y_if_ne_n hC 549 dL_law_534 (by decide) (kcFee (xs 1) (xs 2) (xs 3)) hw1.1 (by unfold kcFee; (repeat' split) <;> omega) (fun h8 => ?_) (fun h8 => ?_)
  · refine y_goto hC 1387 dL_law_549 (by decide) ?_
    refine y_world hC [] (ws' := []) rfl rfl ?_
    refine y_sub hC [2, 6] rfl ?_
    exact hT _ _ (Nat.le_of_ble_eq_true rfl) (Nat.le_of_ble_eq_true rfl)
  · refine y_aload_n hC dL_law_537 3 rfl rfl ?_
    refine y_iconst hC (v := nI 0) dL_law_538 rfl ?_
    refine y_lald hC 0 2 rfl rfl 0 rfl (by omega) (by decide) dL_law_539 ?_
    refine y_iload hC dL_law_540 0 rfl ?_
    refine y_i2l hC (v := (r2).toInt64) dL_law_542 rfl ?_
    refine y_lcmp hC dL_law_543 (fun v1 hv1 => ?_)
    refine y_if_eq hC 549 dL_law_544 (by decide) (fun _ => ?_) (fun h9 => absurd (hv1.trans (by rw [hw1.2 h8, hw2.2 h8]; exact lg_self _)) h9)
    refine y_goto hC 1387 dL_law_549 (by decide) ?_
    refine y_world hC [] (ws' := []) rfl rfl ?_
    refine y_sub hC [2, 6] rfl ?_
    exact hT _ _ (Nat.le_of_ble_eq_true rfl) (Nat.le_of_ble_eq_true rfl)
set_option maxHeartbeats 4000000 in
set_option maxRecDepth 100000 in
theorem p1_setCosts (hlt : l.stackTraces = false) {G : GT} {b : Nat} {xs : Nat → Int32} (hC9 : CxL l G room_1 D (tyL cI cO cJ cZ) b 6 xs) (c a : Nat → Nat) (fl : Nat → Nat) (hfl : ∀ k, k < 25 → fl k = feelv k) (o : Nat) (hT : ∀ ce sl : Nat, ce ≤ 200 → sl ≤ 4000 → G ce sl [] 1387 [(4, .int (nI 0)), (0, .ref b)] []) : G 100 3000 ([((c 0), .inr (5, [.ref (c 1), .ref (c 8), .ref (c 9), .ref (c 12), .ref (c 19), .int (nI 0), .ref (c 20), .int (nI 0), .ref (c 21), .int (nI 0)])), ((c 9), .inr (2, [.int (nI 4), .int (nI 4), .ref (c 10), .ref (c 11)])), ((a 0), .inr (6, [.int (nI 0), .ref (a 1), .ref (a 2), .int (nI 0), .int (nI 0), .int (nI 0), .ref (a 3), .int (nI 4), .int (nI 4), .int (nI 0), .ref (a 4), .ref (a 5), .ref (a 6), .ref (a 7), .ref (a 8), .int (nI 0), .ref (a 9), .int (nI 0), .ref (a 10), .ref (a 11), .ref (a 12), .ref (a 13), .ref (a 14)])), (o, .inl (cJ, 1, .inr (.inl (fun _ => 0))))]) 552 [(4, .int (nI 0)), (3, .ref o), (2, .ref (a 0)), (1, .ref (c 0)), (0, .ref b)] [] := by
  obtain ⟨nm, hC⟩ := hC9.cx
  refine y_aload_n hC dL_law_552 3 rfl rfl ?_
  refine y_aload_n hC dL_law_553 4 rfl rfl ?_
  refine y_iload hC dL_law_554 0 rfl ?_
  refine y_iconst hC (v := nI 1) dL_law_556 rfl ?_
  refine y_iadd hC (v := nI 1) dL_law_557 (by decide) ?_
  refine y_sld hC9 1 rfl (by decide) (by decide) dL_law_558 ?_
  refine y_aload_n hC dL_law_559 4 rfl rfl ?_
  refine y_iload hC dL_law_560 0 rfl ?_
  refine y_iconst hC (v := nI 2) dL_law_562 rfl ?_
  refine y_iadd hC (v := nI 2) dL_law_563 (by decide) ?_
  refine y_sld hC9 2 rfl (by decide) (by decide) dL_law_564 ?_
  refine y_aload_n hC dL_law_565 1 rfl rfl ?_
  refine y_callSX_i hC (As := [.ref (c 0), .int (xs 1), .int (xs 2), .ref o]) (rest := []) (w_setCosts hlt c o (fun _ => 0) (xs 1) (xs 2)) nW_setCosts (inLr13 _ (List.mem_of_getElem? (i := 20) rfl)) [0, 1, 3] [2] [0, 1] (fun u => [((a 0), .inr (6, [.int (nI 0), .ref (a 1), .ref (a 2), .int (nI 0), .int (nI 0), .int (nI 0), .ref (a 3), .int (nI 4), .int (nI 4), .int (nI 0), .ref (a 4), .ref (a 5), .ref (a 6), .ref (a 7), .ref (a 8), .int (nI 0), .ref (a 9), .int (nI 0), .ref (a 10), .ref (a 11), .ref (a 12), .ref (a 13), .ref (a 14)])), (o, .inl (cJ, 1, .inr (.inl u)))]) rfl rfl rfl rfl (by decide) rfl (fun _ => rfl) rfl rfl (Nat.le_of_ble_eq_true rfl) dL_law_566 ⟨(Nat.le_of_ble_eq_true rfl), (Nat.le_of_ble_eq_true rfl)⟩ ⟨(Nat.le_of_ble_eq_true rfl), (Nat.le_of_ble_eq_true rfl)⟩ (fun r1 u1 hw1 => ?_)
  refine y_istore hC [(5, .int r1), (4, .int (nI 0)), (3, .ref o), (2, .ref (a 0)), (1, .ref (c 0)), (0, .ref b)] dL_law_569 (by decide) rfl ?_
  refine y_aload_n hC dL_law_571 3 rfl rfl ?_
  refine y_aload_n hC dL_law_572 5 rfl rfl ?_
  refine y_iload hC dL_law_573 1 rfl ?_
  refine y_iconst hC (v := nI 1) dL_law_575 rfl ?_
  refine y_iadd hC (v := nI 1) dL_law_576 (by decide) ?_
  refine y_sld hC9 1 rfl (by decide) (by decide) dL_law_577 ?_
  refine y_aload_n hC dL_law_578 5 rfl rfl ?_
  refine y_iload hC dL_law_579 1 rfl ?_
  refine y_iconst hC (v := nI 2) dL_law_581 rfl ?_
  refine y_iadd hC (v := nI 2) dL_law_582 (by decide) ?_
  refine y_sld hC9 2 rfl (by decide) (by decide) dL_law_583 ?_
  refine y_callV_i hC (As := [.int (xs 1), .int (xs 2)]) (rest := []) (p_X6_setCosts a (xs 1) (xs 2)) nV_X6_setCosts (inLr14 _ (List.mem_of_getElem? (i := 5) rfl)) [0] [1] [0, 1] (fun u => [(o, .inl (cJ, 1, .inr (.inl u1))), ((a 0), .inr (6, .int (nI u.1) :: u.2))]) rfl rfl rfl rfl (by decide) rfl (fun _ => rfl) 0 rfl rfl rfl rfl (Nat.le_of_ble_eq_true rfl) dL_law_584 ⟨(Nat.le_of_ble_eq_true rfl), (Nat.le_of_ble_eq_true rfl)⟩ ⟨(Nat.le_of_ble_eq_true rfl), (Nat.le_of_ble_eq_true rfl)⟩ (fun r2 u2 hw2 => ?_)
  refine y_istore hC [(6, .int r2), (5, .int r1), (4, .int (nI 0)), (3, .ref o), (2, .ref (a 0)), (1, .ref (c 0)), (0, .ref b)] dL_law_587 (by decide) rfl ?_
  refine y_aload_n hC dL_law_589 4 rfl rfl ?_
  refine y_callV_i hC (As := []) (rest := []) (c_X6_thrown (a 0) (nI u2.1) u2.2) nV_X6_thrown (inLr6 _ (List.mem_of_getElem? (i := 18) rfl)) [1] [0] [0, 1] (fun u => [(o, .inl (cJ, 1, .inr (.inl u1))), ((a 0), .inr (6, .int (nI u2.1) :: u2.2))]) rfl rfl rfl rfl (by decide) rfl (fun _ => rfl) 0 rfl rfl rfl rfl (Nat.le_of_ble_eq_true rfl) dL_law_590 ⟨(Nat.le_of_ble_eq_true rfl), (Nat.le_of_ble_eq_true rfl)⟩ ⟨(Nat.le_of_ble_eq_true rfl), (Nat.le_of_ble_eq_true rfl)⟩ (fun r3 u3 hw3 => ?_)
  refine y_iload hC dL_law_593 1 rfl ?_
  refine y_icmp_eq hC 600 dL_law_595 (by decide) (fun _ => ?_) (fun h9 => absurd (by rw [hw3, hw2.1, hw1.1]) h9)
  refine y_iload hC dL_law_600 1 rfl ?_
  refine y_if_ne_n hC 617 dL_law_602 (by decide) (kcCos (xs 1) (xs 2)) hw1.1 (by unfold kcCos; (repeat' split) <;> omega) (fun h8 => ?_) (fun h8 => ?_)
  · refine y_goto hC 1387 dL_law_617 (by decide) ?_
    refine y_world hC [] (ws' := []) rfl rfl ?_
    refine y_sub hC [2, 6] rfl ?_
    exact hT _ _ (Nat.le_of_ble_eq_true rfl) (Nat.le_of_ble_eq_true rfl)
  · refine y_aload_n hC dL_law_605 3 rfl rfl ?_
    refine y_iconst hC (v := nI 0) dL_law_606 rfl ?_
    refine y_lald hC 0 2 rfl rfl 0 rfl (by omega) (by decide) dL_law_607 ?_
    refine y_iload hC dL_law_608 0 rfl ?_
    refine y_i2l hC (v := (r2).toInt64) dL_law_610 rfl ?_
    refine y_lcmp hC dL_law_611 (fun v1 hv1 => ?_)
    refine y_if_eq hC 617 dL_law_612 (by decide) (fun _ => ?_) (fun h9 => absurd (hv1.trans (by rw [hw1.2 h8, hw2.2 h8]; exact lg_self _)) h9)
    refine y_goto hC 1387 dL_law_617 (by decide) ?_
    refine y_world hC [] (ws' := []) rfl rfl ?_
    refine y_sub hC [2, 6] rfl ?_
    exact hT _ _ (Nat.le_of_ble_eq_true rfl) (Nat.le_of_ble_eq_true rfl)
set_option maxHeartbeats 4000000 in
set_option maxRecDepth 100000 in
theorem p1_feed (hlt : l.stackTraces = false) {G : GT} {b : Nat} {xs : Nat → Int32} (hC9 : CxL l G room_1 D (tyL cI cO cJ cZ) b 6 xs) (c a : Nat → Nat) (fl : Nat → Nat) (hfl : ∀ k, k < 25 → fl k = feelv k) (o : Nat) (hT : ∀ ce sl : Nat, ce ≤ 200 → sl ≤ 4000 → G ce sl [] 1387 [(4, .int (nI 0)), (0, .ref b)] []) : G 100 3000 ([((c 0), .inr (5, [.ref (c 1), .ref (c 8), .ref (c 9), .ref (c 12), .ref (c 19), .int (nI 0), .ref (c 20), .int (nI 0), .ref (c 21), .int (nI 0)])), ((c 20), .inl (cI, 80, .inl (fun k => nI (Zf k)))), ((a 0), .inr (6, [.int (nI 0), .ref (a 1), .ref (a 2), .int (nI 0), .int (nI 0), .int (nI 0), .ref (a 3), .int (nI 4), .int (nI 4), .int (nI 0), .ref (a 4), .ref (a 5), .ref (a 6), .ref (a 7), .ref (a 8), .int (nI 0), .ref (a 9), .int (nI 0), .ref (a 10), .ref (a 11), .ref (a 12), .ref (a 13), .ref (a 14)])), ((a 8), .inl (cI, 80, .inl (fun k => nI (Zf k)))), (o, .inl (cJ, 1, .inr (.inl (fun _ => 0))))]) 620 [(4, .int (nI 0)), (3, .ref o), (2, .ref (a 0)), (1, .ref (c 0)), (0, .ref b)] [] := by
  obtain ⟨nm, hC⟩ := hC9.cx
  refine y_aload_n hC dL_law_620 3 rfl rfl ?_
  refine y_aload_n hC dL_law_621 4 rfl rfl ?_
  refine y_iload hC dL_law_622 0 rfl ?_
  refine y_iconst hC (v := nI 1) dL_law_624 rfl ?_
  refine y_iadd hC (v := nI 1) dL_law_625 (by decide) ?_
  refine y_sld hC9 1 rfl (by decide) (by decide) dL_law_626 ?_
  refine y_aload_n hC dL_law_627 4 rfl rfl ?_
  refine y_iload hC dL_law_628 0 rfl ?_
  refine y_iconst hC (v := nI 2) dL_law_630 rfl ?_
  refine y_iadd hC (v := nI 2) dL_law_631 (by decide) ?_
  refine y_sld hC9 2 rfl (by decide) (by decide) dL_law_632 ?_
  refine y_aload_n hC dL_law_633 4 rfl rfl ?_
  refine y_iload hC dL_law_634 0 rfl ?_
  refine y_iconst hC (v := nI 3) dL_law_636 rfl ?_
  refine y_iadd hC (v := nI 3) dL_law_637 (by decide) ?_
  refine y_sld hC9 3 rfl (by decide) (by decide) dL_law_638 ?_
  refine y_aload_n hC dL_law_639 4 rfl rfl ?_
  refine y_iload hC dL_law_640 0 rfl ?_
  refine y_iconst hC (v := nI 4) dL_law_642 rfl ?_
  refine y_iadd hC (v := nI 4) dL_law_643 (by decide) ?_
  refine y_sld hC9 4 rfl (by decide) (by decide) dL_law_644 ?_
  refine y_aload_n hC dL_law_645 4 rfl rfl ?_
  refine y_iload hC dL_law_646 0 rfl ?_
  refine y_iconst hC (v := nI 5) dL_law_648 rfl ?_
  refine y_iadd hC (v := nI 5) dL_law_649 (by decide) ?_
  refine y_sld hC9 5 rfl (by decide) (by decide) dL_law_650 ?_
  refine y_aload_n hC dL_law_651 1 rfl rfl ?_
  refine y_callSX_i hC (As := [.ref (c 0), .int (xs 1), .int (xs 2), .int (xs 3), .int (xs 4), .int (xs 5), .ref o]) (rest := []) (w_feed hlt c o (fun _ => 0) (xs 1) (xs 2) (xs 3) (xs 4) (xs 5)) nW_feed (inLr14 _ (List.mem_of_getElem? (i := 9) rfl)) [0, 1, 4] [2, 3] [0, 1, 2] (fun u => [((a 0), .inr (6, [.int (nI 0), .ref (a 1), .ref (a 2), .int (nI 0), .int (nI 0), .int (nI 0), .ref (a 3), .int (nI 4), .int (nI 4), .int (nI 0), .ref (a 4), .ref (a 5), .ref (a 6), .ref (a 7), .ref (a 8), .int (nI 0), .ref (a 9), .int (nI 0), .ref (a 10), .ref (a 11), .ref (a 12), .ref (a 13), .ref (a 14)])), ((a 8), .inl (cI, 80, .inl (fun k => nI (Zf k)))), (o, .inl (cJ, 1, .inr (.inl u)))]) rfl rfl rfl rfl (by decide) rfl (fun _ => rfl) rfl rfl (Nat.le_of_ble_eq_true rfl) dL_law_652 ⟨(Nat.le_of_ble_eq_true rfl), (Nat.le_of_ble_eq_true rfl)⟩ ⟨(Nat.le_of_ble_eq_true rfl), (Nat.le_of_ble_eq_true rfl)⟩ (fun r1 u1 hw1 => ?_)
  refine y_istore hC [(5, .int r1), (4, .int (nI 0)), (3, .ref o), (2, .ref (a 0)), (1, .ref (c 0)), (0, .ref b)] dL_law_655 (by decide) rfl ?_
  refine y_aload_n hC dL_law_657 3 rfl rfl ?_
  refine y_aload_n hC dL_law_658 5 rfl rfl ?_
  refine y_iload hC dL_law_659 1 rfl ?_
  refine y_iconst hC (v := nI 1) dL_law_661 rfl ?_
  refine y_iadd hC (v := nI 1) dL_law_662 (by decide) ?_
  refine y_sld hC9 1 rfl (by decide) (by decide) dL_law_663 ?_
  refine y_aload_n hC dL_law_664 5 rfl rfl ?_
  refine y_iload hC dL_law_665 1 rfl ?_
  refine y_iconst hC (v := nI 2) dL_law_667 rfl ?_
  refine y_iadd hC (v := nI 2) dL_law_668 (by decide) ?_
  refine y_sld hC9 2 rfl (by decide) (by decide) dL_law_669 ?_
  refine y_aload_n hC dL_law_670 5 rfl rfl ?_
  refine y_iload hC dL_law_671 1 rfl ?_
  refine y_iconst hC (v := nI 3) dL_law_673 rfl ?_
  refine y_iadd hC (v := nI 3) dL_law_674 (by decide) ?_
  refine y_sld hC9 3 rfl (by decide) (by decide) dL_law_675 ?_
  refine y_aload_n hC dL_law_676 5 rfl rfl ?_
  refine y_iload hC dL_law_677 1 rfl ?_
  refine y_iconst hC (v := nI 4) dL_law_679 rfl ?_
  refine y_iadd hC (v := nI 4) dL_law_680 (by decide) ?_
  refine y_sld hC9 4 rfl (by decide) (by decide) dL_law_681 ?_
  refine y_aload_n hC dL_law_682 5 rfl rfl ?_
  refine y_iload hC dL_law_683 1 rfl ?_
  refine y_iconst hC (v := nI 5) dL_law_685 rfl ?_
  refine y_iadd hC (v := nI 5) dL_law_686 (by decide) ?_
  refine y_sld hC9 5 rfl (by decide) (by decide) dL_law_687 ?_
  refine y_callV_i hC (As := [.int (xs 1), .int (xs 2), .int (xs 3), .int (xs 4), .int (xs 5)]) (rest := []) (p_X6_feed a (xs 1) (xs 2) (xs 3) (xs 4) (xs 5)) nV_X6_feed (inLr15 _ (List.mem_of_getElem? (i := 0) rfl)) [0, 1] [2] [0, 1] (fun u => [(o, .inl (cJ, 1, .inr (.inl u1))), ((a 0), .inr (6, .int (nI u.1) :: u.2))]) rfl rfl rfl rfl (by decide) rfl (fun _ => rfl) 0 rfl rfl rfl rfl (Nat.le_of_ble_eq_true rfl) dL_law_688 ⟨(Nat.le_of_ble_eq_true rfl), (Nat.le_of_ble_eq_true rfl)⟩ ⟨(Nat.le_of_ble_eq_true rfl), (Nat.le_of_ble_eq_true rfl)⟩ (fun r2 u2 hw2 => ?_)
  refine y_istore hC [(6, .int r2), (5, .int r1), (4, .int (nI 0)), (3, .ref o), (2, .ref (a 0)), (1, .ref (c 0)), (0, .ref b)] dL_law_691 (by decide) rfl ?_
  refine y_aload_n hC dL_law_693 4 rfl rfl ?_
  refine y_callV_i hC (As := []) (rest := []) (c_X6_thrown (a 0) (nI u2.1) u2.2) nV_X6_thrown (inLr6 _ (List.mem_of_getElem? (i := 18) rfl)) [1] [0] [0, 1] (fun u => [(o, .inl (cJ, 1, .inr (.inl u1))), ((a 0), .inr (6, .int (nI u2.1) :: u2.2))]) rfl rfl rfl rfl (by decide) rfl (fun _ => rfl) 0 rfl rfl rfl rfl (Nat.le_of_ble_eq_true rfl) dL_law_694 ⟨(Nat.le_of_ble_eq_true rfl), (Nat.le_of_ble_eq_true rfl)⟩ ⟨(Nat.le_of_ble_eq_true rfl), (Nat.le_of_ble_eq_true rfl)⟩ (fun r3 u3 hw3 => ?_)
  refine y_iload hC dL_law_697 1 rfl ?_
  refine y_icmp_eq hC 704 dL_law_699 (by decide) (fun _ => ?_) (fun h9 => absurd (by rw [hw3, hw2.1, hw1.1]) h9)
  refine y_iload hC dL_law_704 1 rfl ?_
  refine y_if_ne_n hC 721 dL_law_706 (by decide) (0) hw1.1 (by decide) (fun h8 => ?_) (fun h8 => ?_)
  · exact absurd rfl h8
  · refine y_aload_n hC dL_law_709 3 rfl rfl ?_
    refine y_iconst hC (v := nI 0) dL_law_710 rfl ?_
    refine y_lald hC 0 2 rfl rfl 0 rfl (by omega) (by decide) dL_law_711 ?_
    refine y_iload hC dL_law_712 0 rfl ?_
    refine y_i2l hC (v := (r2).toInt64) dL_law_714 rfl ?_
    refine y_lcmp hC dL_law_715 (fun v1 hv1 => ?_)
    refine y_if_eq hC 721 dL_law_716 (by decide) (fun _ => ?_) (fun h9 => absurd (hv1.trans (by rw [hw1.2 h8, hw2.2]; exact lg_self _)) h9)
    refine y_goto hC 1387 dL_law_721 (by decide) ?_
    refine y_world hC [] (ws' := []) rfl rfl ?_
    refine y_sub hC [2, 6] rfl ?_
    exact hT _ _ (Nat.le_of_ble_eq_true rfl) (Nat.le_of_ble_eq_true rfl)
set_option maxHeartbeats 4000000 in
set_option maxRecDepth 100000 in
theorem p1_trim (hlt : l.stackTraces = false) {G : GT} {b : Nat} {xs : Nat → Int32} (hC9 : CxL l G room_1 D (tyL cI cO cJ cZ) b 6 xs) (c a : Nat → Nat) (fl : Nat → Nat) (hfl : ∀ k, k < 25 → fl k = feelv k) (o : Nat) (hT : ∀ ce sl : Nat, ce ≤ 200 → sl ≤ 4000 → G ce sl [] 1387 [(4, .int (nI 0)), (0, .ref b)] []) : G 100 3000 ([((c 0), .inr (5, [.ref (c 1), .ref (c 8), .ref (c 9), .ref (c 12), .ref (c 19), .int (nI 0), .ref (c 20), .int (nI 0), .ref (c 21), .int (nI 0)])), ((a 0), .inr (6, [.int (nI 0), .ref (a 1), .ref (a 2), .int (nI 0), .int (nI 0), .int (nI 0), .ref (a 3), .int (nI 4), .int (nI 4), .int (nI 0), .ref (a 4), .ref (a 5), .ref (a 6), .ref (a 7), .ref (a 8), .int (nI 0), .ref (a 9), .int (nI 0), .ref (a 10), .ref (a 11), .ref (a 12), .ref (a 13), .ref (a 14)])), (o, .inl (cJ, 1, .inr (.inl (fun _ => 0))))]) 724 [(4, .int (nI 0)), (3, .ref o), (2, .ref (a 0)), (1, .ref (c 0)), (0, .ref b)] [] := by
  obtain ⟨nm, hC⟩ := hC9.cx
  refine y_aload_n hC dL_law_724 3 rfl rfl ?_
  refine y_aload_n hC dL_law_725 4 rfl rfl ?_
  refine y_iload hC dL_law_726 0 rfl ?_
  refine y_iconst hC (v := nI 1) dL_law_728 rfl ?_
  refine y_iadd hC (v := nI 1) dL_law_729 (by decide) ?_
  refine y_sld hC9 1 rfl (by decide) (by decide) dL_law_730 ?_
  refine y_aload_n hC dL_law_731 1 rfl rfl ?_
  refine y_callSX_i hC (As := [.ref (c 0), .int (xs 1), .ref o]) (rest := []) (w_trim hlt c o (fun _ => 0) (xs 1)) nW_trim (inLr15 _ (List.mem_of_getElem? (i := 5) rfl)) [0, 2] [1] [0, 1] (fun u => [((a 0), .inr (6, [.int (nI 0), .ref (a 1), .ref (a 2), .int (nI 0), .int (nI 0), .int (nI 0), .ref (a 3), .int (nI 4), .int (nI 4), .int (nI 0), .ref (a 4), .ref (a 5), .ref (a 6), .ref (a 7), .ref (a 8), .int (nI 0), .ref (a 9), .int (nI 0), .ref (a 10), .ref (a 11), .ref (a 12), .ref (a 13), .ref (a 14)])), (o, .inl (cJ, 1, .inr (.inl u)))]) rfl rfl rfl rfl (by decide) rfl (fun _ => rfl) rfl rfl (Nat.le_of_ble_eq_true rfl) dL_law_732 ⟨(Nat.le_of_ble_eq_true rfl), (Nat.le_of_ble_eq_true rfl)⟩ ⟨(Nat.le_of_ble_eq_true rfl), (Nat.le_of_ble_eq_true rfl)⟩ (fun r1 u1 hw1 => ?_)
  refine y_istore hC [(5, .int r1), (4, .int (nI 0)), (3, .ref o), (2, .ref (a 0)), (1, .ref (c 0)), (0, .ref b)] dL_law_735 (by decide) rfl ?_
  refine y_aload_n hC dL_law_737 3 rfl rfl ?_
  refine y_aload_n hC dL_law_738 5 rfl rfl ?_
  refine y_iload hC dL_law_739 1 rfl ?_
  refine y_iconst hC (v := nI 1) dL_law_741 rfl ?_
  refine y_iadd hC (v := nI 1) dL_law_742 (by decide) ?_
  refine y_sld hC9 1 rfl (by decide) (by decide) dL_law_743 ?_
  refine y_callV_i hC (As := [.int (xs 1)]) (rest := []) (p_X6_trim a (xs 1)) nV_X6_trim (inLr15 _ (List.mem_of_getElem? (i := 12) rfl)) [0] [1] [0, 1] (fun u => [(o, .inl (cJ, 1, .inr (.inl u1))), ((a 0), .inr (6, .int (nI u.1) :: u.2))]) rfl rfl rfl rfl (by decide) rfl (fun _ => rfl) 0 rfl rfl rfl rfl (Nat.le_of_ble_eq_true rfl) dL_law_744 ⟨(Nat.le_of_ble_eq_true rfl), (Nat.le_of_ble_eq_true rfl)⟩ ⟨(Nat.le_of_ble_eq_true rfl), (Nat.le_of_ble_eq_true rfl)⟩ (fun r2 u2 hw2 => ?_)
  refine y_istore hC [(6, .int r2), (5, .int r1), (4, .int (nI 0)), (3, .ref o), (2, .ref (a 0)), (1, .ref (c 0)), (0, .ref b)] dL_law_747 (by decide) rfl ?_
  refine y_aload_n hC dL_law_749 4 rfl rfl ?_
  refine y_callV_i hC (As := []) (rest := []) (c_X6_thrown (a 0) (nI u2.1) u2.2) nV_X6_thrown (inLr6 _ (List.mem_of_getElem? (i := 18) rfl)) [1] [0] [0, 1] (fun u => [(o, .inl (cJ, 1, .inr (.inl u1))), ((a 0), .inr (6, .int (nI u2.1) :: u2.2))]) rfl rfl rfl rfl (by decide) rfl (fun _ => rfl) 0 rfl rfl rfl rfl (Nat.le_of_ble_eq_true rfl) dL_law_750 ⟨(Nat.le_of_ble_eq_true rfl), (Nat.le_of_ble_eq_true rfl)⟩ ⟨(Nat.le_of_ble_eq_true rfl), (Nat.le_of_ble_eq_true rfl)⟩ (fun r3 u3 hw3 => ?_)
  refine y_iload hC dL_law_753 1 rfl ?_
  refine y_icmp_eq hC 760 dL_law_755 (by decide) (fun _ => ?_) (fun h9 => absurd (by rw [hw3, hw2.1, hw1.1]) h9)
  refine y_iload hC dL_law_760 1 rfl ?_
  refine y_if_ne_n hC 777 dL_law_762 (by decide) (kcTri (xs 1)) hw1.1 (by unfold kcTri; (repeat' split) <;> omega) (fun h8 => ?_) (fun h8 => ?_)
  · refine y_goto hC 1387 dL_law_777 (by decide) ?_
    refine y_world hC [] (ws' := []) rfl rfl ?_
    refine y_sub hC [2, 6] rfl ?_
    exact hT _ _ (Nat.le_of_ble_eq_true rfl) (Nat.le_of_ble_eq_true rfl)
  · refine y_aload_n hC dL_law_765 3 rfl rfl ?_
    refine y_iconst hC (v := nI 0) dL_law_766 rfl ?_
    refine y_lald hC 0 2 rfl rfl 0 rfl (by omega) (by decide) dL_law_767 ?_
    refine y_iload hC dL_law_768 0 rfl ?_
    refine y_i2l hC (v := (r2).toInt64) dL_law_770 rfl ?_
    refine y_lcmp hC dL_law_771 (fun v1 hv1 => ?_)
    refine y_if_eq hC 777 dL_law_772 (by decide) (fun _ => ?_) (fun h9 => absurd (hv1.trans (by rw [hw1.2 h8, hw2.2 h8]; exact lg_self _)) h9)
    refine y_goto hC 1387 dL_law_777 (by decide) ?_
    refine y_world hC [] (ws' := []) rfl rfl ?_
    refine y_sub hC [2, 6] rfl ?_
    exact hT _ _ (Nat.le_of_ble_eq_true rfl) (Nat.le_of_ble_eq_true rfl)
set_option maxHeartbeats 4000000 in
set_option maxRecDepth 100000 in
theorem p1_tie (hlt : l.stackTraces = false) {G : GT} {b : Nat} {xs : Nat → Int32} (hC9 : CxL l G room_1 D (tyL cI cO cJ cZ) b 6 xs) (c a : Nat → Nat) (fl : Nat → Nat) (hfl : ∀ k, k < 25 → fl k = feelv k) (o : Nat) (hT : ∀ ce sl : Nat, ce ≤ 200 → sl ≤ 4000 → G ce sl [] 1387 [(4, .int (nI 0)), (0, .ref b)] []) : G 100 3000 ([((c 0), .inr (5, [.ref (c 1), .ref (c 8), .ref (c 9), .ref (c 12), .ref (c 19), .int (nI 0), .ref (c 20), .int (nI 0), .ref (c 21), .int (nI 0)])), ((c 19), .inl (cO, 10, .inr (.inr (.inr (.inr (fun k => if k < 10 then some (c (22 + k)) else none)))))), ((c 20), .inl (cI, 80, .inl (fun k => nI (Zf k)))), ((a 0), .inr (6, [.int (nI 0), .ref (a 1), .ref (a 2), .int (nI 0), .int (nI 0), .int (nI 0), .ref (a 3), .int (nI 4), .int (nI 4), .int (nI 0), .ref (a 4), .ref (a 5), .ref (a 6), .ref (a 7), .ref (a 8), .int (nI 0), .ref (a 9), .int (nI 0), .ref (a 10), .ref (a 11), .ref (a 12), .ref (a 13), .ref (a 14)])), ((a 8), .inl (cI, 80, .inl (fun k => nI (Zf k)))), (o, .inl (cJ, 1, .inr (.inl (fun _ => 0))))]) 780 [(4, .int (nI 0)), (3, .ref o), (2, .ref (a 0)), (1, .ref (c 0)), (0, .ref b)] [] := by
  obtain ⟨nm, hC⟩ := hC9.cx
  refine y_aload_n hC dL_law_780 3 rfl rfl ?_
  refine y_aload_n hC dL_law_781 1 rfl rfl ?_
  refine y_callSX_i hC (As := [.ref (c 0), .ref o]) (rest := []) (w_tie hlt c o (fun _ => 0) ) nW_tie (inLr15 _ (List.mem_of_getElem? (i := 16) rfl)) [0, 1, 2, 5] [3, 4] [0, 1, 2] (fun u => [((a 0), .inr (6, [.int (nI 0), .ref (a 1), .ref (a 2), .int (nI 0), .int (nI 0), .int (nI 0), .ref (a 3), .int (nI 4), .int (nI 4), .int (nI 0), .ref (a 4), .ref (a 5), .ref (a 6), .ref (a 7), .ref (a 8), .int (nI 0), .ref (a 9), .int (nI 0), .ref (a 10), .ref (a 11), .ref (a 12), .ref (a 13), .ref (a 14)])), ((a 8), .inl (cI, 80, .inl (fun k => nI (Zf k)))), (o, .inl (cJ, 1, .inr (.inl u)))]) rfl rfl rfl rfl (by decide) rfl (fun _ => rfl) rfl rfl (Nat.le_of_ble_eq_true rfl) dL_law_782 ⟨(Nat.le_of_ble_eq_true rfl), (Nat.le_of_ble_eq_true rfl)⟩ ⟨(Nat.le_of_ble_eq_true rfl), (Nat.le_of_ble_eq_true rfl)⟩ (fun r1 u1 hw1 => ?_)
  refine y_istore hC [(5, .int r1), (4, .int (nI 0)), (3, .ref o), (2, .ref (a 0)), (1, .ref (c 0)), (0, .ref b)] dL_law_785 (by decide) rfl ?_
  refine y_aload_n hC dL_law_787 3 rfl rfl ?_
  refine y_callV_i hC (As := []) (rest := []) (p_X6_tie a ) nV_X6_tie (inLr17 _ (List.mem_of_getElem? (i := 18) rfl)) [0, 1] [2] [0, 1] (fun u => [(o, .inl (cJ, 1, .inr (.inl u1))), ((a 0), .inr (6, .int (nI u.1) :: u.2))]) rfl rfl rfl rfl (by decide) rfl (fun _ => rfl) 0 rfl rfl rfl rfl (Nat.le_of_ble_eq_true rfl) dL_law_788 ⟨(Nat.le_of_ble_eq_true rfl), (Nat.le_of_ble_eq_true rfl)⟩ ⟨(Nat.le_of_ble_eq_true rfl), (Nat.le_of_ble_eq_true rfl)⟩ (fun r2 u2 hw2 => ?_)
  refine y_istore hC [(6, .int r2), (5, .int r1), (4, .int (nI 0)), (3, .ref o), (2, .ref (a 0)), (1, .ref (c 0)), (0, .ref b)] dL_law_791 (by decide) rfl ?_
  refine y_aload_n hC dL_law_793 4 rfl rfl ?_
  refine y_callV_i hC (As := []) (rest := []) (c_X6_thrown (a 0) (nI u2.1) u2.2) nV_X6_thrown (inLr6 _ (List.mem_of_getElem? (i := 18) rfl)) [1] [0] [0, 1] (fun u => [(o, .inl (cJ, 1, .inr (.inl u1))), ((a 0), .inr (6, .int (nI u2.1) :: u2.2))]) rfl rfl rfl rfl (by decide) rfl (fun _ => rfl) 0 rfl rfl rfl rfl (Nat.le_of_ble_eq_true rfl) dL_law_794 ⟨(Nat.le_of_ble_eq_true rfl), (Nat.le_of_ble_eq_true rfl)⟩ ⟨(Nat.le_of_ble_eq_true rfl), (Nat.le_of_ble_eq_true rfl)⟩ (fun r3 u3 hw3 => ?_)
  refine y_iload hC dL_law_797 1 rfl ?_
  refine y_icmp_eq hC 804 dL_law_799 (by decide) (fun _ => ?_) (fun h9 => absurd (by rw [hw3, hw2.1, hw1.1]) h9)
  refine y_iload hC dL_law_804 1 rfl ?_
  refine y_if_ne_n hC 821 dL_law_806 (by decide) (0) hw1.1 (by decide) (fun h8 => ?_) (fun h8 => ?_)
  · exact absurd rfl h8
  · refine y_aload_n hC dL_law_809 3 rfl rfl ?_
    refine y_iconst hC (v := nI 0) dL_law_810 rfl ?_
    refine y_lald hC 0 2 rfl rfl 0 rfl (by omega) (by decide) dL_law_811 ?_
    refine y_iload hC dL_law_812 0 rfl ?_
    refine y_i2l hC (v := (r2).toInt64) dL_law_814 rfl ?_
    refine y_lcmp hC dL_law_815 (fun v1 hv1 => ?_)
    refine y_if_eq hC 821 dL_law_816 (by decide) (fun _ => ?_) (fun h9 => absurd (hv1.trans (by rw [hw1.2 h8, hw2.2]; exact lg_self _)) h9)
    refine y_goto hC 1387 dL_law_821 (by decide) ?_
    refine y_world hC [] (ws' := []) rfl rfl ?_
    refine y_sub hC [2, 6] rfl ?_
    exact hT _ _ (Nat.le_of_ble_eq_true rfl) (Nat.le_of_ble_eq_true rfl)
set_option maxHeartbeats 4000000 in
set_option maxRecDepth 100000 in
theorem p1_cord (hlt : l.stackTraces = false) {G : GT} {b : Nat} {xs : Nat → Int32} (hC9 : CxL l G room_1 D (tyL cI cO cJ cZ) b 6 xs) (c a : Nat → Nat) (fl : Nat → Nat) (hfl : ∀ k, k < 25 → fl k = feelv k) (o : Nat) (hT : ∀ ce sl : Nat, ce ≤ 200 → sl ≤ 4000 → G ce sl [] 1387 [(4, .int (nI 0)), (0, .ref b)] []) : G 100 3000 ([((c 0), .inr (5, [.ref (c 1), .ref (c 8), .ref (c 9), .ref (c 12), .ref (c 19), .int (nI 0), .ref (c 20), .int (nI 0), .ref (c 21), .int (nI 0)])), ((a 0), .inr (6, [.int (nI 0), .ref (a 1), .ref (a 2), .int (nI 0), .int (nI 0), .int (nI 0), .ref (a 3), .int (nI 4), .int (nI 4), .int (nI 0), .ref (a 4), .ref (a 5), .ref (a 6), .ref (a 7), .ref (a 8), .int (nI 0), .ref (a 9), .int (nI 0), .ref (a 10), .ref (a 11), .ref (a 12), .ref (a 13), .ref (a 14)])), (o, .inl (cJ, 1, .inr (.inl (fun _ => 0))))]) 824 [(4, .int (nI 0)), (3, .ref o), (2, .ref (a 0)), (1, .ref (c 0)), (0, .ref b)] [] := by
  obtain ⟨nm, hC⟩ := hC9.cx
  refine y_aload_n hC dL_law_824 3 rfl rfl ?_
  refine y_aload_n hC dL_law_825 4 rfl rfl ?_
  refine y_iload hC dL_law_826 0 rfl ?_
  refine y_iconst hC (v := nI 1) dL_law_828 rfl ?_
  refine y_iadd hC (v := nI 1) dL_law_829 (by decide) ?_
  refine y_sld hC9 1 rfl (by decide) (by decide) dL_law_830 ?_
  refine y_aload_n hC dL_law_831 4 rfl rfl ?_
  refine y_iload hC dL_law_832 0 rfl ?_
  refine y_iconst hC (v := nI 2) dL_law_834 rfl ?_
  refine y_iadd hC (v := nI 2) dL_law_835 (by decide) ?_
  refine y_sld hC9 2 rfl (by decide) (by decide) dL_law_836 ?_
  refine y_aload_n hC dL_law_837 1 rfl rfl ?_
  refine y_callSX_i hC (As := [.ref (c 0), .int (xs 1), .int (xs 2), .ref o]) (rest := []) (w_cord hlt c o (fun _ => 0) (xs 1) (xs 2)) nW_cord (inLr18 _ (List.mem_of_getElem? (i := 12) rfl)) [0, 2] [1] [0, 1] (fun u => [((a 0), .inr (6, [.int (nI 0), .ref (a 1), .ref (a 2), .int (nI 0), .int (nI 0), .int (nI 0), .ref (a 3), .int (nI 4), .int (nI 4), .int (nI 0), .ref (a 4), .ref (a 5), .ref (a 6), .ref (a 7), .ref (a 8), .int (nI 0), .ref (a 9), .int (nI 0), .ref (a 10), .ref (a 11), .ref (a 12), .ref (a 13), .ref (a 14)])), (o, .inl (cJ, 1, .inr (.inl u)))]) rfl rfl rfl rfl (by decide) rfl (fun _ => rfl) rfl rfl (Nat.le_of_ble_eq_true rfl) dL_law_838 ⟨(Nat.le_of_ble_eq_true rfl), (Nat.le_of_ble_eq_true rfl)⟩ ⟨(Nat.le_of_ble_eq_true rfl), (Nat.le_of_ble_eq_true rfl)⟩ (fun r1 u1 hw1 => ?_)
  refine y_istore hC [(5, .int r1), (4, .int (nI 0)), (3, .ref o), (2, .ref (a 0)), (1, .ref (c 0)), (0, .ref b)] dL_law_841 (by decide) rfl ?_
  refine y_aload_n hC dL_law_843 3 rfl rfl ?_
  refine y_aload_n hC dL_law_844 5 rfl rfl ?_
  refine y_iload hC dL_law_845 1 rfl ?_
  refine y_iconst hC (v := nI 1) dL_law_847 rfl ?_
  refine y_iadd hC (v := nI 1) dL_law_848 (by decide) ?_
  refine y_sld hC9 1 rfl (by decide) (by decide) dL_law_849 ?_
  refine y_aload_n hC dL_law_850 5 rfl rfl ?_
  refine y_iload hC dL_law_851 1 rfl ?_
  refine y_iconst hC (v := nI 2) dL_law_853 rfl ?_
  refine y_iadd hC (v := nI 2) dL_law_854 (by decide) ?_
  refine y_sld hC9 2 rfl (by decide) (by decide) dL_law_855 ?_
  refine y_callV_i hC (As := [.int (xs 1), .int (xs 2)]) (rest := []) (p_X6_cord a (xs 1) (xs 2)) nV_X6_cord (inLr22 _ (List.mem_of_getElem? (i := 1) rfl)) [0] [1] [0, 1] (fun u => [(o, .inl (cJ, 1, .inr (.inl u1))), ((a 0), .inr (6, .int (nI u.1) :: u.2))]) rfl rfl rfl rfl (by decide) rfl (fun _ => rfl) 0 rfl rfl rfl rfl (Nat.le_of_ble_eq_true rfl) dL_law_856 ⟨(Nat.le_of_ble_eq_true rfl), (Nat.le_of_ble_eq_true rfl)⟩ ⟨(Nat.le_of_ble_eq_true rfl), (Nat.le_of_ble_eq_true rfl)⟩ (fun r2 u2 hw2 => ?_)
  refine y_istore hC [(6, .int r2), (5, .int r1), (4, .int (nI 0)), (3, .ref o), (2, .ref (a 0)), (1, .ref (c 0)), (0, .ref b)] dL_law_859 (by decide) rfl ?_
  refine y_aload_n hC dL_law_861 4 rfl rfl ?_
  refine y_callV_i hC (As := []) (rest := []) (c_X6_thrown (a 0) (nI u2.1) u2.2) nV_X6_thrown (inLr6 _ (List.mem_of_getElem? (i := 18) rfl)) [1] [0] [0, 1] (fun u => [(o, .inl (cJ, 1, .inr (.inl u1))), ((a 0), .inr (6, .int (nI u2.1) :: u2.2))]) rfl rfl rfl rfl (by decide) rfl (fun _ => rfl) 0 rfl rfl rfl rfl (Nat.le_of_ble_eq_true rfl) dL_law_862 ⟨(Nat.le_of_ble_eq_true rfl), (Nat.le_of_ble_eq_true rfl)⟩ ⟨(Nat.le_of_ble_eq_true rfl), (Nat.le_of_ble_eq_true rfl)⟩ (fun r3 u3 hw3 => ?_)
  refine y_iload hC dL_law_865 1 rfl ?_
  refine y_icmp_eq hC 872 dL_law_867 (by decide) (fun _ => ?_) (fun h9 => absurd (by rw [hw3, hw2, hw1]) h9)
  refine y_iload hC dL_law_872 1 rfl ?_
  refine y_if_ne_n hC 889 dL_law_874 (by decide) (1) hw1 (by decide) (fun h8 => ?_) (fun h8 => ?_)
  · refine y_goto hC 1387 dL_law_889 (by decide) ?_
    refine y_world hC [] (ws' := []) rfl rfl ?_
    refine y_sub hC [2, 6] rfl ?_
    exact hT _ _ (Nat.le_of_ble_eq_true rfl) (Nat.le_of_ble_eq_true rfl)
  · exact absurd h8 (by decide)
set_option maxHeartbeats 4000000 in
set_option maxRecDepth 100000 in
theorem p1_knot (hlt : l.stackTraces = false) {G : GT} {b : Nat} {xs : Nat → Int32} (hC9 : CxL l G room_1 D (tyL cI cO cJ cZ) b 6 xs) (c a : Nat → Nat) (fl : Nat → Nat) (hfl : ∀ k, k < 25 → fl k = feelv k) (o : Nat) (hT : ∀ ce sl : Nat, ce ≤ 200 → sl ≤ 4000 → G ce sl [] 1387 [(4, .int (nI 0)), (0, .ref b)] []) : G 100 3000 ([((c 0), .inr (5, [.ref (c 1), .ref (c 8), .ref (c 9), .ref (c 12), .ref (c 19), .int (nI 0), .ref (c 20), .int (nI 0), .ref (c 21), .int (nI 0)])), ((a 0), .inr (6, [.int (nI 0), .ref (a 1), .ref (a 2), .int (nI 0), .int (nI 0), .int (nI 0), .ref (a 3), .int (nI 4), .int (nI 4), .int (nI 0), .ref (a 4), .ref (a 5), .ref (a 6), .ref (a 7), .ref (a 8), .int (nI 0), .ref (a 9), .int (nI 0), .ref (a 10), .ref (a 11), .ref (a 12), .ref (a 13), .ref (a 14)])), (o, .inl (cJ, 1, .inr (.inl (fun _ => 0))))]) 892 [(4, .int (nI 0)), (3, .ref o), (2, .ref (a 0)), (1, .ref (c 0)), (0, .ref b)] [] := by
  obtain ⟨nm, hC⟩ := hC9.cx
  refine y_aload_n hC dL_law_892 3 rfl rfl ?_
  refine y_aload_n hC dL_law_893 4 rfl rfl ?_
  refine y_iload hC dL_law_894 0 rfl ?_
  refine y_iconst hC (v := nI 1) dL_law_896 rfl ?_
  refine y_iadd hC (v := nI 1) dL_law_897 (by decide) ?_
  refine y_sld hC9 1 rfl (by decide) (by decide) dL_law_898 ?_
  refine y_aload_n hC dL_law_899 4 rfl rfl ?_
  refine y_iload hC dL_law_900 0 rfl ?_
  refine y_iconst hC (v := nI 2) dL_law_902 rfl ?_
  refine y_iadd hC (v := nI 2) dL_law_903 (by decide) ?_
  refine y_sld hC9 2 rfl (by decide) (by decide) dL_law_904 ?_
  refine y_aload_n hC dL_law_905 1 rfl rfl ?_
  refine y_callSX_i hC (As := [.ref (c 0), .int (xs 1), .int (xs 2), .ref o]) (rest := []) (w_knot hlt c o (fun _ => 0) (xs 1) (xs 2)) nW_knot (inLr23 _ (List.mem_of_getElem? (i := 21) rfl)) [0, 2] [1] [0, 1] (fun u => [((a 0), .inr (6, [.int (nI 0), .ref (a 1), .ref (a 2), .int (nI 0), .int (nI 0), .int (nI 0), .ref (a 3), .int (nI 4), .int (nI 4), .int (nI 0), .ref (a 4), .ref (a 5), .ref (a 6), .ref (a 7), .ref (a 8), .int (nI 0), .ref (a 9), .int (nI 0), .ref (a 10), .ref (a 11), .ref (a 12), .ref (a 13), .ref (a 14)])), (o, .inl (cJ, 1, .inr (.inl u)))]) rfl rfl rfl rfl (by decide) rfl (fun _ => rfl) rfl rfl (Nat.le_of_ble_eq_true rfl) dL_law_906 ⟨(Nat.le_of_ble_eq_true rfl), (Nat.le_of_ble_eq_true rfl)⟩ ⟨(Nat.le_of_ble_eq_true rfl), (Nat.le_of_ble_eq_true rfl)⟩ (fun r1 u1 hw1 => ?_)
  refine y_istore hC [(5, .int r1), (4, .int (nI 0)), (3, .ref o), (2, .ref (a 0)), (1, .ref (c 0)), (0, .ref b)] dL_law_909 (by decide) rfl ?_
  refine y_aload_n hC dL_law_911 3 rfl rfl ?_
  refine y_aload_n hC dL_law_912 5 rfl rfl ?_
  refine y_iload hC dL_law_913 1 rfl ?_
  refine y_iconst hC (v := nI 1) dL_law_915 rfl ?_
  refine y_iadd hC (v := nI 1) dL_law_916 (by decide) ?_
  refine y_sld hC9 1 rfl (by decide) (by decide) dL_law_917 ?_
  refine y_aload_n hC dL_law_918 5 rfl rfl ?_
  refine y_iload hC dL_law_919 1 rfl ?_
  refine y_iconst hC (v := nI 2) dL_law_921 rfl ?_
  refine y_iadd hC (v := nI 2) dL_law_922 (by decide) ?_
  refine y_sld hC9 2 rfl (by decide) (by decide) dL_law_923 ?_
  refine y_callV_i hC (As := [.int (xs 1), .int (xs 2)]) (rest := []) (p_X6_knot a (xs 1) (xs 2)) nV_X6_knot (inLr24 _ (List.mem_of_getElem? (i := 9) rfl)) [0] [1] [0, 1] (fun u => [(o, .inl (cJ, 1, .inr (.inl u1))), ((a 0), .inr (6, .int (nI u.1) :: u.2))]) rfl rfl rfl rfl (by decide) rfl (fun _ => rfl) 0 rfl rfl rfl rfl (Nat.le_of_ble_eq_true rfl) dL_law_924 ⟨(Nat.le_of_ble_eq_true rfl), (Nat.le_of_ble_eq_true rfl)⟩ ⟨(Nat.le_of_ble_eq_true rfl), (Nat.le_of_ble_eq_true rfl)⟩ (fun r2 u2 hw2 => ?_)
  refine y_istore hC [(6, .int r2), (5, .int r1), (4, .int (nI 0)), (3, .ref o), (2, .ref (a 0)), (1, .ref (c 0)), (0, .ref b)] dL_law_927 (by decide) rfl ?_
  refine y_aload_n hC dL_law_929 4 rfl rfl ?_
  refine y_callV_i hC (As := []) (rest := []) (c_X6_thrown (a 0) (nI u2.1) u2.2) nV_X6_thrown (inLr6 _ (List.mem_of_getElem? (i := 18) rfl)) [1] [0] [0, 1] (fun u => [(o, .inl (cJ, 1, .inr (.inl u1))), ((a 0), .inr (6, .int (nI u2.1) :: u2.2))]) rfl rfl rfl rfl (by decide) rfl (fun _ => rfl) 0 rfl rfl rfl rfl (Nat.le_of_ble_eq_true rfl) dL_law_930 ⟨(Nat.le_of_ble_eq_true rfl), (Nat.le_of_ble_eq_true rfl)⟩ ⟨(Nat.le_of_ble_eq_true rfl), (Nat.le_of_ble_eq_true rfl)⟩ (fun r3 u3 hw3 => ?_)
  refine y_iload hC dL_law_933 1 rfl ?_
  refine y_icmp_eq hC 940 dL_law_935 (by decide) (fun _ => ?_) (fun h9 => absurd (by rw [hw3, hw2, hw1]) h9)
  refine y_iload hC dL_law_940 1 rfl ?_
  refine y_if_ne_n hC 957 dL_law_942 (by decide) (1) hw1 (by decide) (fun h8 => ?_) (fun h8 => ?_)
  · refine y_goto hC 1387 dL_law_957 (by decide) ?_
    refine y_world hC [] (ws' := []) rfl rfl ?_
    refine y_sub hC [2, 6] rfl ?_
    exact hT _ _ (Nat.le_of_ble_eq_true rfl) (Nat.le_of_ble_eq_true rfl)
  · exact absurd h8 (by decide)
set_option maxHeartbeats 4000000 in
set_option maxRecDepth 100000 in
theorem p1_retie (hlt : l.stackTraces = false) {G : GT} {b : Nat} {xs : Nat → Int32} (hC9 : CxL l G room_1 D (tyL cI cO cJ cZ) b 6 xs) (c a : Nat → Nat) (fl : Nat → Nat) (hfl : ∀ k, k < 25 → fl k = feelv k) (o : Nat) (hT : ∀ ce sl : Nat, ce ≤ 200 → sl ≤ 4000 → G ce sl [] 1387 [(4, .int (nI 0)), (0, .ref b)] []) : G 100 3000 ([((c 0), .inr (5, [.ref (c 1), .ref (c 8), .ref (c 9), .ref (c 12), .ref (c 19), .int (nI 0), .ref (c 20), .int (nI 0), .ref (c 21), .int (nI 0)])), ((a 0), .inr (6, [.int (nI 0), .ref (a 1), .ref (a 2), .int (nI 0), .int (nI 0), .int (nI 0), .ref (a 3), .int (nI 4), .int (nI 4), .int (nI 0), .ref (a 4), .ref (a 5), .ref (a 6), .ref (a 7), .ref (a 8), .int (nI 0), .ref (a 9), .int (nI 0), .ref (a 10), .ref (a 11), .ref (a 12), .ref (a 13), .ref (a 14)])), (o, .inl (cJ, 1, .inr (.inl (fun _ => 0))))]) 960 [(4, .int (nI 0)), (3, .ref o), (2, .ref (a 0)), (1, .ref (c 0)), (0, .ref b)] [] := by
  obtain ⟨nm, hC⟩ := hC9.cx
  refine y_aload_n hC dL_law_960 3 rfl rfl ?_
  refine y_aload_n hC dL_law_961 4 rfl rfl ?_
  refine y_iload hC dL_law_962 0 rfl ?_
  refine y_iconst hC (v := nI 1) dL_law_964 rfl ?_
  refine y_iadd hC (v := nI 1) dL_law_965 (by decide) ?_
  refine y_sld hC9 1 rfl (by decide) (by decide) dL_law_966 ?_
  refine y_aload_n hC dL_law_967 4 rfl rfl ?_
  refine y_iload hC dL_law_968 0 rfl ?_
  refine y_iconst hC (v := nI 2) dL_law_970 rfl ?_
  refine y_iadd hC (v := nI 2) dL_law_971 (by decide) ?_
  refine y_sld hC9 2 rfl (by decide) (by decide) dL_law_972 ?_
  refine y_aload_n hC dL_law_973 4 rfl rfl ?_
  refine y_iload hC dL_law_974 0 rfl ?_
  refine y_iconst hC (v := nI 3) dL_law_976 rfl ?_
  refine y_iadd hC (v := nI 3) dL_law_977 (by decide) ?_
  refine y_sld hC9 3 rfl (by decide) (by decide) dL_law_978 ?_
  refine y_aload_n hC dL_law_979 1 rfl rfl ?_
  refine y_callSX_i hC (As := [.ref (c 0), .int (xs 1), .int (xs 2), .int (xs 3), .ref o]) (rest := []) (w_retie hlt c o (fun _ => 0) (xs 1) (xs 2) (xs 3)) nW_retie (inLr24 _ (List.mem_of_getElem? (i := 13) rfl)) [0, 2] [1] [0, 1] (fun u => [((a 0), .inr (6, [.int (nI 0), .ref (a 1), .ref (a 2), .int (nI 0), .int (nI 0), .int (nI 0), .ref (a 3), .int (nI 4), .int (nI 4), .int (nI 0), .ref (a 4), .ref (a 5), .ref (a 6), .ref (a 7), .ref (a 8), .int (nI 0), .ref (a 9), .int (nI 0), .ref (a 10), .ref (a 11), .ref (a 12), .ref (a 13), .ref (a 14)])), (o, .inl (cJ, 1, .inr (.inl u)))]) rfl rfl rfl rfl (by decide) rfl (fun _ => rfl) rfl rfl (Nat.le_of_ble_eq_true rfl) dL_law_980 ⟨(Nat.le_of_ble_eq_true rfl), (Nat.le_of_ble_eq_true rfl)⟩ ⟨(Nat.le_of_ble_eq_true rfl), (Nat.le_of_ble_eq_true rfl)⟩ (fun r1 u1 hw1 => ?_)
  refine y_istore hC [(5, .int r1), (4, .int (nI 0)), (3, .ref o), (2, .ref (a 0)), (1, .ref (c 0)), (0, .ref b)] dL_law_983 (by decide) rfl ?_
  refine y_aload_n hC dL_law_985 3 rfl rfl ?_
  refine y_aload_n hC dL_law_986 5 rfl rfl ?_
  refine y_iload hC dL_law_987 1 rfl ?_
  refine y_iconst hC (v := nI 1) dL_law_989 rfl ?_
  refine y_iadd hC (v := nI 1) dL_law_990 (by decide) ?_
  refine y_sld hC9 1 rfl (by decide) (by decide) dL_law_991 ?_
  refine y_aload_n hC dL_law_992 5 rfl rfl ?_
  refine y_iload hC dL_law_993 1 rfl ?_
  refine y_iconst hC (v := nI 2) dL_law_995 rfl ?_
  refine y_iadd hC (v := nI 2) dL_law_996 (by decide) ?_
  refine y_sld hC9 2 rfl (by decide) (by decide) dL_law_997 ?_
  refine y_aload_n hC dL_law_998 5 rfl rfl ?_
  refine y_iload hC dL_law_999 1 rfl ?_
  refine y_iconst hC (v := nI 3) dL_law_1001 rfl ?_
  refine y_iadd hC (v := nI 3) dL_law_1002 (by decide) ?_
  refine y_sld hC9 3 rfl (by decide) (by decide) dL_law_1003 ?_
  refine y_callV_i hC (As := [.int (xs 1), .int (xs 2), .int (xs 3)]) (rest := []) (p_X6_retie a (xs 1) (xs 2) (xs 3)) nV_X6_retie (inLr24 _ (List.mem_of_getElem? (i := 20) rfl)) [0] [1] [0, 1] (fun u => [(o, .inl (cJ, 1, .inr (.inl u1))), ((a 0), .inr (6, .int (nI u.1) :: u.2))]) rfl rfl rfl rfl (by decide) rfl (fun _ => rfl) 0 rfl rfl rfl rfl (Nat.le_of_ble_eq_true rfl) dL_law_1004 ⟨(Nat.le_of_ble_eq_true rfl), (Nat.le_of_ble_eq_true rfl)⟩ ⟨(Nat.le_of_ble_eq_true rfl), (Nat.le_of_ble_eq_true rfl)⟩ (fun r2 u2 hw2 => ?_)
  refine y_istore hC [(6, .int r2), (5, .int r1), (4, .int (nI 0)), (3, .ref o), (2, .ref (a 0)), (1, .ref (c 0)), (0, .ref b)] dL_law_1007 (by decide) rfl ?_
  refine y_aload_n hC dL_law_1009 4 rfl rfl ?_
  refine y_callV_i hC (As := []) (rest := []) (c_X6_thrown (a 0) (nI u2.1) u2.2) nV_X6_thrown (inLr6 _ (List.mem_of_getElem? (i := 18) rfl)) [1] [0] [0, 1] (fun u => [(o, .inl (cJ, 1, .inr (.inl u1))), ((a 0), .inr (6, .int (nI u2.1) :: u2.2))]) rfl rfl rfl rfl (by decide) rfl (fun _ => rfl) 0 rfl rfl rfl rfl (Nat.le_of_ble_eq_true rfl) dL_law_1010 ⟨(Nat.le_of_ble_eq_true rfl), (Nat.le_of_ble_eq_true rfl)⟩ ⟨(Nat.le_of_ble_eq_true rfl), (Nat.le_of_ble_eq_true rfl)⟩ (fun r3 u3 hw3 => ?_)
  refine y_iload hC dL_law_1013 1 rfl ?_
  refine y_icmp_eq hC 1020 dL_law_1015 (by decide) (fun _ => ?_) (fun h9 => absurd (by rw [hw3, hw2, hw1]) h9)
  refine y_iload hC dL_law_1020 1 rfl ?_
  refine y_if_ne_n hC 1037 dL_law_1022 (by decide) (1) hw1 (by decide) (fun h8 => ?_) (fun h8 => ?_)
  · refine y_goto hC 1387 dL_law_1037 (by decide) ?_
    refine y_world hC [] (ws' := []) rfl rfl ?_
    refine y_sub hC [2, 6] rfl ?_
    exact hT _ _ (Nat.le_of_ble_eq_true rfl) (Nat.le_of_ble_eq_true rfl)
  · exact absurd h8 (by decide)
set_option maxHeartbeats 4000000 in
set_option maxRecDepth 100000 in
theorem p1_distance (hlt : l.stackTraces = false) {G : GT} {b : Nat} {xs : Nat → Int32} (hC9 : CxL l G room_1 D (tyL cI cO cJ cZ) b 6 xs) (c a : Nat → Nat) (fl : Nat → Nat) (hfl : ∀ k, k < 25 → fl k = feelv k) (o : Nat) (hT : ∀ ce sl : Nat, ce ≤ 200 → sl ≤ 4000 → G ce sl [] 1387 [(4, .int (nI 0)), (0, .ref b)] []) : G 100 3000 ([((c 0), .inr (5, [.ref (c 1), .ref (c 8), .ref (c 9), .ref (c 12), .ref (c 19), .int (nI 0), .ref (c 20), .int (nI 0), .ref (c 21), .int (nI 0)])), ((a 0), .inr (6, [.int (nI 0), .ref (a 1), .ref (a 2), .int (nI 0), .int (nI 0), .int (nI 0), .ref (a 3), .int (nI 4), .int (nI 4), .int (nI 0), .ref (a 4), .ref (a 5), .ref (a 6), .ref (a 7), .ref (a 8), .int (nI 0), .ref (a 9), .int (nI 0), .ref (a 10), .ref (a 11), .ref (a 12), .ref (a 13), .ref (a 14)])), (o, .inl (cJ, 1, .inr (.inl (fun _ => 0))))]) 1040 [(4, .int (nI 0)), (3, .ref o), (2, .ref (a 0)), (1, .ref (c 0)), (0, .ref b)] [] := by
  obtain ⟨nm, hC⟩ := hC9.cx
  refine y_aload_n hC dL_law_1040 3 rfl rfl ?_
  refine y_aload_n hC dL_law_1041 4 rfl rfl ?_
  refine y_iload hC dL_law_1042 0 rfl ?_
  refine y_iconst hC (v := nI 1) dL_law_1044 rfl ?_
  refine y_iadd hC (v := nI 1) dL_law_1045 (by decide) ?_
  refine y_sld hC9 1 rfl (by decide) (by decide) dL_law_1046 ?_
  refine y_aload_n hC dL_law_1047 4 rfl rfl ?_
  refine y_iload hC dL_law_1048 0 rfl ?_
  refine y_iconst hC (v := nI 2) dL_law_1050 rfl ?_
  refine y_iadd hC (v := nI 2) dL_law_1051 (by decide) ?_
  refine y_sld hC9 2 rfl (by decide) (by decide) dL_law_1052 ?_
  refine y_aload_n hC dL_law_1053 1 rfl rfl ?_
  refine y_callSX_i hC (As := [.ref (c 0), .int (xs 1), .int (xs 2), .ref o]) (rest := []) (w_distance hlt c o (fun _ => 0) (xs 1) (xs 2)) nW_distance (inLr25 _ (List.mem_of_getElem? (i := 0) rfl)) [0, 2] [1] [0, 1] (fun u => [((a 0), .inr (6, [.int (nI 0), .ref (a 1), .ref (a 2), .int (nI 0), .int (nI 0), .int (nI 0), .ref (a 3), .int (nI 4), .int (nI 4), .int (nI 0), .ref (a 4), .ref (a 5), .ref (a 6), .ref (a 7), .ref (a 8), .int (nI 0), .ref (a 9), .int (nI 0), .ref (a 10), .ref (a 11), .ref (a 12), .ref (a 13), .ref (a 14)])), (o, .inl (cJ, 1, .inr (.inl u)))]) rfl rfl rfl rfl (by decide) rfl (fun _ => rfl) rfl rfl (Nat.le_of_ble_eq_true rfl) dL_law_1054 ⟨(Nat.le_of_ble_eq_true rfl), (Nat.le_of_ble_eq_true rfl)⟩ ⟨(Nat.le_of_ble_eq_true rfl), (Nat.le_of_ble_eq_true rfl)⟩ (fun r1 u1 hw1 => ?_)
  refine y_istore hC [(5, .int r1), (4, .int (nI 0)), (3, .ref o), (2, .ref (a 0)), (1, .ref (c 0)), (0, .ref b)] dL_law_1057 (by decide) rfl ?_
  refine y_aload_n hC dL_law_1059 3 rfl rfl ?_
  refine y_aload_n hC dL_law_1060 5 rfl rfl ?_
  refine y_iload hC dL_law_1061 1 rfl ?_
  refine y_iconst hC (v := nI 1) dL_law_1063 rfl ?_
  refine y_iadd hC (v := nI 1) dL_law_1064 (by decide) ?_
  refine y_sld hC9 1 rfl (by decide) (by decide) dL_law_1065 ?_
  refine y_aload_n hC dL_law_1066 5 rfl rfl ?_
  refine y_iload hC dL_law_1067 1 rfl ?_
  refine y_iconst hC (v := nI 2) dL_law_1069 rfl ?_
  refine y_iadd hC (v := nI 2) dL_law_1070 (by decide) ?_
  refine y_sld hC9 2 rfl (by decide) (by decide) dL_law_1071 ?_
  refine y_callV_i hC (As := [.int (xs 1), .int (xs 2)]) (rest := []) (p_X6_distance a (xs 1) (xs 2)) nV_X6_distance (inLr25 _ (List.mem_of_getElem? (i := 11) rfl)) [0] [1] [0, 1] (fun u => [(o, .inl (cJ, 1, .inr (.inl u1))), ((a 0), .inr (6, .int (nI u.1) :: u.2))]) rfl rfl rfl rfl (by decide) rfl (fun _ => rfl) 0 rfl rfl rfl rfl (Nat.le_of_ble_eq_true rfl) dL_law_1072 ⟨(Nat.le_of_ble_eq_true rfl), (Nat.le_of_ble_eq_true rfl)⟩ ⟨(Nat.le_of_ble_eq_true rfl), (Nat.le_of_ble_eq_true rfl)⟩ (fun r2 u2 hw2 => ?_)
  refine y_istore hC [(6, .int r2), (5, .int r1), (4, .int (nI 0)), (3, .ref o), (2, .ref (a 0)), (1, .ref (c 0)), (0, .ref b)] dL_law_1075 (by decide) rfl ?_
  refine y_aload_n hC dL_law_1077 4 rfl rfl ?_
  refine y_callV_i hC (As := []) (rest := []) (c_X6_thrown (a 0) (nI u2.1) u2.2) nV_X6_thrown (inLr6 _ (List.mem_of_getElem? (i := 18) rfl)) [1] [0] [0, 1] (fun u => [(o, .inl (cJ, 1, .inr (.inl u1))), ((a 0), .inr (6, .int (nI u2.1) :: u2.2))]) rfl rfl rfl rfl (by decide) rfl (fun _ => rfl) 0 rfl rfl rfl rfl (Nat.le_of_ble_eq_true rfl) dL_law_1078 ⟨(Nat.le_of_ble_eq_true rfl), (Nat.le_of_ble_eq_true rfl)⟩ ⟨(Nat.le_of_ble_eq_true rfl), (Nat.le_of_ble_eq_true rfl)⟩ (fun r3 u3 hw3 => ?_)
  refine y_iload hC dL_law_1081 1 rfl ?_
  refine y_icmp_eq hC 1088 dL_law_1083 (by decide) (fun _ => ?_) (fun h9 => absurd (by rw [hw3, hw2, hw1]) h9)
  refine y_iload hC dL_law_1088 1 rfl ?_
  refine y_if_ne_n hC 1105 dL_law_1090 (by decide) (1) hw1 (by decide) (fun h8 => ?_) (fun h8 => ?_)
  · refine y_goto hC 1387 dL_law_1105 (by decide) ?_
    refine y_world hC [] (ws' := []) rfl rfl ?_
    refine y_sub hC [2, 6] rfl ?_
    exact hT _ _ (Nat.le_of_ble_eq_true rfl) (Nat.le_of_ble_eq_true rfl)
  · exact absurd h8 (by decide)
set_option maxHeartbeats 4000000 in
set_option maxRecDepth 100000 in
theorem p1_nearest (hlt : l.stackTraces = false) {G : GT} {b : Nat} {xs : Nat → Int32} (hC9 : CxL l G room_1 D (tyL cI cO cJ cZ) b 6 xs) (c a : Nat → Nat) (fl : Nat → Nat) (hfl : ∀ k, k < 25 → fl k = feelv k) (o : Nat) (hT : ∀ ce sl : Nat, ce ≤ 200 → sl ≤ 4000 → G ce sl [] 1387 [(4, .int (nI 0)), (0, .ref b)] []) : G 100 3000 ([((c 0), .inr (5, [.ref (c 1), .ref (c 8), .ref (c 9), .ref (c 12), .ref (c 19), .int (nI 0), .ref (c 20), .int (nI 0), .ref (c 21), .int (nI 0)])), ((a 0), .inr (6, [.int (nI 0), .ref (a 1), .ref (a 2), .int (nI 0), .int (nI 0), .int (nI 0), .ref (a 3), .int (nI 4), .int (nI 4), .int (nI 0), .ref (a 4), .ref (a 5), .ref (a 6), .ref (a 7), .ref (a 8), .int (nI 0), .ref (a 9), .int (nI 0), .ref (a 10), .ref (a 11), .ref (a 12), .ref (a 13), .ref (a 14)])), (o, .inl (cJ, 1, .inr (.inl (fun _ => 0))))]) 1108 [(4, .int (nI 0)), (3, .ref o), (2, .ref (a 0)), (1, .ref (c 0)), (0, .ref b)] [] := by
  obtain ⟨nm, hC⟩ := hC9.cx
  refine y_aload_n hC dL_law_1108 3 rfl rfl ?_
  refine y_aload_n hC dL_law_1109 4 rfl rfl ?_
  refine y_iload hC dL_law_1110 0 rfl ?_
  refine y_iconst hC (v := nI 1) dL_law_1112 rfl ?_
  refine y_iadd hC (v := nI 1) dL_law_1113 (by decide) ?_
  refine y_sld hC9 1 rfl (by decide) (by decide) dL_law_1114 ?_
  refine y_aload_n hC dL_law_1115 1 rfl rfl ?_
  refine y_callSX_i hC (As := [.ref (c 0), .int (xs 1), .ref o]) (rest := []) (w_nearest hlt c o (fun _ => 0) (xs 1)) nW_nearest (inLr25 _ (List.mem_of_getElem? (i := 19) rfl)) [0, 2] [1] [0, 1] (fun u => [((a 0), .inr (6, [.int (nI 0), .ref (a 1), .ref (a 2), .int (nI 0), .int (nI 0), .int (nI 0), .ref (a 3), .int (nI 4), .int (nI 4), .int (nI 0), .ref (a 4), .ref (a 5), .ref (a 6), .ref (a 7), .ref (a 8), .int (nI 0), .ref (a 9), .int (nI 0), .ref (a 10), .ref (a 11), .ref (a 12), .ref (a 13), .ref (a 14)])), (o, .inl (cJ, 1, .inr (.inl u)))]) rfl rfl rfl rfl (by decide) rfl (fun _ => rfl) rfl rfl (Nat.le_of_ble_eq_true rfl) dL_law_1116 ⟨(Nat.le_of_ble_eq_true rfl), (Nat.le_of_ble_eq_true rfl)⟩ ⟨(Nat.le_of_ble_eq_true rfl), (Nat.le_of_ble_eq_true rfl)⟩ (fun r1 u1 hw1 => ?_)
  refine y_istore hC [(5, .int r1), (4, .int (nI 0)), (3, .ref o), (2, .ref (a 0)), (1, .ref (c 0)), (0, .ref b)] dL_law_1119 (by decide) rfl ?_
  refine y_aload_n hC dL_law_1121 3 rfl rfl ?_
  refine y_aload_n hC dL_law_1122 5 rfl rfl ?_
  refine y_iload hC dL_law_1123 1 rfl ?_
  refine y_iconst hC (v := nI 1) dL_law_1125 rfl ?_
  refine y_iadd hC (v := nI 1) dL_law_1126 (by decide) ?_
  refine y_sld hC9 1 rfl (by decide) (by decide) dL_law_1127 ?_
  refine y_callV_i hC (As := [.int (xs 1)]) (rest := []) (p_X6_nearest a (xs 1)) nV_X6_nearest (inLr26 _ (List.mem_of_getElem? (i := 2) rfl)) [0] [1] [0, 1] (fun u => [(o, .inl (cJ, 1, .inr (.inl u1))), ((a 0), .inr (6, .int (nI u.1) :: u.2))]) rfl rfl rfl rfl (by decide) rfl (fun _ => rfl) 0 rfl rfl rfl rfl (Nat.le_of_ble_eq_true rfl) dL_law_1128 ⟨(Nat.le_of_ble_eq_true rfl), (Nat.le_of_ble_eq_true rfl)⟩ ⟨(Nat.le_of_ble_eq_true rfl), (Nat.le_of_ble_eq_true rfl)⟩ (fun r2 u2 hw2 => ?_)
  refine y_istore hC [(6, .int r2), (5, .int r1), (4, .int (nI 0)), (3, .ref o), (2, .ref (a 0)), (1, .ref (c 0)), (0, .ref b)] dL_law_1131 (by decide) rfl ?_
  refine y_aload_n hC dL_law_1133 4 rfl rfl ?_
  refine y_callV_i hC (As := []) (rest := []) (c_X6_thrown (a 0) (nI u2.1) u2.2) nV_X6_thrown (inLr6 _ (List.mem_of_getElem? (i := 18) rfl)) [1] [0] [0, 1] (fun u => [(o, .inl (cJ, 1, .inr (.inl u1))), ((a 0), .inr (6, .int (nI u2.1) :: u2.2))]) rfl rfl rfl rfl (by decide) rfl (fun _ => rfl) 0 rfl rfl rfl rfl (Nat.le_of_ble_eq_true rfl) dL_law_1134 ⟨(Nat.le_of_ble_eq_true rfl), (Nat.le_of_ble_eq_true rfl)⟩ ⟨(Nat.le_of_ble_eq_true rfl), (Nat.le_of_ble_eq_true rfl)⟩ (fun r3 u3 hw3 => ?_)
  refine y_iload hC dL_law_1137 1 rfl ?_
  refine y_icmp_eq hC 1144 dL_law_1139 (by decide) (fun _ => ?_) (fun h9 => absurd (by rw [hw3, hw2, hw1]) h9)
  refine y_iload hC dL_law_1144 1 rfl ?_
  refine y_if_ne_n hC 1161 dL_law_1146 (by decide) (1) hw1 (by decide) (fun h8 => ?_) (fun h8 => ?_)
  · refine y_goto hC 1387 dL_law_1161 (by decide) ?_
    refine y_world hC [] (ws' := []) rfl rfl ?_
    refine y_sub hC [2, 6] rfl ?_
    exact hT _ _ (Nat.le_of_ble_eq_true rfl) (Nat.le_of_ble_eq_true rfl)
  · exact absurd h8 (by decide)
set_option maxHeartbeats 4000000 in
set_option maxRecDepth 100000 in
theorem p1_read (hlt : l.stackTraces = false) {G : GT} {b : Nat} {xs : Nat → Int32} (hC9 : CxL l G room_1 D (tyL cI cO cJ cZ) b 6 xs) (c a : Nat → Nat) (fl : Nat → Nat) (hfl : ∀ k, k < 25 → fl k = feelv k) (o : Nat) (hT : ∀ ce sl : Nat, ce ≤ 200 → sl ≤ 4000 → G ce sl [] 1387 [(4, .int (nI 0)), (0, .ref b)] []) : G 100 3000 ([((c 0), .inr (5, [.ref (c 1), .ref (c 8), .ref (c 9), .ref (c 12), .ref (c 19), .int (nI 0), .ref (c 20), .int (nI 0), .ref (c 21), .int (nI 0)])), ((a 0), .inr (6, [.int (nI 0), .ref (a 1), .ref (a 2), .int (nI 0), .int (nI 0), .int (nI 0), .ref (a 3), .int (nI 4), .int (nI 4), .int (nI 0), .ref (a 4), .ref (a 5), .ref (a 6), .ref (a 7), .ref (a 8), .int (nI 0), .ref (a 9), .int (nI 0), .ref (a 10), .ref (a 11), .ref (a 12), .ref (a 13), .ref (a 14)])), (o, .inl (cJ, 1, .inr (.inl (fun _ => 0))))]) 1164 [(4, .int (nI 0)), (3, .ref o), (2, .ref (a 0)), (1, .ref (c 0)), (0, .ref b)] [] := by
  obtain ⟨nm, hC⟩ := hC9.cx
  refine y_aload_n hC dL_law_1164 3 rfl rfl ?_
  refine y_aload_n hC dL_law_1165 4 rfl rfl ?_
  refine y_iload hC dL_law_1166 0 rfl ?_
  refine y_iconst hC (v := nI 1) dL_law_1168 rfl ?_
  refine y_iadd hC (v := nI 1) dL_law_1169 (by decide) ?_
  refine y_sld hC9 1 rfl (by decide) (by decide) dL_law_1170 ?_
  refine y_aload_n hC dL_law_1171 1 rfl rfl ?_
  refine y_callSX_i hC (As := [.ref (c 0), .int (xs 1), .ref o]) (rest := []) (w_read hlt c o (fun _ => 0) (xs 1)) nW_read (inLr26 _ (List.mem_of_getElem? (i := 6) rfl)) [0, 2] [1] [0, 1] (fun u => [((a 0), .inr (6, [.int (nI 0), .ref (a 1), .ref (a 2), .int (nI 0), .int (nI 0), .int (nI 0), .ref (a 3), .int (nI 4), .int (nI 4), .int (nI 0), .ref (a 4), .ref (a 5), .ref (a 6), .ref (a 7), .ref (a 8), .int (nI 0), .ref (a 9), .int (nI 0), .ref (a 10), .ref (a 11), .ref (a 12), .ref (a 13), .ref (a 14)])), (o, .inl (cJ, 1, .inr (.inl u)))]) rfl rfl rfl rfl (by decide) rfl (fun _ => rfl) rfl rfl (Nat.le_of_ble_eq_true rfl) dL_law_1172 ⟨(Nat.le_of_ble_eq_true rfl), (Nat.le_of_ble_eq_true rfl)⟩ ⟨(Nat.le_of_ble_eq_true rfl), (Nat.le_of_ble_eq_true rfl)⟩ (fun r1 u1 hw1 => ?_)
  refine y_istore hC [(5, .int r1), (4, .int (nI 0)), (3, .ref o), (2, .ref (a 0)), (1, .ref (c 0)), (0, .ref b)] dL_law_1175 (by decide) rfl ?_
  refine y_aload_n hC dL_law_1177 3 rfl rfl ?_
  refine y_aload_n hC dL_law_1178 5 rfl rfl ?_
  refine y_iload hC dL_law_1179 1 rfl ?_
  refine y_iconst hC (v := nI 1) dL_law_1181 rfl ?_
  refine y_iadd hC (v := nI 1) dL_law_1182 (by decide) ?_
  refine y_sld hC9 1 rfl (by decide) (by decide) dL_law_1183 ?_
  refine y_callV_i hC (As := [.int (xs 1)]) (rest := []) (p_X6_read a (xs 1)) nV_X6_read (inLr26 _ (List.mem_of_getElem? (i := 23) rfl)) [0] [1] [0, 1] (fun u => [(o, .inl (cJ, 1, .inr (.inl u1))), ((a 0), .inr (6, .int (nI u.1) :: u.2))]) rfl rfl rfl rfl (by decide) rfl (fun _ => rfl) 0 rfl rfl rfl rfl (Nat.le_of_ble_eq_true rfl) dL_law_1184 ⟨(Nat.le_of_ble_eq_true rfl), (Nat.le_of_ble_eq_true rfl)⟩ ⟨(Nat.le_of_ble_eq_true rfl), (Nat.le_of_ble_eq_true rfl)⟩ (fun r2 u2 hw2 => ?_)
  refine y_istore hC [(6, .int r2), (5, .int r1), (4, .int (nI 0)), (3, .ref o), (2, .ref (a 0)), (1, .ref (c 0)), (0, .ref b)] dL_law_1187 (by decide) rfl ?_
  refine y_aload_n hC dL_law_1189 4 rfl rfl ?_
  refine y_callV_i hC (As := []) (rest := []) (c_X6_thrown (a 0) (nI u2.1) u2.2) nV_X6_thrown (inLr6 _ (List.mem_of_getElem? (i := 18) rfl)) [1] [0] [0, 1] (fun u => [(o, .inl (cJ, 1, .inr (.inl u1))), ((a 0), .inr (6, .int (nI u2.1) :: u2.2))]) rfl rfl rfl rfl (by decide) rfl (fun _ => rfl) 0 rfl rfl rfl rfl (Nat.le_of_ble_eq_true rfl) dL_law_1190 ⟨(Nat.le_of_ble_eq_true rfl), (Nat.le_of_ble_eq_true rfl)⟩ ⟨(Nat.le_of_ble_eq_true rfl), (Nat.le_of_ble_eq_true rfl)⟩ (fun r3 u3 hw3 => ?_)
  refine y_iload hC dL_law_1193 1 rfl ?_
  refine y_icmp_eq hC 1200 dL_law_1195 (by decide) (fun _ => ?_) (fun h9 => absurd (by rw [hw3, hw2, hw1]) h9)
  refine y_iload hC dL_law_1200 1 rfl ?_
  refine y_if_ne_n hC 1217 dL_law_1202 (by decide) (1) hw1 (by decide) (fun h8 => ?_) (fun h8 => ?_)
  · refine y_goto hC 1387 dL_law_1217 (by decide) ?_
    refine y_world hC [] (ws' := []) rfl rfl ?_
    refine y_sub hC [2, 6] rfl ?_
    exact hT _ _ (Nat.le_of_ble_eq_true rfl) (Nat.le_of_ble_eq_true rfl)
  · exact absurd h8 (by decide)
set_option maxHeartbeats 4000000 in
set_option maxRecDepth 100000 in
theorem p1_byteAt (hlt : l.stackTraces = false) {G : GT} {b : Nat} {xs : Nat → Int32} (hC9 : CxL l G room_1 D (tyL cI cO cJ cZ) b 6 xs) (c a : Nat → Nat) (fl : Nat → Nat) (hfl : ∀ k, k < 25 → fl k = feelv k) (o : Nat) (hT : ∀ ce sl : Nat, ce ≤ 200 → sl ≤ 4000 → G ce sl [] 1387 [(4, .int (nI 0)), (0, .ref b)] []) : G 100 3000 ([((c 0), .inr (5, [.ref (c 1), .ref (c 8), .ref (c 9), .ref (c 12), .ref (c 19), .int (nI 0), .ref (c 20), .int (nI 0), .ref (c 21), .int (nI 0)])), ((a 0), .inr (6, [.int (nI 0), .ref (a 1), .ref (a 2), .int (nI 0), .int (nI 0), .int (nI 0), .ref (a 3), .int (nI 4), .int (nI 4), .int (nI 0), .ref (a 4), .ref (a 5), .ref (a 6), .ref (a 7), .ref (a 8), .int (nI 0), .ref (a 9), .int (nI 0), .ref (a 10), .ref (a 11), .ref (a 12), .ref (a 13), .ref (a 14)])), (o, .inl (cJ, 1, .inr (.inl (fun _ => 0))))]) 1220 [(4, .int (nI 0)), (3, .ref o), (2, .ref (a 0)), (1, .ref (c 0)), (0, .ref b)] [] := by
  obtain ⟨nm, hC⟩ := hC9.cx
  refine y_aload_n hC dL_law_1220 3 rfl rfl ?_
  refine y_aload_n hC dL_law_1221 4 rfl rfl ?_
  refine y_iload hC dL_law_1222 0 rfl ?_
  refine y_iconst hC (v := nI 1) dL_law_1224 rfl ?_
  refine y_iadd hC (v := nI 1) dL_law_1225 (by decide) ?_
  refine y_sld hC9 1 rfl (by decide) (by decide) dL_law_1226 ?_
  refine y_aload_n hC dL_law_1227 1 rfl rfl ?_
  refine y_callSX_i hC (As := [.ref (c 0), .int (xs 1), .ref o]) (rest := []) (w_byteAt hlt c o (fun _ => 0) (xs 1)) nW_byteAt (inLr27 _ (List.mem_of_getElem? (i := 3) rfl)) [0, 2] [1] [0, 1] (fun u => [((a 0), .inr (6, [.int (nI 0), .ref (a 1), .ref (a 2), .int (nI 0), .int (nI 0), .int (nI 0), .ref (a 3), .int (nI 4), .int (nI 4), .int (nI 0), .ref (a 4), .ref (a 5), .ref (a 6), .ref (a 7), .ref (a 8), .int (nI 0), .ref (a 9), .int (nI 0), .ref (a 10), .ref (a 11), .ref (a 12), .ref (a 13), .ref (a 14)])), (o, .inl (cJ, 1, .inr (.inl u)))]) rfl rfl rfl rfl (by decide) rfl (fun _ => rfl) rfl rfl (Nat.le_of_ble_eq_true rfl) dL_law_1228 ⟨(Nat.le_of_ble_eq_true rfl), (Nat.le_of_ble_eq_true rfl)⟩ ⟨(Nat.le_of_ble_eq_true rfl), (Nat.le_of_ble_eq_true rfl)⟩ (fun r1 u1 hw1 => ?_)
  refine y_istore hC [(5, .int r1), (4, .int (nI 0)), (3, .ref o), (2, .ref (a 0)), (1, .ref (c 0)), (0, .ref b)] dL_law_1231 (by decide) rfl ?_
  refine y_aload_n hC dL_law_1233 3 rfl rfl ?_
  refine y_aload_n hC dL_law_1234 5 rfl rfl ?_
  refine y_iload hC dL_law_1235 1 rfl ?_
  refine y_iconst hC (v := nI 1) dL_law_1237 rfl ?_
  refine y_iadd hC (v := nI 1) dL_law_1238 (by decide) ?_
  refine y_sld hC9 1 rfl (by decide) (by decide) dL_law_1239 ?_
  refine y_callV_i hC (As := [.int (xs 1)]) (rest := []) (p_X6_byteAt a (xs 1)) nV_X6_byteAt (inLr27 _ (List.mem_of_getElem? (i := 10) rfl)) [0] [1] [0, 1] (fun u => [(o, .inl (cJ, 1, .inr (.inl u1))), ((a 0), .inr (6, .int (nI u.1) :: u.2))]) rfl rfl rfl rfl (by decide) rfl (fun _ => rfl) 0 rfl rfl rfl rfl (Nat.le_of_ble_eq_true rfl) dL_law_1240 ⟨(Nat.le_of_ble_eq_true rfl), (Nat.le_of_ble_eq_true rfl)⟩ ⟨(Nat.le_of_ble_eq_true rfl), (Nat.le_of_ble_eq_true rfl)⟩ (fun r2 u2 hw2 => ?_)
  refine y_istore hC [(6, .int r2), (5, .int r1), (4, .int (nI 0)), (3, .ref o), (2, .ref (a 0)), (1, .ref (c 0)), (0, .ref b)] dL_law_1243 (by decide) rfl ?_
  refine y_aload_n hC dL_law_1245 4 rfl rfl ?_
  refine y_callV_i hC (As := []) (rest := []) (c_X6_thrown (a 0) (nI u2.1) u2.2) nV_X6_thrown (inLr6 _ (List.mem_of_getElem? (i := 18) rfl)) [1] [0] [0, 1] (fun u => [(o, .inl (cJ, 1, .inr (.inl u1))), ((a 0), .inr (6, .int (nI u2.1) :: u2.2))]) rfl rfl rfl rfl (by decide) rfl (fun _ => rfl) 0 rfl rfl rfl rfl (Nat.le_of_ble_eq_true rfl) dL_law_1246 ⟨(Nat.le_of_ble_eq_true rfl), (Nat.le_of_ble_eq_true rfl)⟩ ⟨(Nat.le_of_ble_eq_true rfl), (Nat.le_of_ble_eq_true rfl)⟩ (fun r3 u3 hw3 => ?_)
  refine y_iload hC dL_law_1249 1 rfl ?_
  refine y_icmp_eq hC 1256 dL_law_1251 (by decide) (fun _ => ?_) (fun h9 => absurd (by rw [hw3, hw2, hw1]) h9)
  refine y_iload hC dL_law_1256 1 rfl ?_
  refine y_if_ne_n hC 1273 dL_law_1258 (by decide) (1) hw1 (by decide) (fun h8 => ?_) (fun h8 => ?_)
  · refine y_goto hC 1387 dL_law_1273 (by decide) ?_
    refine y_world hC [] (ws' := []) rfl rfl ?_
    refine y_sub hC [2, 6] rfl ?_
    exact hT _ _ (Nat.le_of_ble_eq_true rfl) (Nat.le_of_ble_eq_true rfl)
  · exact absurd h8 (by decide)
set_option maxHeartbeats 4000000 in
set_option maxRecDepth 100000 in
theorem p1_count (hlt : l.stackTraces = false) {G : GT} {b : Nat} {xs : Nat → Int32} (hC9 : CxL l G room_1 D (tyL cI cO cJ cZ) b 6 xs) (c a : Nat → Nat) (fl : Nat → Nat) (hfl : ∀ k, k < 25 → fl k = feelv k) (o : Nat) (hT : ∀ ce sl : Nat, ce ≤ 200 → sl ≤ 4000 → G ce sl [] 1387 [(4, .int (nI 0)), (0, .ref b)] []) : G 100 3000 ([((c 0), .inr (5, [.ref (c 1), .ref (c 8), .ref (c 9), .ref (c 12), .ref (c 19), .int (nI 0), .ref (c 20), .int (nI 0), .ref (c 21), .int (nI 0)])), ((c 1), .inr (0, [.ref (c 2), .ref (c 3), .ref (c 4), .ref (c 5), .ref (c 6), .ref (c 7), .int (nI 0)])), ((c 2), .inl (cI, 12, .inl (fun k => nI (Zf k)))), ((c 8), .inr (3, [.int (nI 0), .int (nI 0), .int (nI 0), .int (nI 0), .int (nI 0)])), ((a 0), .inr (6, [.int (nI 0), .ref (a 1), .ref (a 2), .int (nI 0), .int (nI 0), .int (nI 0), .ref (a 3), .int (nI 4), .int (nI 4), .int (nI 0), .ref (a 4), .ref (a 5), .ref (a 6), .ref (a 7), .ref (a 8), .int (nI 0), .ref (a 9), .int (nI 0), .ref (a 10), .ref (a 11), .ref (a 12), .ref (a 13), .ref (a 14)])), ((a 1), .inl (cI, 12, .inl (fun k => nI (Zf k)))), (o, .inl (cJ, 1, .inr (.inl (fun _ => 0))))]) 1276 [(4, .int (nI 0)), (3, .ref o), (2, .ref (a 0)), (1, .ref (c 0)), (0, .ref b)] [] := by
  obtain ⟨nm, hC⟩ := hC9.cx
  refine y_aload_n hC dL_law_1276 3 rfl rfl ?_
  refine y_aload_n hC dL_law_1277 4 rfl rfl ?_
  refine y_iload hC dL_law_1278 0 rfl ?_
  refine y_iconst hC (v := nI 1) dL_law_1280 rfl ?_
  refine y_iadd hC (v := nI 1) dL_law_1281 (by decide) ?_
  refine y_sld hC9 1 rfl (by decide) (by decide) dL_law_1282 ?_
  refine y_aload_n hC dL_law_1283 1 rfl rfl ?_
  refine y_callSX_i hC (As := [.ref (c 0), .int (xs 1), .ref o]) (rest := []) (w_count hlt c o (fun _ => 0) (xs 1)) nW_count (inLr27 _ (List.mem_of_getElem? (i := 14) rfl)) [0, 1, 2, 3, 6] [4, 5] [0, 1, 2] (fun u => [((a 0), .inr (6, [.int (nI 0), .ref (a 1), .ref (a 2), .int (nI 0), .int (nI 0), .int (nI 0), .ref (a 3), .int (nI 4), .int (nI 4), .int (nI 0), .ref (a 4), .ref (a 5), .ref (a 6), .ref (a 7), .ref (a 8), .int (nI 0), .ref (a 9), .int (nI 0), .ref (a 10), .ref (a 11), .ref (a 12), .ref (a 13), .ref (a 14)])), ((a 1), .inl (cI, 12, .inl (fun k => nI (Zf k)))), (o, .inl (cJ, 1, .inr (.inl u)))]) rfl rfl rfl rfl (by decide) rfl (fun _ => rfl) rfl rfl (Nat.le_of_ble_eq_true rfl) dL_law_1284 ⟨(Nat.le_of_ble_eq_true rfl), (Nat.le_of_ble_eq_true rfl)⟩ ⟨(Nat.le_of_ble_eq_true rfl), (Nat.le_of_ble_eq_true rfl)⟩ (fun r1 u1 hw1 => ?_)
  refine y_istore hC [(5, .int r1), (4, .int (nI 0)), (3, .ref o), (2, .ref (a 0)), (1, .ref (c 0)), (0, .ref b)] dL_law_1287 (by decide) rfl ?_
  refine y_aload_n hC dL_law_1289 3 rfl rfl ?_
  refine y_aload_n hC dL_law_1290 5 rfl rfl ?_
  refine y_iload hC dL_law_1291 1 rfl ?_
  refine y_iconst hC (v := nI 1) dL_law_1293 rfl ?_
  refine y_iadd hC (v := nI 1) dL_law_1294 (by decide) ?_
  refine y_sld hC9 1 rfl (by decide) (by decide) dL_law_1295 ?_
  refine y_callV_i hC (As := [.int (xs 1)]) (rest := []) (p_X6_count a (xs 1)) nV_X6_count (inLr28 _ (List.mem_of_getElem? (i := 4) rfl)) [0, 1] [2] [0, 1] (fun u => [(o, .inl (cJ, 1, .inr (.inl u1))), ((a 0), .inr (6, .int (nI u.1) :: u.2))]) rfl rfl rfl rfl (by decide) rfl (fun _ => rfl) 0 rfl rfl rfl rfl (Nat.le_of_ble_eq_true rfl) dL_law_1296 ⟨(Nat.le_of_ble_eq_true rfl), (Nat.le_of_ble_eq_true rfl)⟩ ⟨(Nat.le_of_ble_eq_true rfl), (Nat.le_of_ble_eq_true rfl)⟩ (fun r2 u2 hw2 => ?_)
  refine y_istore hC [(6, .int r2), (5, .int r1), (4, .int (nI 0)), (3, .ref o), (2, .ref (a 0)), (1, .ref (c 0)), (0, .ref b)] dL_law_1299 (by decide) rfl ?_
  refine y_aload_n hC dL_law_1301 4 rfl rfl ?_
  refine y_callV_i hC (As := []) (rest := []) (c_X6_thrown (a 0) (nI u2.1) u2.2) nV_X6_thrown (inLr6 _ (List.mem_of_getElem? (i := 18) rfl)) [1] [0] [0, 1] (fun u => [(o, .inl (cJ, 1, .inr (.inl u1))), ((a 0), .inr (6, .int (nI u2.1) :: u2.2))]) rfl rfl rfl rfl (by decide) rfl (fun _ => rfl) 0 rfl rfl rfl rfl (Nat.le_of_ble_eq_true rfl) dL_law_1302 ⟨(Nat.le_of_ble_eq_true rfl), (Nat.le_of_ble_eq_true rfl)⟩ ⟨(Nat.le_of_ble_eq_true rfl), (Nat.le_of_ble_eq_true rfl)⟩ (fun r3 u3 hw3 => ?_)
  refine y_iload hC dL_law_1305 1 rfl ?_
  refine y_icmp_eq hC 1312 dL_law_1307 (by decide) (fun _ => ?_) (fun h9 => absurd (by rw [hw3, hw2.1, hw1.1]) h9)
  refine y_iload hC dL_law_1312 1 rfl ?_
  refine y_if_ne_n hC 1329 dL_law_1314 (by decide) (kcCou (xs 1)) hw1.1 (by unfold kcCou; (repeat' split) <;> omega) (fun h8 => ?_) (fun h8 => ?_)
  · refine y_goto hC 1387 dL_law_1329 (by decide) ?_
    refine y_world hC [] (ws' := []) rfl rfl ?_
    refine y_sub hC [2, 6] rfl ?_
    exact hT _ _ (Nat.le_of_ble_eq_true rfl) (Nat.le_of_ble_eq_true rfl)
  · refine y_aload_n hC dL_law_1317 3 rfl rfl ?_
    refine y_iconst hC (v := nI 0) dL_law_1318 rfl ?_
    refine y_lald hC 0 2 rfl rfl 0 rfl (by omega) (by decide) dL_law_1319 ?_
    refine y_iload hC dL_law_1320 0 rfl ?_
    refine y_i2l hC (v := (r2).toInt64) dL_law_1322 rfl ?_
    refine y_lcmp hC dL_law_1323 (fun v1 hv1 => ?_)
    refine y_if_eq hC 1329 dL_law_1324 (by decide) (fun _ => ?_) (fun h9 => absurd (hv1.trans (by rw [hw1.2 h8, hw2.2 h8]; exact lg_self _)) h9)
    refine y_goto hC 1387 dL_law_1329 (by decide) ?_
    refine y_world hC [] (ws' := []) rfl rfl ?_
    refine y_sub hC [2, 6] rfl ?_
    exact hT _ _ (Nat.le_of_ble_eq_true rfl) (Nat.le_of_ble_eq_true rfl)
set_option maxHeartbeats 4000000 in
set_option maxRecDepth 100000 in
theorem p1_mean (hlt : l.stackTraces = false) {G : GT} {b : Nat} {xs : Nat → Int32} (hC9 : CxL l G room_1 D (tyL cI cO cJ cZ) b 6 xs) (c a : Nat → Nat) (fl : Nat → Nat) (hfl : ∀ k, k < 25 → fl k = feelv k) (o : Nat) (hT : ∀ ce sl : Nat, ce ≤ 200 → sl ≤ 4000 → G ce sl [] 1387 [(4, .int (nI 0)), (0, .ref b)] []) : G 100 3000 ([((c 0), .inr (5, [.ref (c 1), .ref (c 8), .ref (c 9), .ref (c 12), .ref (c 19), .int (nI 0), .ref (c 20), .int (nI 0), .ref (c 21), .int (nI 0)])), ((c 1), .inr (0, [.ref (c 2), .ref (c 3), .ref (c 4), .ref (c 5), .ref (c 6), .ref (c 7), .int (nI 0)])), ((c 2), .inl (cI, 12, .inl (fun k => nI (Zf k)))), ((a 0), .inr (6, [.int (nI 0), .ref (a 1), .ref (a 2), .int (nI 0), .int (nI 0), .int (nI 0), .ref (a 3), .int (nI 4), .int (nI 4), .int (nI 0), .ref (a 4), .ref (a 5), .ref (a 6), .ref (a 7), .ref (a 8), .int (nI 0), .ref (a 9), .int (nI 0), .ref (a 10), .ref (a 11), .ref (a 12), .ref (a 13), .ref (a 14)])), ((a 1), .inl (cI, 12, .inl (fun k => nI (Zf k)))), (o, .inl (cJ, 1, .inr (.inl (fun _ => 0))))]) 1332 [(4, .int (nI 0)), (3, .ref o), (2, .ref (a 0)), (1, .ref (c 0)), (0, .ref b)] [] := by
  obtain ⟨nm, hC⟩ := hC9.cx
  refine y_aload_n hC dL_law_1332 3 rfl rfl ?_
  refine y_callV_d hC (As := []) (rest := []) (q_X5_mean c) nV_X5_mean (inLr28 _ (List.mem_of_getElem? (i := 12) rfl)) [0, 1, 2] [3, 4, 5] [0, 1, 2] (fun u => [((a 0), .inr (6, [.int (nI 0), .ref (a 1), .ref (a 2), .int (nI 0), .int (nI 0), .int (nI 0), .ref (a 3), .int (nI 4), .int (nI 4), .int (nI 0), .ref (a 4), .ref (a 5), .ref (a 6), .ref (a 7), .ref (a 8), .int (nI 0), .ref (a 9), .int (nI 0), .ref (a 10), .ref (a 11), .ref (a 12), .ref (a 13), .ref (a 14)])), ((a 1), .inl (cI, 12, .inl (fun k => nI (Zf k)))), (o, .inl (cJ, 1, .inr (.inl (fun _ => 0))))]) rfl rfl rfl rfl (by decide) rfl (fun _ => rfl) 0 rfl rfl rfl rfl (Nat.le_of_ble_eq_true rfl) dL_law_1333 ⟨(Nat.le_of_ble_eq_true rfl), (Nat.le_of_ble_eq_true rfl)⟩ ⟨(Nat.le_of_ble_eq_true rfl), (Nat.le_of_ble_eq_true rfl)⟩ (fun r1 u1 hw1 => ?_)
  subst hw1
  refine y_dstore hC [(5, .double 0), (4, .int (nI 0)), (3, .ref o), (2, .ref (a 0)), (1, .ref (c 0)), (0, .ref b)] dL_law_1336 (by decide) rfl ?_
  refine y_aload_n hC dL_law_1338 3 rfl rfl ?_
  refine y_callV_d hC (As := []) (rest := []) (p_X6_mean a) nV_X6_mean (inLr28 _ (List.mem_of_getElem? (i := 16) rfl)) [0, 1] [2] [0, 1] (fun u => [(o, .inl (cJ, 1, .inr (.inl (fun _ => 0)))), ((a 0), .inr (6, .int (nI u.1) :: u.2))]) rfl rfl rfl rfl (by decide) rfl (fun _ => rfl) 0 rfl rfl rfl rfl (Nat.le_of_ble_eq_true rfl) dL_law_1339 ⟨(Nat.le_of_ble_eq_true rfl), (Nat.le_of_ble_eq_true rfl)⟩ ⟨(Nat.le_of_ble_eq_true rfl), (Nat.le_of_ble_eq_true rfl)⟩ (fun r2 u2 hw2 => ?_)
  obtain ⟨hk2, rfl⟩ := hw2
  refine y_dstore hC [(7, .double 0), (5, .double 0), (4, .int (nI 0)), (3, .ref o), (2, .ref (a 0)), (1, .ref (c 0)), (0, .ref b)] dL_law_1342 (by decide) rfl ?_
  refine y_dload hC dL_law_1344 1 rfl ?_
  refine y_dload hC dL_law_1346 0 rfl ?_
  refine y_dcmp hC dL_law_1348 (fun v1 hv1 => ?_)
  refine y_if_eq hC 1370 dL_law_1349 (by decide) (fun _ => ?_) (fun h9 => absurd (hv1.trans (by decide +kernel)) h9)
  refine y_goto hC 1387 dL_law_1370 (by decide) ?_
  refine y_world hC [] (ws' := []) rfl rfl ?_
  refine y_sub hC [2, 6] rfl ?_
  exact hT _ _ (Nat.le_of_ble_eq_true rfl) (Nat.le_of_ble_eq_true rfl)
set_option maxHeartbeats 4000000 in
set_option maxRecDepth 100000 in
theorem p1_digest (hlt : l.stackTraces = false) {G : GT} {b : Nat} {xs : Nat → Int32} (hC9 : CxL l G room_1 D (tyL cI cO cJ cZ) b 6 xs) (c a : Nat → Nat) (fl : Nat → Nat) (hfl : ∀ k, k < 25 → fl k = feelv k) (o : Nat) (hT : ∀ ce sl : Nat, ce ≤ 200 → sl ≤ 4000 → G ce sl [] 1387 [(4, .int (nI 0)), (0, .ref b)] []) : G 100 3000 ([((c 0), .inr (5, [.ref (c 1), .ref (c 8), .ref (c 9), .ref (c 12), .ref (c 19), .int (nI 0), .ref (c 20), .int (nI 0), .ref (c 21), .int (nI 0)])), ((c 1), .inr (0, [.ref (c 2), .ref (c 3), .ref (c 4), .ref (c 5), .ref (c 6), .ref (c 7), .int (nI 0)])), ((c 2), .inl (cI, 12, .inl (fun k => nI (Zf k)))), ((c 3), .inl (cI, 12, .inl (fun k => nI (Zf k)))), ((c 4), .inl (cI, 12, .inl (fun k => nI (Zf k)))), ((c 8), .inr (3, [.int (nI 0), .int (nI 0), .int (nI 0), .int (nI 0), .int (nI 0)])), ((a 0), .inr (6, [.int (nI 0), .ref (a 1), .ref (a 2), .int (nI 0), .int (nI 0), .int (nI 0), .ref (a 3), .int (nI 4), .int (nI 4), .int (nI 0), .ref (a 4), .ref (a 5), .ref (a 6), .ref (a 7), .ref (a 8), .int (nI 0), .ref (a 9), .int (nI 0), .ref (a 10), .ref (a 11), .ref (a 12), .ref (a 13), .ref (a 14)])), ((a 1), .inl (cI, 12, .inl (fun k => nI (Zf k)))), ((a 2), .inl (cI, 12, .inl (fun k => nI (Zf k)))), (o, .inl (cJ, 1, .inr (.inl (fun _ => 0))))]) 1373 [(4, .int (nI 0)), (3, .ref o), (2, .ref (a 0)), (1, .ref (c 0)), (0, .ref b)] [] := by
  obtain ⟨nm, hC⟩ := hC9.cx
  refine y_aload_n hC dL_law_1373 3 rfl rfl ?_
  refine y_callV_l hC (As := []) (rest := []) (q_X5_digest c) nV_X5_digest (inLr28 _ (List.mem_of_getElem? (i := 20) rfl)) [0, 1, 2, 3, 4, 5] [6, 7, 8, 9] [0, 1, 2, 3] (fun u => [((a 0), .inr (6, [.int (nI 0), .ref (a 1), .ref (a 2), .int (nI 0), .int (nI 0), .int (nI 0), .ref (a 3), .int (nI 4), .int (nI 4), .int (nI 0), .ref (a 4), .ref (a 5), .ref (a 6), .ref (a 7), .ref (a 8), .int (nI 0), .ref (a 9), .int (nI 0), .ref (a 10), .ref (a 11), .ref (a 12), .ref (a 13), .ref (a 14)])), ((a 1), .inl (cI, 12, .inl (fun k => nI (Zf k)))), ((a 2), .inl (cI, 12, .inl (fun k => nI (Zf k)))), (o, .inl (cJ, 1, .inr (.inl (fun _ => 0))))]) rfl rfl rfl rfl (by decide) rfl (fun _ => rfl) 0 rfl rfl rfl rfl (Nat.le_of_ble_eq_true rfl) dL_law_1374 ⟨(Nat.le_of_ble_eq_true rfl), (Nat.le_of_ble_eq_true rfl)⟩ ⟨(Nat.le_of_ble_eq_true rfl), (Nat.le_of_ble_eq_true rfl)⟩ (fun r1 u1 hw1 => ?_)
  subst hw1
  refine y_aload_n hC dL_law_1377 2 rfl rfl ?_
  refine y_callV_l hC (As := []) (rest := [.long (dgf 43)]) (p_X6_digest a) nV_X6_digest (inLr29 _ (List.mem_of_getElem? (i := 8) rfl)) [0, 1, 2] [3] [0, 1] (fun u => [(o, .inl (cJ, 1, .inr (.inl (fun _ => 0)))), ((a 0), .inr (6, .int (nI u.1) :: u.2))]) rfl rfl rfl rfl (by decide) rfl (fun _ => rfl) 0 rfl rfl rfl rfl (Nat.le_of_ble_eq_true rfl) dL_law_1378 ⟨(Nat.le_of_ble_eq_true rfl), (Nat.le_of_ble_eq_true rfl)⟩ ⟨(Nat.le_of_ble_eq_true rfl), (Nat.le_of_ble_eq_true rfl)⟩ (fun r2 u2 hw2 => ?_)
  obtain ⟨hk2, rfl⟩ := hw2
  refine y_lcmp hC dL_law_1381 (fun v1 hv1 => ?_)
  refine y_if_eq hC 1387 dL_law_1382 (by decide) (fun _ => ?_) (fun h9 => absurd (hv1.trans (lg_self _)) h9)
  refine y_world hC [] (ws' := []) rfl rfl ?_
  refine y_sub hC [0, 4] rfl ?_
  exact hT _ _ (Nat.le_of_ble_eq_true rfl) (Nat.le_of_ble_eq_true rfl)
set_option maxHeartbeats 4000000 in
set_option maxRecDepth 100000 in
theorem p1_law (hlt : l.stackTraces = false) {G : GT} {b L : Nat} {xs : Nat → Int32} (hL : L ≤ 6) (hC9 : CxL l G room_1 D (tyL cI cO cJ cZ) b L xs) (hE : ∀ (ce sl pc : Nat) (ws : va_W) (lv : List (Nat × Value)), decode cL_law pc = .ok (.ireturn, 1) → ce ≤ 600002 → sl ≤ 7302232 → G ce sl ws pc lv [.int (nI 1)]) : G 0 0 ([]) 0 [(0, .ref b)] [] := by
  obtain ⟨nm, hC⟩ := hC9.cx
  refine y_new hC cC5 (inLr1 _ (List.mem_of_getElem? (i := 0) rfl)) (inLr1 _ (List.mem_of_getElem? (i := 1) rfl)) (inLr1 _ (List.mem_of_getElem? (i := 2) rfl)) [.null, .null, .null, .null, .null, .int (nI 0), .null, .int (nI 0), .null, .int (nI 0)] (by decide) (Nat.le_of_ble_eq_true rfl) (Nat.le_of_ble_eq_true rfl) dL_law_0 (fun q1 => ?_)
  show G 1 10 ([(q1, .inr (5, [.null, .null, .null, .null, .null, .int (nI 0), .null, .int (nI 0), .null, .int (nI 0)]))]) 3 [(0, .ref b)] [.ref q1]
  refine y_dup hC dL_law_3 rfl ?_
  refine y_callI_v hC (As := []) (rest := [.ref q1]) (k_X5 q1) nI_X5_init (inLr1 _ (List.mem_of_getElem? (i := 7) rfl)) [0] [] [0, 1, 2, 3, 4, 5, 6, 7, 8, 9, 10, 11, 12, 13, 14, 15, 16, 17, 18, 19, 20, 21, 22, 23, 24, 25, 26, 27, 28, 29, 30, 31, 32, 33, 34, 35, 36, 37, 38, 39, 40, 41] (fun u => [((u 0), .inr (5, [.ref (u 1), .ref (u 8), .ref (u 9), .ref (u 12), .ref (u 19), .int (nI 0), .ref (u 20), .int (nI 0), .ref (u 21), .int (nI 0)])), ((u 1), .inr (0, [.ref (u 2), .ref (u 3), .ref (u 4), .ref (u 5), .ref (u 6), .ref (u 7), .int (nI 0)])), ((u 2), .inl (cI, 12, .inl (fun k => nI (Zf k)))), ((u 3), .inl (cI, 12, .inl (fun k => nI (Zf k)))), ((u 4), .inl (cI, 12, .inl (fun k => nI (Zf k)))), ((u 5), .inl (cI, 48, .inl (fun k => nI (Zf k)))), ((u 6), .inl (cI, 84, .inl (fun k => nI (Zf k)))), ((u 7), .inl (cI, 445, .inl (fun k => nI (Zf k)))), ((u 8), .inr (3, [.int (nI 0), .int (nI 0), .int (nI 0), .int (nI 0), .int (nI 0)])), ((u 9), .inr (2, [.int (nI 4), .int (nI 4), .ref (u 10), .ref (u 11)])), ((u 10), .inl (cI, 25, .inl (fun k => nI (Tf k)))), ((u 11), .inl (cI, 41, .inl (fun k => nI (Zf k)))), ((u 12), .inr (4, [.ref (u 1), .ref (u 9), .ref (u 13), .ref (u 14), .ref (u 15), .ref (u 16), .ref (u 17), .ref (u 18)])), ((u 13), .inl (cI, 41, .inl (fun k => nI (Zf k)))), ((u 14), .inl (cI, 41, .inl (fun k => nI (Zf k)))), ((u 15), .inl (cI, 41, .inl (fun k => nI (Zf k)))), ((u 16), .inl (cI, 96, .inl (fun k => nI (Zf k)))), ((u 17), .inl (cI, 96, .inl (fun k => nI (Zf k)))), ((u 18), .inl (cI, 41, .inl (fun k => nI (Zf k)))), ((u 19), .inl (cO, 10, .inr (.inr (.inr (.inr (fun k => if k < 10 then some (u (22 + k)) else none)))))), ((u 20), .inl (cI, 80, .inl (fun k => nI (Zf k)))), ((u 21), .inl (cI, 40, .inl (fun k => nI (Zf k)))), ((u 22), .inr (1, [.ref (u 32), .int (nI 0), .int (nI 0), .int (nI 0), .int (nI 0)])), ((u 23), .inr (1, [.ref (u 33), .int (nI 0), .int (nI 0), .int (nI 0), .int (nI 0)])), ((u 24), .inr (1, [.ref (u 34), .int (nI 0), .int (nI 0), .int (nI 0), .int (nI 0)])), ((u 25), .inr (1, [.ref (u 35), .int (nI 0), .int (nI 0), .int (nI 0), .int (nI 0)])), ((u 26), .inr (1, [.ref (u 36), .int (nI 0), .int (nI 0), .int (nI 0), .int (nI 0)])), ((u 27), .inr (1, [.ref (u 37), .int (nI 0), .int (nI 0), .int (nI 0), .int (nI 0)])), ((u 28), .inr (1, [.ref (u 38), .int (nI 0), .int (nI 0), .int (nI 0), .int (nI 0)])), ((u 29), .inr (1, [.ref (u 39), .int (nI 0), .int (nI 0), .int (nI 0), .int (nI 0)])), ((u 30), .inr (1, [.ref (u 40), .int (nI 0), .int (nI 0), .int (nI 0), .int (nI 0)])), ((u 31), .inr (1, [.ref (u 41), .int (nI 0), .int (nI 0), .int (nI 0), .int (nI 0)])), ((u 32), .inl (cI, 40, .inl (fun k => nI (Zf k)))), ((u 33), .inl (cI, 40, .inl (fun k => nI (Zf k)))), ((u 34), .inl (cI, 40, .inl (fun k => nI (Zf k)))), ((u 35), .inl (cI, 40, .inl (fun k => nI (Zf k)))), ((u 36), .inl (cI, 40, .inl (fun k => nI (Zf k)))), ((u 37), .inl (cI, 40, .inl (fun k => nI (Zf k)))), ((u 38), .inl (cI, 40, .inl (fun k => nI (Zf k)))), ((u 39), .inl (cI, 40, .inl (fun k => nI (Zf k)))), ((u 40), .inl (cI, 40, .inl (fun k => nI (Zf k)))), ((u 41), .inl (cI, 40, .inl (fun k => nI (Zf k))))]) rfl rfl rfl rfl (by decide) rfl (fun _ => rfl) rfl rfl (Nat.le_of_ble_eq_true rfl) dL_law_4 ⟨(Nat.le_of_ble_eq_true rfl), (Nat.le_of_ble_eq_true rfl)⟩ ⟨(Nat.le_of_ble_eq_true rfl), (Nat.le_of_ble_eq_true rfl)⟩ (fun u1 hw1 => ?_)
  subst hw1
  refine y_astore_n hC [(1, .ref (u1 0)), (0, .ref b)] dL_law_7 rfl (by decide) rfl ?_
  refine y_new hC cC6 (inLr1 _ (List.mem_of_getElem? (i := 3) rfl)) (inLr1 _ (List.mem_of_getElem? (i := 4) rfl)) (inLr1 _ (List.mem_of_getElem? (i := 5) rfl)) [.int (nI 0), .null, .null, .int (nI 0), .int (nI 0), .int (nI 0), .null, .int (nI 0), .int (nI 0), .int (nI 0), .null, .null, .null, .null, .null, .int (nI 0), .null, .int (nI 0), .null, .null, .null, .null, .null] (by decide) (Nat.le_of_ble_eq_true rfl) (Nat.le_of_ble_eq_true rfl) dL_law_8 (fun q2 => ?_)
  show G 43 1672 ([((u1 0), .inr (5, [.ref (u1 1), .ref (u1 8), .ref (u1 9), .ref (u1 12), .ref (u1 19), .int (nI 0), .ref (u1 20), .int (nI 0), .ref (u1 21), .int (nI 0)])), ((u1 1), .inr (0, [.ref (u1 2), .ref (u1 3), .ref (u1 4), .ref (u1 5), .ref (u1 6), .ref (u1 7), .int (nI 0)])), ((u1 2), .inl (cI, 12, .inl (fun k => nI (Zf k)))), ((u1 3), .inl (cI, 12, .inl (fun k => nI (Zf k)))), ((u1 4), .inl (cI, 12, .inl (fun k => nI (Zf k)))), ((u1 5), .inl (cI, 48, .inl (fun k => nI (Zf k)))), ((u1 6), .inl (cI, 84, .inl (fun k => nI (Zf k)))), ((u1 7), .inl (cI, 445, .inl (fun k => nI (Zf k)))), ((u1 8), .inr (3, [.int (nI 0), .int (nI 0), .int (nI 0), .int (nI 0), .int (nI 0)])), ((u1 9), .inr (2, [.int (nI 4), .int (nI 4), .ref (u1 10), .ref (u1 11)])), ((u1 10), .inl (cI, 25, .inl (fun k => nI (Tf k)))), ((u1 11), .inl (cI, 41, .inl (fun k => nI (Zf k)))), ((u1 12), .inr (4, [.ref (u1 1), .ref (u1 9), .ref (u1 13), .ref (u1 14), .ref (u1 15), .ref (u1 16), .ref (u1 17), .ref (u1 18)])), ((u1 13), .inl (cI, 41, .inl (fun k => nI (Zf k)))), ((u1 14), .inl (cI, 41, .inl (fun k => nI (Zf k)))), ((u1 15), .inl (cI, 41, .inl (fun k => nI (Zf k)))), ((u1 16), .inl (cI, 96, .inl (fun k => nI (Zf k)))), ((u1 17), .inl (cI, 96, .inl (fun k => nI (Zf k)))), ((u1 18), .inl (cI, 41, .inl (fun k => nI (Zf k)))), ((u1 19), .inl (cO, 10, .inr (.inr (.inr (.inr (fun k => if k < 10 then some (u1 (22 + k)) else none)))))), ((u1 20), .inl (cI, 80, .inl (fun k => nI (Zf k)))), ((u1 21), .inl (cI, 40, .inl (fun k => nI (Zf k)))), ((u1 22), .inr (1, [.ref (u1 32), .int (nI 0), .int (nI 0), .int (nI 0), .int (nI 0)])), ((u1 23), .inr (1, [.ref (u1 33), .int (nI 0), .int (nI 0), .int (nI 0), .int (nI 0)])), ((u1 24), .inr (1, [.ref (u1 34), .int (nI 0), .int (nI 0), .int (nI 0), .int (nI 0)])), ((u1 25), .inr (1, [.ref (u1 35), .int (nI 0), .int (nI 0), .int (nI 0), .int (nI 0)])), ((u1 26), .inr (1, [.ref (u1 36), .int (nI 0), .int (nI 0), .int (nI 0), .int (nI 0)])), ((u1 27), .inr (1, [.ref (u1 37), .int (nI 0), .int (nI 0), .int (nI 0), .int (nI 0)])), ((u1 28), .inr (1, [.ref (u1 38), .int (nI 0), .int (nI 0), .int (nI 0), .int (nI 0)])), ((u1 29), .inr (1, [.ref (u1 39), .int (nI 0), .int (nI 0), .int (nI 0), .int (nI 0)])), ((u1 30), .inr (1, [.ref (u1 40), .int (nI 0), .int (nI 0), .int (nI 0), .int (nI 0)])), ((u1 31), .inr (1, [.ref (u1 41), .int (nI 0), .int (nI 0), .int (nI 0), .int (nI 0)])), ((u1 32), .inl (cI, 40, .inl (fun k => nI (Zf k)))), ((u1 33), .inl (cI, 40, .inl (fun k => nI (Zf k)))), ((u1 34), .inl (cI, 40, .inl (fun k => nI (Zf k)))), ((u1 35), .inl (cI, 40, .inl (fun k => nI (Zf k)))), ((u1 36), .inl (cI, 40, .inl (fun k => nI (Zf k)))), ((u1 37), .inl (cI, 40, .inl (fun k => nI (Zf k)))), ((u1 38), .inl (cI, 40, .inl (fun k => nI (Zf k)))), ((u1 39), .inl (cI, 40, .inl (fun k => nI (Zf k)))), ((u1 40), .inl (cI, 40, .inl (fun k => nI (Zf k)))), ((u1 41), .inl (cI, 40, .inl (fun k => nI (Zf k)))), (q2, .inr (6, [.int (nI 0), .null, .null, .int (nI 0), .int (nI 0), .int (nI 0), .null, .int (nI 0), .int (nI 0), .int (nI 0), .null, .null, .null, .null, .null, .int (nI 0), .null, .int (nI 0), .null, .null, .null, .null, .null]))]) 11 [(1, .ref (u1 0)), (0, .ref b)] [.ref q2]
  refine y_dup hC dL_law_11 rfl ?_
  refine y_callI_v hC (As := []) (rest := [.ref q2]) (p_X6_init q2) nI_X6_init (inLr4 _ (List.mem_of_getElem? (i := 4) rfl)) [42] [0, 1, 2, 3, 4, 5, 6, 7, 8, 9, 10, 11, 12, 13, 14, 15, 16, 17, 18, 19, 20, 21, 22, 23, 24, 25, 26, 27, 28, 29, 30, 31, 32, 33, 34, 35, 36, 37, 38, 39, 40, 41] [0, 1, 2, 3, 4, 5, 6, 7, 8, 9, 10, 11, 12, 13, 14, 15, 16, 17, 18, 19, 20, 21, 22, 23, 24, 25, 26, 27, 28, 29, 30, 31, 32, 33, 34, 35, 36, 37, 38, 39, 40, 41, 42, 43, 44, 45, 46, 47, 48, 49, 50, 51, 52, 53, 54, 55, 56] (fun u => [((u1 0), .inr (5, [.ref (u1 1), .ref (u1 8), .ref (u1 9), .ref (u1 12), .ref (u1 19), .int (nI 0), .ref (u1 20), .int (nI 0), .ref (u1 21), .int (nI 0)])), ((u1 1), .inr (0, [.ref (u1 2), .ref (u1 3), .ref (u1 4), .ref (u1 5), .ref (u1 6), .ref (u1 7), .int (nI 0)])), ((u1 2), .inl (cI, 12, .inl (fun k => nI (Zf k)))), ((u1 3), .inl (cI, 12, .inl (fun k => nI (Zf k)))), ((u1 4), .inl (cI, 12, .inl (fun k => nI (Zf k)))), ((u1 5), .inl (cI, 48, .inl (fun k => nI (Zf k)))), ((u1 6), .inl (cI, 84, .inl (fun k => nI (Zf k)))), ((u1 7), .inl (cI, 445, .inl (fun k => nI (Zf k)))), ((u1 8), .inr (3, [.int (nI 0), .int (nI 0), .int (nI 0), .int (nI 0), .int (nI 0)])), ((u1 9), .inr (2, [.int (nI 4), .int (nI 4), .ref (u1 10), .ref (u1 11)])), ((u1 10), .inl (cI, 25, .inl (fun k => nI (Tf k)))), ((u1 11), .inl (cI, 41, .inl (fun k => nI (Zf k)))), ((u1 12), .inr (4, [.ref (u1 1), .ref (u1 9), .ref (u1 13), .ref (u1 14), .ref (u1 15), .ref (u1 16), .ref (u1 17), .ref (u1 18)])), ((u1 13), .inl (cI, 41, .inl (fun k => nI (Zf k)))), ((u1 14), .inl (cI, 41, .inl (fun k => nI (Zf k)))), ((u1 15), .inl (cI, 41, .inl (fun k => nI (Zf k)))), ((u1 16), .inl (cI, 96, .inl (fun k => nI (Zf k)))), ((u1 17), .inl (cI, 96, .inl (fun k => nI (Zf k)))), ((u1 18), .inl (cI, 41, .inl (fun k => nI (Zf k)))), ((u1 19), .inl (cO, 10, .inr (.inr (.inr (.inr (fun k => if k < 10 then some (u1 (22 + k)) else none)))))), ((u1 20), .inl (cI, 80, .inl (fun k => nI (Zf k)))), ((u1 21), .inl (cI, 40, .inl (fun k => nI (Zf k)))), ((u1 22), .inr (1, [.ref (u1 32), .int (nI 0), .int (nI 0), .int (nI 0), .int (nI 0)])), ((u1 23), .inr (1, [.ref (u1 33), .int (nI 0), .int (nI 0), .int (nI 0), .int (nI 0)])), ((u1 24), .inr (1, [.ref (u1 34), .int (nI 0), .int (nI 0), .int (nI 0), .int (nI 0)])), ((u1 25), .inr (1, [.ref (u1 35), .int (nI 0), .int (nI 0), .int (nI 0), .int (nI 0)])), ((u1 26), .inr (1, [.ref (u1 36), .int (nI 0), .int (nI 0), .int (nI 0), .int (nI 0)])), ((u1 27), .inr (1, [.ref (u1 37), .int (nI 0), .int (nI 0), .int (nI 0), .int (nI 0)])), ((u1 28), .inr (1, [.ref (u1 38), .int (nI 0), .int (nI 0), .int (nI 0), .int (nI 0)])), ((u1 29), .inr (1, [.ref (u1 39), .int (nI 0), .int (nI 0), .int (nI 0), .int (nI 0)])), ((u1 30), .inr (1, [.ref (u1 40), .int (nI 0), .int (nI 0), .int (nI 0), .int (nI 0)])), ((u1 31), .inr (1, [.ref (u1 41), .int (nI 0), .int (nI 0), .int (nI 0), .int (nI 0)])), ((u1 32), .inl (cI, 40, .inl (fun k => nI (Zf k)))), ((u1 33), .inl (cI, 40, .inl (fun k => nI (Zf k)))), ((u1 34), .inl (cI, 40, .inl (fun k => nI (Zf k)))), ((u1 35), .inl (cI, 40, .inl (fun k => nI (Zf k)))), ((u1 36), .inl (cI, 40, .inl (fun k => nI (Zf k)))), ((u1 37), .inl (cI, 40, .inl (fun k => nI (Zf k)))), ((u1 38), .inl (cI, 40, .inl (fun k => nI (Zf k)))), ((u1 39), .inl (cI, 40, .inl (fun k => nI (Zf k)))), ((u1 40), .inl (cI, 40, .inl (fun k => nI (Zf k)))), ((u1 41), .inl (cI, 40, .inl (fun k => nI (Zf k)))), ((u.1 0), .inr (6, [.int (nI 0), .ref (u.1 1), .ref (u.1 2), .int (nI 0), .int (nI 0), .int (nI 0), .ref (u.1 3), .int (nI 4), .int (nI 4), .int (nI 0), .ref (u.1 4), .ref (u.1 5), .ref (u.1 6), .ref (u.1 7), .ref (u.1 8), .int (nI 0), .ref (u.1 9), .int (nI 0), .ref (u.1 10), .ref (u.1 11), .ref (u.1 12), .ref (u.1 13), .ref (u.1 14)])), ((u.1 1), .inl (cI, 12, .inl (fun k => nI (Zf k)))), ((u.1 2), .inl (cI, 12, .inl (fun k => nI (Zf k)))), ((u.1 3), .inl (cI, 25, .inl (fun k => nI (u.2 k)))), ((u.1 4), .inl (cI, 10, .inl (fun k => nI (Zf k)))), ((u.1 5), .inl (cI, 400, .inl (fun k => nI (Zf k)))), ((u.1 6), .inl (cI, 10, .inl (fun k => nI (Zf k)))), ((u.1 7), .inl (cI, 10, .inl (fun k => nI (Zf k)))), ((u.1 8), .inl (cI, 80, .inl (fun k => nI (Zf k)))), ((u.1 9), .inl (cI, 40, .inl (fun k => nI (Zf k)))), ((u.1 10), .inl (cI, 41, .inl (fun k => nI (Zf k)))), ((u.1 11), .inl (cI, 41, .inl (fun k => nI (Zf k)))), ((u.1 12), .inl (cI, 41, .inl (fun k => nI (Zf k)))), ((u.1 13), .inl (cI, 41, .inl (fun k => nI (Zf k)))), ((u.1 14), .inl (cI, 41, .inl (fun k => nI (Zf k))))]) rfl rfl rfl rfl (by decide) rfl (fun _ => rfl) rfl rfl (Nat.le_of_ble_eq_true rfl) dL_law_12 ⟨(Nat.le_of_ble_eq_true rfl), (Nat.le_of_ble_eq_true rfl)⟩ ⟨(Nat.le_of_ble_eq_true rfl), (Nat.le_of_ble_eq_true rfl)⟩ (fun u2 hw2 => ?_)
  obtain ⟨rfl, hfl⟩ := hw2
  refine y_astore_n hC [(2, .ref (u2.1 0)), (1, .ref (u1 0)), (0, .ref b)] dL_law_15 rfl (by decide) rfl ?_
  refine y_iconst hC (v := nI 1) dL_law_16 rfl ?_
  refine y_newa hC (atype := .long) (N := 1) (a0 := (1, .inr (.inl (fun _ => 0)))) (cA := cJ) (inLr1 _ (List.mem_of_getElem? (i := 6) rfl)) rfl 2 rfl ⟨rfl, fun _ h => h⟩ (fun _ => rfl) rfl (by decide) (Nat.le_of_ble_eq_true rfl) (Nat.le_of_ble_eq_true rfl) dL_law_17 (fun q3 => ?_)
  show G 58 2518 ([((u1 0), .inr (5, [.ref (u1 1), .ref (u1 8), .ref (u1 9), .ref (u1 12), .ref (u1 19), .int (nI 0), .ref (u1 20), .int (nI 0), .ref (u1 21), .int (nI 0)])), ((u1 1), .inr (0, [.ref (u1 2), .ref (u1 3), .ref (u1 4), .ref (u1 5), .ref (u1 6), .ref (u1 7), .int (nI 0)])), ((u1 2), .inl (cI, 12, .inl (fun k => nI (Zf k)))), ((u1 3), .inl (cI, 12, .inl (fun k => nI (Zf k)))), ((u1 4), .inl (cI, 12, .inl (fun k => nI (Zf k)))), ((u1 5), .inl (cI, 48, .inl (fun k => nI (Zf k)))), ((u1 6), .inl (cI, 84, .inl (fun k => nI (Zf k)))), ((u1 7), .inl (cI, 445, .inl (fun k => nI (Zf k)))), ((u1 8), .inr (3, [.int (nI 0), .int (nI 0), .int (nI 0), .int (nI 0), .int (nI 0)])), ((u1 9), .inr (2, [.int (nI 4), .int (nI 4), .ref (u1 10), .ref (u1 11)])), ((u1 10), .inl (cI, 25, .inl (fun k => nI (Tf k)))), ((u1 11), .inl (cI, 41, .inl (fun k => nI (Zf k)))), ((u1 12), .inr (4, [.ref (u1 1), .ref (u1 9), .ref (u1 13), .ref (u1 14), .ref (u1 15), .ref (u1 16), .ref (u1 17), .ref (u1 18)])), ((u1 13), .inl (cI, 41, .inl (fun k => nI (Zf k)))), ((u1 14), .inl (cI, 41, .inl (fun k => nI (Zf k)))), ((u1 15), .inl (cI, 41, .inl (fun k => nI (Zf k)))), ((u1 16), .inl (cI, 96, .inl (fun k => nI (Zf k)))), ((u1 17), .inl (cI, 96, .inl (fun k => nI (Zf k)))), ((u1 18), .inl (cI, 41, .inl (fun k => nI (Zf k)))), ((u1 19), .inl (cO, 10, .inr (.inr (.inr (.inr (fun k => if k < 10 then some (u1 (22 + k)) else none)))))), ((u1 20), .inl (cI, 80, .inl (fun k => nI (Zf k)))), ((u1 21), .inl (cI, 40, .inl (fun k => nI (Zf k)))), ((u1 22), .inr (1, [.ref (u1 32), .int (nI 0), .int (nI 0), .int (nI 0), .int (nI 0)])), ((u1 23), .inr (1, [.ref (u1 33), .int (nI 0), .int (nI 0), .int (nI 0), .int (nI 0)])), ((u1 24), .inr (1, [.ref (u1 34), .int (nI 0), .int (nI 0), .int (nI 0), .int (nI 0)])), ((u1 25), .inr (1, [.ref (u1 35), .int (nI 0), .int (nI 0), .int (nI 0), .int (nI 0)])), ((u1 26), .inr (1, [.ref (u1 36), .int (nI 0), .int (nI 0), .int (nI 0), .int (nI 0)])), ((u1 27), .inr (1, [.ref (u1 37), .int (nI 0), .int (nI 0), .int (nI 0), .int (nI 0)])), ((u1 28), .inr (1, [.ref (u1 38), .int (nI 0), .int (nI 0), .int (nI 0), .int (nI 0)])), ((u1 29), .inr (1, [.ref (u1 39), .int (nI 0), .int (nI 0), .int (nI 0), .int (nI 0)])), ((u1 30), .inr (1, [.ref (u1 40), .int (nI 0), .int (nI 0), .int (nI 0), .int (nI 0)])), ((u1 31), .inr (1, [.ref (u1 41), .int (nI 0), .int (nI 0), .int (nI 0), .int (nI 0)])), ((u1 32), .inl (cI, 40, .inl (fun k => nI (Zf k)))), ((u1 33), .inl (cI, 40, .inl (fun k => nI (Zf k)))), ((u1 34), .inl (cI, 40, .inl (fun k => nI (Zf k)))), ((u1 35), .inl (cI, 40, .inl (fun k => nI (Zf k)))), ((u1 36), .inl (cI, 40, .inl (fun k => nI (Zf k)))), ((u1 37), .inl (cI, 40, .inl (fun k => nI (Zf k)))), ((u1 38), .inl (cI, 40, .inl (fun k => nI (Zf k)))), ((u1 39), .inl (cI, 40, .inl (fun k => nI (Zf k)))), ((u1 40), .inl (cI, 40, .inl (fun k => nI (Zf k)))), ((u1 41), .inl (cI, 40, .inl (fun k => nI (Zf k)))), ((u2.1 0), .inr (6, [.int (nI 0), .ref (u2.1 1), .ref (u2.1 2), .int (nI 0), .int (nI 0), .int (nI 0), .ref (u2.1 3), .int (nI 4), .int (nI 4), .int (nI 0), .ref (u2.1 4), .ref (u2.1 5), .ref (u2.1 6), .ref (u2.1 7), .ref (u2.1 8), .int (nI 0), .ref (u2.1 9), .int (nI 0), .ref (u2.1 10), .ref (u2.1 11), .ref (u2.1 12), .ref (u2.1 13), .ref (u2.1 14)])), ((u2.1 1), .inl (cI, 12, .inl (fun k => nI (Zf k)))), ((u2.1 2), .inl (cI, 12, .inl (fun k => nI (Zf k)))), ((u2.1 3), .inl (cI, 25, .inl (fun k => nI (u2.2 k)))), ((u2.1 4), .inl (cI, 10, .inl (fun k => nI (Zf k)))), ((u2.1 5), .inl (cI, 400, .inl (fun k => nI (Zf k)))), ((u2.1 6), .inl (cI, 10, .inl (fun k => nI (Zf k)))), ((u2.1 7), .inl (cI, 10, .inl (fun k => nI (Zf k)))), ((u2.1 8), .inl (cI, 80, .inl (fun k => nI (Zf k)))), ((u2.1 9), .inl (cI, 40, .inl (fun k => nI (Zf k)))), ((u2.1 10), .inl (cI, 41, .inl (fun k => nI (Zf k)))), ((u2.1 11), .inl (cI, 41, .inl (fun k => nI (Zf k)))), ((u2.1 12), .inl (cI, 41, .inl (fun k => nI (Zf k)))), ((u2.1 13), .inl (cI, 41, .inl (fun k => nI (Zf k)))), ((u2.1 14), .inl (cI, 41, .inl (fun k => nI (Zf k)))), (q3, .inl (cJ, 1, .inr (.inl (fun _ => 0))))]) 19 [(2, .ref (u2.1 0)), (1, .ref (u1 0)), (0, .ref b)] [.ref q3]
  refine y_astore_n hC [(3, .ref q3), (2, .ref (u2.1 0)), (1, .ref (u1 0)), (0, .ref b)] dL_law_19 rfl (by decide) rfl ?_
  refine y_iconst hC (v := nI 0) dL_law_20 rfl ?_
  refine y_istore hC [(4, .int (nI 0)), (3, .ref q3), (2, .ref (u2.1 0)), (1, .ref (u1 0)), (0, .ref b)] dL_law_21 (by decide) rfl ?_
  refine y_wide hC (k := 100) (n := 3000) (Nat.le_of_ble_eq_true rfl) (Nat.le_of_ble_eq_true rfl) ?_
  rcases (show L = 0 ∨ L = 1 ∨ L = 2 ∨ L = 3 ∨ L = 4 ∨ L = 5 ∨ L = 6 by omega) with rfl | rfl | rfl | rfl | rfl | rfl | rfl
  · refine y_iload hC dL_law_23 0 rfl ?_
    refine y_aload_n hC dL_law_25 4 rfl rfl ?_
    refine y_slen hC9 (v := nI 0) rfl dL_law_26 ?_
    refine y_bipush hC (v := nI 6) dL_law_27 rfl ?_
    refine y_isub hC (v := (-6)) dL_law_29 (by decide) ?_
    refine y_icmp_gt_w hC 1393 dL_law_30 (by decide) (fun c30 => ?_) (fun c30 => absurd c30 (by decide))
    refine y_iconst hC (v := nI 1) dL_law_1393 rfl ?_
    exact hE _ _ _ _ _ dL_law_1394 (Nat.le_of_ble_eq_true rfl) (Nat.le_of_ble_eq_true rfl)
  · refine y_iload hC dL_law_23 0 rfl ?_
    refine y_aload_n hC dL_law_25 4 rfl rfl ?_
    refine y_slen hC9 (v := nI 1) rfl dL_law_26 ?_
    refine y_bipush hC (v := nI 6) dL_law_27 rfl ?_
    refine y_isub hC (v := (-5)) dL_law_29 (by decide) ?_
    refine y_icmp_gt_w hC 1393 dL_law_30 (by decide) (fun c30 => ?_) (fun c30 => absurd c30 (by decide))
    refine y_iconst hC (v := nI 1) dL_law_1393 rfl ?_
    exact hE _ _ _ _ _ dL_law_1394 (Nat.le_of_ble_eq_true rfl) (Nat.le_of_ble_eq_true rfl)
  · refine y_iload hC dL_law_23 0 rfl ?_
    refine y_aload_n hC dL_law_25 4 rfl rfl ?_
    refine y_slen hC9 (v := nI 2) rfl dL_law_26 ?_
    refine y_bipush hC (v := nI 6) dL_law_27 rfl ?_
    refine y_isub hC (v := (-4)) dL_law_29 (by decide) ?_
    refine y_icmp_gt_w hC 1393 dL_law_30 (by decide) (fun c30 => ?_) (fun c30 => absurd c30 (by decide))
    refine y_iconst hC (v := nI 1) dL_law_1393 rfl ?_
    exact hE _ _ _ _ _ dL_law_1394 (Nat.le_of_ble_eq_true rfl) (Nat.le_of_ble_eq_true rfl)
  · refine y_iload hC dL_law_23 0 rfl ?_
    refine y_aload_n hC dL_law_25 4 rfl rfl ?_
    refine y_slen hC9 (v := nI 3) rfl dL_law_26 ?_
    refine y_bipush hC (v := nI 6) dL_law_27 rfl ?_
    refine y_isub hC (v := (-3)) dL_law_29 (by decide) ?_
    refine y_icmp_gt_w hC 1393 dL_law_30 (by decide) (fun c30 => ?_) (fun c30 => absurd c30 (by decide))
    refine y_iconst hC (v := nI 1) dL_law_1393 rfl ?_
    exact hE _ _ _ _ _ dL_law_1394 (Nat.le_of_ble_eq_true rfl) (Nat.le_of_ble_eq_true rfl)
  · refine y_iload hC dL_law_23 0 rfl ?_
    refine y_aload_n hC dL_law_25 4 rfl rfl ?_
    refine y_slen hC9 (v := nI 4) rfl dL_law_26 ?_
    refine y_bipush hC (v := nI 6) dL_law_27 rfl ?_
    refine y_isub hC (v := (-2)) dL_law_29 (by decide) ?_
    refine y_icmp_gt_w hC 1393 dL_law_30 (by decide) (fun c30 => ?_) (fun c30 => absurd c30 (by decide))
    refine y_iconst hC (v := nI 1) dL_law_1393 rfl ?_
    exact hE _ _ _ _ _ dL_law_1394 (Nat.le_of_ble_eq_true rfl) (Nat.le_of_ble_eq_true rfl)
  · refine y_iload hC dL_law_23 0 rfl ?_
    refine y_aload_n hC dL_law_25 4 rfl rfl ?_
    refine y_slen hC9 (v := nI 5) rfl dL_law_26 ?_
    refine y_bipush hC (v := nI 6) dL_law_27 rfl ?_
    refine y_isub hC (v := (-1)) dL_law_29 (by decide) ?_
    refine y_icmp_gt_w hC 1393 dL_law_30 (by decide) (fun c30 => ?_) (fun c30 => absurd c30 (by decide))
    refine y_iconst hC (v := nI 1) dL_law_1393 rfl ?_
    exact hE _ _ _ _ _ dL_law_1394 (Nat.le_of_ble_eq_true rfl) (Nat.le_of_ble_eq_true rfl)
  · refine y_iload hC dL_law_23 0 rfl ?_
    refine y_aload_n hC dL_law_25 4 rfl rfl ?_
    refine y_slen hC9 (v := nI 6) rfl dL_law_26 ?_
    refine y_bipush hC (v := nI 6) dL_law_27 rfl ?_
    refine y_isub hC (v := nI 0) dL_law_29 (by decide) ?_
    refine y_icmp_gt_n hC 1393 dL_law_30 (by decide) 0 0 rfl rfl (by omega) (by omega) (fun c30 => absurd c30 (by decide)) (fun c30 => ?_)
    have hT : ∀ ce sl : Nat, ce ≤ 200 → sl ≤ 4000 → G ce sl ([]) 1387 [(4, .int (nI 0)), (0, .ref b)] [] := by
      intro ce sl h1 h2
      refine y_iinc hC (v := nI 6) [(4, .int (nI 6)), (0, .ref b)] dL_law_1387 (k := 0) rfl (by decide) (by decide) rfl ?_
      refine y_goto hC 23 dL_law_1390 (by decide) ?_
      refine y_iload hC dL_law_23 0 rfl ?_
      refine y_aload_n hC dL_law_25 1 rfl rfl ?_
      refine y_slen hC9 (v := nI 6) rfl dL_law_26 ?_
      refine y_bipush hC (v := nI 6) dL_law_27 rfl ?_
      refine y_isub hC (v := nI 0) dL_law_29 (by decide) ?_
      refine y_icmp_gt_n hC 1393 dL_law_30 (by decide) 6 0 rfl rfl (by omega) (by omega) (fun c30 => ?_) (fun c30 => absurd c30 (by decide))
      refine y_iconst hC (v := nI 1) dL_law_1393 rfl ?_
      exact hE _ _ _ _ _ dL_law_1394 (by omega) (by omega)
    obtain ⟨n, hn, en⟩ := pk_andE (xs 0) (m := nI 31) 5 (by decide)
    refine y_aload_n hC dL_law_33 4 rfl rfl ?_
    refine y_iload hC dL_law_34 0 rfl ?_
    refine y_sld hC9 0 rfl (by decide) (by decide) dL_law_36 ?_
    refine y_bipush hC (v := nI 31) dL_law_37 rfl ?_
    refine y_iand hC (v := nI n) dL_law_39 en ?_
    rcases (show n = 0 ∨ n = 1 ∨ n = 2 ∨ n = 3 ∨ n = 4 ∨ n = 5 ∨ n = 6 ∨ n = 7 ∨ n = 8 ∨ n = 9 ∨ n = 10 ∨ n = 11 ∨ n = 12 ∨ n = 13 ∨ n = 14 ∨ n = 15 ∨ n = 16 ∨ n = 17 ∨ n = 18 ∨ n = 19 ∨ n = 20 ∨ n = 21 ∨ n = 22 ∨ n = 23 ∨ n = 24 ∨ n = 25 ∨ n = 26 ∨ n = 27 ∨ n = 28 ∨ n = 29 ∨ n = 30 ∨ n = 31 by omega) with rfl | rfl | rfl | rfl | rfl | rfl | rfl | rfl | rfl | rfl | rfl | rfl | rfl | rfl | rfl | rfl | rfl | rfl | rfl | rfl | rfl | rfl | rfl | rfl | rfl | rfl | rfl | rfl | rfl | rfl | rfl | rfl
    · refine y_tableIn hC 148 dL_law_40 (by decide) (by decide) (off := 108) (by decide) (by decide) ?_
      refine y_sub hC [0, 1, 2, 3, 4] rfl ?_
      refine y_world hC [0, 1, 2, 3, 5, 42, 43, 57] (ws' := [((u1 0), .inr (5, [.ref (u1 1), .ref (u1 8), .ref (u1 9), .ref (u1 12), .ref (u1 19), .int (nI 0), .ref (u1 20), .int (nI 0), .ref (u1 21), .int (nI 0)])), ((u1 1), .inr (0, [.ref (u1 2), .ref (u1 3), .ref (u1 4), .ref (u1 5), .ref (u1 6), .ref (u1 7), .int (nI 0)])), ((u1 2), .inl (cI, 12, .inl (fun k => nI (Zf k)))), ((u1 3), .inl (cI, 12, .inl (fun k => nI (Zf k)))), ((u1 5), .inl (cI, 48, .inl (fun k => nI (Zf k)))), ((u2.1 0), .inr (6, [.int (nI 0), .ref (u2.1 1), .ref (u2.1 2), .int (nI 0), .int (nI 0), .int (nI 0), .ref (u2.1 3), .int (nI 4), .int (nI 4), .int (nI 0), .ref (u2.1 4), .ref (u2.1 5), .ref (u2.1 6), .ref (u2.1 7), .ref (u2.1 8), .int (nI 0), .ref (u2.1 9), .int (nI 0), .ref (u2.1 10), .ref (u2.1 11), .ref (u2.1 12), .ref (u2.1 13), .ref (u2.1 14)])), ((u2.1 1), .inl (cI, 12, .inl (fun k => nI (Zf k)))), (q3, .inl (cJ, 1, .inr (.inl (fun _ => 0))))]) rfl rfl ?_
      exact p1_setLetter hlt hC9 u1 u2.1 u2.2 hfl _ hT
    · refine y_tableIn hC 216 dL_law_40 (by decide) (by decide) (off := 176) (by decide) (by decide) ?_
      refine y_sub hC [0, 1, 2, 3, 4] rfl ?_
      refine y_world hC [0, 1, 2, 3, 4, 42, 43, 44, 57] (ws' := [((u1 0), .inr (5, [.ref (u1 1), .ref (u1 8), .ref (u1 9), .ref (u1 12), .ref (u1 19), .int (nI 0), .ref (u1 20), .int (nI 0), .ref (u1 21), .int (nI 0)])), ((u1 1), .inr (0, [.ref (u1 2), .ref (u1 3), .ref (u1 4), .ref (u1 5), .ref (u1 6), .ref (u1 7), .int (nI 0)])), ((u1 2), .inl (cI, 12, .inl (fun k => nI (Zf k)))), ((u1 3), .inl (cI, 12, .inl (fun k => nI (Zf k)))), ((u1 4), .inl (cI, 12, .inl (fun k => nI (Zf k)))), ((u2.1 0), .inr (6, [.int (nI 0), .ref (u2.1 1), .ref (u2.1 2), .int (nI 0), .int (nI 0), .int (nI 0), .ref (u2.1 3), .int (nI 4), .int (nI 4), .int (nI 0), .ref (u2.1 4), .ref (u2.1 5), .ref (u2.1 6), .ref (u2.1 7), .ref (u2.1 8), .int (nI 0), .ref (u2.1 9), .int (nI 0), .ref (u2.1 10), .ref (u2.1 11), .ref (u2.1 12), .ref (u2.1 13), .ref (u2.1 14)])), ((u2.1 1), .inl (cI, 12, .inl (fun k => nI (Zf k)))), ((u2.1 2), .inl (cI, 12, .inl (fun k => nI (Zf k)))), (q3, .inl (cJ, 1, .inr (.inl (fun _ => 0))))]) rfl rfl ?_
      exact p1_letter hlt hC9 u1 u2.1 u2.2 hfl _ hT
    · refine y_tableIn hC 284 dL_law_40 (by decide) (by decide) (off := 244) (by decide) (by decide) ?_
      refine y_sub hC [0, 1, 2, 3, 4] rfl ?_
      refine y_world hC [0, 1, 2, 42, 43, 57] (ws' := [((u1 0), .inr (5, [.ref (u1 1), .ref (u1 8), .ref (u1 9), .ref (u1 12), .ref (u1 19), .int (nI 0), .ref (u1 20), .int (nI 0), .ref (u1 21), .int (nI 0)])), ((u1 1), .inr (0, [.ref (u1 2), .ref (u1 3), .ref (u1 4), .ref (u1 5), .ref (u1 6), .ref (u1 7), .int (nI 0)])), ((u1 2), .inl (cI, 12, .inl (fun k => nI (Zf k)))), ((u2.1 0), .inr (6, [.int (nI 0), .ref (u2.1 1), .ref (u2.1 2), .int (nI 0), .int (nI 0), .int (nI 0), .ref (u2.1 3), .int (nI 4), .int (nI 4), .int (nI 0), .ref (u2.1 4), .ref (u2.1 5), .ref (u2.1 6), .ref (u2.1 7), .ref (u2.1 8), .int (nI 0), .ref (u2.1 9), .int (nI 0), .ref (u2.1 10), .ref (u2.1 11), .ref (u2.1 12), .ref (u2.1 13), .ref (u2.1 14)])), ((u2.1 1), .inl (cI, 12, .inl (fun k => nI (Zf k)))), (q3, .inl (cJ, 1, .inr (.inl (fun _ => 0))))]) rfl rfl ?_
      exact p1_isFree hlt hC9 u1 u2.1 u2.2 hfl _ hT
    · refine y_tableIn hC 297 dL_law_40 (by decide) (by decide) (off := 257) (by decide) (by decide) ?_
      refine y_sub hC [0, 1, 2, 3, 4] rfl ?_
      refine y_world hC [0, 1, 2, 6, 7, 42, 43, 57] (ws' := [((u1 0), .inr (5, [.ref (u1 1), .ref (u1 8), .ref (u1 9), .ref (u1 12), .ref (u1 19), .int (nI 0), .ref (u1 20), .int (nI 0), .ref (u1 21), .int (nI 0)])), ((u1 1), .inr (0, [.ref (u1 2), .ref (u1 3), .ref (u1 4), .ref (u1 5), .ref (u1 6), .ref (u1 7), .int (nI 0)])), ((u1 2), .inl (cI, 12, .inl (fun k => nI (Zf k)))), ((u1 6), .inl (cI, 84, .inl (fun k => nI (Zf k)))), ((u1 7), .inl (cI, 445, .inl (fun k => nI (Zf k)))), ((u2.1 0), .inr (6, [.int (nI 0), .ref (u2.1 1), .ref (u2.1 2), .int (nI 0), .int (nI 0), .int (nI 0), .ref (u2.1 3), .int (nI 4), .int (nI 4), .int (nI 0), .ref (u2.1 4), .ref (u2.1 5), .ref (u2.1 6), .ref (u2.1 7), .ref (u2.1 8), .int (nI 0), .ref (u2.1 9), .int (nI 0), .ref (u2.1 10), .ref (u2.1 11), .ref (u2.1 12), .ref (u2.1 13), .ref (u2.1 14)])), ((u2.1 1), .inl (cI, 12, .inl (fun k => nI (Zf k)))), (q3, .inl (cJ, 1, .inr (.inl (fun _ => 0))))]) rfl rfl ?_
      exact p1_isClear hlt hC9 u1 u2.1 u2.2 hfl _ hT
    · refine y_tableIn hC 310 dL_law_40 (by decide) (by decide) (off := 270) (by decide) (by decide) ?_
      refine y_sub hC [0, 1, 2, 3, 4] rfl ?_
      refine y_world hC [0, 1, 2, 42, 43, 57] (ws' := [((u1 0), .inr (5, [.ref (u1 1), .ref (u1 8), .ref (u1 9), .ref (u1 12), .ref (u1 19), .int (nI 0), .ref (u1 20), .int (nI 0), .ref (u1 21), .int (nI 0)])), ((u1 1), .inr (0, [.ref (u1 2), .ref (u1 3), .ref (u1 4), .ref (u1 5), .ref (u1 6), .ref (u1 7), .int (nI 0)])), ((u1 2), .inl (cI, 12, .inl (fun k => nI (Zf k)))), ((u2.1 0), .inr (6, [.int (nI 0), .ref (u2.1 1), .ref (u2.1 2), .int (nI 0), .int (nI 0), .int (nI 0), .ref (u2.1 3), .int (nI 4), .int (nI 4), .int (nI 0), .ref (u2.1 4), .ref (u2.1 5), .ref (u2.1 6), .ref (u2.1 7), .ref (u2.1 8), .int (nI 0), .ref (u2.1 9), .int (nI 0), .ref (u2.1 10), .ref (u2.1 11), .ref (u2.1 12), .ref (u2.1 13), .ref (u2.1 14)])), ((u2.1 1), .inl (cI, 12, .inl (fun k => nI (Zf k)))), (q3, .inl (cJ, 1, .inr (.inl (fun _ => 0))))]) rfl rfl ?_
      exact p1_alike hlt hC9 u1 u2.1 u2.2 hfl _ hT
    · refine y_tableIn hC 378 dL_law_40 (by decide) (by decide) (off := 338) (by decide) (by decide) ?_
      refine y_sub hC [0, 1, 2, 3, 4] rfl ?_
      refine y_world hC [0, 1, 2, 42, 43, 57] (ws' := [((u1 0), .inr (5, [.ref (u1 1), .ref (u1 8), .ref (u1 9), .ref (u1 12), .ref (u1 19), .int (nI 0), .ref (u1 20), .int (nI 0), .ref (u1 21), .int (nI 0)])), ((u1 1), .inr (0, [.ref (u1 2), .ref (u1 3), .ref (u1 4), .ref (u1 5), .ref (u1 6), .ref (u1 7), .int (nI 0)])), ((u1 2), .inl (cI, 12, .inl (fun k => nI (Zf k)))), ((u2.1 0), .inr (6, [.int (nI 0), .ref (u2.1 1), .ref (u2.1 2), .int (nI 0), .int (nI 0), .int (nI 0), .ref (u2.1 3), .int (nI 4), .int (nI 4), .int (nI 0), .ref (u2.1 4), .ref (u2.1 5), .ref (u2.1 6), .ref (u2.1 7), .ref (u2.1 8), .int (nI 0), .ref (u2.1 9), .int (nI 0), .ref (u2.1 10), .ref (u2.1 11), .ref (u2.1 12), .ref (u2.1 13), .ref (u2.1 14)])), ((u2.1 1), .inl (cI, 12, .inl (fun k => nI (Zf k)))), (q3, .inl (cJ, 1, .inr (.inl (fun _ => 0))))]) rfl rfl ?_
      exact p1_closest hlt hC9 u1 u2.1 u2.2 hfl _ hT
    · refine y_tableIn hC 391 dL_law_40 (by decide) (by decide) (off := 351) (by decide) (by decide) ?_
      refine y_sub hC [0, 1, 2, 3, 4] rfl ?_
      refine y_world hC [0, 1, 2, 42, 43, 57] (ws' := [((u1 0), .inr (5, [.ref (u1 1), .ref (u1 8), .ref (u1 9), .ref (u1 12), .ref (u1 19), .int (nI 0), .ref (u1 20), .int (nI 0), .ref (u1 21), .int (nI 0)])), ((u1 1), .inr (0, [.ref (u1 2), .ref (u1 3), .ref (u1 4), .ref (u1 5), .ref (u1 6), .ref (u1 7), .int (nI 0)])), ((u1 2), .inl (cI, 12, .inl (fun k => nI (Zf k)))), ((u2.1 0), .inr (6, [.int (nI 0), .ref (u2.1 1), .ref (u2.1 2), .int (nI 0), .int (nI 0), .int (nI 0), .ref (u2.1 3), .int (nI 4), .int (nI 4), .int (nI 0), .ref (u2.1 4), .ref (u2.1 5), .ref (u2.1 6), .ref (u2.1 7), .ref (u2.1 8), .int (nI 0), .ref (u2.1 9), .int (nI 0), .ref (u2.1 10), .ref (u2.1 11), .ref (u2.1 12), .ref (u2.1 13), .ref (u2.1 14)])), ((u2.1 1), .inl (cI, 12, .inl (fun k => nI (Zf k)))), (q3, .inl (cJ, 1, .inr (.inl (fun _ => 0))))]) rfl rfl ?_
      exact p1_advise hlt hC9 u1 u2.1 u2.2 hfl _ hT
    · refine y_tableIn hC 404 dL_law_40 (by decide) (by decide) (off := 364) (by decide) (by decide) ?_
      refine y_sub hC [0, 1, 2, 3, 4] rfl ?_
      refine y_world hC [0, 8, 42, 57] (ws' := [((u1 0), .inr (5, [.ref (u1 1), .ref (u1 8), .ref (u1 9), .ref (u1 12), .ref (u1 19), .int (nI 0), .ref (u1 20), .int (nI 0), .ref (u1 21), .int (nI 0)])), ((u1 8), .inr (3, [.int (nI 0), .int (nI 0), .int (nI 0), .int (nI 0), .int (nI 0)])), ((u2.1 0), .inr (6, [.int (nI 0), .ref (u2.1 1), .ref (u2.1 2), .int (nI 0), .int (nI 0), .int (nI 0), .ref (u2.1 3), .int (nI 4), .int (nI 4), .int (nI 0), .ref (u2.1 4), .ref (u2.1 5), .ref (u2.1 6), .ref (u2.1 7), .ref (u2.1 8), .int (nI 0), .ref (u2.1 9), .int (nI 0), .ref (u2.1 10), .ref (u2.1 11), .ref (u2.1 12), .ref (u2.1 13), .ref (u2.1 14)])), (q3, .inl (cJ, 1, .inr (.inl (fun _ => 0))))]) rfl rfl ?_
      exact p1_setKnotter hlt hC9 u1 u2.1 u2.2 hfl _ hT
    · refine y_tableIn hC 472 dL_law_40 (by decide) (by decide) (off := 432) (by decide) (by decide) ?_
      refine y_sub hC [0, 1, 2, 3, 4] rfl ?_
      refine y_world hC [0, 9, 10, 42, 45, 57] (ws' := [((u1 0), .inr (5, [.ref (u1 1), .ref (u1 8), .ref (u1 9), .ref (u1 12), .ref (u1 19), .int (nI 0), .ref (u1 20), .int (nI 0), .ref (u1 21), .int (nI 0)])), ((u1 9), .inr (2, [.int (nI 4), .int (nI 4), .ref (u1 10), .ref (u1 11)])), ((u1 10), .inl (cI, 25, .inl (fun k => nI (Tf k)))), ((u2.1 0), .inr (6, [.int (nI 0), .ref (u2.1 1), .ref (u2.1 2), .int (nI 0), .int (nI 0), .int (nI 0), .ref (u2.1 3), .int (nI 4), .int (nI 4), .int (nI 0), .ref (u2.1 4), .ref (u2.1 5), .ref (u2.1 6), .ref (u2.1 7), .ref (u2.1 8), .int (nI 0), .ref (u2.1 9), .int (nI 0), .ref (u2.1 10), .ref (u2.1 11), .ref (u2.1 12), .ref (u2.1 13), .ref (u2.1 14)])), ((u2.1 3), .inl (cI, 25, .inl (fun k => nI (u2.2 k)))), (q3, .inl (cJ, 1, .inr (.inl (fun _ => 0))))]) rfl rfl ?_
      exact p1_setFeel hlt hC9 u1 u2.1 u2.2 hfl _ hT
    · refine y_tableIn hC 552 dL_law_40 (by decide) (by decide) (off := 512) (by decide) (by decide) ?_
      refine y_sub hC [0, 1, 2, 3, 4] rfl ?_
      refine y_world hC [0, 9, 42, 57] (ws' := [((u1 0), .inr (5, [.ref (u1 1), .ref (u1 8), .ref (u1 9), .ref (u1 12), .ref (u1 19), .int (nI 0), .ref (u1 20), .int (nI 0), .ref (u1 21), .int (nI 0)])), ((u1 9), .inr (2, [.int (nI 4), .int (nI 4), .ref (u1 10), .ref (u1 11)])), ((u2.1 0), .inr (6, [.int (nI 0), .ref (u2.1 1), .ref (u2.1 2), .int (nI 0), .int (nI 0), .int (nI 0), .ref (u2.1 3), .int (nI 4), .int (nI 4), .int (nI 0), .ref (u2.1 4), .ref (u2.1 5), .ref (u2.1 6), .ref (u2.1 7), .ref (u2.1 8), .int (nI 0), .ref (u2.1 9), .int (nI 0), .ref (u2.1 10), .ref (u2.1 11), .ref (u2.1 12), .ref (u2.1 13), .ref (u2.1 14)])), (q3, .inl (cJ, 1, .inr (.inl (fun _ => 0))))]) rfl rfl ?_
      exact p1_setCosts hlt hC9 u1 u2.1 u2.2 hfl _ hT
    · refine y_tableIn hC 620 dL_law_40 (by decide) (by decide) (off := 580) (by decide) (by decide) ?_
      refine y_sub hC [0, 1, 2, 3, 4] rfl ?_
      refine y_world hC [0, 20, 42, 50, 57] (ws' := [((u1 0), .inr (5, [.ref (u1 1), .ref (u1 8), .ref (u1 9), .ref (u1 12), .ref (u1 19), .int (nI 0), .ref (u1 20), .int (nI 0), .ref (u1 21), .int (nI 0)])), ((u1 20), .inl (cI, 80, .inl (fun k => nI (Zf k)))), ((u2.1 0), .inr (6, [.int (nI 0), .ref (u2.1 1), .ref (u2.1 2), .int (nI 0), .int (nI 0), .int (nI 0), .ref (u2.1 3), .int (nI 4), .int (nI 4), .int (nI 0), .ref (u2.1 4), .ref (u2.1 5), .ref (u2.1 6), .ref (u2.1 7), .ref (u2.1 8), .int (nI 0), .ref (u2.1 9), .int (nI 0), .ref (u2.1 10), .ref (u2.1 11), .ref (u2.1 12), .ref (u2.1 13), .ref (u2.1 14)])), ((u2.1 8), .inl (cI, 80, .inl (fun k => nI (Zf k)))), (q3, .inl (cJ, 1, .inr (.inl (fun _ => 0))))]) rfl rfl ?_
      exact p1_feed hlt hC9 u1 u2.1 u2.2 hfl _ hT
    · refine y_tableIn hC 724 dL_law_40 (by decide) (by decide) (off := 684) (by decide) (by decide) ?_
      refine y_sub hC [0, 1, 2, 3, 4] rfl ?_
      refine y_world hC [0, 42, 57] (ws' := [((u1 0), .inr (5, [.ref (u1 1), .ref (u1 8), .ref (u1 9), .ref (u1 12), .ref (u1 19), .int (nI 0), .ref (u1 20), .int (nI 0), .ref (u1 21), .int (nI 0)])), ((u2.1 0), .inr (6, [.int (nI 0), .ref (u2.1 1), .ref (u2.1 2), .int (nI 0), .int (nI 0), .int (nI 0), .ref (u2.1 3), .int (nI 4), .int (nI 4), .int (nI 0), .ref (u2.1 4), .ref (u2.1 5), .ref (u2.1 6), .ref (u2.1 7), .ref (u2.1 8), .int (nI 0), .ref (u2.1 9), .int (nI 0), .ref (u2.1 10), .ref (u2.1 11), .ref (u2.1 12), .ref (u2.1 13), .ref (u2.1 14)])), (q3, .inl (cJ, 1, .inr (.inl (fun _ => 0))))]) rfl rfl ?_
      exact p1_trim hlt hC9 u1 u2.1 u2.2 hfl _ hT
    · refine y_tableIn hC 780 dL_law_40 (by decide) (by decide) (off := 740) (by decide) (by decide) ?_
      refine y_sub hC [0, 1, 2, 3, 4] rfl ?_
      refine y_world hC [0, 19, 20, 42, 50, 57] (ws' := [((u1 0), .inr (5, [.ref (u1 1), .ref (u1 8), .ref (u1 9), .ref (u1 12), .ref (u1 19), .int (nI 0), .ref (u1 20), .int (nI 0), .ref (u1 21), .int (nI 0)])), ((u1 19), .inl (cO, 10, .inr (.inr (.inr (.inr (fun k => if k < 10 then some (u1 (22 + k)) else none)))))), ((u1 20), .inl (cI, 80, .inl (fun k => nI (Zf k)))), ((u2.1 0), .inr (6, [.int (nI 0), .ref (u2.1 1), .ref (u2.1 2), .int (nI 0), .int (nI 0), .int (nI 0), .ref (u2.1 3), .int (nI 4), .int (nI 4), .int (nI 0), .ref (u2.1 4), .ref (u2.1 5), .ref (u2.1 6), .ref (u2.1 7), .ref (u2.1 8), .int (nI 0), .ref (u2.1 9), .int (nI 0), .ref (u2.1 10), .ref (u2.1 11), .ref (u2.1 12), .ref (u2.1 13), .ref (u2.1 14)])), ((u2.1 8), .inl (cI, 80, .inl (fun k => nI (Zf k)))), (q3, .inl (cJ, 1, .inr (.inl (fun _ => 0))))]) rfl rfl ?_
      exact p1_tie hlt hC9 u1 u2.1 u2.2 hfl _ hT
    · refine y_tableIn hC 824 dL_law_40 (by decide) (by decide) (off := 784) (by decide) (by decide) ?_
      refine y_sub hC [0, 1, 2, 3, 4] rfl ?_
      refine y_world hC [0, 42, 57] (ws' := [((u1 0), .inr (5, [.ref (u1 1), .ref (u1 8), .ref (u1 9), .ref (u1 12), .ref (u1 19), .int (nI 0), .ref (u1 20), .int (nI 0), .ref (u1 21), .int (nI 0)])), ((u2.1 0), .inr (6, [.int (nI 0), .ref (u2.1 1), .ref (u2.1 2), .int (nI 0), .int (nI 0), .int (nI 0), .ref (u2.1 3), .int (nI 4), .int (nI 4), .int (nI 0), .ref (u2.1 4), .ref (u2.1 5), .ref (u2.1 6), .ref (u2.1 7), .ref (u2.1 8), .int (nI 0), .ref (u2.1 9), .int (nI 0), .ref (u2.1 10), .ref (u2.1 11), .ref (u2.1 12), .ref (u2.1 13), .ref (u2.1 14)])), (q3, .inl (cJ, 1, .inr (.inl (fun _ => 0))))]) rfl rfl ?_
      exact p1_cord hlt hC9 u1 u2.1 u2.2 hfl _ hT
    · refine y_tableIn hC 892 dL_law_40 (by decide) (by decide) (off := 852) (by decide) (by decide) ?_
      refine y_sub hC [0, 1, 2, 3, 4] rfl ?_
      refine y_world hC [0, 42, 57] (ws' := [((u1 0), .inr (5, [.ref (u1 1), .ref (u1 8), .ref (u1 9), .ref (u1 12), .ref (u1 19), .int (nI 0), .ref (u1 20), .int (nI 0), .ref (u1 21), .int (nI 0)])), ((u2.1 0), .inr (6, [.int (nI 0), .ref (u2.1 1), .ref (u2.1 2), .int (nI 0), .int (nI 0), .int (nI 0), .ref (u2.1 3), .int (nI 4), .int (nI 4), .int (nI 0), .ref (u2.1 4), .ref (u2.1 5), .ref (u2.1 6), .ref (u2.1 7), .ref (u2.1 8), .int (nI 0), .ref (u2.1 9), .int (nI 0), .ref (u2.1 10), .ref (u2.1 11), .ref (u2.1 12), .ref (u2.1 13), .ref (u2.1 14)])), (q3, .inl (cJ, 1, .inr (.inl (fun _ => 0))))]) rfl rfl ?_
      exact p1_knot hlt hC9 u1 u2.1 u2.2 hfl _ hT
    · refine y_tableIn hC 960 dL_law_40 (by decide) (by decide) (off := 920) (by decide) (by decide) ?_
      refine y_sub hC [0, 1, 2, 3, 4] rfl ?_
      refine y_world hC [0, 42, 57] (ws' := [((u1 0), .inr (5, [.ref (u1 1), .ref (u1 8), .ref (u1 9), .ref (u1 12), .ref (u1 19), .int (nI 0), .ref (u1 20), .int (nI 0), .ref (u1 21), .int (nI 0)])), ((u2.1 0), .inr (6, [.int (nI 0), .ref (u2.1 1), .ref (u2.1 2), .int (nI 0), .int (nI 0), .int (nI 0), .ref (u2.1 3), .int (nI 4), .int (nI 4), .int (nI 0), .ref (u2.1 4), .ref (u2.1 5), .ref (u2.1 6), .ref (u2.1 7), .ref (u2.1 8), .int (nI 0), .ref (u2.1 9), .int (nI 0), .ref (u2.1 10), .ref (u2.1 11), .ref (u2.1 12), .ref (u2.1 13), .ref (u2.1 14)])), (q3, .inl (cJ, 1, .inr (.inl (fun _ => 0))))]) rfl rfl ?_
      exact p1_retie hlt hC9 u1 u2.1 u2.2 hfl _ hT
    · refine y_tableIn hC 1040 dL_law_40 (by decide) (by decide) (off := 1000) (by decide) (by decide) ?_
      refine y_sub hC [0, 1, 2, 3, 4] rfl ?_
      refine y_world hC [0, 42, 57] (ws' := [((u1 0), .inr (5, [.ref (u1 1), .ref (u1 8), .ref (u1 9), .ref (u1 12), .ref (u1 19), .int (nI 0), .ref (u1 20), .int (nI 0), .ref (u1 21), .int (nI 0)])), ((u2.1 0), .inr (6, [.int (nI 0), .ref (u2.1 1), .ref (u2.1 2), .int (nI 0), .int (nI 0), .int (nI 0), .ref (u2.1 3), .int (nI 4), .int (nI 4), .int (nI 0), .ref (u2.1 4), .ref (u2.1 5), .ref (u2.1 6), .ref (u2.1 7), .ref (u2.1 8), .int (nI 0), .ref (u2.1 9), .int (nI 0), .ref (u2.1 10), .ref (u2.1 11), .ref (u2.1 12), .ref (u2.1 13), .ref (u2.1 14)])), (q3, .inl (cJ, 1, .inr (.inl (fun _ => 0))))]) rfl rfl ?_
      exact p1_distance hlt hC9 u1 u2.1 u2.2 hfl _ hT
    · refine y_tableIn hC 1108 dL_law_40 (by decide) (by decide) (off := 1068) (by decide) (by decide) ?_
      refine y_sub hC [0, 1, 2, 3, 4] rfl ?_
      refine y_world hC [0, 42, 57] (ws' := [((u1 0), .inr (5, [.ref (u1 1), .ref (u1 8), .ref (u1 9), .ref (u1 12), .ref (u1 19), .int (nI 0), .ref (u1 20), .int (nI 0), .ref (u1 21), .int (nI 0)])), ((u2.1 0), .inr (6, [.int (nI 0), .ref (u2.1 1), .ref (u2.1 2), .int (nI 0), .int (nI 0), .int (nI 0), .ref (u2.1 3), .int (nI 4), .int (nI 4), .int (nI 0), .ref (u2.1 4), .ref (u2.1 5), .ref (u2.1 6), .ref (u2.1 7), .ref (u2.1 8), .int (nI 0), .ref (u2.1 9), .int (nI 0), .ref (u2.1 10), .ref (u2.1 11), .ref (u2.1 12), .ref (u2.1 13), .ref (u2.1 14)])), (q3, .inl (cJ, 1, .inr (.inl (fun _ => 0))))]) rfl rfl ?_
      exact p1_nearest hlt hC9 u1 u2.1 u2.2 hfl _ hT
    · refine y_tableIn hC 1164 dL_law_40 (by decide) (by decide) (off := 1124) (by decide) (by decide) ?_
      refine y_sub hC [0, 1, 2, 3, 4] rfl ?_
      refine y_world hC [0, 42, 57] (ws' := [((u1 0), .inr (5, [.ref (u1 1), .ref (u1 8), .ref (u1 9), .ref (u1 12), .ref (u1 19), .int (nI 0), .ref (u1 20), .int (nI 0), .ref (u1 21), .int (nI 0)])), ((u2.1 0), .inr (6, [.int (nI 0), .ref (u2.1 1), .ref (u2.1 2), .int (nI 0), .int (nI 0), .int (nI 0), .ref (u2.1 3), .int (nI 4), .int (nI 4), .int (nI 0), .ref (u2.1 4), .ref (u2.1 5), .ref (u2.1 6), .ref (u2.1 7), .ref (u2.1 8), .int (nI 0), .ref (u2.1 9), .int (nI 0), .ref (u2.1 10), .ref (u2.1 11), .ref (u2.1 12), .ref (u2.1 13), .ref (u2.1 14)])), (q3, .inl (cJ, 1, .inr (.inl (fun _ => 0))))]) rfl rfl ?_
      exact p1_read hlt hC9 u1 u2.1 u2.2 hfl _ hT
    · refine y_tableIn hC 1220 dL_law_40 (by decide) (by decide) (off := 1180) (by decide) (by decide) ?_
      refine y_sub hC [0, 1, 2, 3, 4] rfl ?_
      refine y_world hC [0, 42, 57] (ws' := [((u1 0), .inr (5, [.ref (u1 1), .ref (u1 8), .ref (u1 9), .ref (u1 12), .ref (u1 19), .int (nI 0), .ref (u1 20), .int (nI 0), .ref (u1 21), .int (nI 0)])), ((u2.1 0), .inr (6, [.int (nI 0), .ref (u2.1 1), .ref (u2.1 2), .int (nI 0), .int (nI 0), .int (nI 0), .ref (u2.1 3), .int (nI 4), .int (nI 4), .int (nI 0), .ref (u2.1 4), .ref (u2.1 5), .ref (u2.1 6), .ref (u2.1 7), .ref (u2.1 8), .int (nI 0), .ref (u2.1 9), .int (nI 0), .ref (u2.1 10), .ref (u2.1 11), .ref (u2.1 12), .ref (u2.1 13), .ref (u2.1 14)])), (q3, .inl (cJ, 1, .inr (.inl (fun _ => 0))))]) rfl rfl ?_
      exact p1_byteAt hlt hC9 u1 u2.1 u2.2 hfl _ hT
    · refine y_tableIn hC 1276 dL_law_40 (by decide) (by decide) (off := 1236) (by decide) (by decide) ?_
      refine y_sub hC [0, 1, 2, 3, 4] rfl ?_
      refine y_world hC [0, 1, 2, 8, 42, 43, 57] (ws' := [((u1 0), .inr (5, [.ref (u1 1), .ref (u1 8), .ref (u1 9), .ref (u1 12), .ref (u1 19), .int (nI 0), .ref (u1 20), .int (nI 0), .ref (u1 21), .int (nI 0)])), ((u1 1), .inr (0, [.ref (u1 2), .ref (u1 3), .ref (u1 4), .ref (u1 5), .ref (u1 6), .ref (u1 7), .int (nI 0)])), ((u1 2), .inl (cI, 12, .inl (fun k => nI (Zf k)))), ((u1 8), .inr (3, [.int (nI 0), .int (nI 0), .int (nI 0), .int (nI 0), .int (nI 0)])), ((u2.1 0), .inr (6, [.int (nI 0), .ref (u2.1 1), .ref (u2.1 2), .int (nI 0), .int (nI 0), .int (nI 0), .ref (u2.1 3), .int (nI 4), .int (nI 4), .int (nI 0), .ref (u2.1 4), .ref (u2.1 5), .ref (u2.1 6), .ref (u2.1 7), .ref (u2.1 8), .int (nI 0), .ref (u2.1 9), .int (nI 0), .ref (u2.1 10), .ref (u2.1 11), .ref (u2.1 12), .ref (u2.1 13), .ref (u2.1 14)])), ((u2.1 1), .inl (cI, 12, .inl (fun k => nI (Zf k)))), (q3, .inl (cJ, 1, .inr (.inl (fun _ => 0))))]) rfl rfl ?_
      exact p1_count hlt hC9 u1 u2.1 u2.2 hfl _ hT
    · refine y_tableIn hC 1332 dL_law_40 (by decide) (by decide) (off := 1292) (by decide) (by decide) ?_
      refine y_sub hC [0, 1, 2, 3, 4] rfl ?_
      refine y_world hC [0, 1, 2, 42, 43, 57] (ws' := [((u1 0), .inr (5, [.ref (u1 1), .ref (u1 8), .ref (u1 9), .ref (u1 12), .ref (u1 19), .int (nI 0), .ref (u1 20), .int (nI 0), .ref (u1 21), .int (nI 0)])), ((u1 1), .inr (0, [.ref (u1 2), .ref (u1 3), .ref (u1 4), .ref (u1 5), .ref (u1 6), .ref (u1 7), .int (nI 0)])), ((u1 2), .inl (cI, 12, .inl (fun k => nI (Zf k)))), ((u2.1 0), .inr (6, [.int (nI 0), .ref (u2.1 1), .ref (u2.1 2), .int (nI 0), .int (nI 0), .int (nI 0), .ref (u2.1 3), .int (nI 4), .int (nI 4), .int (nI 0), .ref (u2.1 4), .ref (u2.1 5), .ref (u2.1 6), .ref (u2.1 7), .ref (u2.1 8), .int (nI 0), .ref (u2.1 9), .int (nI 0), .ref (u2.1 10), .ref (u2.1 11), .ref (u2.1 12), .ref (u2.1 13), .ref (u2.1 14)])), ((u2.1 1), .inl (cI, 12, .inl (fun k => nI (Zf k)))), (q3, .inl (cJ, 1, .inr (.inl (fun _ => 0))))]) rfl rfl ?_
      exact p1_mean hlt hC9 u1 u2.1 u2.2 hfl _ hT
    · refine y_tableIn hC 1373 dL_law_40 (by decide) (by decide) (off := 1333) (by decide) (by decide) ?_
      refine y_sub hC [0, 1, 2, 3, 4] rfl ?_
      refine y_world hC [0, 1, 2, 3, 4, 8, 42, 43, 44, 57] (ws' := [((u1 0), .inr (5, [.ref (u1 1), .ref (u1 8), .ref (u1 9), .ref (u1 12), .ref (u1 19), .int (nI 0), .ref (u1 20), .int (nI 0), .ref (u1 21), .int (nI 0)])), ((u1 1), .inr (0, [.ref (u1 2), .ref (u1 3), .ref (u1 4), .ref (u1 5), .ref (u1 6), .ref (u1 7), .int (nI 0)])), ((u1 2), .inl (cI, 12, .inl (fun k => nI (Zf k)))), ((u1 3), .inl (cI, 12, .inl (fun k => nI (Zf k)))), ((u1 4), .inl (cI, 12, .inl (fun k => nI (Zf k)))), ((u1 8), .inr (3, [.int (nI 0), .int (nI 0), .int (nI 0), .int (nI 0), .int (nI 0)])), ((u2.1 0), .inr (6, [.int (nI 0), .ref (u2.1 1), .ref (u2.1 2), .int (nI 0), .int (nI 0), .int (nI 0), .ref (u2.1 3), .int (nI 4), .int (nI 4), .int (nI 0), .ref (u2.1 4), .ref (u2.1 5), .ref (u2.1 6), .ref (u2.1 7), .ref (u2.1 8), .int (nI 0), .ref (u2.1 9), .int (nI 0), .ref (u2.1 10), .ref (u2.1 11), .ref (u2.1 12), .ref (u2.1 13), .ref (u2.1 14)])), ((u2.1 1), .inl (cI, 12, .inl (fun k => nI (Zf k)))), ((u2.1 2), .inl (cI, 12, .inl (fun k => nI (Zf k)))), (q3, .inl (cJ, 1, .inr (.inl (fun _ => 0))))]) rfl rfl ?_
      exact p1_digest hlt hC9 u1 u2.1 u2.2 hfl _ hT
    · refine y_tableOut hC 1387 dL_law_40 (by decide) (by decide) ?_
      refine y_world hC [] (ws' := []) rfl rfl ?_
      refine y_sub hC [0, 4] rfl ?_
      exact hT _ _ (Nat.le_of_ble_eq_true rfl) (Nat.le_of_ble_eq_true rfl)
    · refine y_tableOut hC 1387 dL_law_40 (by decide) (by decide) ?_
      refine y_world hC [] (ws' := []) rfl rfl ?_
      refine y_sub hC [0, 4] rfl ?_
      exact hT _ _ (Nat.le_of_ble_eq_true rfl) (Nat.le_of_ble_eq_true rfl)
    · refine y_tableOut hC 1387 dL_law_40 (by decide) (by decide) ?_
      refine y_world hC [] (ws' := []) rfl rfl ?_
      refine y_sub hC [0, 4] rfl ?_
      exact hT _ _ (Nat.le_of_ble_eq_true rfl) (Nat.le_of_ble_eq_true rfl)
    · refine y_tableOut hC 1387 dL_law_40 (by decide) (by decide) ?_
      refine y_world hC [] (ws' := []) rfl rfl ?_
      refine y_sub hC [0, 4] rfl ?_
      exact hT _ _ (Nat.le_of_ble_eq_true rfl) (Nat.le_of_ble_eq_true rfl)
    · refine y_tableOut hC 1387 dL_law_40 (by decide) (by decide) ?_
      refine y_world hC [] (ws' := []) rfl rfl ?_
      refine y_sub hC [0, 4] rfl ?_
      exact hT _ _ (Nat.le_of_ble_eq_true rfl) (Nat.le_of_ble_eq_true rfl)
    · refine y_tableOut hC 1387 dL_law_40 (by decide) (by decide) ?_
      refine y_world hC [] (ws' := []) rfl rfl ?_
      refine y_sub hC [0, 4] rfl ?_
      exact hT _ _ (Nat.le_of_ble_eq_true rfl) (Nat.le_of_ble_eq_true rfl)
    · refine y_tableOut hC 1387 dL_law_40 (by decide) (by decide) ?_
      refine y_world hC [] (ws' := []) rfl rfl ?_
      refine y_sub hC [0, 4] rfl ?_
      exact hT _ _ (Nat.le_of_ble_eq_true rfl) (Nat.le_of_ble_eq_true rfl)
    · refine y_tableOut hC 1387 dL_law_40 (by decide) (by decide) ?_
      refine y_world hC [] (ws' := []) rfl rfl ?_
      refine y_sub hC [0, 4] rfl ?_
      exact hT _ _ (Nat.le_of_ble_eq_true rfl) (Nat.le_of_ble_eq_true rfl)
    · refine y_tableOut hC 1387 dL_law_40 (by decide) (by decide) ?_
      refine y_world hC [] (ws' := []) rfl rfl ?_
      refine y_sub hC [0, 4] rfl ?_
      exact hT _ _ (Nat.le_of_ble_eq_true rfl) (Nat.le_of_ble_eq_true rfl)
end P1L
