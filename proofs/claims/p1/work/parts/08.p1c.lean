section P1C
variable {l : Launch} {D : va_G} {cI cO cJ cZ : ClassId}
/-- the class's fresh object -/
abbrev kOb (b : Nat → Nat) : va_E := .inr (5, [.ref (b 1), .ref (b 8), .ref (b 9), .ref (b 12), .ref (b 19), .int (nI 0), .ref (b 20), .int (nI 0), .ref (b 21), .int (nI 0)])
/-- its costs of taking one kind for another, at first -/
def Tf : Nat → Nat := fun _ => 3
set_option maxHeartbeats 4000000 in
set_option maxRecDepth 100000 in
theorem q_X5_isNoLetter (x : Int32)  : MI l D (tyL cI cO cJ cZ) yX5_isNoLetter cX5_isNoLetter 1 .boolean ({ frames := 0, cells := 0, slots := 0, locals := 0 } : Room) [.int x] ([]) (fun r (u : Nat) => r = nI u ∧ ((u = 1 ∧ (x.toInt < 0 ∨ 12 ≤ x.toInt)) ∨ (u = 0 ∧ (0 ≤ x.toInt ∧ x.toInt < 12)))) (fun _ => []) := by
  refine MI.of (by decide) (Nat.le_of_ble_eq_true rfl) (fun G hC hE => ?_)
  show G 0 0 ([]) 0 [(0, .int x)] []
  refine y_iload_n hC dX5_isNoLetter_0 0 rfl rfl ?_
  refine y_if_lt_z hC 10 dX5_isNoLetter_1 (by decide) (fun c1 => ?_) (fun c1 => ?_)
  · refine y_iconst hC (v := nI 1) dX5_isNoLetter_10 rfl ?_
    refine y_goto hC 15 dX5_isNoLetter_11 (by decide) ?_
    exact hE (nI 1) 1 _ _ _ _ dX5_isNoLetter_15 (Nat.le_of_ble_eq_true rfl) (Nat.le_of_ble_eq_true rfl) rfl ⟨rfl, by omega⟩
  · refine y_iload_n hC dX5_isNoLetter_4 0 rfl rfl ?_
    refine y_bipush hC (v := nI 12) dX5_isNoLetter_5 rfl ?_
    refine y_icmp_lt_z hC 14 dX5_isNoLetter_7 (by decide) 12 rfl (by omega) (fun c7 => ?_) (fun c7 => ?_)
    · refine y_iconst hC (v := nI 0) dX5_isNoLetter_14 rfl ?_
      exact hE (nI 0) 0 _ _ _ _ dX5_isNoLetter_15 (Nat.le_of_ble_eq_true rfl) (Nat.le_of_ble_eq_true rfl) rfl ⟨rfl, by omega⟩
    · refine y_iconst hC (v := nI 1) dX5_isNoLetter_10 rfl ?_
      refine y_goto hC 15 dX5_isNoLetter_11 (by decide) ?_
      exact hE (nI 1) 1 _ _ _ _ dX5_isNoLetter_15 (Nat.le_of_ble_eq_true rfl) (Nat.le_of_ble_eq_true rfl) rfl ⟨rfl, by omega⟩
set_option maxHeartbeats 4000000 in
set_option maxRecDepth 100000 in
theorem q_X5_isNoKind (x : Int32)  : MI l D (tyL cI cO cJ cZ) yX5_isNoKind cX5_isNoKind 1 .boolean ({ frames := 0, cells := 0, slots := 0, locals := 0 } : Room) [.int x] ([]) (fun r (u : Nat) => r = nI u ∧ ((u = 1 ∧ (x.toInt < 1 ∨ 4 < x.toInt)) ∨ (u = 0 ∧ (1 ≤ x.toInt ∧ x.toInt ≤ 4)))) (fun _ => []) := by
  refine MI.of (by decide) (Nat.le_of_ble_eq_true rfl) (fun G hC hE => ?_)
  show G 0 0 ([]) 0 [(0, .int x)] []
  refine y_iload_n hC dX5_isNoKind_0 0 rfl rfl ?_
  refine y_iconst hC (v := nI 1) dX5_isNoKind_1 rfl ?_
  refine y_icmp_lt_z hC 10 dX5_isNoKind_2 (by decide) 1 rfl (by omega) (fun c2 => ?_) (fun c2 => ?_)
  · refine y_iconst hC (v := nI 1) dX5_isNoKind_10 rfl ?_
    refine y_goto hC 15 dX5_isNoKind_11 (by decide) ?_
    exact hE (nI 1) 1 _ _ _ _ dX5_isNoKind_15 (Nat.le_of_ble_eq_true rfl) (Nat.le_of_ble_eq_true rfl) rfl ⟨rfl, by omega⟩
  · refine y_iload_n hC dX5_isNoKind_5 0 rfl rfl ?_
    refine y_iconst hC (v := nI 4) dX5_isNoKind_6 rfl ?_
    refine y_icmp_le_z hC 14 dX5_isNoKind_7 (by decide) 4 rfl (by omega) (fun c7 => ?_) (fun c7 => ?_)
    · refine y_iconst hC (v := nI 0) dX5_isNoKind_14 rfl ?_
      exact hE (nI 0) 0 _ _ _ _ dX5_isNoKind_15 (Nat.le_of_ble_eq_true rfl) (Nat.le_of_ble_eq_true rfl) rfl ⟨rfl, by omega⟩
    · refine y_iconst hC (v := nI 1) dX5_isNoKind_10 rfl ?_
      refine y_goto hC 15 dX5_isNoKind_11 (by decide) ?_
      exact hE (nI 1) 1 _ _ _ _ dX5_isNoKind_15 (Nat.le_of_ble_eq_true rfl) (Nat.le_of_ble_eq_true rfl) rfl ⟨rfl, by omega⟩
theorem nS_X5_mixed : yS yX5_mixed cX5_mixed 3 (some .long) 2 := ⟨(inLr29 _ (List.mem_of_getElem? (i := 3) rfl)), (inLr1 _ (List.mem_of_getElem? (i := 2) rfl)), (inLr29 _ (List.mem_of_getElem? (i := 4) rfl)), ⟨by decide, by decide, by decide +kernel⟩⟩
set_option maxHeartbeats 4000000 in
set_option maxRecDepth 100000 in
theorem q_X5_mixed (d : Int64) (x : Int32)  : ML l D (tyL cI cO cJ cZ) yX5_mixed cX5_mixed 3 ({ frames := 0, cells := 0, slots := 0, locals := 0 } : Room) [.long d, .int x] ([]) (fun r (_ : Unit) => r = d * lN 31 + x.toInt64) (fun _ => []) := by
  refine ML.of (by decide) (Nat.le_of_ble_eq_true rfl) (fun G hC hE => ?_)
  show G 0 0 ([]) 0 [(0, .long d), (2, .int x)] []
  refine y_lload_n hC dX5_mixed_0 0 rfl rfl ?_
  refine y_ldc2 hC (v := lN 31) dX5_mixed_1 (inLr29 _ (List.mem_of_getElem? (i := 5) rfl)) ?_
  refine y_lmul hC (v := d * (lN 31)) dX5_mixed_4 rfl ?_
  refine y_iload_n hC dX5_mixed_5 1 rfl rfl ?_
  refine y_i2l hC (v := (x).toInt64) dX5_mixed_6 rfl ?_
  refine y_ladd hC (v := (d * (lN 31)) + ((x).toInt64)) dX5_mixed_7 rfl ?_
  exact hE ((d * (lN 31)) + ((x).toInt64)) () _ _ _ _ dX5_mixed_8 (Nat.le_of_ble_eq_true rfl) (Nat.le_of_ble_eq_true rfl) rfl
theorem nS_X0_isRow : yS yX0_isRow cX0_isRow 2 (some .boolean) 1 := ⟨(inLr5 _ (List.mem_of_getElem? (i := 19) rfl)), (inLr1 _ (List.mem_of_getElem? (i := 15) rfl)), (inLr5 _ (List.mem_of_getElem? (i := 20) rfl)), ⟨by decide, by decide, by decide +kernel⟩⟩
/-- a row of at least one knot -/
def rowQ (x : Int32) : Prop := 1 ≤ x.toInt ∧ x.toInt ≤ 4444 ∧ okD x.toInt.toNat
theorem rowP_Q (x : Int32) : rowP x ↔ x.toInt = 0 ∨ rowQ x := by
  unfold rowP rowQ
  constructor
  · rintro ⟨h1, h2, h3⟩
    have h4 := okD_le (by omega) h3
    by_cases h : x.toInt = 0
    · exact Or.inl h
    · exact Or.inr ⟨by omega, by omega, h3⟩
  · rintro (h | ⟨h1, h2, h3⟩)
    · rw [h]; exact ⟨by omega, by omega, okD_0⟩
    · exact ⟨by omega, by omega, h3⟩
set_option maxHeartbeats 4000000 in
set_option maxRecDepth 100000 in
theorem q_X0_isRow (x : Int32) : MI l D (tyL cI cO cJ cZ) yX0_isRow cX0_isRow 2 .boolean ({ frames := 1, cells := 0, slots := 0, locals := 40 } : Room) [.int x] [] (fun r (u : Nat) => r = nI u ∧ u ≤ 1 ∧ (u = 1 ↔ rowQ x)) (fun _ => []) := by
  refine MI.of (by decide) (Nat.le_of_ble_eq_true rfl) (fun G hC hE => ?_)
  show G 0 0 ([]) 0 [(0, .int x)] []
  refine y_iload_n hC dX0_isRow_0 0 rfl rfl ?_
  refine y_iconst hC (v := nI 1) dX0_isRow_1 rfl ?_
  refine y_icmp_lt_z hC 12 dX0_isRow_2 (by decide) 1 rfl (by omega) (fun c2 => ?_) (fun c2 => ?_)
  · refine y_iconst hC (v := nI 0) dX0_isRow_12 rfl ?_
    exact hE (nI 0) 0 _ _ _ _ dX0_isRow_13 (Nat.le_of_ble_eq_true rfl) (Nat.le_of_ble_eq_true rfl) rfl ⟨rfl, by omega, fun h => absurd h (by omega), fun h => absurd h (fun q => by have h1 := q.1; have h2 := q.2.1; omega)⟩
  · refine y_iload_n hC dX0_isRow_5 0 rfl rfl ?_
    refine y_sipush hC (v := nI 4444) dX0_isRow_6 rfl ?_
    refine y_icmp_le_z hC 14 dX0_isRow_9 (by decide) 4444 rfl (by omega) (fun c9 => ?_) (fun c9 => ?_)
    · obtain ⟨x0, hx0, rfl⟩ := i32_nat (x := x) (n := 4445) (by omega) (by omega)
      have ex0 := nI_toInt (show x0 < 2 ^ 31 by omega)
      have hq : rowQ (nI x0) ↔ okD x0 := by unfold rowQ; rw [ex0, Int.toNat_natCast]; exact ⟨fun h => h.2.2, fun h => ⟨by omega, by omega, h⟩⟩
      refine y_iload_n hC dX0_isRow_14 0 rfl rfl ?_
      refine y_istore_n hC [(1, .int (nI x0)), (0, .int (nI x0))] dX0_isRow_15 rfl (by decide) rfl ?_
      have L16_l1 : ∀ (n : Nat) (left : Nat), (left < n) → (left < 10000) → (okD left ↔ okD x0) → G 0 0 ([]) 16 [(0, .int (nI x0)), (1, .int (nI left))] [] := by
        intro n
        induction n with
        | zero => intro left h1 h2 h4; omega
        | succ n ihr =>
          intro left h1 h2 h4
          refine y_iload_n hC dX0_isRow_16 1 rfl rfl ?_
          refine y_if_le_n hC 40 dX0_isRow_17 (by decide) left rfl (by omega) (fun c17 => ?_) (fun c17 => ?_)
          · refine y_iconst hC (v := nI 1) dX0_isRow_40 rfl ?_
            exact hE (nI 1) 1 _ _ _ _ dX0_isRow_41 (Nat.le_of_ble_eq_true rfl) (Nat.le_of_ble_eq_true rfl) rfl ⟨rfl, by omega, fun _ => hq.mpr (h4.mp (by rw [c17]; exact okD_0)), fun _ => rfl⟩
          · refine y_iload_n hC dX0_isRow_20 1 rfl rfl ?_
            refine y_bipush hC (v := nI 10) dX0_isRow_21 rfl ?_
            refine y_irem hC (v := nI (left % 10)) dX0_isRow_23 (by decide) (pk_rem (by omega) (by decide) (by decide)) ?_
            refine y_callNS_i hC (As := [.int (nI (left % 10))]) (rest := []) (q_X5_isNoKind (nI (left % 10))) nS_X5_isNoKind (by decide) [] [] [] (fun u => []) rfl rfl rfl rfl (by decide) rfl (fun _ => rfl) rfl rfl (Nat.le_of_ble_eq_true rfl) dX0_isRow_24 ⟨(Nat.le_of_ble_eq_true rfl), (Nat.le_of_ble_eq_true rfl)⟩ ⟨(Nat.le_of_ble_eq_true rfl), (Nat.le_of_ble_eq_true rfl)⟩ (fun r1 u1 hw1 => ?_)
            obtain ⟨rfl, hb_u1⟩ := hw1
            rw [nI_toInt (show left % 10 < 2 ^ 31 by omega)] at hb_u1
            refine y_if_eq_n hC 32 dX0_isRow_27 (by decide) u1 rfl (by omega) (fun c27 => ?_) (fun c27 => ?_)
            · have hstep : okD (left / 10) ↔ okD x0 := by rw [← h4, okD_step c17]; exact ⟨fun h => ⟨by omega, h⟩, fun h => h.2⟩
              refine y_iload_n hC dX0_isRow_32 1 rfl rfl ?_
              refine y_bipush hC (v := nI 10) dX0_isRow_33 rfl ?_
              refine y_idiv hC (v := nI (left / 10)) dX0_isRow_35 (by decide) (pk_div (by omega) (by decide) (by decide)) ?_
              refine y_istore_n hC [(1, .int (nI (left / 10))), (0, .int (nI x0))] dX0_isRow_36 rfl (by decide) rfl ?_
              refine y_goto hC 16 dX0_isRow_37 (by decide) ?_
              refine y_sub hC [1, 0] rfl ?_
              exact ihr _ (by omega) (by omega) hstep
            · refine y_iconst hC (v := nI 0) dX0_isRow_30 rfl ?_
              exact hE (nI 0) 0 _ _ _ _ dX0_isRow_31 (Nat.le_of_ble_eq_true rfl) (Nat.le_of_ble_eq_true rfl) rfl ⟨rfl, by omega, fun h => absurd h (by omega), fun h => absurd (hq.mp h) (fun q => by rw [← h4, okD_step c17] at q; omega)⟩
      refine y_sub hC [1, 0] rfl ?_
      exact L16_l1 10001 x0 (by omega) (by omega) Iff.rfl
    · refine y_iconst hC (v := nI 0) dX0_isRow_12 rfl ?_
      exact hE (nI 0) 0 _ _ _ _ dX0_isRow_13 (Nat.le_of_ble_eq_true rfl) (Nat.le_of_ble_eq_true rfl) rfl ⟨rfl, by omega, fun h => absurd h (by omega), fun h => absurd h (fun q => by have h1 := q.1; have h2 := q.2.1; omega)⟩
theorem decs (a : Nat) : nI a + Int32.ofInt (-1) = nI a - nI 1 := by
  rw [Int32.sub_eq_add_neg]; rfl
theorem nV_X0_put : yV yX0_put RX0 cX0_put 6 none 2 := ⟨(inLr6 _ (List.mem_of_getElem? (i := 0) rfl)), (inLr6 _ (List.mem_of_getElem? (i := 1) rfl)), (inLr1 _ (List.mem_of_getElem? (i := 15) rfl)), (inLr6 _ (List.mem_of_getElem? (i := 2) rfl)), rfl, by decide, by decide, by decide +kernel⟩
set_option maxHeartbeats 4000000 in
set_option maxRecDepth 100000 in
theorem q_X0_put (b : Nat → Nat) (j : Nat) (row : Nat) (hj : j < 12) (hr : row < 10000) : MV l D (tyL cI cO cJ cZ) yX0_put cX0_put 6 ({ frames := 0, cells := 0, slots := 0, locals := 0 } : Room) [.ref (b 1), .int (nI j), .int (nI row)] ([((b 1), .inr (0, [.ref (b 2), .ref (b 3), .ref (b 4), .ref (b 5), .ref (b 6), .ref (b 7), .int (nI 0)])), ((b 2), .inl (cI, 12, .inl (fun k => nI (Zf k)))), ((b 3), .inl (cI, 12, .inl (fun k => nI (Zf k)))), ((b 5), .inl (cI, 48, .inl (fun k => nI (Zf k))))]) (fun (_ : Unit) => True) (fun _ => []) := by
  refine MV.of (by decide) (Nat.le_of_ble_eq_true rfl) (fun G hC hE => ?_)
  show G 0 0 ([((b 1), .inr (0, [.ref (b 2), .ref (b 3), .ref (b 4), .ref (b 5), .ref (b 6), .ref (b 7), .int (nI 0)])), ((b 2), .inl (cI, 12, .inl (fun k => nI (Zf k)))), ((b 3), .inl (cI, 12, .inl (fun k => nI (Zf k)))), ((b 5), .inl (cI, 48, .inl (fun k => nI (Zf k))))]) 0 [(0, .ref (b 1)), (1, .int (nI j)), (2, .int (nI row))] []
  refine y_aload_n hC dX0_put_0 0 rfl rfl ?_
  refine y_get hC cC0 0 rfl 0 (by decide) (inLr2 _ (List.mem_of_getElem? (i := 15) rfl)) rfl dX0_put_1 ?_
  refine y_iload_n hC dX0_put_4 1 rfl rfl ?_
  refine y_iload_n hC dX0_put_5 2 rfl rfl ?_
  refine y_iast hC 1 0 rfl rfl j rfl (by omega) (by decide) dX0_put_6 ([((b 1), .inr (0, [.ref (b 2), .ref (b 3), .ref (b 4), .ref (b 5), .ref (b 6), .ref (b 7), .int (nI 0)])), ((b 2), .inl (cI, 12, .inl (fun k => nI ((updN Zf j row) k)))), ((b 3), .inl (cI, 12, .inl (fun k => nI (Zf k)))), ((b 5), .inl (cI, 48, .inl (fun k => nI (Zf k))))]) (by rw [← updN_eq]; rfl) ?_
  refine y_iconst hC (v := nI 0) dX0_put_7 rfl ?_
  refine y_istore_n hC [(3, .int (nI 0)), (0, .ref (b 1)), (1, .int (nI j)), (2, .int (nI row))] dX0_put_8 rfl (by decide) rfl ?_
  refine y_iload_n hC dX0_put_9 3 rfl rfl ?_
  refine y_istore hC [(4, .int (nI row)), (3, .int (nI 0)), (0, .ref (b 1)), (1, .int (nI j)), (2, .int (nI row))] dX0_put_10 (by decide) rfl ?_
  have L12_l1 : ∀ (n : Nat) (s left : Nat), (left < n) → ((s = 0 ∧ left < 10000) ∨ (s = 1 ∧ left < 1000) ∨ (s = 2 ∧ left < 100) ∨ (s = 3 ∧ left < 10) ∨ (s = 4 ∧ left = 0)) → G 0 0 ([((b 1), .inr (0, [.ref (b 2), .ref (b 3), .ref (b 4), .ref (b 5), .ref (b 6), .ref (b 7), .int (nI 0)])), ((b 2), .inl (cI, 12, .inl (fun k => nI ((updN Zf j row) k)))), ((b 3), .inl (cI, 12, .inl (fun k => nI (Zf k)))), ((b 5), .inl (cI, 48, .inl (fun k => nI (Zf k))))]) 12 [(0, .ref (b 1)), (1, .int (nI j)), (2, .int (nI row)), (3, .int (nI s)), (4, .int (nI left))] [] := by
    intro n
    induction n with
    | zero => intro s left h1 h2; omega
    | succ n iha =>
      intro s left h1 h2
      refine y_iload hC dX0_put_12 4 rfl ?_
      refine y_if_le_n hC 30 dX0_put_14 (by decide) left rfl (by omega) (fun c14 => ?_) (fun c14 => ?_)
      · refine y_aload_n hC dX0_put_30 0 rfl rfl ?_
        refine y_get hC cC0 0 rfl 1 (by decide) (inLr2 _ (List.mem_of_getElem? (i := 16) rfl)) rfl dX0_put_31 ?_
        refine y_iload_n hC dX0_put_34 1 rfl rfl ?_
        refine y_iload_n hC dX0_put_35 3 rfl rfl ?_
        refine y_iast hC 2 0 rfl rfl j rfl (by omega) (by decide) dX0_put_36 ([((b 1), .inr (0, [.ref (b 2), .ref (b 3), .ref (b 4), .ref (b 5), .ref (b 6), .ref (b 7), .int (nI 0)])), ((b 2), .inl (cI, 12, .inl (fun k => nI ((updN Zf j row) k)))), ((b 3), .inl (cI, 12, .inl (fun k => nI ((updN Zf j s) k)))), ((b 5), .inl (cI, 48, .inl (fun k => nI (Zf k))))]) (by rw [← updN_eq]; rfl) ?_
        refine y_iload_n hC dX0_put_37 2 rfl rfl ?_
        refine y_istore hC [(4, .int (nI row)), (0, .ref (b 1)), (1, .int (nI j)), (2, .int (nI row)), (3, .int (nI s))] dX0_put_38 (by decide) rfl ?_
        refine y_iload_n hC dX0_put_40 4 rfl rfl ?_
        refine y_iconst hC (v := nI 1) dX0_put_41 rfl ?_
        refine y_isub hC (v := nI s - nI 1) dX0_put_42 rfl ?_
        refine y_istore hC [(5, .int (nI s - nI 1)), (4, .int (nI row)), (0, .ref (b 1)), (1, .int (nI j)), (2, .int (nI row)), (3, .int (nI s))] dX0_put_43 (by decide) rfl ?_
        have L45_l2 : ∀ (n : Nat) (t rest : Nat) (g : Nat → Nat), (t < n) → (t ≤ 4) → (rest < 10000) → G 0 0 ([((b 1), .inr (0, [.ref (b 2), .ref (b 3), .ref (b 4), .ref (b 5), .ref (b 6), .ref (b 7), .int (nI 0)])), ((b 2), .inl (cI, 12, .inl (fun k => nI ((updN Zf j row) k)))), ((b 3), .inl (cI, 12, .inl (fun k => nI ((updN Zf j s) k)))), ((b 5), .inl (cI, 48, .inl (fun k => nI (g k))))]) 45 [(0, .ref (b 1)), (1, .int (nI j)), (4, .int (nI rest)), (5, .int (nI t - nI 1))] [] := by
          intro n
          induction n with
          | zero => intro t rest g h1b h2b h3b; omega
          | succ n ihb =>
            intro t rest g h1b h2b h3b
            refine y_iload hC dX0_put_45 3 rfl ?_
            have et := pk_sub_toInt (a := t) (b := 1) (by omega) (by decide)
            refine y_if_lt_z hC 79 dX0_put_47 (by decide) (fun c47 => ?_) (fun c47 => ?_)
            · refine y_world hC [] (ws' := []) rfl rfl ?_
              exact hE () _ _ _ _ dX0_put_79 (Nat.le_of_ble_eq_true rfl) (Nat.le_of_ble_eq_true rfl) trivial
            · rw [pk_sub (show 1 ≤ t by omega)]
              refine y_aload_n hC dX0_put_50 0 rfl rfl ?_
              refine y_get hC cC0 0 rfl 3 (by decide) (inLr2 _ (List.mem_of_getElem? (i := 18) rfl)) rfl dX0_put_51 ?_
              refine y_iload_n hC dX0_put_54 1 rfl rfl ?_
              refine y_iconst hC (v := nI 4) dX0_put_55 rfl ?_
              refine y_imul hC (v := nI (j * 4)) dX0_put_56 (pk_mul _ _) ?_
              refine y_iload hC dX0_put_57 3 rfl ?_
              refine y_iadd hC (v := nI ((j * 4) + (t - 1))) dX0_put_59 (nI_add _ _) ?_
              refine y_iload hC dX0_put_60 2 rfl ?_
              refine y_bipush hC (v := nI 10) dX0_put_62 rfl ?_
              refine y_irem hC (v := nI (rest % 10)) dX0_put_64 (by decide) (pk_rem (by omega) (by decide) (by decide)) ?_
              refine y_iast hC 3 0 rfl rfl ((j * 4) + (t - 1)) rfl (by omega) (by decide) dX0_put_65 ([((b 1), .inr (0, [.ref (b 2), .ref (b 3), .ref (b 4), .ref (b 5), .ref (b 6), .ref (b 7), .int (nI 0)])), ((b 2), .inl (cI, 12, .inl (fun k => nI ((updN Zf j row) k)))), ((b 3), .inl (cI, 12, .inl (fun k => nI ((updN Zf j s) k)))), ((b 5), .inl (cI, 48, .inl (fun k => nI ((updN g ((j * 4) + (t - 1)) (rest % 10)) k))))]) (by rw [← updN_eq]; rfl) ?_
              refine y_iload hC dX0_put_66 2 rfl ?_
              refine y_bipush hC (v := nI 10) dX0_put_68 rfl ?_
              refine y_idiv hC (v := nI (rest / 10)) dX0_put_70 (by decide) (pk_div (by omega) (by decide) (by decide)) ?_
              refine y_istore hC [(4, .int (nI (rest / 10))), (0, .ref (b 1)), (1, .int (nI j)), (5, .int (nI (t - 1)))] dX0_put_71 (by decide) rfl ?_
              refine y_iinc hC (v := nI (t - 1) - nI 1) [(5, .int (nI (t - 1) - nI 1)), (4, .int (nI (rest / 10))), (0, .ref (b 1)), (1, .int (nI j))] dX0_put_73 (k := 3) rfl (decs _) (by decide) rfl ?_
              refine y_goto hC 45 dX0_put_76 (by decide) ?_
              refine y_sub hC [2, 3, 1, 0] rfl ?_
              exact ihb (t - 1) _ _ (by omega) (by omega) (by omega)
        refine y_sub hC [2, 3, 1, 0] rfl ?_
        exact L45_l2 5 s row Zf (by omega) (by omega) (by omega)
      · refine y_iinc hC (v := nI (s + 1)) [(3, .int (nI (s + 1))), (0, .ref (b 1)), (1, .int (nI j)), (2, .int (nI row)), (4, .int (nI left))] dX0_put_17 (k := 3) rfl (ninc _) (by decide) rfl ?_
        refine y_iload hC dX0_put_20 4 rfl ?_
        refine y_bipush hC (v := nI 10) dX0_put_22 rfl ?_
        refine y_idiv hC (v := nI (left / 10)) dX0_put_24 (by decide) (pk_div (by omega) (by decide) (by decide)) ?_
        refine y_istore hC [(4, .int (nI (left / 10))), (3, .int (nI (s + 1))), (0, .ref (b 1)), (1, .int (nI j)), (2, .int (nI row))] dX0_put_25 (by decide) rfl ?_
        refine y_goto hC 12 dX0_put_27 (by decide) ?_
        refine y_sub hC [2, 3, 4, 1, 0] rfl ?_
        exact iha _ _ (by omega) (by omega)
  refine y_sub hC [2, 3, 4, 1, 0] rfl ?_
  exact L12_l1 10001 0 row (by omega) (by omega)
theorem nV_X5_setLetter : yV yX5_setLetter RX5 cX5_setLetter 4 (some .int) 2 := ⟨(inLr5 _ (List.mem_of_getElem? (i := 7) rfl)), (inLr5 _ (List.mem_of_getElem? (i := 8) rfl)), (inLr1 _ (List.mem_of_getElem? (i := 2) rfl)), (inLr5 _ (List.mem_of_getElem? (i := 9) rfl)), rfl, by decide, by decide, by decide +kernel⟩
set_option maxHeartbeats 4000000 in
set_option maxRecDepth 100000 in
theorem q_X5_setLetter (hlt : l.stackTraces = false) (b : Nat → Nat) (x : Int32) (y : Int32)  : XI l D (tyL cI cO cJ cZ) yX5_setLetter cX5_setLetter 4 .int ({ frames := 8, cells := 1, slots := 6, locals := 200 } : Room) [.ref (b 0), .int x, .int y] ([((b 0), kOb b), ((b 1), .inr (0, [.ref (b 2), .ref (b 3), .ref (b 4), .ref (b 5), .ref (b 6), .ref (b 7), .int (nI 0)])), ((b 2), .inl (cI, 12, .inl (fun k => nI (Zf k)))), ((b 3), .inl (cI, 12, .inl (fun k => nI (Zf k)))), ((b 5), .inl (cI, 48, .inl (fun k => nI (Zf k))))]) (fun r (_ : Unit) => kcSet x y = 0 ∧ r = nI 0) (fun _ => []) (fun E => (E = "java/lang/IndexOutOfBoundsException" ∧ kcSet x y = 1) ∨ (E = "java/lang/IllegalArgumentException" ∧ kcSet x y = 2)) := by
  refine XI.of hlt (by decide) (Nat.le_of_ble_eq_true rfl) (fun G hC hE hX => ?_)
  show G 0 0 ([((b 0), kOb b), ((b 1), .inr (0, [.ref (b 2), .ref (b 3), .ref (b 4), .ref (b 5), .ref (b 6), .ref (b 7), .int (nI 0)])), ((b 2), .inl (cI, 12, .inl (fun k => nI (Zf k)))), ((b 3), .inl (cI, 12, .inl (fun k => nI (Zf k)))), ((b 5), .inl (cI, 48, .inl (fun k => nI (Zf k))))]) 0 [(0, .ref (b 0)), (1, .int x), (2, .int y)] []
  refine y_iload_n hC dX5_setLetter_0 1 rfl rfl ?_
  refine y_callS_i hC (As := [.int x]) (rest := []) (q_X5_isNoLetter x) nS_X5_isNoLetter (inLr5 _ (List.mem_of_getElem? (i := 15) rfl)) [] [0, 1, 2, 3, 4] [0, 1, 2, 3, 4] (fun u => [((b 0), kOb b), ((b 1), .inr (0, [.ref (b 2), .ref (b 3), .ref (b 4), .ref (b 5), .ref (b 6), .ref (b 7), .int (nI 0)])), ((b 2), .inl (cI, 12, .inl (fun k => nI (Zf k)))), ((b 3), .inl (cI, 12, .inl (fun k => nI (Zf k)))), ((b 5), .inl (cI, 48, .inl (fun k => nI (Zf k))))]) rfl rfl rfl rfl (by decide) rfl (fun _ => rfl) rfl rfl (Nat.le_of_ble_eq_true rfl) dX5_setLetter_1 ⟨(Nat.le_of_ble_eq_true rfl), (Nat.le_of_ble_eq_true rfl)⟩ ⟨(Nat.le_of_ble_eq_true rfl), (Nat.le_of_ble_eq_true rfl)⟩ (fun r1 u1 hw1 => ?_)
  obtain ⟨rfl, hb_u1⟩ := hw1
  refine y_if_eq_n hC 17 dX5_setLetter_4 (by decide) u1 rfl (by omega) (fun c4 => ?_) (fun c4 => ?_)
  · refine y_iload_n hC dX5_setLetter_17 2 rfl rfl ?_
    refine y_if_eq_z hC 38 dX5_setLetter_18 (by decide) (fun c18 => ?_) (fun c18 => ?_)
    · have hrp : rowP y := (rowP_Q y).mpr (Or.inl c18)
      obtain ⟨j1, hj1, rfl⟩ := i32_nat (x := x) (n := 12) (by omega) (by omega)
      have ej1 := nI_toInt (show j1 < 2 ^ 31 by omega)
      obtain ⟨hy1, hy2, -⟩ := id hrp
      obtain ⟨j2, hj2, rfl⟩ := i32_nat (x := y) (n := 10000) (by omega) (by omega)
      have ej2 := nI_toInt (show j2 < 2 ^ 31 by omega)
      refine y_aload_n hC dX5_setLetter_38 0 rfl rfl ?_
      refine y_get hC cC5 0 rfl 0 (by decide) (inLr1 _ (List.mem_of_getElem? (i := 16) rfl)) rfl dX5_setLetter_39 ?_
      refine y_get hC cC0 1 rfl 0 (by decide) (inLr5 _ (List.mem_of_getElem? (i := 14) rfl)) rfl dX5_setLetter_42 ?_
      refine y_iload_n hC dX5_setLetter_45 1 rfl rfl ?_
      refine y_iald hC 2 0 rfl rfl j1 rfl (by omega) (by decide) dX5_setLetter_46 ?_
      refine y_istore_n hC [(3, .int (nI 0)), (0, .ref (b 0)), (1, .int (nI j1)), (2, .int (nI j2))] dX5_setLetter_47 rfl (by decide) rfl ?_
      refine y_aload_n hC dX5_setLetter_48 1 rfl rfl ?_
      refine y_get hC cC5 0 rfl 0 (by decide) (inLr1 _ (List.mem_of_getElem? (i := 16) rfl)) rfl dX5_setLetter_49 ?_
      refine y_iload_n hC dX5_setLetter_52 2 rfl rfl ?_
      refine y_iload_n hC dX5_setLetter_53 3 rfl rfl ?_
      refine y_callV_v hC (As := [.int (nI j1), .int (nI j2)]) (rest := []) (q_X0_put b j1 j2 (by omega) (by omega)) nV_X0_put (inLr5 _ (List.mem_of_getElem? (i := 23) rfl)) [1, 2, 3, 4] [0] [0] (fun u => [((b 0), kOb b)]) rfl rfl rfl rfl (by decide) rfl (fun _ => rfl) 0 rfl rfl rfl rfl (Nat.le_of_ble_eq_true rfl) dX5_setLetter_54 ⟨(Nat.le_of_ble_eq_true rfl), (Nat.le_of_ble_eq_true rfl)⟩ ⟨(Nat.le_of_ble_eq_true rfl), (Nat.le_of_ble_eq_true rfl)⟩ (fun u2 hw2 => ?_)
      refine y_iload_n hC dX5_setLetter_57 0 rfl rfl ?_
      refine y_world hC [] (ws' := []) rfl rfl ?_
      exact hE (nI 0) () _ _ _ _ dX5_setLetter_58 (Nat.le_of_ble_eq_true rfl) (Nat.le_of_ble_eq_true rfl) rfl ⟨by unfold kcSet; rw [if_pos (by omega), if_pos hrp], rfl⟩
    · refine y_iload_n hC dX5_setLetter_21 2 rfl rfl ?_
      refine y_callS_i hC (As := [.int y]) (rest := []) (q_X0_isRow y) nS_X0_isRow (inLr5 _ (List.mem_of_getElem? (i := 18) rfl)) [] [0, 1, 2, 3, 4] [0, 1, 2, 3, 4] (fun u => [((b 0), kOb b), ((b 1), .inr (0, [.ref (b 2), .ref (b 3), .ref (b 4), .ref (b 5), .ref (b 6), .ref (b 7), .int (nI 0)])), ((b 2), .inl (cI, 12, .inl (fun k => nI (Zf k)))), ((b 3), .inl (cI, 12, .inl (fun k => nI (Zf k)))), ((b 5), .inl (cI, 48, .inl (fun k => nI (Zf k))))]) rfl rfl rfl rfl (by decide) rfl (fun _ => rfl) rfl rfl (Nat.le_of_ble_eq_true rfl) dX5_setLetter_22 ⟨(Nat.le_of_ble_eq_true rfl), (Nat.le_of_ble_eq_true rfl)⟩ ⟨(Nat.le_of_ble_eq_true rfl), (Nat.le_of_ble_eq_true rfl)⟩ (fun r2 u3 hw3 => ?_)
      obtain ⟨rfl, hu_u3, hb_u3⟩ := hw3
      refine y_if_ne_n hC 38 dX5_setLetter_25 (by decide) u3 rfl (by omega) (fun c25 => ?_) (fun c25 => ?_)
      · have hrp : rowP y := (rowP_Q y).mpr (Or.inr (hb_u3.mp (by omega)))
        obtain ⟨j1, hj1, rfl⟩ := i32_nat (x := x) (n := 12) (by omega) (by omega)
        have ej1 := nI_toInt (show j1 < 2 ^ 31 by omega)
        obtain ⟨hy1, hy2, -⟩ := id hrp
        obtain ⟨j2, hj2, rfl⟩ := i32_nat (x := y) (n := 10000) (by omega) (by omega)
        have ej2 := nI_toInt (show j2 < 2 ^ 31 by omega)
        refine y_aload_n hC dX5_setLetter_38 0 rfl rfl ?_
        refine y_get hC cC5 0 rfl 0 (by decide) (inLr1 _ (List.mem_of_getElem? (i := 16) rfl)) rfl dX5_setLetter_39 ?_
        refine y_get hC cC0 1 rfl 0 (by decide) (inLr5 _ (List.mem_of_getElem? (i := 14) rfl)) rfl dX5_setLetter_42 ?_
        refine y_iload_n hC dX5_setLetter_45 1 rfl rfl ?_
        refine y_iald hC 2 0 rfl rfl j1 rfl (by omega) (by decide) dX5_setLetter_46 ?_
        refine y_istore_n hC [(3, .int (nI 0)), (0, .ref (b 0)), (1, .int (nI j1)), (2, .int (nI j2))] dX5_setLetter_47 rfl (by decide) rfl ?_
        refine y_aload_n hC dX5_setLetter_48 1 rfl rfl ?_
        refine y_get hC cC5 0 rfl 0 (by decide) (inLr1 _ (List.mem_of_getElem? (i := 16) rfl)) rfl dX5_setLetter_49 ?_
        refine y_iload_n hC dX5_setLetter_52 2 rfl rfl ?_
        refine y_iload_n hC dX5_setLetter_53 3 rfl rfl ?_
        refine y_callV_v hC (As := [.int (nI j1), .int (nI j2)]) (rest := []) (q_X0_put b j1 j2 (by omega) (by omega)) nV_X0_put (inLr5 _ (List.mem_of_getElem? (i := 23) rfl)) [1, 2, 3, 4] [0] [0] (fun u => [((b 0), kOb b)]) rfl rfl rfl rfl (by decide) rfl (fun _ => rfl) 0 rfl rfl rfl rfl (Nat.le_of_ble_eq_true rfl) dX5_setLetter_54 ⟨(Nat.le_of_ble_eq_true rfl), (Nat.le_of_ble_eq_true rfl)⟩ ⟨(Nat.le_of_ble_eq_true rfl), (Nat.le_of_ble_eq_true rfl)⟩ (fun u4 hw4 => ?_)
        refine y_iload_n hC dX5_setLetter_57 0 rfl rfl ?_
        refine y_world hC [] (ws' := []) rfl rfl ?_
        exact hE (nI 0) () _ _ _ _ dX5_setLetter_58 (Nat.le_of_ble_eq_true rfl) (Nat.le_of_ble_eq_true rfl) rfl ⟨by unfold kcSet; rw [if_pos (by omega), if_pos hrp], rfl⟩
      · exact hX _ _ _ _ _ "java/lang/IllegalArgumentException" "row is 0 or has 1 to 4 digits from 1 to 4" 67 69 71 exOK2 (by decide) (Or.inr ⟨rfl, by unfold kcSet; rw [if_pos (by omega), if_neg (fun h => by rcases (rowP_Q y).mp h with q | q; (omega); have := hb_u3.mpr q; omega)]⟩) dX5_setLetter_28 dX5_setLetter_31 dX5_setLetter_32 dX5_setLetter_34 dX5_setLetter_37 (Nat.le_of_ble_eq_true rfl) (Nat.le_of_ble_eq_true rfl) (Nat.le_of_ble_eq_true rfl) (Nat.le_of_ble_eq_true rfl)
  · exact hX _ _ _ _ _ "java/lang/IndexOutOfBoundsException" "letter is 0 to 11" 57 59 61 exOK1 (by decide) (Or.inl ⟨rfl, by unfold kcSet; rw [if_neg (by omega)]⟩) dX5_setLetter_7 dX5_setLetter_10 dX5_setLetter_11 dX5_setLetter_13 dX5_setLetter_16 (Nat.le_of_ble_eq_true rfl) (Nat.le_of_ble_eq_true rfl) (Nat.le_of_ble_eq_true rfl) (Nat.le_of_ble_eq_true rfl)
theorem nV_X5_letter : yV yX5_letter RX5 cX5_letter 3 (some .int) 2 := ⟨(inLr7 _ (List.mem_of_getElem? (i := 2) rfl)), (inLr7 _ (List.mem_of_getElem? (i := 3) rfl)), (inLr1 _ (List.mem_of_getElem? (i := 2) rfl)), (inLr7 _ (List.mem_of_getElem? (i := 4) rfl)), rfl, by decide, by decide, by decide +kernel⟩
set_option maxHeartbeats 4000000 in
set_option maxRecDepth 100000 in
theorem q_X5_letter (hlt : l.stackTraces = false) (b : Nat → Nat) (x : Int32) (y : Int32)  : XI l D (tyL cI cO cJ cZ) yX5_letter cX5_letter 3 .int ({ frames := 8, cells := 1, slots := 6, locals := 200 } : Room) [.ref (b 0), .int x, .int y] ([((b 0), kOb b), ((b 1), .inr (0, [.ref (b 2), .ref (b 3), .ref (b 4), .ref (b 5), .ref (b 6), .ref (b 7), .int (nI 0)])), ((b 2), .inl (cI, 12, .inl (fun k => nI (Zf k)))), ((b 3), .inl (cI, 12, .inl (fun k => nI (Zf k)))), ((b 4), .inl (cI, 12, .inl (fun k => nI (Zf k))))]) (fun r (_ : Unit) => kcLet x y = 0 ∧ r = nI 0) (fun _ => []) (fun E => (E = "java/lang/IndexOutOfBoundsException" ∧ kcLet x y = 1)) := by
  refine XI.of hlt (by decide) (Nat.le_of_ble_eq_true rfl) (fun G hC hE hX => ?_)
  show G 0 0 ([((b 0), kOb b), ((b 1), .inr (0, [.ref (b 2), .ref (b 3), .ref (b 4), .ref (b 5), .ref (b 6), .ref (b 7), .int (nI 0)])), ((b 2), .inl (cI, 12, .inl (fun k => nI (Zf k)))), ((b 3), .inl (cI, 12, .inl (fun k => nI (Zf k)))), ((b 4), .inl (cI, 12, .inl (fun k => nI (Zf k))))]) 0 [(0, .ref (b 0)), (1, .int x), (2, .int y)] []
  refine y_iload_n hC dX5_letter_0 1 rfl rfl ?_
  refine y_callS_i hC (As := [.int x]) (rest := []) (q_X5_isNoLetter x) nS_X5_isNoLetter (inLr5 _ (List.mem_of_getElem? (i := 15) rfl)) [] [0, 1, 2, 3, 4] [0, 1, 2, 3, 4] (fun u => [((b 0), kOb b), ((b 1), .inr (0, [.ref (b 2), .ref (b 3), .ref (b 4), .ref (b 5), .ref (b 6), .ref (b 7), .int (nI 0)])), ((b 2), .inl (cI, 12, .inl (fun k => nI (Zf k)))), ((b 3), .inl (cI, 12, .inl (fun k => nI (Zf k)))), ((b 4), .inl (cI, 12, .inl (fun k => nI (Zf k))))]) rfl rfl rfl rfl (by decide) rfl (fun _ => rfl) rfl rfl (Nat.le_of_ble_eq_true rfl) dX5_letter_1 ⟨(Nat.le_of_ble_eq_true rfl), (Nat.le_of_ble_eq_true rfl)⟩ ⟨(Nat.le_of_ble_eq_true rfl), (Nat.le_of_ble_eq_true rfl)⟩ (fun r1 u1 hw1 => ?_)
  obtain ⟨rfl, hb_u1⟩ := hw1
  refine y_if_ne_n hC 16 dX5_letter_4 (by decide) u1 rfl (by omega) (fun c4 => ?_) (fun c4 => ?_)
  · exact hX _ _ _ _ _ "java/lang/IndexOutOfBoundsException" "letter is 0 to 11, what is 0 to 2" 57 79 61 exOK1 (by decide) ⟨rfl, by unfold kcLet; split <;> omega⟩ dX5_letter_16 dX5_letter_19 dX5_letter_20 dX5_letter_22 dX5_letter_25 (Nat.le_of_ble_eq_true rfl) (Nat.le_of_ble_eq_true rfl) (Nat.le_of_ble_eq_true rfl) (Nat.le_of_ble_eq_true rfl)
  · refine y_iload_n hC dX5_letter_7 2 rfl rfl ?_
    refine y_if_lt_z hC 16 dX5_letter_8 (by decide) (fun c8 => ?_) (fun c8 => ?_)
    · exact hX _ _ _ _ _ "java/lang/IndexOutOfBoundsException" "letter is 0 to 11, what is 0 to 2" 57 79 61 exOK1 (by decide) ⟨rfl, by unfold kcLet; split <;> omega⟩ dX5_letter_16 dX5_letter_19 dX5_letter_20 dX5_letter_22 dX5_letter_25 (Nat.le_of_ble_eq_true rfl) (Nat.le_of_ble_eq_true rfl) (Nat.le_of_ble_eq_true rfl) (Nat.le_of_ble_eq_true rfl)
    · refine y_iload_n hC dX5_letter_11 2 rfl rfl ?_
      refine y_iconst hC (v := nI 3) dX5_letter_12 rfl ?_
      refine y_icmp_lt_z hC 26 dX5_letter_13 (by decide) 3 rfl (by omega) (fun c13 => ?_) (fun c13 => ?_)
      · obtain ⟨j1, hj1, rfl⟩ := i32_nat (x := x) (n := 12) (by omega) (by omega)
        have ej1 := nI_toInt (show j1 < 2 ^ 31 by omega)
        obtain ⟨j2, hj2, rfl⟩ := i32_nat (x := y) (n := 3) (by omega) (by omega)
        have ej2 := nI_toInt (show j2 < 2 ^ 31 by omega)
        refine y_iload_n hC dX5_letter_26 2 rfl rfl ?_
        rcases (show j2 = 0 ∨ j2 = 1 ∨ j2 = 2 by omega) with rfl | rfl | rfl
        · refine y_lookup hC 52 dX5_letter_27 (by decide) (off := 25) (by decide) (by decide) ?_
          refine y_aload_n hC dX5_letter_52 0 rfl rfl ?_
          refine y_get hC cC5 0 rfl 0 (by decide) (inLr1 _ (List.mem_of_getElem? (i := 16) rfl)) rfl dX5_letter_53 ?_
          refine y_get hC cC0 1 rfl 0 (by decide) (inLr5 _ (List.mem_of_getElem? (i := 14) rfl)) rfl dX5_letter_56 ?_
          refine y_iload_n hC dX5_letter_59 1 rfl rfl ?_
          refine y_iald hC 2 0 rfl rfl j1 rfl (by omega) (by decide) dX5_letter_60 ?_
          refine y_world hC [] (ws' := []) rfl rfl ?_
          exact hE (nI 0) () _ _ _ _ dX5_letter_61 (Nat.le_of_ble_eq_true rfl) (Nat.le_of_ble_eq_true rfl) rfl ⟨by unfold kcLet; split <;> omega, rfl⟩
        · refine y_lookup hC 62 dX5_letter_27 (by decide) (off := 35) (by decide) (by decide) ?_
          refine y_aload_n hC dX5_letter_62 0 rfl rfl ?_
          refine y_get hC cC5 0 rfl 0 (by decide) (inLr1 _ (List.mem_of_getElem? (i := 16) rfl)) rfl dX5_letter_63 ?_
          refine y_get hC cC0 1 rfl 1 (by decide) (inLr7 _ (List.mem_of_getElem? (i := 5) rfl)) rfl dX5_letter_66 ?_
          refine y_iload_n hC dX5_letter_69 1 rfl rfl ?_
          refine y_iald hC 3 0 rfl rfl j1 rfl (by omega) (by decide) dX5_letter_70 ?_
          refine y_world hC [] (ws' := []) rfl rfl ?_
          exact hE (nI 0) () _ _ _ _ dX5_letter_71 (Nat.le_of_ble_eq_true rfl) (Nat.le_of_ble_eq_true rfl) rfl ⟨by unfold kcLet; split <;> omega, rfl⟩
        · refine y_lookup hC 72 dX5_letter_27 (by decide) (off := 45) (by decide) (by decide) ?_
          refine y_aload_n hC dX5_letter_72 0 rfl rfl ?_
          refine y_get hC cC5 0 rfl 0 (by decide) (inLr1 _ (List.mem_of_getElem? (i := 16) rfl)) rfl dX5_letter_73 ?_
          refine y_get hC cC0 1 rfl 2 (by decide) (inLr7 _ (List.mem_of_getElem? (i := 6) rfl)) rfl dX5_letter_76 ?_
          refine y_iload_n hC dX5_letter_79 1 rfl rfl ?_
          refine y_iald hC 4 0 rfl rfl j1 rfl (by omega) (by decide) dX5_letter_80 ?_
          refine y_world hC [] (ws' := []) rfl rfl ?_
          exact hE (nI 0) () _ _ _ _ dX5_letter_81 (Nat.le_of_ble_eq_true rfl) (Nat.le_of_ble_eq_true rfl) rfl ⟨by unfold kcLet; split <;> omega, rfl⟩
      · exact hX _ _ _ _ _ "java/lang/IndexOutOfBoundsException" "letter is 0 to 11, what is 0 to 2" 57 79 61 exOK1 (by decide) ⟨rfl, by unfold kcLet; split <;> omega⟩ dX5_letter_16 dX5_letter_19 dX5_letter_20 dX5_letter_22 dX5_letter_25 (Nat.le_of_ble_eq_true rfl) (Nat.le_of_ble_eq_true rfl) (Nat.le_of_ble_eq_true rfl) (Nat.le_of_ble_eq_true rfl)
set_option maxHeartbeats 4000000 in
set_option maxRecDepth 100000 in
theorem q_letter (b : Nat → Nat) (i : Nat) (k : Nat) (hi : i < 12) (hk : k < 3) : MI l D (tyL cI cO cJ cZ) yX5_letter cX5_letter 3 .int ({ frames := 1, cells := 0, slots := 0, locals := 40 } : Room) [.ref (b 0), .int (nI i), .int (nI k)] ([((b 0), kOb b), ((b 1), .inr (0, [.ref (b 2), .ref (b 3), .ref (b 4), .ref (b 5), .ref (b 6), .ref (b 7), .int (nI 0)])), ((b 2), .inl (cI, 12, .inl (fun k => nI (Zf k)))), ((b 3), .inl (cI, 12, .inl (fun k => nI (Zf k)))), ((b 4), .inl (cI, 12, .inl (fun k => nI (Zf k))))]) (fun r (_ : Unit) => r = nI 0) (fun _ => [((b 0), kOb b), ((b 1), .inr (0, [.ref (b 2), .ref (b 3), .ref (b 4), .ref (b 5), .ref (b 6), .ref (b 7), .int (nI 0)])), ((b 2), .inl (cI, 12, .inl (fun k => nI (Zf k)))), ((b 3), .inl (cI, 12, .inl (fun k => nI (Zf k)))), ((b 4), .inl (cI, 12, .inl (fun k => nI (Zf k))))]) := by
  refine MI.of (by decide) (Nat.le_of_ble_eq_true rfl) (fun G hC hE => ?_)
  show G 0 0 ([((b 0), kOb b), ((b 1), .inr (0, [.ref (b 2), .ref (b 3), .ref (b 4), .ref (b 5), .ref (b 6), .ref (b 7), .int (nI 0)])), ((b 2), .inl (cI, 12, .inl (fun k => nI (Zf k)))), ((b 3), .inl (cI, 12, .inl (fun k => nI (Zf k)))), ((b 4), .inl (cI, 12, .inl (fun k => nI (Zf k))))]) 0 [(0, .ref (b 0)), (1, .int (nI i)), (2, .int (nI k))] []
  refine y_iload_n hC dX5_letter_0 1 rfl rfl ?_
  refine y_callS_i hC (As := [.int (nI i)]) (rest := []) (q_X5_isNoLetter (nI i)) nS_X5_isNoLetter (inLr5 _ (List.mem_of_getElem? (i := 15) rfl)) [] [0, 1, 2, 3, 4] [0, 1, 2, 3, 4] (fun u => [((b 0), kOb b), ((b 1), .inr (0, [.ref (b 2), .ref (b 3), .ref (b 4), .ref (b 5), .ref (b 6), .ref (b 7), .int (nI 0)])), ((b 2), .inl (cI, 12, .inl (fun k => nI (Zf k)))), ((b 3), .inl (cI, 12, .inl (fun k => nI (Zf k)))), ((b 4), .inl (cI, 12, .inl (fun k => nI (Zf k))))]) rfl rfl rfl rfl (by decide) rfl (fun _ => rfl) rfl rfl (Nat.le_of_ble_eq_true rfl) dX5_letter_1 ⟨(Nat.le_of_ble_eq_true rfl), (Nat.le_of_ble_eq_true rfl)⟩ ⟨(Nat.le_of_ble_eq_true rfl), (Nat.le_of_ble_eq_true rfl)⟩ (fun r1 u1 hw1 => ?_)
  obtain ⟨rfl, hb_u1⟩ := hw1
  rw [nI_toInt (show i < 2 ^ 31 by omega)] at hb_u1
  refine y_if_ne_n hC 16 dX5_letter_4 (by decide) u1 rfl (by omega) (fun c4 => absurd c4 (by omega)) (fun c4 => ?_)
  refine y_iload_n hC dX5_letter_7 2 rfl rfl ?_
  refine y_if_lt_n hC 16 dX5_letter_8 (by decide) k rfl (by omega) ?_
  refine y_iload_n hC dX5_letter_11 2 rfl rfl ?_
  refine y_iconst hC (v := nI 3) dX5_letter_12 rfl ?_
  refine y_icmp_lt_n hC 26 dX5_letter_13 (by decide) k 3 rfl rfl (by omega) (by omega) (fun c13 => ?_) (fun c13 => absurd c13 (by omega))
  refine y_iload_n hC dX5_letter_26 2 rfl rfl ?_
  rcases (show k = 0 ∨ k = 1 ∨ k = 2 by omega) with rfl | rfl | rfl
  · refine y_lookup hC 52 dX5_letter_27 (by decide) (off := 25) (by decide) (by decide) ?_
    refine y_aload_n hC dX5_letter_52 0 rfl rfl ?_
    refine y_get hC cC5 0 rfl 0 (by decide) (inLr1 _ (List.mem_of_getElem? (i := 16) rfl)) rfl dX5_letter_53 ?_
    refine y_get hC cC0 1 rfl 0 (by decide) (inLr5 _ (List.mem_of_getElem? (i := 14) rfl)) rfl dX5_letter_56 ?_
    refine y_iload_n hC dX5_letter_59 1 rfl rfl ?_
    refine y_iald hC 2 0 rfl rfl i rfl (by omega) (by decide) dX5_letter_60 ?_
    exact hE (nI 0) () _ _ _ _ dX5_letter_61 (Nat.le_of_ble_eq_true rfl) (Nat.le_of_ble_eq_true rfl) rfl rfl
  · refine y_lookup hC 62 dX5_letter_27 (by decide) (off := 35) (by decide) (by decide) ?_
    refine y_aload_n hC dX5_letter_62 0 rfl rfl ?_
    refine y_get hC cC5 0 rfl 0 (by decide) (inLr1 _ (List.mem_of_getElem? (i := 16) rfl)) rfl dX5_letter_63 ?_
    refine y_get hC cC0 1 rfl 1 (by decide) (inLr7 _ (List.mem_of_getElem? (i := 5) rfl)) rfl dX5_letter_66 ?_
    refine y_iload_n hC dX5_letter_69 1 rfl rfl ?_
    refine y_iald hC 3 0 rfl rfl i rfl (by omega) (by decide) dX5_letter_70 ?_
    exact hE (nI 0) () _ _ _ _ dX5_letter_71 (Nat.le_of_ble_eq_true rfl) (Nat.le_of_ble_eq_true rfl) rfl rfl
  · refine y_lookup hC 72 dX5_letter_27 (by decide) (off := 45) (by decide) (by decide) ?_
    refine y_aload_n hC dX5_letter_72 0 rfl rfl ?_
    refine y_get hC cC5 0 rfl 0 (by decide) (inLr1 _ (List.mem_of_getElem? (i := 16) rfl)) rfl dX5_letter_73 ?_
    refine y_get hC cC0 1 rfl 2 (by decide) (inLr7 _ (List.mem_of_getElem? (i := 6) rfl)) rfl dX5_letter_76 ?_
    refine y_iload_n hC dX5_letter_79 1 rfl rfl ?_
    refine y_iald hC 4 0 rfl rfl i rfl (by omega) (by decide) dX5_letter_80 ?_
    exact hE (nI 0) () _ _ _ _ dX5_letter_81 (Nat.le_of_ble_eq_true rfl) (Nat.le_of_ble_eq_true rfl) rfl rfl
theorem nV_X5_isFree : yV yX5_isFree RX5 cX5_isFree 2 (some .boolean) 0 := ⟨(inLr7 _ (List.mem_of_getElem? (i := 19) rfl)), (inLr7 _ (List.mem_of_getElem? (i := 20) rfl)), (inLr1 _ (List.mem_of_getElem? (i := 2) rfl)), (inLr7 _ (List.mem_of_getElem? (i := 21) rfl)), rfl, by decide, by decide, by decide +kernel⟩
set_option maxHeartbeats 4000000 in
set_option maxRecDepth 100000 in
theorem q_X5_isFree (b : Nat → Nat)   : MI l D (tyL cI cO cJ cZ) yX5_isFree cX5_isFree 2 .boolean ({ frames := 0, cells := 0, slots := 0, locals := 0 } : Room) [.ref (b 0)] ([((b 0), kOb b), ((b 1), .inr (0, [.ref (b 2), .ref (b 3), .ref (b 4), .ref (b 5), .ref (b 6), .ref (b 7), .int (nI 0)])), ((b 2), .inl (cI, 12, .inl (fun k => nI (Zf k))))]) (fun r (_ : Unit) => r = nI 1) (fun _ => []) := by
  refine MI.of (by decide) (Nat.le_of_ble_eq_true rfl) (fun G hC hE => ?_)
  show G 0 0 ([((b 0), kOb b), ((b 1), .inr (0, [.ref (b 2), .ref (b 3), .ref (b 4), .ref (b 5), .ref (b 6), .ref (b 7), .int (nI 0)])), ((b 2), .inl (cI, 12, .inl (fun k => nI (Zf k))))]) 0 [(0, .ref (b 0))] []
  refine y_iconst hC (v := nI 0) dX5_isFree_0 rfl ?_
  refine y_istore_n hC [(1, .int (nI 0)), (0, .ref (b 0))] dX5_isFree_1 rfl (by decide) rfl ?_
  have L2_l1 : ∀ n i : Nat, 12 + 1 ≤ i + n → i ≤ 12 → G 0 0 ([((b 0), kOb b), ((b 1), .inr (0, [.ref (b 2), .ref (b 3), .ref (b 4), .ref (b 5), .ref (b 6), .ref (b 7), .int (nI 0)])), ((b 2), .inl (cI, 12, .inl (fun k => nI (Zf k))))]) 2 [(0, .ref (b 0)), (1, .int (nI i))] [] := by
    intro n
    induction n with
    | zero => intro i h1 h2; omega
    | succ n ih2i =>
      intro i h1i h2i
      refine y_iload_n hC dX5_isFree_2 1 rfl rfl ?_
      refine y_bipush hC (v := nI 12) dX5_isFree_3 rfl ?_
      refine y_icmp_ge_n hC 50 dX5_isFree_5 (by decide) i 12 rfl rfl (by omega) (by omega) (fun c5 => ?_) (fun c5 => ?_)
      · refine y_iconst hC (v := nI 1) dX5_isFree_50 rfl ?_
        refine y_world hC [] (ws' := []) rfl rfl ?_
        exact hE (nI 1) () _ _ _ _ dX5_isFree_51 (Nat.le_of_ble_eq_true rfl) (Nat.le_of_ble_eq_true rfl) rfl rfl
      · refine y_aload_n hC dX5_isFree_8 0 rfl rfl ?_
        refine y_get hC cC5 0 rfl 0 (by decide) (inLr1 _ (List.mem_of_getElem? (i := 16) rfl)) rfl dX5_isFree_9 ?_
        refine y_get hC cC0 1 rfl 0 (by decide) (inLr5 _ (List.mem_of_getElem? (i := 14) rfl)) rfl dX5_isFree_12 ?_
        refine y_iload_n hC dX5_isFree_15 1 rfl rfl ?_
        refine y_iald hC 2 0 rfl rfl i rfl (by omega) (by decide) dX5_isFree_16 ?_
        refine y_if_eq_n hC 44 dX5_isFree_17 (by decide) 0 rfl (by omega) (fun c17 => ?_) (fun c17 => absurd c17 (by omega))
        refine y_iinc hC (v := nI (i + 1)) [(1, .int (nI (i + 1))), (0, .ref (b 0))] dX5_isFree_44 (k := 1) rfl (ninc _) (by decide) rfl ?_
        refine y_goto hC 2 dX5_isFree_47 (by decide) ?_
        refine y_sub hC [1, 0] rfl ?_
        exact ih2i (i + 1) (by omega) (by omega)
  refine y_sub hC [1, 0] rfl ?_
  exact L2_l1 (12 + 1) 0 (by omega) (by omega)
theorem nS_J7_fill_53178 : yS yJ7_fill_53178 cJ7_fill_53178 4 none 2 := ⟨(inLr3 _ (List.mem_of_getElem? (i := 9) rfl)), (inLr3 _ (List.mem_of_getElem? (i := 10) rfl)), (inLr3 _ (List.mem_of_getElem? (i := 11) rfl)), ⟨by decide, by decide, by decide +kernel⟩⟩
theorem fill_step {f g : Nat → Int32} {v : Int32} {i : Nat} (h : ∀ k, g k = if k < i then v else f k) : ∀ k, upd g i v k = if k < i + 1 then v else f k := by
  intro k
  unfold upd
  by_cases e : k = i
  · rw [if_pos e, if_pos (by omega)]
  · rw [if_neg e, h k]
    by_cases h2 : k < i
    · rw [if_pos h2, if_pos (by omega)]
    · rw [if_neg h2, if_neg (by omega)]
set_option maxHeartbeats 4000000 in
set_option maxRecDepth 100000 in
theorem c_J7_fill (h N : Nat) (hN : N < 2 ^ 31) (f : Nat → Int32) (v : Int32) : MV l D (tyL cI cO cJ cZ) yJ7_fill_53178 cJ7_fill_53178 4 ({ frames := 0, cells := 0, slots := 0, locals := 0 } : Room) [.ref h, .int v] [(h, .inl (cI, N, .inl f))] (fun (g : Nat → Int32) => ∀ k, k < N → g k = v) (fun g => [(h, .inl (cI, N, .inl g))]) := by
  refine MV.of (by decide) (Nat.le_of_ble_eq_true rfl) (fun G hC hE => ?_)
  show G 0 0 ([(h, .inl (cI, N, .inl f))]) 0 [(0, .ref h), (1, .int v)] []
  refine y_iconst hC (v := nI 0) dJ7_fill_53178_0 rfl ?_
  refine y_istore_n hC [(2, .int (nI 0)), (0, .ref h), (1, .int v)] dJ7_fill_53178_1 rfl (by decide) rfl ?_
  refine y_aload_n hC dJ7_fill_53178_2 1 rfl rfl ?_
  refine y_alen hC (v := nI N) 0 0 rfl rfl rfl dJ7_fill_53178_3 ?_
  refine y_istore_n hC [(3, .int (nI N)), (2, .int (nI 0)), (0, .ref h), (1, .int v)] dJ7_fill_53178_4 rfl (by decide) rfl ?_
  have L5_l1 : ∀ (n : Nat) (i : Nat) (g : Nat → Int32), (N + 1 ≤ i + n) → (i ≤ N) → (∀ k, g k = if k < i then v else f k) → G 0 0 ([(h, .inl (cI, N, .inl g))]) 5 [(0, .ref h), (1, .int v), (2, .int (nI i)), (3, .int (nI N))] [] := by
    intro n
    induction n with
    | zero => intro i g h1 h2 h3; omega
    | succ n ihf =>
      intro i g h1 h2 h3
      refine y_iload_n hC dJ7_fill_53178_5 2 rfl rfl ?_
      refine y_iload_n hC dJ7_fill_53178_6 3 rfl rfl ?_
      refine y_icmp_ge_n hC 20 dJ7_fill_53178_7 (by decide) i N rfl rfl (by omega) (by omega) (fun c7 => ?_) (fun c7 => ?_)
      · exact hE g _ _ _ _ dJ7_fill_53178_20 (Nat.le_of_ble_eq_true rfl) (Nat.le_of_ble_eq_true rfl) (fun k hk => by rw [h3 k, if_pos (by omega)])
      · refine y_aload_n hC dJ7_fill_53178_10 0 rfl rfl ?_
        refine y_iload_n hC dJ7_fill_53178_11 2 rfl rfl ?_
        refine y_iload_n hC dJ7_fill_53178_12 1 rfl rfl ?_
        refine y_iast hC 0 0 rfl rfl i rfl (by omega) (by omega) dJ7_fill_53178_13 ([(h, .inl (cI, N, .inl (upd g i v)))]) rfl ?_
        refine y_iinc hC (v := nI (i + 1)) [(2, .int (nI (i + 1))), (0, .ref h), (1, .int v), (3, .int (nI N))] dJ7_fill_53178_14 (k := 2) rfl (ninc _) (by decide) rfl ?_
        refine y_goto hC 5 dJ7_fill_53178_17 (by decide) ?_
        refine y_sub hC [1, 2, 0, 3] rfl ?_
        exact ihf (i + 1) _ (by omega) (by omega) (fill_step h3)
  refine y_sub hC [2, 3, 1, 0] rfl ?_
  exact L5_l1 (N + 1) 0 f (by omega) (by omega) (fun k => by rw [if_neg (by omega)])
theorem nV_X0_hasOneReading : yV yX0_hasOneReading RX0 cX0_hasOneReading 2 (some .boolean) 0 := ⟨(inLr9 _ (List.mem_of_getElem? (i := 0) rfl)), (inLr9 _ (List.mem_of_getElem? (i := 1) rfl)), (inLr1 _ (List.mem_of_getElem? (i := 15) rfl)), (inLr9 _ (List.mem_of_getElem? (i := 2) rfl)), rfl, by decide, by decide, by decide +kernel⟩
set_option maxHeartbeats 4000000 in
set_option maxRecDepth 100000 in
theorem q_hasOne (b : Nat → Nat)   : MI l D (tyL cI cO cJ cZ) yX0_hasOneReading cX0_hasOneReading 2 .boolean ({ frames := 1, cells := 0, slots := 0, locals := 40 } : Room) [.ref (b 1)] ([((b 1), .inr (0, [.ref (b 2), .ref (b 3), .ref (b 4), .ref (b 5), .ref (b 6), .ref (b 7), .int (nI 0)])), ((b 2), .inl (cI, 12, .inl (fun k => nI (Zf k)))), ((b 6), .inl (cI, 84, .inl (fun k => nI (Zf k)))), ((b 7), .inl (cI, 445, .inl (fun k => nI (Zf k))))]) (fun r (_ : Unit) => r = nI 1) (fun _ => []) := by
  refine MI.of (by decide) (Nat.le_of_ble_eq_true rfl) (fun G hC hE => ?_)
  show G 0 0 ([((b 1), .inr (0, [.ref (b 2), .ref (b 3), .ref (b 4), .ref (b 5), .ref (b 6), .ref (b 7), .int (nI 0)])), ((b 2), .inl (cI, 12, .inl (fun k => nI (Zf k)))), ((b 6), .inl (cI, 84, .inl (fun k => nI (Zf k)))), ((b 7), .inl (cI, 445, .inl (fun k => nI (Zf k))))]) 0 [(0, .ref (b 1))] []
  refine y_aload_n hC dX0_hasOneReading_0 0 rfl rfl ?_
  refine y_iconst hC (v := nI 0) dX0_hasOneReading_1 rfl ?_
  refine y_put hC cC0 0 rfl 6 (by decide) (inLr9 _ (List.mem_of_getElem? (i := 3) rfl)) rfl rfl rfl (Nat.le_of_ble_eq_true rfl) dX0_hasOneReading_2 ([((b 1), .inr (0, [.ref (b 2), .ref (b 3), .ref (b 4), .ref (b 5), .ref (b 6), .ref (b 7), .int (nI 0)])), ((b 2), .inl (cI, 12, .inl (fun k => nI (Zf k)))), ((b 6), .inl (cI, 84, .inl (fun k => nI (Zf k)))), ((b 7), .inl (cI, 445, .inl (fun k => nI (Zf k))))]) rfl ?_
  refine y_aload_n hC dX0_hasOneReading_5 0 rfl rfl ?_
  refine y_get hC cC0 0 rfl 5 (by decide) (inLr2 _ (List.mem_of_getElem? (i := 20) rfl)) rfl dX0_hasOneReading_6 ?_
  refine y_iconst hC (v := nI 0) dX0_hasOneReading_9 rfl ?_
  refine y_callS_v hC (As := [.ref (b 7), .int (nI 0)]) (rest := []) (c_J7_fill _ 445 (by decide) _ _) nS_J7_fill_53178 (inLr9 _ (List.mem_of_getElem? (i := 4) rfl)) [3] [0, 1, 2] [0, 1, 2, 3] (fun u => [((b 1), .inr (0, [.ref (b 2), .ref (b 3), .ref (b 4), .ref (b 5), .ref (b 6), .ref (b 7), .int (nI 0)])), ((b 2), .inl (cI, 12, .inl (fun k => nI (Zf k)))), ((b 6), .inl (cI, 84, .inl (fun k => nI (Zf k)))), ((b 7), .inl (cI, 445, .inl u))]) rfl rfl rfl rfl (by decide) rfl (fun _ => rfl) rfl rfl (Nat.le_of_ble_eq_true rfl) dX0_hasOneReading_10 ⟨(Nat.le_of_ble_eq_true rfl), (Nat.le_of_ble_eq_true rfl)⟩ ⟨(Nat.le_of_ble_eq_true rfl), (Nat.le_of_ble_eq_true rfl)⟩ (fun u1 hw1 => ?_)
  refine y_iconst hC (v := nI 0) dX0_hasOneReading_13 rfl ?_
  refine y_istore_n hC [(1, .int (nI 0)), (0, .ref (b 1))] dX0_hasOneReading_14 rfl (by decide) rfl ?_
  have L15_l1 : ∀ n i : Nat, 12 + 1 ≤ i + n → i ≤ 12 → G 0 0 ([((b 1), .inr (0, [.ref (b 2), .ref (b 3), .ref (b 4), .ref (b 5), .ref (b 6), .ref (b 7), .int (nI 0)])), ((b 2), .inl (cI, 12, .inl (fun k => nI (Zf k)))), ((b 6), .inl (cI, 84, .inl (fun k => nI (Zf k)))), ((b 7), .inl (cI, 445, .inl u1))]) 15 [(0, .ref (b 1)), (1, .int (nI i))] [] := by
    intro n
    induction n with
    | zero => intro i h1 h2; omega
    | succ n ih15i =>
      intro i h1i h2i
      refine y_iload_n hC dX0_hasOneReading_15 1 rfl rfl ?_
      refine y_bipush hC (v := nI 12) dX0_hasOneReading_16 rfl ?_
      refine y_icmp_ge_n hC 54 dX0_hasOneReading_18 (by decide) i 12 rfl rfl (by omega) (by omega) (fun c18 => ?_) (fun c18 => ?_)
      · refine y_iconst hC (v := nI 0) dX0_hasOneReading_54 rfl ?_
        refine y_istore_n hC [(1, .int (nI 0)), (0, .ref (b 1))] dX0_hasOneReading_55 rfl (by decide) rfl ?_
        refine y_iload_n hC dX0_hasOneReading_56 0 rfl rfl ?_
        refine y_aload_n hC dX0_hasOneReading_57 1 rfl rfl ?_
        refine y_get hC cC0 0 rfl 6 (by decide) (inLr9 _ (List.mem_of_getElem? (i := 3) rfl)) rfl dX0_hasOneReading_58 ?_
        refine y_icmp_ge_n hC 92 dX0_hasOneReading_61 (by decide) 0 0 rfl rfl (by omega) (by omega) (fun c61 => ?_) (fun c61 => absurd c61 (by omega))
        refine y_iconst hC (v := nI 1) dX0_hasOneReading_92 rfl ?_
        refine y_world hC [] (ws' := []) rfl rfl ?_
        exact hE (nI 1) () _ _ _ _ dX0_hasOneReading_93 (Nat.le_of_ble_eq_true rfl) (Nat.le_of_ble_eq_true rfl) rfl rfl
      · refine y_aload_n hC dX0_hasOneReading_21 0 rfl rfl ?_
        refine y_get hC cC0 0 rfl 0 (by decide) (inLr2 _ (List.mem_of_getElem? (i := 15) rfl)) rfl dX0_hasOneReading_22 ?_
        refine y_iload_n hC dX0_hasOneReading_25 1 rfl rfl ?_
        refine y_iald hC 1 0 rfl rfl i rfl (by omega) (by decide) dX0_hasOneReading_26 ?_
        refine y_if_eq_n hC 48 dX0_hasOneReading_27 (by decide) 0 rfl (by omega) (fun c27 => ?_) (fun c27 => absurd c27 (by omega))
        refine y_iinc hC (v := nI (i + 1)) [(1, .int (nI (i + 1))), (0, .ref (b 1))] dX0_hasOneReading_48 (k := 1) rfl (ninc _) (by decide) rfl ?_
        refine y_goto hC 15 dX0_hasOneReading_51 (by decide) ?_
        refine y_sub hC [1, 0] rfl ?_
        exact ih15i (i + 1) (by omega) (by omega)
  refine y_sub hC [1, 0] rfl ?_
  exact L15_l1 (12 + 1) 0 (by omega) (by omega)
theorem nV_X5_isClear : yV yX5_isClear RX5 cX5_isClear 1 (some .boolean) 0 := ⟨(inLr8 _ (List.mem_of_getElem? (i := 20) rfl)), (inLr8 _ (List.mem_of_getElem? (i := 21) rfl)), (inLr1 _ (List.mem_of_getElem? (i := 2) rfl)), (inLr8 _ (List.mem_of_getElem? (i := 22) rfl)), rfl, by decide, by decide, by decide +kernel⟩
set_option maxHeartbeats 4000000 in
set_option maxRecDepth 100000 in
theorem q_X5_isClear (b : Nat → Nat)   : MI l D (tyL cI cO cJ cZ) yX5_isClear cX5_isClear 1 .boolean ({ frames := 2, cells := 0, slots := 0, locals := 80 } : Room) [.ref (b 0)] ([((b 0), kOb b), ((b 1), .inr (0, [.ref (b 2), .ref (b 3), .ref (b 4), .ref (b 5), .ref (b 6), .ref (b 7), .int (nI 0)])), ((b 2), .inl (cI, 12, .inl (fun k => nI (Zf k)))), ((b 6), .inl (cI, 84, .inl (fun k => nI (Zf k)))), ((b 7), .inl (cI, 445, .inl (fun k => nI (Zf k))))]) (fun r (_ : Unit) => r = nI 1) (fun _ => []) := by
  refine MI.of (by decide) (Nat.le_of_ble_eq_true rfl) (fun G hC hE => ?_)
  show G 0 0 ([((b 0), kOb b), ((b 1), .inr (0, [.ref (b 2), .ref (b 3), .ref (b 4), .ref (b 5), .ref (b 6), .ref (b 7), .int (nI 0)])), ((b 2), .inl (cI, 12, .inl (fun k => nI (Zf k)))), ((b 6), .inl (cI, 84, .inl (fun k => nI (Zf k)))), ((b 7), .inl (cI, 445, .inl (fun k => nI (Zf k))))]) 0 [(0, .ref (b 0))] []
  refine y_aload_n hC dX5_isClear_0 0 rfl rfl ?_
  refine y_get hC cC5 0 rfl 0 (by decide) (inLr1 _ (List.mem_of_getElem? (i := 16) rfl)) rfl dX5_isClear_1 ?_
  refine y_callV_i hC (As := []) (rest := []) (q_hasOne b) nV_X0_hasOneReading (inLr8 _ (List.mem_of_getElem? (i := 23) rfl)) [1, 2, 3, 4] [0] [0] (fun u => [((b 0), kOb b)]) rfl rfl rfl rfl (by decide) rfl (fun _ => rfl) 0 rfl rfl rfl rfl (Nat.le_of_ble_eq_true rfl) dX5_isClear_4 ⟨(Nat.le_of_ble_eq_true rfl), (Nat.le_of_ble_eq_true rfl)⟩ ⟨(Nat.le_of_ble_eq_true rfl), (Nat.le_of_ble_eq_true rfl)⟩ (fun r1 u1 hw1 => ?_)
  subst hw1
  refine y_world hC [] (ws' := []) rfl rfl ?_
  exact hE (nI 1) () _ _ _ _ dX5_isClear_7 (Nat.le_of_ble_eq_true rfl) (Nat.le_of_ble_eq_true rfl) rfl rfl
theorem nV_X5_letterDistance : yV yX5_letterDistance RX5 cX5_letterDistance 3 (some .int) 2 := ⟨(inLr10 _ (List.mem_of_getElem? (i := 10) rfl)), (inLr10 _ (List.mem_of_getElem? (i := 11) rfl)), (inLr1 _ (List.mem_of_getElem? (i := 2) rfl)), (inLr10 _ (List.mem_of_getElem? (i := 12) rfl)), rfl, by decide, by decide, by decide +kernel⟩
set_option maxHeartbeats 4000000 in
set_option maxRecDepth 100000 in
theorem q_letterDistance (b : Nat → Nat) (i : Nat) (j : Nat) (hi : i < 12) (hj : j < 12) : MI l D (tyL cI cO cJ cZ) yX5_letterDistance cX5_letterDistance 3 .int ({ frames := 0, cells := 0, slots := 0, locals := 0 } : Room) [.ref (b 0), .int (nI i), .int (nI j)] ([((b 0), kOb b), ((b 1), .inr (0, [.ref (b 2), .ref (b 3), .ref (b 4), .ref (b 5), .ref (b 6), .ref (b 7), .int (nI 0)])), ((b 2), .inl (cI, 12, .inl (fun k => nI (Zf k))))]) (fun r (_ : Unit) => r = (-1)) (fun _ => [((b 0), kOb b), ((b 1), .inr (0, [.ref (b 2), .ref (b 3), .ref (b 4), .ref (b 5), .ref (b 6), .ref (b 7), .int (nI 0)])), ((b 2), .inl (cI, 12, .inl (fun k => nI (Zf k))))]) := by
  refine MI.of (by decide) (Nat.le_of_ble_eq_true rfl) (fun G hC hE => ?_)
  show G 0 0 ([((b 0), kOb b), ((b 1), .inr (0, [.ref (b 2), .ref (b 3), .ref (b 4), .ref (b 5), .ref (b 6), .ref (b 7), .int (nI 0)])), ((b 2), .inl (cI, 12, .inl (fun k => nI (Zf k))))]) 0 [(0, .ref (b 0)), (1, .int (nI i)), (2, .int (nI j))] []
  refine y_aload_n hC dX5_letterDistance_0 0 rfl rfl ?_
  refine y_get hC cC5 0 rfl 0 (by decide) (inLr1 _ (List.mem_of_getElem? (i := 16) rfl)) rfl dX5_letterDistance_1 ?_
  refine y_get hC cC0 1 rfl 0 (by decide) (inLr5 _ (List.mem_of_getElem? (i := 14) rfl)) rfl dX5_letterDistance_4 ?_
  refine y_iload_n hC dX5_letterDistance_7 1 rfl rfl ?_
  refine y_iald hC 2 0 rfl rfl i rfl (by omega) (by decide) dX5_letterDistance_8 ?_
  refine y_if_eq_n hC 24 dX5_letterDistance_9 (by decide) 0 rfl (by omega) (fun c9 => ?_) (fun c9 => absurd c9 (by omega))
  refine y_iconst hC (v := (-1)) dX5_letterDistance_24 (by decide) ?_
  exact hE (-1) () _ _ _ _ dX5_letterDistance_25 (Nat.le_of_ble_eq_true rfl) (Nat.le_of_ble_eq_true rfl) rfl rfl
theorem nV_X5_alike : yV yX5_alike RX5 cX5_alike 3 (some .int) 2 := ⟨(inLr10 _ (List.mem_of_getElem? (i := 6) rfl)), (inLr10 _ (List.mem_of_getElem? (i := 7) rfl)), (inLr1 _ (List.mem_of_getElem? (i := 2) rfl)), (inLr10 _ (List.mem_of_getElem? (i := 8) rfl)), rfl, by decide, by decide, by decide +kernel⟩
set_option maxHeartbeats 4000000 in
set_option maxRecDepth 100000 in
theorem q_X5_alike (hlt : l.stackTraces = false) (b : Nat → Nat) (x : Int32) (y : Int32)  : XI l D (tyL cI cO cJ cZ) yX5_alike cX5_alike 3 .int ({ frames := 8, cells := 1, slots := 6, locals := 200 } : Room) [.ref (b 0), .int x, .int y] ([((b 0), kOb b), ((b 1), .inr (0, [.ref (b 2), .ref (b 3), .ref (b 4), .ref (b 5), .ref (b 6), .ref (b 7), .int (nI 0)])), ((b 2), .inl (cI, 12, .inl (fun k => nI (Zf k))))]) (fun r (_ : Unit) => kcAli x y = 0 ∧ r = (-1)) (fun _ => []) (fun E => (E = "java/lang/IndexOutOfBoundsException" ∧ kcAli x y = 1)) := by
  refine XI.of hlt (by decide) (Nat.le_of_ble_eq_true rfl) (fun G hC hE hX => ?_)
  show G 0 0 ([((b 0), kOb b), ((b 1), .inr (0, [.ref (b 2), .ref (b 3), .ref (b 4), .ref (b 5), .ref (b 6), .ref (b 7), .int (nI 0)])), ((b 2), .inl (cI, 12, .inl (fun k => nI (Zf k))))]) 0 [(0, .ref (b 0)), (1, .int x), (2, .int y)] []
  refine y_iload_n hC dX5_alike_0 1 rfl rfl ?_
  refine y_callS_i hC (As := [.int x]) (rest := []) (q_X5_isNoLetter x) nS_X5_isNoLetter (inLr5 _ (List.mem_of_getElem? (i := 15) rfl)) [] [0, 1, 2] [0, 1, 2] (fun u => [((b 0), kOb b), ((b 1), .inr (0, [.ref (b 2), .ref (b 3), .ref (b 4), .ref (b 5), .ref (b 6), .ref (b 7), .int (nI 0)])), ((b 2), .inl (cI, 12, .inl (fun k => nI (Zf k))))]) rfl rfl rfl rfl (by decide) rfl (fun _ => rfl) rfl rfl (Nat.le_of_ble_eq_true rfl) dX5_alike_1 ⟨(Nat.le_of_ble_eq_true rfl), (Nat.le_of_ble_eq_true rfl)⟩ ⟨(Nat.le_of_ble_eq_true rfl), (Nat.le_of_ble_eq_true rfl)⟩ (fun r1 u1 hw1 => ?_)
  obtain ⟨rfl, hb_u1⟩ := hw1
  refine y_if_ne_n hC 14 dX5_alike_4 (by decide) u1 rfl (by omega) (fun c4 => ?_) (fun c4 => ?_)
  · exact hX _ _ _ _ _ "java/lang/IndexOutOfBoundsException" "a and b are 0 to 11" 57 95 61 exOK1 (by decide) ⟨rfl, by unfold kcAli; split <;> omega⟩ dX5_alike_14 dX5_alike_17 dX5_alike_18 dX5_alike_20 dX5_alike_23 (Nat.le_of_ble_eq_true rfl) (Nat.le_of_ble_eq_true rfl) (Nat.le_of_ble_eq_true rfl) (Nat.le_of_ble_eq_true rfl)
  · refine y_iload_n hC dX5_alike_7 2 rfl rfl ?_
    refine y_callS_i hC (As := [.int y]) (rest := []) (q_X5_isNoLetter y) nS_X5_isNoLetter (inLr5 _ (List.mem_of_getElem? (i := 15) rfl)) [] [0, 1, 2] [0, 1, 2] (fun u => [((b 0), kOb b), ((b 1), .inr (0, [.ref (b 2), .ref (b 3), .ref (b 4), .ref (b 5), .ref (b 6), .ref (b 7), .int (nI 0)])), ((b 2), .inl (cI, 12, .inl (fun k => nI (Zf k))))]) rfl rfl rfl rfl (by decide) rfl (fun _ => rfl) rfl rfl (Nat.le_of_ble_eq_true rfl) dX5_alike_8 ⟨(Nat.le_of_ble_eq_true rfl), (Nat.le_of_ble_eq_true rfl)⟩ ⟨(Nat.le_of_ble_eq_true rfl), (Nat.le_of_ble_eq_true rfl)⟩ (fun r2 u2 hw2 => ?_)
    obtain ⟨rfl, hb_u2⟩ := hw2
    refine y_if_eq_n hC 24 dX5_alike_11 (by decide) u2 rfl (by omega) (fun c11 => ?_) (fun c11 => ?_)
    · obtain ⟨j1, hj1, rfl⟩ := i32_nat (x := x) (n := 12) (by omega) (by omega)
      have ej1 := nI_toInt (show j1 < 2 ^ 31 by omega)
      obtain ⟨j2, hj2, rfl⟩ := i32_nat (x := y) (n := 12) (by omega) (by omega)
      have ej2 := nI_toInt (show j2 < 2 ^ 31 by omega)
      refine y_aload_n hC dX5_alike_24 0 rfl rfl ?_
      refine y_iload_n hC dX5_alike_25 1 rfl rfl ?_
      refine y_iload_n hC dX5_alike_26 2 rfl rfl ?_
      refine y_callV_i hC (As := [.int (nI j1), .int (nI j2)]) (rest := []) (q_letterDistance b j1 j2 (by omega) (by omega)) nV_X5_letterDistance (inLr10 _ (List.mem_of_getElem? (i := 9) rfl)) [0, 1, 2] [] [0, 1, 2] (fun u => [((b 0), kOb b), ((b 1), .inr (0, [.ref (b 2), .ref (b 3), .ref (b 4), .ref (b 5), .ref (b 6), .ref (b 7), .int (nI 0)])), ((b 2), .inl (cI, 12, .inl (fun k => nI (Zf k))))]) rfl rfl rfl rfl (by decide) rfl (fun _ => rfl) 0 rfl rfl rfl rfl (Nat.le_of_ble_eq_true rfl) dX5_alike_27 ⟨(Nat.le_of_ble_eq_true rfl), (Nat.le_of_ble_eq_true rfl)⟩ ⟨(Nat.le_of_ble_eq_true rfl), (Nat.le_of_ble_eq_true rfl)⟩ (fun r3 u3 hw3 => ?_)
      subst hw3
      refine y_world hC [] (ws' := []) rfl rfl ?_
      exact hE (-1) () _ _ _ _ dX5_alike_30 (Nat.le_of_ble_eq_true rfl) (Nat.le_of_ble_eq_true rfl) rfl ⟨by unfold kcAli; split <;> omega, rfl⟩
    · exact hX _ _ _ _ _ "java/lang/IndexOutOfBoundsException" "a and b are 0 to 11" 57 95 61 exOK1 (by decide) ⟨rfl, by unfold kcAli; split <;> omega⟩ dX5_alike_14 dX5_alike_17 dX5_alike_18 dX5_alike_20 dX5_alike_23 (Nat.le_of_ble_eq_true rfl) (Nat.le_of_ble_eq_true rfl) (Nat.le_of_ble_eq_true rfl) (Nat.le_of_ble_eq_true rfl)
theorem nV_X5_closest : yV yX5_closest RX5 cX5_closest 6 (some .int) 0 := ⟨(inLr11 _ (List.mem_of_getElem? (i := 18) rfl)), (inLr11 _ (List.mem_of_getElem? (i := 19) rfl)), (inLr1 _ (List.mem_of_getElem? (i := 2) rfl)), (inLr11 _ (List.mem_of_getElem? (i := 20) rfl)), rfl, by decide, by decide, by decide +kernel⟩
set_option maxHeartbeats 4000000 in
set_option maxRecDepth 100000 in
theorem q_X5_closest (b : Nat → Nat)   : MI l D (tyL cI cO cJ cZ) yX5_closest cX5_closest 6 .int ({ frames := 1, cells := 0, slots := 0, locals := 60 } : Room) [.ref (b 0)] ([((b 0), kOb b), ((b 1), .inr (0, [.ref (b 2), .ref (b 3), .ref (b 4), .ref (b 5), .ref (b 6), .ref (b 7), .int (nI 0)])), ((b 2), .inl (cI, 12, .inl (fun k => nI (Zf k))))]) (fun r (_ : Unit) => r = (-1)) (fun _ => []) := by
  refine MI.of (by decide) (Nat.le_of_ble_eq_true rfl) (fun G hC hE => ?_)
  show G 0 0 ([((b 0), kOb b), ((b 1), .inr (0, [.ref (b 2), .ref (b 3), .ref (b 4), .ref (b 5), .ref (b 6), .ref (b 7), .int (nI 0)])), ((b 2), .inl (cI, 12, .inl (fun k => nI (Zf k))))]) 0 [(0, .ref (b 0))] []
  refine y_iconst hC (v := (-1)) dX5_closest_0 (by decide) ?_
  refine y_istore_n hC [(1, .int (-1)), (0, .ref (b 0))] dX5_closest_1 rfl (by decide) rfl ?_
  refine y_iconst hC (v := nI 0) dX5_closest_2 rfl ?_
  refine y_istore_n hC [(2, .int (nI 0)), (1, .int (-1)), (0, .ref (b 0))] dX5_closest_3 rfl (by decide) rfl ?_
  refine y_iconst hC (v := nI 0) dX5_closest_4 rfl ?_
  refine y_istore_n hC [(3, .int (nI 0)), (2, .int (nI 0)), (1, .int (-1)), (0, .ref (b 0))] dX5_closest_5 rfl (by decide) rfl ?_
  have L6_l1 : ∀ n i : Nat, 12 + 1 ≤ i + n → i ≤ 12 → G 0 0 ([((b 0), kOb b), ((b 1), .inr (0, [.ref (b 2), .ref (b 3), .ref (b 4), .ref (b 5), .ref (b 6), .ref (b 7), .int (nI 0)])), ((b 2), .inl (cI, 12, .inl (fun k => nI (Zf k))))]) 6 [(0, .ref (b 0)), (1, .int (-1)), (2, .int (nI 0)), (3, .int (nI i))] [] := by
    intro n
    induction n with
    | zero => intro i h1 h2; omega
    | succ n ih6i =>
      intro i h1i h2i
      refine y_iload_n hC dX5_closest_6 3 rfl rfl ?_
      refine y_bipush hC (v := nI 12) dX5_closest_7 rfl ?_
      refine y_icmp_ge_n hC 73 dX5_closest_9 (by decide) i 12 rfl rfl (by omega) (by omega) (fun c9 => ?_) (fun c9 => ?_)
      · refine y_iload_n hC dX5_closest_73 1 rfl rfl ?_
        refine y_world hC [] (ws' := []) rfl rfl ?_
        exact hE (-1) () _ _ _ _ dX5_closest_74 (Nat.le_of_ble_eq_true rfl) (Nat.le_of_ble_eq_true rfl) rfl rfl
      · refine y_iload_n hC dX5_closest_12 3 rfl rfl ?_
        refine y_iconst hC (v := nI 1) dX5_closest_13 rfl ?_
        refine y_iadd hC (v := nI (i + 1)) dX5_closest_14 (nI_add _ _) ?_
        refine y_istore hC [(4, .int (nI (i + 1))), (0, .ref (b 0)), (1, .int (-1)), (2, .int (nI 0)), (3, .int (nI i))] dX5_closest_15 (by decide) rfl ?_
        have L17_l2 : ∀ n j : Nat, 12 + 1 ≤ j + n → j ≤ 12 → G 0 0 ([((b 0), kOb b), ((b 1), .inr (0, [.ref (b 2), .ref (b 3), .ref (b 4), .ref (b 5), .ref (b 6), .ref (b 7), .int (nI 0)])), ((b 2), .inl (cI, 12, .inl (fun k => nI (Zf k))))]) 17 [(0, .ref (b 0)), (1, .int (-1)), (2, .int (nI 0)), (3, .int (nI i)), (4, .int (nI j))] [] := by
          intro n
          induction n with
          | zero => intro j h1 h2; omega
          | succ n ih17j =>
            intro j h1j h2j
            refine y_iload hC dX5_closest_17 4 rfl ?_
            refine y_bipush hC (v := nI 12) dX5_closest_19 rfl ?_
            refine y_icmp_ge_n hC 67 dX5_closest_21 (by decide) j 12 rfl rfl (by omega) (by omega) (fun c21 => ?_) (fun c21 => ?_)
            · refine y_iinc hC (v := nI (i + 1)) [(3, .int (nI (i + 1))), (0, .ref (b 0)), (1, .int (-1)), (2, .int (nI 0)), (4, .int (nI j))] dX5_closest_67 (k := 3) rfl (ninc _) (by decide) rfl ?_
              refine y_goto hC 6 dX5_closest_70 (by decide) ?_
              refine y_sub hC [1, 2, 3, 0] rfl ?_
              exact ih6i (i + 1) (by omega) (by omega)
            · refine y_aload_n hC dX5_closest_24 0 rfl rfl ?_
              refine y_iload_n hC dX5_closest_25 3 rfl rfl ?_
              refine y_iload hC dX5_closest_26 4 rfl ?_
              refine y_callV_i hC (As := [.int (nI i), .int (nI j)]) (rest := []) (q_letterDistance b i j (by omega) (by omega)) nV_X5_letterDistance (inLr10 _ (List.mem_of_getElem? (i := 9) rfl)) [0, 1, 2] [] [0, 1, 2] (fun u => [((b 0), kOb b), ((b 1), .inr (0, [.ref (b 2), .ref (b 3), .ref (b 4), .ref (b 5), .ref (b 6), .ref (b 7), .int (nI 0)])), ((b 2), .inl (cI, 12, .inl (fun k => nI (Zf k))))]) rfl rfl rfl rfl (by decide) rfl (fun _ => rfl) 0 rfl rfl rfl rfl (Nat.le_of_ble_eq_true rfl) dX5_closest_28 ⟨(Nat.le_of_ble_eq_true rfl), (Nat.le_of_ble_eq_true rfl)⟩ ⟨(Nat.le_of_ble_eq_true rfl), (Nat.le_of_ble_eq_true rfl)⟩ (fun r1 u1 hw1 => ?_)
              subst hw1
              refine y_istore hC [(5, .int (-1)), (0, .ref (b 0)), (1, .int (-1)), (2, .int (nI 0)), (3, .int (nI i)), (4, .int (nI j))] dX5_closest_31 (by decide) rfl ?_
              refine y_iload hC dX5_closest_33 0 rfl ?_
              refine y_iconst hC (v := (-1)) dX5_closest_35 (by decide) ?_
              refine y_icmp_eq_w hC 61 dX5_closest_36 (by decide) (fun c36 => ?_) (fun c36 => absurd c36 (by omega))
              refine y_iinc hC (v := nI (j + 1)) [(4, .int (nI (j + 1))), (5, .int (-1)), (0, .ref (b 0)), (1, .int (-1)), (2, .int (nI 0)), (3, .int (nI i))] dX5_closest_61 (k := 5) rfl (ninc _) (by decide) rfl ?_
              refine y_goto hC 17 dX5_closest_64 (by decide) ?_
              refine y_sub hC [2, 3, 4, 5, 0] rfl ?_
              exact ih17j (j + 1) (by omega) (by omega)
        refine y_sub hC [1, 2, 3, 4, 0] rfl ?_
        exact L17_l2 (12 + 1) (i + 1) (by omega) (by omega)
  refine y_sub hC [3, 2, 1, 0] rfl ?_
  exact L6_l1 (12 + 1) 0 (by omega) (by omega)
theorem nS_X0_rowOfRank : yS yX0_rowOfRank cX0_rowOfRank 4 (some .int) 1 := ⟨(inLr12 _ (List.mem_of_getElem? (i := 6) rfl)), (inLr1 _ (List.mem_of_getElem? (i := 15) rfl)), (inLr12 _ (List.mem_of_getElem? (i := 7) rfl)), ⟨by decide, by decide, by decide +kernel⟩⟩
set_option maxHeartbeats 4000000 in
set_option maxRecDepth 100000 in
theorem q_rank1   : MI l D (tyL cI cO cJ cZ) yX0_rowOfRank cX0_rowOfRank 4 .int ({ frames := 0, cells := 0, slots := 0, locals := 0 } : Room) [.int (nI 1)] ([]) (fun r (_ : Unit) => r = nI 1) (fun _ => []) := by
  refine MI.of (by decide) (Nat.le_of_ble_eq_true rfl) (fun G hC hE => ?_)
  show G 0 0 ([]) 0 [(0, .int (nI 1))] []
  refine y_iconst hC (v := nI 0) dX0_rowOfRank_0 rfl ?_
  refine y_istore_n hC [(1, .int (nI 0)), (0, .int (nI 1))] dX0_rowOfRank_1 rfl (by decide) rfl ?_
  refine y_iconst hC (v := nI 1) dX0_rowOfRank_2 rfl ?_
  refine y_istore_n hC [(2, .int (nI 1)), (1, .int (nI 0)), (0, .int (nI 1))] dX0_rowOfRank_3 rfl (by decide) rfl ?_
  refine y_iload_n hC dX0_rowOfRank_4 2 rfl rfl ?_
  refine y_istore_n hC [(3, .int (nI 1)), (2, .int (nI 1)), (1, .int (nI 0)), (0, .int (nI 1))] dX0_rowOfRank_5 rfl (by decide) rfl ?_
  refine y_iload_n hC dX0_rowOfRank_6 0 rfl rfl ?_
  refine y_if_le_n hC 36 dX0_rowOfRank_7 (by decide) 1 rfl (by omega) (fun c7 => absurd c7 (by omega)) (fun c7 => ?_)
  refine y_iload_n hC dX0_rowOfRank_10 2 rfl rfl ?_
  refine y_iload_n hC dX0_rowOfRank_11 1 rfl rfl ?_
  refine y_iload_n hC dX0_rowOfRank_12 0 rfl rfl ?_
  refine y_iconst hC (v := nI 1) dX0_rowOfRank_13 rfl ?_
  refine y_isub hC (v := nI 0) dX0_rowOfRank_14 (by decide) ?_
  refine y_iconst hC (v := nI 4) dX0_rowOfRank_15 rfl ?_
  refine y_irem hC (v := nI 0) dX0_rowOfRank_16 (by decide) (by decide) ?_
  refine y_iconst hC (v := nI 1) dX0_rowOfRank_17 rfl ?_
  refine y_iadd hC (v := nI 1) dX0_rowOfRank_18 (by decide) ?_
  refine y_imul hC (v := nI 1) dX0_rowOfRank_19 (by decide) ?_
  refine y_iadd hC (v := nI 1) dX0_rowOfRank_20 (by decide) ?_
  refine y_istore_n hC [(1, .int (nI 1)), (3, .int (nI 1)), (2, .int (nI 1)), (0, .int (nI 1))] dX0_rowOfRank_21 rfl (by decide) rfl ?_
  refine y_iload_n hC dX0_rowOfRank_22 2 rfl rfl ?_
  refine y_bipush hC (v := nI 10) dX0_rowOfRank_23 rfl ?_
  refine y_imul hC (v := nI 10) dX0_rowOfRank_25 (by decide) ?_
  refine y_istore_n hC [(2, .int (nI 10)), (1, .int (nI 1)), (3, .int (nI 1)), (0, .int (nI 1))] dX0_rowOfRank_26 rfl (by decide) rfl ?_
  refine y_iload_n hC dX0_rowOfRank_27 2 rfl rfl ?_
  refine y_iconst hC (v := nI 1) dX0_rowOfRank_28 rfl ?_
  refine y_isub hC (v := nI 0) dX0_rowOfRank_29 (by decide) ?_
  refine y_iconst hC (v := nI 4) dX0_rowOfRank_30 rfl ?_
  refine y_idiv hC (v := nI 0) dX0_rowOfRank_31 (by decide) (by decide) ?_
  refine y_istore_n hC [(3, .int (nI 0)), (2, .int (nI 10)), (1, .int (nI 1)), (0, .int (nI 1))] dX0_rowOfRank_32 rfl (by decide) rfl ?_
  refine y_goto hC 6 dX0_rowOfRank_33 (by decide) ?_
  refine y_iload_n hC dX0_rowOfRank_6 0 rfl rfl ?_
  refine y_if_le_n hC 36 dX0_rowOfRank_7 (by decide) 0 rfl (by omega) (fun c7 => ?_) (fun c7 => absurd c7 (by omega))
  refine y_iload_n hC dX0_rowOfRank_36 2 rfl rfl ?_
  exact hE (nI 1) () _ _ _ _ dX0_rowOfRank_37 (Nat.le_of_ble_eq_true rfl) (Nat.le_of_ble_eq_true rfl) rfl rfl
theorem nV_X0_clashes : yV yX0_clashes RX0 cX0_clashes 4 (some .boolean) 2 := ⟨(inLr7 _ (List.mem_of_getElem? (i := 23) rfl)), (inLr8 _ (List.mem_of_getElem? (i := 0) rfl)), (inLr1 _ (List.mem_of_getElem? (i := 15) rfl)), (inLr8 _ (List.mem_of_getElem? (i := 1) rfl)), rfl, by decide, by decide, by decide +kernel⟩
set_option maxHeartbeats 4000000 in
set_option maxRecDepth 100000 in
theorem q_clashes (b : Nat → Nat)   : MI l D (tyL cI cO cJ cZ) yX0_clashes cX0_clashes 4 .boolean ({ frames := 0, cells := 0, slots := 0, locals := 0 } : Room) [.ref (b 1), .int (nI 1), .int (nI 0)] ([((b 1), .inr (0, [.ref (b 2), .ref (b 3), .ref (b 4), .ref (b 5), .ref (b 6), .ref (b 7), .int (nI 0)])), ((b 2), .inl (cI, 12, .inl (fun k => nI (Zf k))))]) (fun r (_ : Unit) => r = nI 0) (fun _ => [((b 1), .inr (0, [.ref (b 2), .ref (b 3), .ref (b 4), .ref (b 5), .ref (b 6), .ref (b 7), .int (nI 0)])), ((b 2), .inl (cI, 12, .inl (fun k => nI (Zf k))))]) := by
  refine MI.of (by decide) (Nat.le_of_ble_eq_true rfl) (fun G hC hE => ?_)
  show G 0 0 ([((b 1), .inr (0, [.ref (b 2), .ref (b 3), .ref (b 4), .ref (b 5), .ref (b 6), .ref (b 7), .int (nI 0)])), ((b 2), .inl (cI, 12, .inl (fun k => nI (Zf k))))]) 0 [(0, .ref (b 1)), (1, .int (nI 1)), (2, .int (nI 0))] []
  refine y_iload_n hC dX0_clashes_0 2 rfl rfl ?_
  refine y_istore_n hC [(3, .int (nI 0)), (0, .ref (b 1)), (1, .int (nI 1)), (2, .int (nI 0))] dX0_clashes_1 rfl (by decide) rfl ?_
  have L2_l1 : ∀ n i : Nat, 12 + 1 ≤ i + n → i ≤ 12 → G 0 0 ([((b 1), .inr (0, [.ref (b 2), .ref (b 3), .ref (b 4), .ref (b 5), .ref (b 6), .ref (b 7), .int (nI 0)])), ((b 2), .inl (cI, 12, .inl (fun k => nI (Zf k))))]) 2 [(0, .ref (b 1)), (1, .int (nI 1)), (2, .int (nI 0)), (3, .int (nI i))] [] := by
    intro n
    induction n with
    | zero => intro i h1 h2; omega
    | succ n ih2i =>
      intro i h1i h2i
      refine y_iload_n hC dX0_clashes_2 3 rfl rfl ?_
      refine y_bipush hC (v := nI 12) dX0_clashes_3 rfl ?_
      refine y_icmp_ge_n hC 39 dX0_clashes_5 (by decide) i 12 rfl rfl (by omega) (by omega) (fun c5 => ?_) (fun c5 => ?_)
      · refine y_iconst hC (v := nI 0) dX0_clashes_39 rfl ?_
        exact hE (nI 0) () _ _ _ _ dX0_clashes_40 (Nat.le_of_ble_eq_true rfl) (Nat.le_of_ble_eq_true rfl) rfl rfl
      · refine y_aload_n hC dX0_clashes_8 0 rfl rfl ?_
        refine y_get hC cC0 0 rfl 0 (by decide) (inLr2 _ (List.mem_of_getElem? (i := 15) rfl)) rfl dX0_clashes_9 ?_
        refine y_iload_n hC dX0_clashes_12 3 rfl rfl ?_
        refine y_iald hC 1 0 rfl rfl i rfl (by omega) (by decide) dX0_clashes_13 ?_
        refine y_if_eq_n hC 33 dX0_clashes_14 (by decide) 0 rfl (by omega) (fun c14 => ?_) (fun c14 => absurd c14 (by omega))
        refine y_iinc hC (v := nI (i + 1)) [(3, .int (nI (i + 1))), (0, .ref (b 1)), (1, .int (nI 1)), (2, .int (nI 0))] dX0_clashes_33 (k := 3) rfl (ninc _) (by decide) rfl ?_
        refine y_goto hC 2 dX0_clashes_36 (by decide) ?_
        refine y_sub hC [1, 2, 3, 0] rfl ?_
        exact ih2i (i + 1) (by omega) (by omega)
  refine y_sub hC [1, 2, 3, 0] rfl ?_
  exact L2_l1 (12 + 1) 0 (by omega) (by omega)
theorem nV_X5_advise : yV yX5_advise RX5 cX5_advise 3 (some .int) 0 := ⟨(inLr12 _ (List.mem_of_getElem? (i := 2) rfl)), (inLr12 _ (List.mem_of_getElem? (i := 3) rfl)), (inLr1 _ (List.mem_of_getElem? (i := 2) rfl)), (inLr12 _ (List.mem_of_getElem? (i := 4) rfl)), rfl, by decide, by decide, by decide +kernel⟩
set_option maxHeartbeats 4000000 in
set_option maxRecDepth 100000 in
theorem q_X5_advise (b : Nat → Nat)   : MI l D (tyL cI cO cJ cZ) yX5_advise cX5_advise 3 .int ({ frames := 1, cells := 0, slots := 0, locals := 60 } : Room) [.ref (b 0)] ([((b 0), kOb b), ((b 1), .inr (0, [.ref (b 2), .ref (b 3), .ref (b 4), .ref (b 5), .ref (b 6), .ref (b 7), .int (nI 0)])), ((b 2), .inl (cI, 12, .inl (fun k => nI (Zf k))))]) (fun r (_ : Unit) => r = nI 1) (fun _ => []) := by
  refine MI.of (by decide) (Nat.le_of_ble_eq_true rfl) (fun G hC hE => ?_)
  show G 0 0 ([((b 0), kOb b), ((b 1), .inr (0, [.ref (b 2), .ref (b 3), .ref (b 4), .ref (b 5), .ref (b 6), .ref (b 7), .int (nI 0)])), ((b 2), .inl (cI, 12, .inl (fun k => nI (Zf k))))]) 0 [(0, .ref (b 0))] []
  refine y_iconst hC (v := nI 1) dX5_advise_0 rfl ?_
  refine y_istore_n hC [(1, .int (nI 1)), (0, .ref (b 0))] dX5_advise_1 rfl (by decide) rfl ?_
  refine y_iload_n hC dX5_advise_2 0 rfl rfl ?_
  refine y_sipush hC (v := nI 340) dX5_advise_3 rfl ?_
  refine y_icmp_gt_n hC 34 dX5_advise_6 (by decide) 1 340 rfl rfl (by omega) (by omega) (fun c6 => absurd c6 (by omega)) (fun c6 => ?_)
  refine y_iload_n hC dX5_advise_9 0 rfl rfl ?_
  refine y_callS_i hC (As := [.int (nI 1)]) (rest := []) (q_rank1) nS_X0_rowOfRank (inLr12 _ (List.mem_of_getElem? (i := 5) rfl)) [] [0, 1, 2] [0, 1, 2] (fun u => [((b 0), kOb b), ((b 1), .inr (0, [.ref (b 2), .ref (b 3), .ref (b 4), .ref (b 5), .ref (b 6), .ref (b 7), .int (nI 0)])), ((b 2), .inl (cI, 12, .inl (fun k => nI (Zf k))))]) rfl rfl rfl rfl (by decide) rfl (fun _ => rfl) rfl rfl (Nat.le_of_ble_eq_true rfl) dX5_advise_10 ⟨(Nat.le_of_ble_eq_true rfl), (Nat.le_of_ble_eq_true rfl)⟩ ⟨(Nat.le_of_ble_eq_true rfl), (Nat.le_of_ble_eq_true rfl)⟩ (fun r1 u1 hw1 => ?_)
  subst hw1
  refine y_istore_n hC [(2, .int (nI 1)), (1, .int (nI 1)), (0, .ref (b 0))] dX5_advise_13 rfl (by decide) rfl ?_
  refine y_aload_n hC dX5_advise_14 2 rfl rfl ?_
  refine y_get hC cC5 0 rfl 0 (by decide) (inLr1 _ (List.mem_of_getElem? (i := 16) rfl)) rfl dX5_advise_15 ?_
  refine y_iload_n hC dX5_advise_18 0 rfl rfl ?_
  refine y_iconst hC (v := nI 0) dX5_advise_19 rfl ?_
  refine y_callV_i hC (As := [.int (nI 1), .int (nI 0)]) (rest := []) (q_clashes b) nV_X0_clashes (inLr7 _ (List.mem_of_getElem? (i := 22) rfl)) [1, 2] [0] [0, 1, 2] (fun u => [((b 0), kOb b), ((b 1), .inr (0, [.ref (b 2), .ref (b 3), .ref (b 4), .ref (b 5), .ref (b 6), .ref (b 7), .int (nI 0)])), ((b 2), .inl (cI, 12, .inl (fun k => nI (Zf k))))]) rfl rfl rfl rfl (by decide) rfl (fun _ => rfl) 0 rfl rfl rfl rfl (Nat.le_of_ble_eq_true rfl) dX5_advise_20 ⟨(Nat.le_of_ble_eq_true rfl), (Nat.le_of_ble_eq_true rfl)⟩ ⟨(Nat.le_of_ble_eq_true rfl), (Nat.le_of_ble_eq_true rfl)⟩ (fun r2 u2 hw2 => ?_)
  subst hw2
  refine y_if_ne_n hC 28 dX5_advise_23 (by decide) 0 rfl (by omega) (fun c23 => absurd c23 (by omega)) (fun c23 => ?_)
  refine y_iload_n hC dX5_advise_26 0 rfl rfl ?_
  refine y_world hC [] (ws' := []) rfl rfl ?_
  exact hE (nI 1) () _ _ _ _ dX5_advise_27 (Nat.le_of_ble_eq_true rfl) (Nat.le_of_ble_eq_true rfl) rfl rfl
theorem nV_X5_setKnotter : yV yX5_setKnotter RX5 cX5_setKnotter 4 (some .int) 2 := ⟨(inLr12 _ (List.mem_of_getElem? (i := 16) rfl)), (inLr12 _ (List.mem_of_getElem? (i := 17) rfl)), (inLr1 _ (List.mem_of_getElem? (i := 2) rfl)), (inLr12 _ (List.mem_of_getElem? (i := 18) rfl)), rfl, by decide, by decide, by decide +kernel⟩
set_option maxHeartbeats 4000000 in
set_option maxRecDepth 100000 in
theorem q_X5_setKnotter (hlt : l.stackTraces = false) (b : Nat → Nat) (x : Int32) (y : Int32)  : XI l D (tyL cI cO cJ cZ) yX5_setKnotter cX5_setKnotter 4 .int ({ frames := 8, cells := 1, slots := 6, locals := 200 } : Room) [.ref (b 0), .int x, .int y] ([((b 0), kOb b), ((b 8), .inr (3, [.int (nI 0), .int (nI 0), .int (nI 0), .int (nI 0), .int (nI 0)]))]) (fun r (_ : Unit) => kcKno x y = 0 ∧ r = nI 0) (fun _ => []) (fun E => (E = "java/lang/IllegalArgumentException" ∧ kcKno x y = 1)) := by
  refine XI.of hlt (by decide) (Nat.le_of_ble_eq_true rfl) (fun G hC hE hX => ?_)
  show G 0 0 ([((b 0), kOb b), ((b 8), .inr (3, [.int (nI 0), .int (nI 0), .int (nI 0), .int (nI 0), .int (nI 0)]))]) 0 [(0, .ref (b 0)), (1, .int x), (2, .int y)] []
  refine y_iload_n hC dX5_setKnotter_0 1 rfl rfl ?_
  refine y_if_lt_z hC 20 dX5_setKnotter_1 (by decide) (fun c1 => ?_) (fun c1 => ?_)
  · exact hX _ _ _ _ _ "java/lang/IllegalArgumentException" "slip and skip are 0 to 99" 67 105 71 exOK2 (by decide) ⟨rfl, by unfold kcKno; split <;> omega⟩ dX5_setKnotter_20 dX5_setKnotter_23 dX5_setKnotter_24 dX5_setKnotter_26 dX5_setKnotter_29 (Nat.le_of_ble_eq_true rfl) (Nat.le_of_ble_eq_true rfl) (Nat.le_of_ble_eq_true rfl) (Nat.le_of_ble_eq_true rfl)
  · refine y_iload_n hC dX5_setKnotter_4 1 rfl rfl ?_
    refine y_bipush hC (v := nI 99) dX5_setKnotter_5 rfl ?_
    refine y_icmp_gt_z hC 20 dX5_setKnotter_7 (by decide) 99 rfl (by omega) (fun c7 => ?_) (fun c7 => ?_)
    · exact hX _ _ _ _ _ "java/lang/IllegalArgumentException" "slip and skip are 0 to 99" 67 105 71 exOK2 (by decide) ⟨rfl, by unfold kcKno; split <;> omega⟩ dX5_setKnotter_20 dX5_setKnotter_23 dX5_setKnotter_24 dX5_setKnotter_26 dX5_setKnotter_29 (Nat.le_of_ble_eq_true rfl) (Nat.le_of_ble_eq_true rfl) (Nat.le_of_ble_eq_true rfl) (Nat.le_of_ble_eq_true rfl)
    · refine y_iload_n hC dX5_setKnotter_10 2 rfl rfl ?_
      refine y_if_lt_z hC 20 dX5_setKnotter_11 (by decide) (fun c11 => ?_) (fun c11 => ?_)
      · exact hX _ _ _ _ _ "java/lang/IllegalArgumentException" "slip and skip are 0 to 99" 67 105 71 exOK2 (by decide) ⟨rfl, by unfold kcKno; split <;> omega⟩ dX5_setKnotter_20 dX5_setKnotter_23 dX5_setKnotter_24 dX5_setKnotter_26 dX5_setKnotter_29 (Nat.le_of_ble_eq_true rfl) (Nat.le_of_ble_eq_true rfl) (Nat.le_of_ble_eq_true rfl) (Nat.le_of_ble_eq_true rfl)
      · refine y_iload_n hC dX5_setKnotter_14 2 rfl rfl ?_
        refine y_bipush hC (v := nI 99) dX5_setKnotter_15 rfl ?_
        refine y_icmp_le_z hC 30 dX5_setKnotter_17 (by decide) 99 rfl (by omega) (fun c17 => ?_) (fun c17 => ?_)
        · obtain ⟨j1, hj1, rfl⟩ := i32_nat (x := x) (n := 100) (by omega) (by omega)
          have ej1 := nI_toInt (show j1 < 2 ^ 31 by omega)
          obtain ⟨j2, hj2, rfl⟩ := i32_nat (x := y) (n := 100) (by omega) (by omega)
          have ej2 := nI_toInt (show j2 < 2 ^ 31 by omega)
          refine y_bipush hC (v := nI 100) dX5_setKnotter_30 rfl ?_
          refine y_aload_n hC dX5_setKnotter_32 0 rfl rfl ?_
          refine y_get hC cC5 0 rfl 1 (by decide) (inLr1 _ (List.mem_of_getElem? (i := 20) rfl)) rfl dX5_setKnotter_33 ?_
          refine y_get hC cC3 1 rfl 0 (by decide) (inLr12 _ (List.mem_of_getElem? (i := 19) rfl)) rfl dX5_setKnotter_36 ?_
          refine y_imul hC (v := nI 0) dX5_setKnotter_39 (by decide) ?_
          refine y_aload_n hC dX5_setKnotter_40 0 rfl rfl ?_
          refine y_get hC cC5 0 rfl 1 (by decide) (inLr1 _ (List.mem_of_getElem? (i := 20) rfl)) rfl dX5_setKnotter_41 ?_
          refine y_get hC cC3 1 rfl 1 (by decide) (inLr12 _ (List.mem_of_getElem? (i := 20) rfl)) rfl dX5_setKnotter_44 ?_
          refine y_iadd hC (v := nI 0) dX5_setKnotter_47 (by decide) ?_
          refine y_istore_n hC [(3, .int (nI 0)), (0, .ref (b 0)), (1, .int (nI j1)), (2, .int (nI j2))] dX5_setKnotter_48 rfl (by decide) rfl ?_
          refine y_aload_n hC dX5_setKnotter_49 1 rfl rfl ?_
          refine y_get hC cC5 0 rfl 1 (by decide) (inLr1 _ (List.mem_of_getElem? (i := 20) rfl)) rfl dX5_setKnotter_50 ?_
          refine y_iload_n hC dX5_setKnotter_53 2 rfl rfl ?_
          refine y_put hC cC3 1 rfl 0 (by decide) (inLr12 _ (List.mem_of_getElem? (i := 19) rfl)) rfl rfl rfl (Nat.le_of_ble_eq_true rfl) dX5_setKnotter_54 ([((b 0), kOb b), ((b 8), .inr (3, [.int (nI j1), .int (nI 0), .int (nI 0), .int (nI 0), .int (nI 0)]))]) rfl ?_
          refine y_aload_n hC dX5_setKnotter_57 1 rfl rfl ?_
          refine y_get hC cC5 0 rfl 1 (by decide) (inLr1 _ (List.mem_of_getElem? (i := 20) rfl)) rfl dX5_setKnotter_58 ?_
          refine y_iload_n hC dX5_setKnotter_61 3 rfl rfl ?_
          refine y_put hC cC3 1 rfl 1 (by decide) (inLr12 _ (List.mem_of_getElem? (i := 20) rfl)) rfl rfl rfl (Nat.le_of_ble_eq_true rfl) dX5_setKnotter_62 ([((b 0), kOb b), ((b 8), .inr (3, [.int (nI j1), .int (nI j2), .int (nI 0), .int (nI 0), .int (nI 0)]))]) rfl ?_
          refine y_iload_n hC dX5_setKnotter_65 0 rfl rfl ?_
          refine y_world hC [] (ws' := []) rfl rfl ?_
          exact hE (nI 0) () _ _ _ _ dX5_setKnotter_66 (Nat.le_of_ble_eq_true rfl) (Nat.le_of_ble_eq_true rfl) rfl ⟨by unfold kcKno; split <;> omega, rfl⟩
        · exact hX _ _ _ _ _ "java/lang/IllegalArgumentException" "slip and skip are 0 to 99" 67 105 71 exOK2 (by decide) ⟨rfl, by unfold kcKno; split <;> omega⟩ dX5_setKnotter_20 dX5_setKnotter_23 dX5_setKnotter_24 dX5_setKnotter_26 dX5_setKnotter_29 (Nat.le_of_ble_eq_true rfl) (Nat.le_of_ble_eq_true rfl) (Nat.le_of_ble_eq_true rfl) (Nat.le_of_ble_eq_true rfl)
theorem nV_X5_setCosts : yV yX5_setCosts RX5 cX5_setCosts 4 (some .int) 2 := ⟨(inLr14 _ (List.mem_of_getElem? (i := 0) rfl)), (inLr14 _ (List.mem_of_getElem? (i := 1) rfl)), (inLr1 _ (List.mem_of_getElem? (i := 2) rfl)), (inLr14 _ (List.mem_of_getElem? (i := 2) rfl)), rfl, by decide, by decide, by decide +kernel⟩
set_option maxHeartbeats 4000000 in
set_option maxRecDepth 100000 in
theorem q_X5_setCosts (hlt : l.stackTraces = false) (b : Nat → Nat) (x : Int32) (y : Int32)  : XI l D (tyL cI cO cJ cZ) yX5_setCosts cX5_setCosts 4 .int ({ frames := 8, cells := 1, slots := 6, locals := 200 } : Room) [.ref (b 0), .int x, .int y] ([((b 0), kOb b), ((b 9), .inr (2, [.int (nI 4), .int (nI 4), .ref (b 10), .ref (b 11)]))]) (fun r (_ : Unit) => kcCos x y = 0 ∧ r = nI 44) (fun _ => []) (fun E => (E = "java/lang/IllegalArgumentException" ∧ kcCos x y = 1)) := by
  refine XI.of hlt (by decide) (Nat.le_of_ble_eq_true rfl) (fun G hC hE hX => ?_)
  show G 0 0 ([((b 0), kOb b), ((b 9), .inr (2, [.int (nI 4), .int (nI 4), .ref (b 10), .ref (b 11)]))]) 0 [(0, .ref (b 0)), (1, .int x), (2, .int y)] []
  refine y_iload_n hC dX5_setCosts_0 1 rfl rfl ?_
  refine y_iconst hC (v := nI 1) dX5_setCosts_1 rfl ?_
  refine y_icmp_lt_z hC 22 dX5_setCosts_2 (by decide) 1 rfl (by omega) (fun c2 => ?_) (fun c2 => ?_)
  · exact hX _ _ _ _ _ "java/lang/IllegalArgumentException" "missed and ghost are 1 to 9" 67 126 71 exOK2 (by decide) ⟨rfl, by unfold kcCos; split <;> omega⟩ dX5_setCosts_22 dX5_setCosts_25 dX5_setCosts_26 dX5_setCosts_28 dX5_setCosts_31 (Nat.le_of_ble_eq_true rfl) (Nat.le_of_ble_eq_true rfl) (Nat.le_of_ble_eq_true rfl) (Nat.le_of_ble_eq_true rfl)
  · refine y_iload_n hC dX5_setCosts_5 1 rfl rfl ?_
    refine y_bipush hC (v := nI 9) dX5_setCosts_6 rfl ?_
    refine y_icmp_gt_z hC 22 dX5_setCosts_8 (by decide) 9 rfl (by omega) (fun c8 => ?_) (fun c8 => ?_)
    · exact hX _ _ _ _ _ "java/lang/IllegalArgumentException" "missed and ghost are 1 to 9" 67 126 71 exOK2 (by decide) ⟨rfl, by unfold kcCos; split <;> omega⟩ dX5_setCosts_22 dX5_setCosts_25 dX5_setCosts_26 dX5_setCosts_28 dX5_setCosts_31 (Nat.le_of_ble_eq_true rfl) (Nat.le_of_ble_eq_true rfl) (Nat.le_of_ble_eq_true rfl) (Nat.le_of_ble_eq_true rfl)
    · refine y_iload_n hC dX5_setCosts_11 2 rfl rfl ?_
      refine y_iconst hC (v := nI 1) dX5_setCosts_12 rfl ?_
      refine y_icmp_lt_z hC 22 dX5_setCosts_13 (by decide) 1 rfl (by omega) (fun c13 => ?_) (fun c13 => ?_)
      · exact hX _ _ _ _ _ "java/lang/IllegalArgumentException" "missed and ghost are 1 to 9" 67 126 71 exOK2 (by decide) ⟨rfl, by unfold kcCos; split <;> omega⟩ dX5_setCosts_22 dX5_setCosts_25 dX5_setCosts_26 dX5_setCosts_28 dX5_setCosts_31 (Nat.le_of_ble_eq_true rfl) (Nat.le_of_ble_eq_true rfl) (Nat.le_of_ble_eq_true rfl) (Nat.le_of_ble_eq_true rfl)
      · refine y_iload_n hC dX5_setCosts_16 2 rfl rfl ?_
        refine y_bipush hC (v := nI 9) dX5_setCosts_17 rfl ?_
        refine y_icmp_le_z hC 32 dX5_setCosts_19 (by decide) 9 rfl (by omega) (fun c19 => ?_) (fun c19 => ?_)
        · obtain ⟨j1, hj1, rfl⟩ := i32_nat (x := x) (n := 10) (by omega) (by omega)
          have ej1 := nI_toInt (show j1 < 2 ^ 31 by omega)
          obtain ⟨j2, hj2, rfl⟩ := i32_nat (x := y) (n := 10) (by omega) (by omega)
          have ej2 := nI_toInt (show j2 < 2 ^ 31 by omega)
          refine y_bipush hC (v := nI 10) dX5_setCosts_32 rfl ?_
          refine y_aload_n hC dX5_setCosts_34 0 rfl rfl ?_
          refine y_get hC cC5 0 rfl 2 (by decide) (inLr2 _ (List.mem_of_getElem? (i := 0) rfl)) rfl dX5_setCosts_35 ?_
          refine y_get hC cC2 1 rfl 0 (by decide) (inLr14 _ (List.mem_of_getElem? (i := 3) rfl)) rfl dX5_setCosts_38 ?_
          refine y_imul hC (v := nI 40) dX5_setCosts_41 (by decide) ?_
          refine y_aload_n hC dX5_setCosts_42 0 rfl rfl ?_
          refine y_get hC cC5 0 rfl 2 (by decide) (inLr2 _ (List.mem_of_getElem? (i := 0) rfl)) rfl dX5_setCosts_43 ?_
          refine y_get hC cC2 1 rfl 1 (by decide) (inLr14 _ (List.mem_of_getElem? (i := 4) rfl)) rfl dX5_setCosts_46 ?_
          refine y_iadd hC (v := nI 44) dX5_setCosts_49 (by decide) ?_
          refine y_istore_n hC [(3, .int (nI 44)), (0, .ref (b 0)), (1, .int (nI j1)), (2, .int (nI j2))] dX5_setCosts_50 rfl (by decide) rfl ?_
          refine y_aload_n hC dX5_setCosts_51 1 rfl rfl ?_
          refine y_get hC cC5 0 rfl 2 (by decide) (inLr2 _ (List.mem_of_getElem? (i := 0) rfl)) rfl dX5_setCosts_52 ?_
          refine y_iload_n hC dX5_setCosts_55 2 rfl rfl ?_
          refine y_put hC cC2 1 rfl 0 (by decide) (inLr14 _ (List.mem_of_getElem? (i := 3) rfl)) rfl rfl rfl (Nat.le_of_ble_eq_true rfl) dX5_setCosts_56 ([((b 0), kOb b), ((b 9), .inr (2, [.int (nI j1), .int (nI 4), .ref (b 10), .ref (b 11)]))]) rfl ?_
          refine y_aload_n hC dX5_setCosts_59 1 rfl rfl ?_
          refine y_get hC cC5 0 rfl 2 (by decide) (inLr2 _ (List.mem_of_getElem? (i := 0) rfl)) rfl dX5_setCosts_60 ?_
          refine y_iload_n hC dX5_setCosts_63 3 rfl rfl ?_
          refine y_put hC cC2 1 rfl 1 (by decide) (inLr14 _ (List.mem_of_getElem? (i := 4) rfl)) rfl rfl rfl (Nat.le_of_ble_eq_true rfl) dX5_setCosts_64 ([((b 0), kOb b), ((b 9), .inr (2, [.int (nI j1), .int (nI j2), .ref (b 10), .ref (b 11)]))]) rfl ?_
          refine y_iload_n hC dX5_setCosts_67 0 rfl rfl ?_
          refine y_world hC [] (ws' := []) rfl rfl ?_
          exact hE (nI 44) () _ _ _ _ dX5_setCosts_68 (Nat.le_of_ble_eq_true rfl) (Nat.le_of_ble_eq_true rfl) rfl ⟨by unfold kcCos; split <;> omega, rfl⟩
        · exact hX _ _ _ _ _ "java/lang/IllegalArgumentException" "missed and ghost are 1 to 9" 67 126 71 exOK2 (by decide) ⟨rfl, by unfold kcCos; split <;> omega⟩ dX5_setCosts_22 dX5_setCosts_25 dX5_setCosts_26 dX5_setCosts_28 dX5_setCosts_31 (Nat.le_of_ble_eq_true rfl) (Nat.le_of_ble_eq_true rfl) (Nat.le_of_ble_eq_true rfl) (Nat.le_of_ble_eq_true rfl)
theorem nV_X2_taking : yV yX2_taking RX2 cX2_taking 3 (some .int) 2 := ⟨(inLr11 _ (List.mem_of_getElem? (i := 4) rfl)), (inLr11 _ (List.mem_of_getElem? (i := 5) rfl)), (inLr1 _ (List.mem_of_getElem? (i := 23) rfl)), (inLr11 _ (List.mem_of_getElem? (i := 6) rfl)), rfl, by decide, by decide, by decide +kernel⟩
set_option maxHeartbeats 4000000 in
set_option maxRecDepth 100000 in
theorem q_taking (b : Nat → Nat) (i : Nat) (j : Nat) (hi : i < 5) (hj : j < 5) (hij : i ≠ j) : MI l D (tyL cI cO cJ cZ) yX2_taking cX2_taking 3 .int ({ frames := 0, cells := 0, slots := 0, locals := 0 } : Room) [.ref (b 9), .int (nI i), .int (nI j)] ([((b 9), .inr (2, [.int (nI 4), .int (nI 4), .ref (b 10), .ref (b 11)])), ((b 10), .inl (cI, 25, .inl (fun k => nI (Tf k))))]) (fun r (_ : Unit) => r = nI 3) (fun _ => [((b 9), .inr (2, [.int (nI 4), .int (nI 4), .ref (b 10), .ref (b 11)])), ((b 10), .inl (cI, 25, .inl (fun k => nI (Tf k))))]) := by
  refine MI.of (by decide) (Nat.le_of_ble_eq_true rfl) (fun G hC hE => ?_)
  show G 0 0 ([((b 9), .inr (2, [.int (nI 4), .int (nI 4), .ref (b 10), .ref (b 11)])), ((b 10), .inl (cI, 25, .inl (fun k => nI (Tf k))))]) 0 [(0, .ref (b 9)), (1, .int (nI i)), (2, .int (nI j))] []
  refine y_iload_n hC dX2_taking_0 1 rfl rfl ?_
  refine y_iload_n hC dX2_taking_1 2 rfl rfl ?_
  refine y_icmp_ne_n hC 7 dX2_taking_2 (by decide) i j rfl rfl (by omega) (by omega) (fun c2 => ?_) (fun c2 => absurd c2 (by omega))
  refine y_iload_n hC dX2_taking_7 1 rfl rfl ?_
  refine y_iconst hC (v := nI 5) dX2_taking_8 rfl ?_
  refine y_icmp_eq_n hC 17 dX2_taking_9 (by decide) i 5 rfl rfl (by omega) (by omega) (fun c9 => absurd c9 (by omega)) (fun c9 => ?_)
  refine y_iload_n hC dX2_taking_12 2 rfl rfl ?_
  refine y_iconst hC (v := nI 5) dX2_taking_13 rfl ?_
  refine y_icmp_ne_n hC 22 dX2_taking_14 (by decide) j 5 rfl rfl (by omega) (by omega) (fun c14 => ?_) (fun c14 => absurd c14 (by omega))
  refine y_aload_n hC dX2_taking_22 0 rfl rfl ?_
  refine y_get hC cC2 0 rfl 2 (by decide) (inLr3 _ (List.mem_of_getElem? (i := 6) rfl)) rfl dX2_taking_23 ?_
  refine y_iload_n hC dX2_taking_26 1 rfl rfl ?_
  refine y_iconst hC (v := nI 5) dX2_taking_27 rfl ?_
  refine y_imul hC (v := nI (i * 5)) dX2_taking_28 (pk_mul _ _) ?_
  refine y_iload_n hC dX2_taking_29 2 rfl rfl ?_
  refine y_iadd hC (v := nI ((i * 5) + j)) dX2_taking_30 (nI_add _ _) ?_
  refine y_iald hC 1 0 rfl rfl ((i * 5) + j) rfl (by omega) (by decide) dX2_taking_31 ?_
  exact hE (nI (Tf ((i * 5) + j))) () _ _ _ _ dX2_taking_32 (Nat.le_of_ble_eq_true rfl) (Nat.le_of_ble_eq_true rfl) rfl rfl
theorem nV_X2_putTaking : yV yX2_putTaking RX2 cX2_putTaking 4 none 3 := ⟨(inLr13 _ (List.mem_of_getElem? (i := 13) rfl)), (inLr13 _ (List.mem_of_getElem? (i := 14) rfl)), (inLr1 _ (List.mem_of_getElem? (i := 23) rfl)), (inLr13 _ (List.mem_of_getElem? (i := 15) rfl)), rfl, by decide, by decide, by decide +kernel⟩
set_option maxHeartbeats 4000000 in
set_option maxRecDepth 100000 in
theorem q_putTaking (b : Nat → Nat) (i : Nat) (j : Nat) (c : Nat) (hi : i < 5) (hj : j < 5) : MV l D (tyL cI cO cJ cZ) yX2_putTaking cX2_putTaking 4 ({ frames := 0, cells := 0, slots := 0, locals := 0 } : Room) [.ref (b 9), .int (nI i), .int (nI j), .int (nI c)] ([((b 9), .inr (2, [.int (nI 4), .int (nI 4), .ref (b 10), .ref (b 11)])), ((b 10), .inl (cI, 25, .inl (fun k => nI (Tf k))))]) (fun (_ : Unit) => True) (fun _ => []) := by
  refine MV.of (by decide) (Nat.le_of_ble_eq_true rfl) (fun G hC hE => ?_)
  show G 0 0 ([((b 9), .inr (2, [.int (nI 4), .int (nI 4), .ref (b 10), .ref (b 11)])), ((b 10), .inl (cI, 25, .inl (fun k => nI (Tf k))))]) 0 [(0, .ref (b 9)), (1, .int (nI i)), (2, .int (nI j)), (3, .int (nI c))] []
  refine y_aload_n hC dX2_putTaking_0 0 rfl rfl ?_
  refine y_get hC cC2 0 rfl 2 (by decide) (inLr3 _ (List.mem_of_getElem? (i := 6) rfl)) rfl dX2_putTaking_1 ?_
  refine y_iload_n hC dX2_putTaking_4 1 rfl rfl ?_
  refine y_iconst hC (v := nI 5) dX2_putTaking_5 rfl ?_
  refine y_imul hC (v := nI (i * 5)) dX2_putTaking_6 (pk_mul _ _) ?_
  refine y_iload_n hC dX2_putTaking_7 2 rfl rfl ?_
  refine y_iadd hC (v := nI ((i * 5) + j)) dX2_putTaking_8 (nI_add _ _) ?_
  refine y_iload_n hC dX2_putTaking_9 3 rfl rfl ?_
  refine y_iast hC 1 0 rfl rfl ((i * 5) + j) rfl (by omega) (by decide) dX2_putTaking_10 ([((b 9), .inr (2, [.int (nI 4), .int (nI 4), .ref (b 10), .ref (b 11)])), ((b 10), .inl (cI, 25, .inl (fun k => nI ((updN Tf ((i * 5) + j) c) k))))]) (by rw [← updN_eq]; rfl) ?_
  refine y_aload_n hC dX2_putTaking_11 0 rfl rfl ?_
  refine y_get hC cC2 0 rfl 2 (by decide) (inLr3 _ (List.mem_of_getElem? (i := 6) rfl)) rfl dX2_putTaking_12 ?_
  refine y_iload_n hC dX2_putTaking_15 2 rfl rfl ?_
  refine y_iconst hC (v := nI 5) dX2_putTaking_16 rfl ?_
  refine y_imul hC (v := nI (j * 5)) dX2_putTaking_17 (pk_mul _ _) ?_
  refine y_iload_n hC dX2_putTaking_18 1 rfl rfl ?_
  refine y_iadd hC (v := nI ((j * 5) + i)) dX2_putTaking_19 (nI_add _ _) ?_
  refine y_iload_n hC dX2_putTaking_20 3 rfl rfl ?_
  refine y_iast hC 1 0 rfl rfl ((j * 5) + i) rfl (by omega) (by decide) dX2_putTaking_21 ([((b 9), .inr (2, [.int (nI 4), .int (nI 4), .ref (b 10), .ref (b 11)])), ((b 10), .inl (cI, 25, .inl (fun k => nI ((updN (updN Tf ((i * 5) + j) c) ((j * 5) + i) c) k))))]) (by rw [← updN_eq]; rfl) ?_
  refine y_world hC [] (ws' := []) rfl rfl ?_
  exact hE () _ _ _ _ dX2_putTaking_22 (Nat.le_of_ble_eq_true rfl) (Nat.le_of_ble_eq_true rfl) trivial
theorem nV_X5_setFeel : yV yX5_setFeel RX5 cX5_setFeel 5 (some .int) 3 := ⟨(inLr13 _ (List.mem_of_getElem? (i := 7) rfl)), (inLr13 _ (List.mem_of_getElem? (i := 8) rfl)), (inLr1 _ (List.mem_of_getElem? (i := 2) rfl)), (inLr13 _ (List.mem_of_getElem? (i := 9) rfl)), rfl, by decide, by decide, by decide +kernel⟩
set_option maxHeartbeats 4000000 in
set_option maxRecDepth 100000 in
theorem q_X5_setFeel (hlt : l.stackTraces = false) (b : Nat → Nat) (x : Int32) (y : Int32) (z : Int32)  : XI l D (tyL cI cO cJ cZ) yX5_setFeel cX5_setFeel 5 .int ({ frames := 8, cells := 1, slots := 6, locals := 200 } : Room) [.ref (b 0), .int x, .int y, .int z] ([((b 0), kOb b), ((b 9), .inr (2, [.int (nI 4), .int (nI 4), .ref (b 10), .ref (b 11)])), ((b 10), .inl (cI, 25, .inl (fun k => nI (Tf k))))]) (fun r (_ : Unit) => kcFee x y z = 0 ∧ r = nI 3) (fun _ => []) (fun E => (E = "java/lang/IllegalArgumentException" ∧ kcFee x y z = 1)) := by
  refine XI.of hlt (by decide) (Nat.le_of_ble_eq_true rfl) (fun G hC hE hX => ?_)
  show G 0 0 ([((b 0), kOb b), ((b 9), .inr (2, [.int (nI 4), .int (nI 4), .ref (b 10), .ref (b 11)])), ((b 10), .inl (cI, 25, .inl (fun k => nI (Tf k))))]) 0 [(0, .ref (b 0)), (1, .int x), (2, .int y), (3, .int z)] []
  refine y_iload_n hC dX5_setFeel_0 1 rfl rfl ?_
  refine y_callS_i hC (As := [.int x]) (rest := []) (q_X5_isNoKind x) nS_X5_isNoKind (inLr13 _ (List.mem_of_getElem? (i := 10) rfl)) [] [0, 1, 2] [0, 1, 2] (fun u => [((b 0), kOb b), ((b 9), .inr (2, [.int (nI 4), .int (nI 4), .ref (b 10), .ref (b 11)])), ((b 10), .inl (cI, 25, .inl (fun k => nI (Tf k))))]) rfl rfl rfl rfl (by decide) rfl (fun _ => rfl) rfl rfl (Nat.le_of_ble_eq_true rfl) dX5_setFeel_1 ⟨(Nat.le_of_ble_eq_true rfl), (Nat.le_of_ble_eq_true rfl)⟩ ⟨(Nat.le_of_ble_eq_true rfl), (Nat.le_of_ble_eq_true rfl)⟩ (fun r1 u1 hw1 => ?_)
  obtain ⟨rfl, hb_u1⟩ := hw1
  refine y_if_ne_n hC 29 dX5_setFeel_4 (by decide) u1 rfl (by omega) (fun c4 => ?_) (fun c4 => ?_)
  · exact hX _ _ _ _ _ "java/lang/IllegalArgumentException" "a and b are two kinds, cost is 0 to 9" 67 117 71 exOK2 (by decide) ⟨rfl, by unfold kcFee; split <;> omega⟩ dX5_setFeel_29 dX5_setFeel_32 dX5_setFeel_33 dX5_setFeel_35 dX5_setFeel_38 (Nat.le_of_ble_eq_true rfl) (Nat.le_of_ble_eq_true rfl) (Nat.le_of_ble_eq_true rfl) (Nat.le_of_ble_eq_true rfl)
  · refine y_iload_n hC dX5_setFeel_7 2 rfl rfl ?_
    refine y_callS_i hC (As := [.int y]) (rest := []) (q_X5_isNoKind y) nS_X5_isNoKind (inLr13 _ (List.mem_of_getElem? (i := 10) rfl)) [] [0, 1, 2] [0, 1, 2] (fun u => [((b 0), kOb b), ((b 9), .inr (2, [.int (nI 4), .int (nI 4), .ref (b 10), .ref (b 11)])), ((b 10), .inl (cI, 25, .inl (fun k => nI (Tf k))))]) rfl rfl rfl rfl (by decide) rfl (fun _ => rfl) rfl rfl (Nat.le_of_ble_eq_true rfl) dX5_setFeel_8 ⟨(Nat.le_of_ble_eq_true rfl), (Nat.le_of_ble_eq_true rfl)⟩ ⟨(Nat.le_of_ble_eq_true rfl), (Nat.le_of_ble_eq_true rfl)⟩ (fun r2 u2 hw2 => ?_)
    obtain ⟨rfl, hb_u2⟩ := hw2
    refine y_if_ne_n hC 29 dX5_setFeel_11 (by decide) u2 rfl (by omega) (fun c11 => ?_) (fun c11 => ?_)
    · exact hX _ _ _ _ _ "java/lang/IllegalArgumentException" "a and b are two kinds, cost is 0 to 9" 67 117 71 exOK2 (by decide) ⟨rfl, by unfold kcFee; split <;> omega⟩ dX5_setFeel_29 dX5_setFeel_32 dX5_setFeel_33 dX5_setFeel_35 dX5_setFeel_38 (Nat.le_of_ble_eq_true rfl) (Nat.le_of_ble_eq_true rfl) (Nat.le_of_ble_eq_true rfl) (Nat.le_of_ble_eq_true rfl)
    · refine y_iload_n hC dX5_setFeel_14 1 rfl rfl ?_
      refine y_iload_n hC dX5_setFeel_15 2 rfl rfl ?_
      refine y_icmp_eq_w hC 29 dX5_setFeel_16 (by decide) (fun c16 => ?_) (fun c16 => ?_)
      · exact hX _ _ _ _ _ "java/lang/IllegalArgumentException" "a and b are two kinds, cost is 0 to 9" 67 117 71 exOK2 (by decide) ⟨rfl, by unfold kcFee; split <;> omega⟩ dX5_setFeel_29 dX5_setFeel_32 dX5_setFeel_33 dX5_setFeel_35 dX5_setFeel_38 (Nat.le_of_ble_eq_true rfl) (Nat.le_of_ble_eq_true rfl) (Nat.le_of_ble_eq_true rfl) (Nat.le_of_ble_eq_true rfl)
      · refine y_iload_n hC dX5_setFeel_19 3 rfl rfl ?_
        refine y_if_lt_z hC 29 dX5_setFeel_20 (by decide) (fun c20 => ?_) (fun c20 => ?_)
        · exact hX _ _ _ _ _ "java/lang/IllegalArgumentException" "a and b are two kinds, cost is 0 to 9" 67 117 71 exOK2 (by decide) ⟨rfl, by unfold kcFee; split <;> omega⟩ dX5_setFeel_29 dX5_setFeel_32 dX5_setFeel_33 dX5_setFeel_35 dX5_setFeel_38 (Nat.le_of_ble_eq_true rfl) (Nat.le_of_ble_eq_true rfl) (Nat.le_of_ble_eq_true rfl) (Nat.le_of_ble_eq_true rfl)
        · refine y_iload_n hC dX5_setFeel_23 3 rfl rfl ?_
          refine y_bipush hC (v := nI 9) dX5_setFeel_24 rfl ?_
          refine y_icmp_le_z hC 39 dX5_setFeel_26 (by decide) 9 rfl (by omega) (fun c26 => ?_) (fun c26 => ?_)
          · obtain ⟨j1, hj1, rfl⟩ := i32_nat (x := x) (n := 5) (by omega) (by omega)
            have ej1 := nI_toInt (show j1 < 2 ^ 31 by omega)
            obtain ⟨j2, hj2, rfl⟩ := i32_nat (x := y) (n := 5) (by omega) (by omega)
            have ej2 := nI_toInt (show j2 < 2 ^ 31 by omega)
            obtain ⟨j3, hj3, rfl⟩ := i32_nat (x := z) (n := 10) (by omega) (by omega)
            have ej3 := nI_toInt (show j3 < 2 ^ 31 by omega)
            refine y_aload_n hC dX5_setFeel_39 0 rfl rfl ?_
            refine y_get hC cC5 0 rfl 2 (by decide) (inLr2 _ (List.mem_of_getElem? (i := 0) rfl)) rfl dX5_setFeel_40 ?_
            refine y_iload_n hC dX5_setFeel_43 1 rfl rfl ?_
            refine y_iload_n hC dX5_setFeel_44 2 rfl rfl ?_
            refine y_callV_i hC (As := [.int (nI j1), .int (nI j2)]) (rest := []) (q_taking b j1 j2 (by omega) (by omega) (by omega)) nV_X2_taking (inLr13 _ (List.mem_of_getElem? (i := 11) rfl)) [1, 2] [0] [0, 1, 2] (fun u => [((b 0), kOb b), ((b 9), .inr (2, [.int (nI 4), .int (nI 4), .ref (b 10), .ref (b 11)])), ((b 10), .inl (cI, 25, .inl (fun k => nI (Tf k))))]) rfl rfl rfl rfl (by decide) rfl (fun _ => rfl) 0 rfl rfl rfl rfl (Nat.le_of_ble_eq_true rfl) dX5_setFeel_45 ⟨(Nat.le_of_ble_eq_true rfl), (Nat.le_of_ble_eq_true rfl)⟩ ⟨(Nat.le_of_ble_eq_true rfl), (Nat.le_of_ble_eq_true rfl)⟩ (fun r3 u3 hw3 => ?_)
            subst hw3
            refine y_istore hC [(4, .int (nI 3)), (0, .ref (b 0)), (1, .int (nI j1)), (2, .int (nI j2)), (3, .int (nI j3))] dX5_setFeel_48 (by decide) rfl ?_
            refine y_aload_n hC dX5_setFeel_50 1 rfl rfl ?_
            refine y_get hC cC5 0 rfl 2 (by decide) (inLr2 _ (List.mem_of_getElem? (i := 0) rfl)) rfl dX5_setFeel_51 ?_
            refine y_iload_n hC dX5_setFeel_54 2 rfl rfl ?_
            refine y_iload_n hC dX5_setFeel_55 3 rfl rfl ?_
            refine y_iload_n hC dX5_setFeel_56 4 rfl rfl ?_
            refine y_callV_v hC (As := [.int (nI j1), .int (nI j2), .int (nI j3)]) (rest := []) (q_putTaking b j1 j2 j3 (by omega) (by omega)) nV_X2_putTaking (inLr13 _ (List.mem_of_getElem? (i := 12) rfl)) [1, 2] [0] [0] (fun u => [((b 0), kOb b)]) rfl rfl rfl rfl (by decide) rfl (fun _ => rfl) 0 rfl rfl rfl rfl (Nat.le_of_ble_eq_true rfl) dX5_setFeel_57 ⟨(Nat.le_of_ble_eq_true rfl), (Nat.le_of_ble_eq_true rfl)⟩ ⟨(Nat.le_of_ble_eq_true rfl), (Nat.le_of_ble_eq_true rfl)⟩ (fun u4 hw4 => ?_)
            refine y_iload hC dX5_setFeel_60 0 rfl ?_
            refine y_world hC [] (ws' := []) rfl rfl ?_
            exact hE (nI 3) () _ _ _ _ dX5_setFeel_62 (Nat.le_of_ble_eq_true rfl) (Nat.le_of_ble_eq_true rfl) rfl ⟨by unfold kcFee; split <;> omega, rfl⟩
          · exact hX _ _ _ _ _ "java/lang/IllegalArgumentException" "a and b are two kinds, cost is 0 to 9" 67 117 71 exOK2 (by decide) ⟨rfl, by unfold kcFee; split <;> omega⟩ dX5_setFeel_29 dX5_setFeel_32 dX5_setFeel_33 dX5_setFeel_35 dX5_setFeel_38 (Nat.le_of_ble_eq_true rfl) (Nat.le_of_ble_eq_true rfl) (Nat.le_of_ble_eq_true rfl) (Nat.le_of_ble_eq_true rfl)
theorem nV_X5_appendNumber : yV yX5_appendNumber RX5 cX5_appendNumber 3 none 1 := ⟨(inLr14 _ (List.mem_of_getElem? (i := 21) rfl)), (inLr14 _ (List.mem_of_getElem? (i := 22) rfl)), (inLr1 _ (List.mem_of_getElem? (i := 2) rfl)), (inLr14 _ (List.mem_of_getElem? (i := 23) rfl)), rfl, by decide, by decide, by decide +kernel⟩
set_option maxHeartbeats 4000000 in
set_option maxRecDepth 100000 in
theorem q_append (b : Nat → Nat) (x : Int32) (n : Nat) (hn : n ≤ 76) (f : Nat → Int32) : MV l D (tyL cI cO cJ cZ) yX5_appendNumber cX5_appendNumber 3 ({ frames := 0, cells := 0, slots := 0, locals := 0 } : Room) [.ref (b 0), .int x] [((b 0), .inr (5, [.ref (b 1), .ref (b 8), .ref (b 9), .ref (b 12), .ref (b 19), .int (nI 0), .ref (b 20), .int (nI n), .ref (b 21), .int (nI 0)])), ((b 20), .inl (cI, 80, .inl f))] (fun (_ : Nat → Int32) => True) (fun g => [((b 0), .inr (5, [.ref (b 1), .ref (b 8), .ref (b 9), .ref (b 12), .ref (b 19), .int (nI 0), .ref (b 20), .int (nI (n + 4)), .ref (b 21), .int (nI 0)])), ((b 20), .inl (cI, 80, .inl g))]) := by
  refine MV.of (by decide) (Nat.le_of_ble_eq_true rfl) (fun G hC hE => ?_)
  show G 0 0 ([((b 0), .inr (5, [.ref (b 1), .ref (b 8), .ref (b 9), .ref (b 12), .ref (b 19), .int (nI 0), .ref (b 20), .int (nI n), .ref (b 21), .int (nI 0)])), ((b 20), .inl (cI, 80, .inl f))]) 0 [(0, .ref (b 0)), (1, .int x)] []
  refine y_bipush hC (v := nI 24) dX5_appendNumber_0 rfl ?_
  refine y_istore_n hC [(2, .int (nI 24)), (0, .ref (b 0)), (1, .int x)] dX5_appendNumber_2 rfl (by decide) rfl ?_
  refine y_iload_n hC dX5_appendNumber_3 0 rfl rfl ?_
  refine y_if_lt_n hC 48 dX5_appendNumber_4 (by decide) 24 rfl (by omega) ?_
  refine y_aload_n hC dX5_appendNumber_7 1 rfl rfl ?_
  refine y_get hC cC5 0 rfl 7 (by decide) (inLr14 _ (List.mem_of_getElem? (i := 19) rfl)) rfl dX5_appendNumber_8 ?_
  refine y_bipush hC (v := nI 80) dX5_appendNumber_11 rfl ?_
  refine y_icmp_ge_n hC 42 dX5_appendNumber_13 (by decide) n 80 rfl rfl (by omega) (by omega) (fun c13 => absurd c13 (by omega)) (fun c13 => ?_)
  refine y_aload_n hC dX5_appendNumber_16 1 rfl rfl ?_
  refine y_get hC cC5 0 rfl 6 (by decide) (inLr2 _ (List.mem_of_getElem? (i := 10) rfl)) rfl dX5_appendNumber_17 ?_
  refine y_aload_n hC dX5_appendNumber_20 1 rfl rfl ?_
  refine y_get hC cC5 0 rfl 7 (by decide) (inLr14 _ (List.mem_of_getElem? (i := 19) rfl)) rfl dX5_appendNumber_21 ?_
  refine y_iload_n hC dX5_appendNumber_24 2 rfl rfl ?_
  refine y_iload_n hC dX5_appendNumber_25 0 rfl rfl ?_
  refine y_iushr hC (v := (x.toUInt32 >>> ((nI 24).toUInt32 &&& Int32.toUInt32 31)).toInt32) dX5_appendNumber_26 rfl ?_
  refine y_sipush hC (v := nI 255) dX5_appendNumber_27 rfl ?_
  refine y_iand hC (v := ((x.toUInt32 >>> ((nI 24).toUInt32 &&& Int32.toUInt32 31)).toInt32) &&& (nI 255)) dX5_appendNumber_30 rfl ?_
  refine y_iast hC 1 0 rfl rfl n rfl (by omega) (by decide) dX5_appendNumber_31 ([((b 0), .inr (5, [.ref (b 1), .ref (b 8), .ref (b 9), .ref (b 12), .ref (b 19), .int (nI 0), .ref (b 20), .int (nI n), .ref (b 21), .int (nI 0)])), ((b 20), .inl (cI, 80, .inl (upd f n (((x.toUInt32 >>> ((nI 24).toUInt32 &&& Int32.toUInt32 31)).toInt32) &&& (nI 255)))))]) rfl ?_
  suffices H9 : ∀ tp1 : Nat → Int32, G 0 0 ([((b 0), .inr (5, [.ref (b 1), .ref (b 8), .ref (b 9), .ref (b 12), .ref (b 19), .int (nI 0), .ref (b 20), .int (nI n), .ref (b 21), .int (nI 0)])), ((b 20), .inl (cI, 80, .inl tp1))]) 32 [(2, .int (nI 24)), (0, .ref (b 0)), (1, .int x)] [] from H9 _
  intro tp1
  refine y_aload_n hC dX5_appendNumber_32 1 rfl rfl ?_
  refine y_dup hC dX5_appendNumber_33 rfl ?_
  refine y_get hC cC5 0 rfl 7 (by decide) (inLr14 _ (List.mem_of_getElem? (i := 19) rfl)) rfl dX5_appendNumber_34 ?_
  refine y_iconst hC (v := nI 1) dX5_appendNumber_37 rfl ?_
  refine y_iadd hC (v := nI (n + 1)) dX5_appendNumber_38 (nI_add _ _) ?_
  refine y_put hC cC5 0 rfl 7 (by decide) (inLr14 _ (List.mem_of_getElem? (i := 19) rfl)) rfl rfl rfl (Nat.le_of_ble_eq_true rfl) dX5_appendNumber_39 ([((b 0), .inr (5, [.ref (b 1), .ref (b 8), .ref (b 9), .ref (b 12), .ref (b 19), .int (nI 0), .ref (b 20), .int (nI (n + 1)), .ref (b 21), .int (nI 0)])), ((b 20), .inl (cI, 80, .inl tp1))]) rfl ?_
  refine y_iinc hC (v := nI 16) [(2, .int (nI 16)), (0, .ref (b 0)), (1, .int x)] dX5_appendNumber_42 (k := 0) rfl (by decide) (by decide) rfl ?_
  refine y_goto hC 3 dX5_appendNumber_45 (by decide) ?_
  refine y_iload_n hC dX5_appendNumber_3 0 rfl rfl ?_
  refine y_if_lt_n hC 48 dX5_appendNumber_4 (by decide) 16 rfl (by omega) ?_
  refine y_aload_n hC dX5_appendNumber_7 1 rfl rfl ?_
  refine y_get hC cC5 0 rfl 7 (by decide) (inLr14 _ (List.mem_of_getElem? (i := 19) rfl)) rfl dX5_appendNumber_8 ?_
  refine y_bipush hC (v := nI 80) dX5_appendNumber_11 rfl ?_
  refine y_icmp_ge_n hC 42 dX5_appendNumber_13 (by decide) (n + 1) 80 rfl rfl (by omega) (by omega) (fun c13 => absurd c13 (by omega)) (fun c13 => ?_)
  refine y_aload_n hC dX5_appendNumber_16 1 rfl rfl ?_
  refine y_get hC cC5 0 rfl 6 (by decide) (inLr2 _ (List.mem_of_getElem? (i := 10) rfl)) rfl dX5_appendNumber_17 ?_
  refine y_aload_n hC dX5_appendNumber_20 1 rfl rfl ?_
  refine y_get hC cC5 0 rfl 7 (by decide) (inLr14 _ (List.mem_of_getElem? (i := 19) rfl)) rfl dX5_appendNumber_21 ?_
  refine y_iload_n hC dX5_appendNumber_24 2 rfl rfl ?_
  refine y_iload_n hC dX5_appendNumber_25 0 rfl rfl ?_
  refine y_iushr hC (v := (x.toUInt32 >>> ((nI 16).toUInt32 &&& Int32.toUInt32 31)).toInt32) dX5_appendNumber_26 rfl ?_
  refine y_sipush hC (v := nI 255) dX5_appendNumber_27 rfl ?_
  refine y_iand hC (v := ((x.toUInt32 >>> ((nI 16).toUInt32 &&& Int32.toUInt32 31)).toInt32) &&& (nI 255)) dX5_appendNumber_30 rfl ?_
  refine y_iast hC 1 0 rfl rfl (n + 1) rfl (by omega) (by decide) dX5_appendNumber_31 ([((b 0), .inr (5, [.ref (b 1), .ref (b 8), .ref (b 9), .ref (b 12), .ref (b 19), .int (nI 0), .ref (b 20), .int (nI (n + 1)), .ref (b 21), .int (nI 0)])), ((b 20), .inl (cI, 80, .inl (upd tp1 (n + 1) (((x.toUInt32 >>> ((nI 16).toUInt32 &&& Int32.toUInt32 31)).toInt32) &&& (nI 255)))))]) rfl ?_
  suffices H9 : ∀ tp2 : Nat → Int32, G 0 0 ([((b 0), .inr (5, [.ref (b 1), .ref (b 8), .ref (b 9), .ref (b 12), .ref (b 19), .int (nI 0), .ref (b 20), .int (nI (n + 1)), .ref (b 21), .int (nI 0)])), ((b 20), .inl (cI, 80, .inl tp2))]) 32 [(2, .int (nI 16)), (0, .ref (b 0)), (1, .int x)] [] from H9 _
  intro tp2
  refine y_aload_n hC dX5_appendNumber_32 1 rfl rfl ?_
  refine y_dup hC dX5_appendNumber_33 rfl ?_
  refine y_get hC cC5 0 rfl 7 (by decide) (inLr14 _ (List.mem_of_getElem? (i := 19) rfl)) rfl dX5_appendNumber_34 ?_
  refine y_iconst hC (v := nI 1) dX5_appendNumber_37 rfl ?_
  refine y_iadd hC (v := nI ((n + 1) + 1)) dX5_appendNumber_38 (nI_add _ _) ?_
  refine y_put hC cC5 0 rfl 7 (by decide) (inLr14 _ (List.mem_of_getElem? (i := 19) rfl)) rfl rfl rfl (Nat.le_of_ble_eq_true rfl) dX5_appendNumber_39 ([((b 0), .inr (5, [.ref (b 1), .ref (b 8), .ref (b 9), .ref (b 12), .ref (b 19), .int (nI 0), .ref (b 20), .int (nI ((n + 1) + 1)), .ref (b 21), .int (nI 0)])), ((b 20), .inl (cI, 80, .inl tp2))]) rfl ?_
  refine y_iinc hC (v := nI 8) [(2, .int (nI 8)), (0, .ref (b 0)), (1, .int x)] dX5_appendNumber_42 (k := 0) rfl (by decide) (by decide) rfl ?_
  refine y_goto hC 3 dX5_appendNumber_45 (by decide) ?_
  refine y_iload_n hC dX5_appendNumber_3 0 rfl rfl ?_
  refine y_if_lt_n hC 48 dX5_appendNumber_4 (by decide) 8 rfl (by omega) ?_
  refine y_aload_n hC dX5_appendNumber_7 1 rfl rfl ?_
  refine y_get hC cC5 0 rfl 7 (by decide) (inLr14 _ (List.mem_of_getElem? (i := 19) rfl)) rfl dX5_appendNumber_8 ?_
  refine y_bipush hC (v := nI 80) dX5_appendNumber_11 rfl ?_
  refine y_icmp_ge_n hC 42 dX5_appendNumber_13 (by decide) ((n + 1) + 1) 80 rfl rfl (by omega) (by omega) (fun c13 => absurd c13 (by omega)) (fun c13 => ?_)
  refine y_aload_n hC dX5_appendNumber_16 1 rfl rfl ?_
  refine y_get hC cC5 0 rfl 6 (by decide) (inLr2 _ (List.mem_of_getElem? (i := 10) rfl)) rfl dX5_appendNumber_17 ?_
  refine y_aload_n hC dX5_appendNumber_20 1 rfl rfl ?_
  refine y_get hC cC5 0 rfl 7 (by decide) (inLr14 _ (List.mem_of_getElem? (i := 19) rfl)) rfl dX5_appendNumber_21 ?_
  refine y_iload_n hC dX5_appendNumber_24 2 rfl rfl ?_
  refine y_iload_n hC dX5_appendNumber_25 0 rfl rfl ?_
  refine y_iushr hC (v := (x.toUInt32 >>> ((nI 8).toUInt32 &&& Int32.toUInt32 31)).toInt32) dX5_appendNumber_26 rfl ?_
  refine y_sipush hC (v := nI 255) dX5_appendNumber_27 rfl ?_
  refine y_iand hC (v := ((x.toUInt32 >>> ((nI 8).toUInt32 &&& Int32.toUInt32 31)).toInt32) &&& (nI 255)) dX5_appendNumber_30 rfl ?_
  refine y_iast hC 1 0 rfl rfl ((n + 1) + 1) rfl (by omega) (by decide) dX5_appendNumber_31 ([((b 0), .inr (5, [.ref (b 1), .ref (b 8), .ref (b 9), .ref (b 12), .ref (b 19), .int (nI 0), .ref (b 20), .int (nI ((n + 1) + 1)), .ref (b 21), .int (nI 0)])), ((b 20), .inl (cI, 80, .inl (upd tp2 ((n + 1) + 1) (((x.toUInt32 >>> ((nI 8).toUInt32 &&& Int32.toUInt32 31)).toInt32) &&& (nI 255)))))]) rfl ?_
  suffices H9 : ∀ tp3 : Nat → Int32, G 0 0 ([((b 0), .inr (5, [.ref (b 1), .ref (b 8), .ref (b 9), .ref (b 12), .ref (b 19), .int (nI 0), .ref (b 20), .int (nI ((n + 1) + 1)), .ref (b 21), .int (nI 0)])), ((b 20), .inl (cI, 80, .inl tp3))]) 32 [(2, .int (nI 8)), (0, .ref (b 0)), (1, .int x)] [] from H9 _
  intro tp3
  refine y_aload_n hC dX5_appendNumber_32 1 rfl rfl ?_
  refine y_dup hC dX5_appendNumber_33 rfl ?_
  refine y_get hC cC5 0 rfl 7 (by decide) (inLr14 _ (List.mem_of_getElem? (i := 19) rfl)) rfl dX5_appendNumber_34 ?_
  refine y_iconst hC (v := nI 1) dX5_appendNumber_37 rfl ?_
  refine y_iadd hC (v := nI (((n + 1) + 1) + 1)) dX5_appendNumber_38 (nI_add _ _) ?_
  refine y_put hC cC5 0 rfl 7 (by decide) (inLr14 _ (List.mem_of_getElem? (i := 19) rfl)) rfl rfl rfl (Nat.le_of_ble_eq_true rfl) dX5_appendNumber_39 ([((b 0), .inr (5, [.ref (b 1), .ref (b 8), .ref (b 9), .ref (b 12), .ref (b 19), .int (nI 0), .ref (b 20), .int (nI (((n + 1) + 1) + 1)), .ref (b 21), .int (nI 0)])), ((b 20), .inl (cI, 80, .inl tp3))]) rfl ?_
  refine y_iinc hC (v := nI 0) [(2, .int (nI 0)), (0, .ref (b 0)), (1, .int x)] dX5_appendNumber_42 (k := 0) rfl (by decide) (by decide) rfl ?_
  refine y_goto hC 3 dX5_appendNumber_45 (by decide) ?_
  refine y_iload_n hC dX5_appendNumber_3 0 rfl rfl ?_
  refine y_if_lt_n hC 48 dX5_appendNumber_4 (by decide) 0 rfl (by omega) ?_
  refine y_aload_n hC dX5_appendNumber_7 1 rfl rfl ?_
  refine y_get hC cC5 0 rfl 7 (by decide) (inLr14 _ (List.mem_of_getElem? (i := 19) rfl)) rfl dX5_appendNumber_8 ?_
  refine y_bipush hC (v := nI 80) dX5_appendNumber_11 rfl ?_
  refine y_icmp_ge_n hC 42 dX5_appendNumber_13 (by decide) (((n + 1) + 1) + 1) 80 rfl rfl (by omega) (by omega) (fun c13 => absurd c13 (by omega)) (fun c13 => ?_)
  refine y_aload_n hC dX5_appendNumber_16 1 rfl rfl ?_
  refine y_get hC cC5 0 rfl 6 (by decide) (inLr2 _ (List.mem_of_getElem? (i := 10) rfl)) rfl dX5_appendNumber_17 ?_
  refine y_aload_n hC dX5_appendNumber_20 1 rfl rfl ?_
  refine y_get hC cC5 0 rfl 7 (by decide) (inLr14 _ (List.mem_of_getElem? (i := 19) rfl)) rfl dX5_appendNumber_21 ?_
  refine y_iload_n hC dX5_appendNumber_24 2 rfl rfl ?_
  refine y_iload_n hC dX5_appendNumber_25 0 rfl rfl ?_
  refine y_iushr hC (v := (x.toUInt32 >>> ((nI 0).toUInt32 &&& Int32.toUInt32 31)).toInt32) dX5_appendNumber_26 rfl ?_
  refine y_sipush hC (v := nI 255) dX5_appendNumber_27 rfl ?_
  refine y_iand hC (v := ((x.toUInt32 >>> ((nI 0).toUInt32 &&& Int32.toUInt32 31)).toInt32) &&& (nI 255)) dX5_appendNumber_30 rfl ?_
  refine y_iast hC 1 0 rfl rfl (((n + 1) + 1) + 1) rfl (by omega) (by decide) dX5_appendNumber_31 ([((b 0), .inr (5, [.ref (b 1), .ref (b 8), .ref (b 9), .ref (b 12), .ref (b 19), .int (nI 0), .ref (b 20), .int (nI (((n + 1) + 1) + 1)), .ref (b 21), .int (nI 0)])), ((b 20), .inl (cI, 80, .inl (upd tp3 (((n + 1) + 1) + 1) (((x.toUInt32 >>> ((nI 0).toUInt32 &&& Int32.toUInt32 31)).toInt32) &&& (nI 255)))))]) rfl ?_
  suffices H9 : ∀ tp4 : Nat → Int32, G 0 0 ([((b 0), .inr (5, [.ref (b 1), .ref (b 8), .ref (b 9), .ref (b 12), .ref (b 19), .int (nI 0), .ref (b 20), .int (nI (((n + 1) + 1) + 1)), .ref (b 21), .int (nI 0)])), ((b 20), .inl (cI, 80, .inl tp4))]) 32 [(2, .int (nI 0)), (0, .ref (b 0)), (1, .int x)] [] from H9 _
  intro tp4
  refine y_aload_n hC dX5_appendNumber_32 1 rfl rfl ?_
  refine y_dup hC dX5_appendNumber_33 rfl ?_
  refine y_get hC cC5 0 rfl 7 (by decide) (inLr14 _ (List.mem_of_getElem? (i := 19) rfl)) rfl dX5_appendNumber_34 ?_
  refine y_iconst hC (v := nI 1) dX5_appendNumber_37 rfl ?_
  refine y_iadd hC (v := nI ((((n + 1) + 1) + 1) + 1)) dX5_appendNumber_38 (nI_add _ _) ?_
  refine y_put hC cC5 0 rfl 7 (by decide) (inLr14 _ (List.mem_of_getElem? (i := 19) rfl)) rfl rfl rfl (Nat.le_of_ble_eq_true rfl) dX5_appendNumber_39 ([((b 0), .inr (5, [.ref (b 1), .ref (b 8), .ref (b 9), .ref (b 12), .ref (b 19), .int (nI 0), .ref (b 20), .int (nI ((((n + 1) + 1) + 1) + 1)), .ref (b 21), .int (nI 0)])), ((b 20), .inl (cI, 80, .inl tp4))]) rfl ?_
  refine y_iinc hC (v := (-8)) [(2, .int (-8)), (0, .ref (b 0)), (1, .int x)] dX5_appendNumber_42 (k := 0) rfl (by decide) (by decide) rfl ?_
  refine y_goto hC 3 dX5_appendNumber_45 (by decide) ?_
  refine y_iload_n hC dX5_appendNumber_3 0 rfl rfl ?_
  refine y_if_lt_z hC 48 dX5_appendNumber_4 (by decide) (fun c4 => ?_) (fun c4 => absurd c4 (by decide))
  exact hE tp4 _ _ _ _ dX5_appendNumber_48 (Nat.le_of_ble_eq_true rfl) (Nat.le_of_ble_eq_true rfl) trivial
theorem nV_X5_feed : yV yX5_feed RX5 cX5_feed 6 (some .int) 5 := ⟨(inLr14 _ (List.mem_of_getElem? (i := 14) rfl)), (inLr14 _ (List.mem_of_getElem? (i := 15) rfl)), (inLr1 _ (List.mem_of_getElem? (i := 2) rfl)), (inLr14 _ (List.mem_of_getElem? (i := 16) rfl)), rfl, by decide, by decide, by decide +kernel⟩
set_option maxHeartbeats 4000000 in
set_option maxRecDepth 100000 in
theorem q_X5_feed (b : Nat → Nat) (x1 : Int32) (x2 : Int32) (x3 : Int32) (x4 : Int32) (x5 : Int32)  : MI l D (tyL cI cO cJ cZ) yX5_feed cX5_feed 6 .int ({ frames := 1, cells := 0, slots := 0, locals := 60 } : Room) [.ref (b 0), .int x1, .int x2, .int x3, .int x4, .int x5] ([((b 0), kOb b), ((b 20), .inl (cI, 80, .inl (fun k => nI (Zf k))))]) (fun r (_ : Unit) => r = nI 20) (fun _ => []) := by
  refine MI.of (by decide) (Nat.le_of_ble_eq_true rfl) (fun G hC hE => ?_)
  show G 0 0 ([((b 0), kOb b), ((b 20), .inl (cI, 80, .inl (fun k => nI (Zf k))))]) 0 [(0, .ref (b 0)), (1, .int x1), (2, .int x2), (3, .int x3), (4, .int x4), (5, .int x5)] []
  refine y_aload_n hC dX5_feed_0 0 rfl rfl ?_
  refine y_get hC cC5 0 rfl 7 (by decide) (inLr14 _ (List.mem_of_getElem? (i := 19) rfl)) rfl dX5_feed_1 ?_
  refine y_bipush hC (v := nI 20) dX5_feed_4 rfl ?_
  refine y_iadd hC (v := nI 20) dX5_feed_6 (by decide) ?_
  refine y_bipush hC (v := nI 80) dX5_feed_7 rfl ?_
  refine y_icmp_le_n hC 22 dX5_feed_9 (by decide) 20 80 rfl rfl (by omega) (by omega) (fun c9 => ?_) (fun c9 => absurd c9 (by omega))
  refine y_aload_n hC dX5_feed_22 0 rfl rfl ?_
  refine y_iload_n hC dX5_feed_23 1 rfl rfl ?_
  refine y_callV_v hC (As := [.int x1]) (rest := []) (q_append b x1 0 (by omega) _) nV_X5_appendNumber (inLr14 _ (List.mem_of_getElem? (i := 20) rfl)) [0, 1] [] [0, 1] (fun u => [((b 0), .inr (5, [.ref (b 1), .ref (b 8), .ref (b 9), .ref (b 12), .ref (b 19), .int (nI 0), .ref (b 20), .int (nI 4), .ref (b 21), .int (nI 0)])), ((b 20), .inl (cI, 80, .inl u))]) rfl rfl rfl rfl (by decide) rfl (fun _ => rfl) 0 rfl rfl rfl rfl (Nat.le_of_ble_eq_true rfl) dX5_feed_24 ⟨(Nat.le_of_ble_eq_true rfl), (Nat.le_of_ble_eq_true rfl)⟩ ⟨(Nat.le_of_ble_eq_true rfl), (Nat.le_of_ble_eq_true rfl)⟩ (fun u1 hw1 => ?_)
  refine y_aload_n hC dX5_feed_27 0 rfl rfl ?_
  refine y_iload_n hC dX5_feed_28 2 rfl rfl ?_
  refine y_callV_v hC (As := [.int x2]) (rest := []) (q_append b x2 4 (by omega) _) nV_X5_appendNumber (inLr14 _ (List.mem_of_getElem? (i := 20) rfl)) [0, 1] [] [0, 1] (fun u => [((b 0), .inr (5, [.ref (b 1), .ref (b 8), .ref (b 9), .ref (b 12), .ref (b 19), .int (nI 0), .ref (b 20), .int (nI 8), .ref (b 21), .int (nI 0)])), ((b 20), .inl (cI, 80, .inl u))]) rfl rfl rfl rfl (by decide) rfl (fun _ => rfl) 0 rfl rfl rfl rfl (Nat.le_of_ble_eq_true rfl) dX5_feed_29 ⟨(Nat.le_of_ble_eq_true rfl), (Nat.le_of_ble_eq_true rfl)⟩ ⟨(Nat.le_of_ble_eq_true rfl), (Nat.le_of_ble_eq_true rfl)⟩ (fun u2 hw2 => ?_)
  refine y_aload_n hC dX5_feed_32 0 rfl rfl ?_
  refine y_iload_n hC dX5_feed_33 3 rfl rfl ?_
  refine y_callV_v hC (As := [.int x3]) (rest := []) (q_append b x3 8 (by omega) _) nV_X5_appendNumber (inLr14 _ (List.mem_of_getElem? (i := 20) rfl)) [0, 1] [] [0, 1] (fun u => [((b 0), .inr (5, [.ref (b 1), .ref (b 8), .ref (b 9), .ref (b 12), .ref (b 19), .int (nI 0), .ref (b 20), .int (nI 12), .ref (b 21), .int (nI 0)])), ((b 20), .inl (cI, 80, .inl u))]) rfl rfl rfl rfl (by decide) rfl (fun _ => rfl) 0 rfl rfl rfl rfl (Nat.le_of_ble_eq_true rfl) dX5_feed_34 ⟨(Nat.le_of_ble_eq_true rfl), (Nat.le_of_ble_eq_true rfl)⟩ ⟨(Nat.le_of_ble_eq_true rfl), (Nat.le_of_ble_eq_true rfl)⟩ (fun u3 hw3 => ?_)
  refine y_aload_n hC dX5_feed_37 0 rfl rfl ?_
  refine y_iload hC dX5_feed_38 4 rfl ?_
  refine y_callV_v hC (As := [.int x4]) (rest := []) (q_append b x4 12 (by omega) _) nV_X5_appendNumber (inLr14 _ (List.mem_of_getElem? (i := 20) rfl)) [0, 1] [] [0, 1] (fun u => [((b 0), .inr (5, [.ref (b 1), .ref (b 8), .ref (b 9), .ref (b 12), .ref (b 19), .int (nI 0), .ref (b 20), .int (nI 16), .ref (b 21), .int (nI 0)])), ((b 20), .inl (cI, 80, .inl u))]) rfl rfl rfl rfl (by decide) rfl (fun _ => rfl) 0 rfl rfl rfl rfl (Nat.le_of_ble_eq_true rfl) dX5_feed_40 ⟨(Nat.le_of_ble_eq_true rfl), (Nat.le_of_ble_eq_true rfl)⟩ ⟨(Nat.le_of_ble_eq_true rfl), (Nat.le_of_ble_eq_true rfl)⟩ (fun u4 hw4 => ?_)
  refine y_aload_n hC dX5_feed_43 0 rfl rfl ?_
  refine y_iload hC dX5_feed_44 5 rfl ?_
  refine y_callV_v hC (As := [.int x5]) (rest := []) (q_append b x5 16 (by omega) _) nV_X5_appendNumber (inLr14 _ (List.mem_of_getElem? (i := 20) rfl)) [0, 1] [] [0, 1] (fun u => [((b 0), .inr (5, [.ref (b 1), .ref (b 8), .ref (b 9), .ref (b 12), .ref (b 19), .int (nI 0), .ref (b 20), .int (nI 20), .ref (b 21), .int (nI 0)])), ((b 20), .inl (cI, 80, .inl u))]) rfl rfl rfl rfl (by decide) rfl (fun _ => rfl) 0 rfl rfl rfl rfl (Nat.le_of_ble_eq_true rfl) dX5_feed_46 ⟨(Nat.le_of_ble_eq_true rfl), (Nat.le_of_ble_eq_true rfl)⟩ ⟨(Nat.le_of_ble_eq_true rfl), (Nat.le_of_ble_eq_true rfl)⟩ (fun u5 hw5 => ?_)
  refine y_aload_n hC dX5_feed_49 0 rfl rfl ?_
  refine y_get hC cC5 0 rfl 7 (by decide) (inLr14 _ (List.mem_of_getElem? (i := 19) rfl)) rfl dX5_feed_50 ?_
  refine y_world hC [] (ws' := []) rfl rfl ?_
  exact hE (nI 20) () _ _ _ _ dX5_feed_53 (Nat.le_of_ble_eq_true rfl) (Nat.le_of_ble_eq_true rfl) rfl rfl
theorem nV_X5_trim : yV yX5_trim RX5 cX5_trim 2 (some .int) 1 := ⟨(inLr15 _ (List.mem_of_getElem? (i := 9) rfl)), (inLr15 _ (List.mem_of_getElem? (i := 10) rfl)), (inLr1 _ (List.mem_of_getElem? (i := 2) rfl)), (inLr15 _ (List.mem_of_getElem? (i := 11) rfl)), rfl, by decide, by decide, by decide +kernel⟩
set_option maxHeartbeats 4000000 in
set_option maxRecDepth 100000 in
theorem q_X5_trim (hlt : l.stackTraces = false) (b : Nat → Nat) (x : Int32)  : XI l D (tyL cI cO cJ cZ) yX5_trim cX5_trim 2 .int ({ frames := 8, cells := 1, slots := 6, locals := 200 } : Room) [.ref (b 0), .int x] ([((b 0), kOb b)]) (fun r (_ : Unit) => kcTri x = 0 ∧ r = nI 0) (fun _ => []) (fun E => (E = "java/lang/IllegalArgumentException" ∧ kcTri x = 1)) := by
  refine XI.of hlt (by decide) (Nat.le_of_ble_eq_true rfl) (fun G hC hE hX => ?_)
  show G 0 0 ([((b 0), kOb b)]) 0 [(0, .ref (b 0)), (1, .int x)] []
  refine y_iload_n hC dX5_trim_0 1 rfl rfl ?_
  refine y_if_lt_z hC 12 dX5_trim_1 (by decide) (fun c1 => ?_) (fun c1 => ?_)
  · exact hX _ _ _ _ _ "java/lang/IllegalArgumentException" "n is 0 to the number of bytes of the tape" 67 146 71 exOK2 (by decide) ⟨rfl, by unfold kcTri; split <;> omega⟩ dX5_trim_12 dX5_trim_15 dX5_trim_16 dX5_trim_18 dX5_trim_21 (Nat.le_of_ble_eq_true rfl) (Nat.le_of_ble_eq_true rfl) (Nat.le_of_ble_eq_true rfl) (Nat.le_of_ble_eq_true rfl)
  · refine y_iload_n hC dX5_trim_4 1 rfl rfl ?_
    refine y_aload_n hC dX5_trim_5 0 rfl rfl ?_
    refine y_get hC cC5 0 rfl 7 (by decide) (inLr14 _ (List.mem_of_getElem? (i := 19) rfl)) rfl dX5_trim_6 ?_
    refine y_icmp_le_z hC 22 dX5_trim_9 (by decide) 0 rfl (by omega) (fun c9 => ?_) (fun c9 => ?_)
    · obtain rfl : x = nI 0 := Int32.toInt_inj.mp (by rw [show (nI 0).toInt = 0 from by decide]; omega)
      have ex := (show (nI 0).toInt = 0 from by decide)
      refine y_aload_n hC dX5_trim_22 0 rfl rfl ?_
      refine y_iload_n hC dX5_trim_23 1 rfl rfl ?_
      refine y_put hC cC5 0 rfl 7 (by decide) (inLr14 _ (List.mem_of_getElem? (i := 19) rfl)) rfl rfl rfl (Nat.le_of_ble_eq_true rfl) dX5_trim_24 ([((b 0), kOb b)]) rfl ?_
      refine y_iload_n hC dX5_trim_27 1 rfl rfl ?_
      refine y_world hC [] (ws' := []) rfl rfl ?_
      exact hE (nI 0) () _ _ _ _ dX5_trim_28 (Nat.le_of_ble_eq_true rfl) (Nat.le_of_ble_eq_true rfl) rfl ⟨by unfold kcTri; split <;> omega, rfl⟩
    · exact hX _ _ _ _ _ "java/lang/IllegalArgumentException" "n is 0 to the number of bytes of the tape" 67 146 71 exOK2 (by decide) ⟨rfl, by unfold kcTri; split <;> omega⟩ dX5_trim_12 dX5_trim_15 dX5_trim_16 dX5_trim_18 dX5_trim_21 (Nat.le_of_ble_eq_true rfl) (Nat.le_of_ble_eq_true rfl) (Nat.le_of_ble_eq_true rfl) (Nat.le_of_ble_eq_true rfl)
theorem nV_X5_placesOnTape : yV yX5_placesOnTape RX5 cX5_placesOnTape 4 (some .int) 0 := ⟨(inLr16 _ (List.mem_of_getElem? (i := 1) rfl)), (inLr16 _ (List.mem_of_getElem? (i := 2) rfl)), (inLr1 _ (List.mem_of_getElem? (i := 2) rfl)), (inLr16 _ (List.mem_of_getElem? (i := 3) rfl)), rfl, by decide, by decide, by decide +kernel⟩
set_option maxHeartbeats 4000000 in
set_option maxRecDepth 100000 in
theorem q_places (b : Nat → Nat)   : MI l D (tyL cI cO cJ cZ) yX5_placesOnTape cX5_placesOnTape 4 .int ({ frames := 0, cells := 0, slots := 0, locals := 0 } : Room) [.ref (b 0)] ([((b 0), kOb b)]) (fun r (_ : Unit) => r = nI 0) (fun _ => [((b 0), kOb b)]) := by
  refine MI.of (by decide) (Nat.le_of_ble_eq_true rfl) (fun G hC hE => ?_)
  show G 0 0 ([((b 0), kOb b)]) 0 [(0, .ref (b 0))] []
  refine y_iconst hC (v := nI 0) dX5_placesOnTape_0 rfl ?_
  refine y_istore_n hC [(1, .int (nI 0)), (0, .ref (b 0))] dX5_placesOnTape_1 rfl (by decide) rfl ?_
  refine y_iconst hC (v := nI 0) dX5_placesOnTape_2 rfl ?_
  refine y_istore_n hC [(2, .int (nI 0)), (1, .int (nI 0)), (0, .ref (b 0))] dX5_placesOnTape_3 rfl (by decide) rfl ?_
  refine y_iload_n hC dX5_placesOnTape_4 0 rfl rfl ?_
  refine y_aload_n hC dX5_placesOnTape_5 2 rfl rfl ?_
  refine y_get hC cC5 0 rfl 7 (by decide) (inLr14 _ (List.mem_of_getElem? (i := 19) rfl)) rfl dX5_placesOnTape_6 ?_
  refine y_icmp_ge_n hC 63 dX5_placesOnTape_9 (by decide) 0 0 rfl rfl (by omega) (by omega) (fun c9 => ?_) (fun c9 => absurd c9 (by omega))
  refine y_iload_n hC dX5_placesOnTape_63 1 rfl rfl ?_
  exact hE (nI 0) () _ _ _ _ dX5_placesOnTape_64 (Nat.le_of_ble_eq_true rfl) (Nat.le_of_ble_eq_true rfl) rfl rfl
theorem nV_X5_isTapeText : yV yX5_isTapeText RX5 cX5_isTapeText 2 (some .boolean) 0 := ⟨(inLr16 _ (List.mem_of_getElem? (i := 9) rfl)), (inLr16 _ (List.mem_of_getElem? (i := 10) rfl)), (inLr1 _ (List.mem_of_getElem? (i := 2) rfl)), (inLr16 _ (List.mem_of_getElem? (i := 11) rfl)), rfl, by decide, by decide, by decide +kernel⟩
set_option maxHeartbeats 4000000 in
set_option maxRecDepth 100000 in
theorem q_isText (b : Nat → Nat)   : MI l D (tyL cI cO cJ cZ) yX5_isTapeText cX5_isTapeText 2 .boolean ({ frames := 0, cells := 0, slots := 0, locals := 0 } : Room) [.ref (b 0)] ([((b 0), kOb b)]) (fun r (_ : Unit) => r = nI 1) (fun _ => [((b 0), kOb b)]) := by
  refine MI.of (by decide) (Nat.le_of_ble_eq_true rfl) (fun G hC hE => ?_)
  show G 0 0 ([((b 0), kOb b)]) 0 [(0, .ref (b 0))] []
  refine y_iconst hC (v := nI 0) dX5_isTapeText_0 rfl ?_
  refine y_istore_n hC [(1, .int (nI 0)), (0, .ref (b 0))] dX5_isTapeText_1 rfl (by decide) rfl ?_
  refine y_iload_n hC dX5_isTapeText_2 0 rfl rfl ?_
  refine y_aload_n hC dX5_isTapeText_3 1 rfl rfl ?_
  refine y_get hC cC5 0 rfl 7 (by decide) (inLr14 _ (List.mem_of_getElem? (i := 19) rfl)) rfl dX5_isTapeText_4 ?_
  refine y_icmp_ge_n hC 43 dX5_isTapeText_7 (by decide) 0 0 rfl rfl (by omega) (by omega) (fun c7 => ?_) (fun c7 => absurd c7 (by omega))
  refine y_iconst hC (v := nI 1) dX5_isTapeText_43 rfl ?_
  exact hE (nI 1) () _ _ _ _ dX5_isTapeText_44 (Nat.le_of_ble_eq_true rfl) (Nat.le_of_ble_eq_true rfl) rfl rfl
theorem nV_X5_tie : yV yX5_tie RX5 cX5_tie 3 (some .int) 0 := ⟨(inLr15 _ (List.mem_of_getElem? (i := 20) rfl)), (inLr15 _ (List.mem_of_getElem? (i := 21) rfl)), (inLr1 _ (List.mem_of_getElem? (i := 2) rfl)), (inLr15 _ (List.mem_of_getElem? (i := 22) rfl)), rfl, by decide, by decide, by decide +kernel⟩
set_option maxHeartbeats 4000000 in
set_option maxRecDepth 100000 in
theorem q_X5_tie (b : Nat → Nat)   : MI l D (tyL cI cO cJ cZ) yX5_tie cX5_tie 3 .int ({ frames := 1, cells := 0, slots := 0, locals := 60 } : Room) [.ref (b 0)] ([((b 0), kOb b), ((b 19), .inl (cO, 10, .inr (.inr (.inr (.inr (fun k => if k < 10 then some (b (22 + k)) else none)))))), ((b 20), .inl (cI, 80, .inl (fun k => nI (Zf k))))]) (fun r (_ : Unit) => r = nI 0) (fun _ => []) := by
  refine MI.of (by decide) (Nat.le_of_ble_eq_true rfl) (fun G hC hE => ?_)
  show G 0 0 ([((b 0), kOb b), ((b 19), .inl (cO, 10, .inr (.inr (.inr (.inr (fun k => if k < 10 then some (b (22 + k)) else none)))))), ((b 20), .inl (cI, 80, .inl (fun k => nI (Zf k))))]) 0 [(0, .ref (b 0))] []
  refine y_aload_n hC dX5_tie_0 0 rfl rfl ?_
  refine y_get hC cC5 0 rfl 5 (by decide) (inLr15 _ (List.mem_of_getElem? (i := 23) rfl)) rfl dX5_tie_1 ?_
  refine y_bipush hC (v := nI 10) dX5_tie_4 rfl ?_
  refine y_icmp_ge_n hC 18 dX5_tie_6 (by decide) 0 10 rfl rfl (by omega) (by omega) (fun c6 => absurd c6 (by omega)) (fun c6 => ?_)
  refine y_aload_n hC dX5_tie_9 0 rfl rfl ?_
  refine y_callV_i hC (As := []) (rest := []) (q_places b) nV_X5_placesOnTape (inLr16 _ (List.mem_of_getElem? (i := 0) rfl)) [0] [1, 2] [2, 0, 1] (fun u => [((b 0), kOb b), ((b 19), .inl (cO, 10, .inr (.inr (.inr (.inr (fun k => if k < 10 then some (b (22 + k)) else none)))))), ((b 20), .inl (cI, 80, .inl (fun k => nI (Zf k))))]) rfl rfl rfl rfl (by decide) rfl (fun _ => rfl) 0 rfl rfl rfl rfl (Nat.le_of_ble_eq_true rfl) dX5_tie_10 ⟨(Nat.le_of_ble_eq_true rfl), (Nat.le_of_ble_eq_true rfl)⟩ ⟨(Nat.le_of_ble_eq_true rfl), (Nat.le_of_ble_eq_true rfl)⟩ (fun r1 u1 hw1 => ?_)
  subst hw1
  refine y_bipush hC (v := nI 40) dX5_tie_13 rfl ?_
  refine y_icmp_le_n hC 28 dX5_tie_15 (by decide) 0 40 rfl rfl (by omega) (by omega) (fun c15 => ?_) (fun c15 => absurd c15 (by omega))
  refine y_aload_n hC dX5_tie_28 0 rfl rfl ?_
  refine y_callV_i hC (As := []) (rest := []) (q_isText b) nV_X5_isTapeText (inLr16 _ (List.mem_of_getElem? (i := 8) rfl)) [0] [1, 2] [2, 0, 1] (fun u => [((b 0), kOb b), ((b 19), .inl (cO, 10, .inr (.inr (.inr (.inr (fun k => if k < 10 then some (b (22 + k)) else none)))))), ((b 20), .inl (cI, 80, .inl (fun k => nI (Zf k))))]) rfl rfl rfl rfl (by decide) rfl (fun _ => rfl) 0 rfl rfl rfl rfl (Nat.le_of_ble_eq_true rfl) dX5_tie_29 ⟨(Nat.le_of_ble_eq_true rfl), (Nat.le_of_ble_eq_true rfl)⟩ ⟨(Nat.le_of_ble_eq_true rfl), (Nat.le_of_ble_eq_true rfl)⟩ (fun r2 u2 hw2 => ?_)
  subst hw2
  refine y_if_ne_n hC 37 dX5_tie_32 (by decide) 1 rfl (by omega) (fun c32 => ?_) (fun c32 => absurd c32 (by omega))
  refine y_aload_n hC dX5_tie_37 0 rfl rfl ?_
  refine y_get hC cC5 0 rfl 4 (by decide) (inLr2 _ (List.mem_of_getElem? (i := 6) rfl)) rfl dX5_tie_38 ?_
  refine y_aload_n hC dX5_tie_41 0 rfl rfl ?_
  refine y_get hC cC5 0 rfl 5 (by decide) (inLr15 _ (List.mem_of_getElem? (i := 23) rfl)) rfl dX5_tie_42 ?_
  refine y_aldq hC 1 1 rfl rfl 0 rfl (by omega) (by decide) rfl dX5_tie_45 ?_
  refine y_astore_n hC [(1, .ref (b (22 + 0))), (0, .ref (b 0))] dX5_tie_46 rfl (by decide) rfl ?_
  refine y_iconst hC (v := nI 0) dX5_tie_47 rfl ?_
  refine y_istore_n hC [(2, .int (nI 0)), (1, .ref (b (22 + 0))), (0, .ref (b 0))] dX5_tie_48 rfl (by decide) rfl ?_
  refine y_iload_n hC dX5_tie_49 0 rfl rfl ?_
  refine y_aload_n hC dX5_tie_50 2 rfl rfl ?_
  refine y_get hC cC5 0 rfl 7 (by decide) (inLr14 _ (List.mem_of_getElem? (i := 19) rfl)) rfl dX5_tie_51 ?_
  refine y_icmp_ge_n hC 74 dX5_tie_54 (by decide) 0 0 rfl rfl (by omega) (by omega) (fun c54 => ?_) (fun c54 => absurd c54 (by omega))
  refine y_aload_n hC dX5_tie_74 2 rfl rfl ?_
  refine y_iconst hC (v := nI 0) dX5_tie_75 rfl ?_
  refine y_put hC cC5 0 rfl 7 (by decide) (inLr14 _ (List.mem_of_getElem? (i := 19) rfl)) rfl rfl rfl (Nat.le_of_ble_eq_true rfl) dX5_tie_76 ([((b 0), kOb b), ((b 19), .inl (cO, 10, .inr (.inr (.inr (.inr (fun k => if k < 10 then some (b (22 + k)) else none)))))), ((b 20), .inl (cI, 80, .inl (fun k => nI (Zf k))))]) rfl ?_
  refine y_aload_n hC dX5_tie_79 2 rfl rfl ?_
  refine y_dup hC dX5_tie_80 rfl ?_
  refine y_get hC cC5 0 rfl 5 (by decide) (inLr15 _ (List.mem_of_getElem? (i := 23) rfl)) rfl dX5_tie_81 ?_
  refine y_iconst hC (v := nI 1) dX5_tie_84 rfl ?_
  refine y_iadd hC (v := nI 1) dX5_tie_85 (by decide) ?_
  refine y_put hC cC5 0 rfl 5 (by decide) (inLr15 _ (List.mem_of_getElem? (i := 23) rfl)) rfl rfl rfl (Nat.le_of_ble_eq_true rfl) dX5_tie_86 ([((b 0), .inr (5, [.ref (b 1), .ref (b 8), .ref (b 9), .ref (b 12), .ref (b 19), .int (nI 1), .ref (b 20), .int (nI 0), .ref (b 21), .int (nI 0)])), ((b 19), .inl (cO, 10, .inr (.inr (.inr (.inr (fun k => if k < 10 then some (b (22 + k)) else none)))))), ((b 20), .inl (cI, 80, .inl (fun k => nI (Zf k))))]) rfl ?_
  refine y_aload_n hC dX5_tie_89 2 rfl rfl ?_
  refine y_get hC cC5 0 rfl 5 (by decide) (inLr15 _ (List.mem_of_getElem? (i := 23) rfl)) rfl dX5_tie_90 ?_
  refine y_iconst hC (v := nI 1) dX5_tie_93 rfl ?_
  refine y_isub hC (v := nI 0) dX5_tie_94 (by decide) ?_
  refine y_world hC [] (ws' := []) rfl rfl ?_
  exact hE (nI 0) () _ _ _ _ dX5_tie_95 (Nat.le_of_ble_eq_true rfl) (Nat.le_of_ble_eq_true rfl) rfl rfl
theorem nV_X5_isNoCord : yV yX5_isNoCord RX5 cX5_isNoCord 2 (some .boolean) 1 := ⟨(inLr19 _ (List.mem_of_getElem? (i := 0) rfl)), (inLr19 _ (List.mem_of_getElem? (i := 1) rfl)), (inLr1 _ (List.mem_of_getElem? (i := 2) rfl)), (inLr19 _ (List.mem_of_getElem? (i := 2) rfl)), rfl, by decide, by decide, by decide +kernel⟩
set_option maxHeartbeats 4000000 in
set_option maxRecDepth 100000 in
theorem q_isNoCord (b : Nat → Nat) (x : Int32)  : MI l D (tyL cI cO cJ cZ) yX5_isNoCord cX5_isNoCord 2 .boolean ({ frames := 0, cells := 0, slots := 0, locals := 0 } : Room) [.ref (b 0), .int x] ([((b 0), kOb b)]) (fun r (_ : Unit) => r = nI 1) (fun _ => [((b 0), kOb b)]) := by
  refine MI.of (by decide) (Nat.le_of_ble_eq_true rfl) (fun G hC hE => ?_)
  show G 0 0 ([((b 0), kOb b)]) 0 [(0, .ref (b 0)), (1, .int x)] []
  refine y_iload_n hC dX5_isNoCord_0 1 rfl rfl ?_
  refine y_if_lt_z hC 12 dX5_isNoCord_1 (by decide) (fun c1 => ?_) (fun c1 => ?_)
  · refine y_iconst hC (v := nI 1) dX5_isNoCord_12 rfl ?_
    refine y_goto hC 17 dX5_isNoCord_13 (by decide) ?_
    exact hE (nI 1) () _ _ _ _ dX5_isNoCord_17 (Nat.le_of_ble_eq_true rfl) (Nat.le_of_ble_eq_true rfl) rfl rfl
  · refine y_iload_n hC dX5_isNoCord_4 1 rfl rfl ?_
    refine y_aload_n hC dX5_isNoCord_5 0 rfl rfl ?_
    refine y_get hC cC5 0 rfl 5 (by decide) (inLr15 _ (List.mem_of_getElem? (i := 23) rfl)) rfl dX5_isNoCord_6 ?_
    refine y_icmp_lt_z hC 16 dX5_isNoCord_9 (by decide) 0 rfl (by omega) (fun c9 => absurd c9 (by omega)) (fun c9 => ?_)
    refine y_iconst hC (v := nI 1) dX5_isNoCord_12 rfl ?_
    refine y_goto hC 17 dX5_isNoCord_13 (by decide) ?_
    exact hE (nI 1) () _ _ _ _ dX5_isNoCord_17 (Nat.le_of_ble_eq_true rfl) (Nat.le_of_ble_eq_true rfl) rfl rfl
theorem nV_X5_isNoPlace : yV yX5_isNoPlace RX5 cX5_isNoPlace 3 (some .boolean) 2 := ⟨(inLr24 _ (List.mem_of_getElem? (i := 6) rfl)), (inLr24 _ (List.mem_of_getElem? (i := 7) rfl)), (inLr1 _ (List.mem_of_getElem? (i := 2) rfl)), (inLr24 _ (List.mem_of_getElem? (i := 8) rfl)), rfl, by decide, by decide, by decide +kernel⟩
set_option maxHeartbeats 4000000 in
set_option maxRecDepth 100000 in
theorem q_isNoPlace (b : Nat → Nat) (x : Int32) (y : Int32)  : MI l D (tyL cI cO cJ cZ) yX5_isNoPlace cX5_isNoPlace 3 .boolean ({ frames := 1, cells := 0, slots := 0, locals := 40 } : Room) [.ref (b 0), .int x, .int y] ([((b 0), kOb b)]) (fun r (_ : Unit) => r = nI 1) (fun _ => [((b 0), kOb b)]) := by
  refine MI.of (by decide) (Nat.le_of_ble_eq_true rfl) (fun G hC hE => ?_)
  show G 0 0 ([((b 0), kOb b)]) 0 [(0, .ref (b 0)), (1, .int x), (2, .int y)] []
  refine y_aload_n hC dX5_isNoPlace_0 0 rfl rfl ?_
  refine y_iload_n hC dX5_isNoPlace_1 1 rfl rfl ?_
  refine y_callV_i hC (As := [.int x]) (rest := []) (q_isNoCord b x) nV_X5_isNoCord (inLr18 _ (List.mem_of_getElem? (i := 23) rfl)) [0] [] [0] (fun u => [((b 0), kOb b)]) rfl rfl rfl rfl (by decide) rfl (fun _ => rfl) 0 rfl rfl rfl rfl (Nat.le_of_ble_eq_true rfl) dX5_isNoPlace_2 ⟨(Nat.le_of_ble_eq_true rfl), (Nat.le_of_ble_eq_true rfl)⟩ ⟨(Nat.le_of_ble_eq_true rfl), (Nat.le_of_ble_eq_true rfl)⟩ (fun r1 u1 hw1 => ?_)
  subst hw1
  refine y_if_ne_n hC 25 dX5_isNoPlace_5 (by decide) 1 rfl (by omega) (fun c5 => ?_) (fun c5 => absurd c5 (by omega))
  refine y_iconst hC (v := nI 1) dX5_isNoPlace_25 rfl ?_
  refine y_goto hC 30 dX5_isNoPlace_26 (by decide) ?_
  exact hE (nI 1) () _ _ _ _ dX5_isNoPlace_30 (Nat.le_of_ble_eq_true rfl) (Nat.le_of_ble_eq_true rfl) rfl rfl
theorem nV_X5_cord : yV yX5_cord RX5 cX5_cord 3 (some .int) 2 := ⟨(inLr18 _ (List.mem_of_getElem? (i := 16) rfl)), (inLr18 _ (List.mem_of_getElem? (i := 17) rfl)), (inLr1 _ (List.mem_of_getElem? (i := 2) rfl)), (inLr18 _ (List.mem_of_getElem? (i := 18) rfl)), rfl, by decide, by decide, by decide +kernel⟩
set_option maxHeartbeats 4000000 in
set_option maxRecDepth 100000 in
theorem q_X5_cord (hlt : l.stackTraces = false) (b : Nat → Nat) (x : Int32) (y : Int32)  : XI l D (tyL cI cO cJ cZ) yX5_cord cX5_cord 3 .int ({ frames := 8, cells := 1, slots := 6, locals := 200 } : Room) [.ref (b 0), .int x, .int y] ([((b 0), kOb b)]) (fun _ (_ : Unit) => False) (fun _ => []) (fun E => (E = "java/lang/IndexOutOfBoundsException" ∧ True)) := by
  refine XI.of hlt (by decide) (Nat.le_of_ble_eq_true rfl) (fun G hC hE hX => ?_)
  show G 0 0 ([((b 0), kOb b)]) 0 [(0, .ref (b 0)), (1, .int x), (2, .int y)] []
  refine y_aload_n hC dX5_cord_0 0 rfl rfl ?_
  refine y_iload_n hC dX5_cord_1 1 rfl rfl ?_
  refine y_callV_i hC (As := [.int x]) (rest := []) (q_isNoCord b x) nV_X5_isNoCord (inLr18 _ (List.mem_of_getElem? (i := 23) rfl)) [0] [] [0] (fun u => [((b 0), kOb b)]) rfl rfl rfl rfl (by decide) rfl (fun _ => rfl) 0 rfl rfl rfl rfl (Nat.le_of_ble_eq_true rfl) dX5_cord_2 ⟨(Nat.le_of_ble_eq_true rfl), (Nat.le_of_ble_eq_true rfl)⟩ ⟨(Nat.le_of_ble_eq_true rfl), (Nat.le_of_ble_eq_true rfl)⟩ (fun r1 u1 hw1 => ?_)
  subst hw1
  refine y_if_ne_n hC 18 dX5_cord_5 (by decide) 1 rfl (by omega) (fun c5 => ?_) (fun c5 => absurd c5 (by omega))
  exact hX _ _ _ _ _ "java/lang/IndexOutOfBoundsException" "there is no such cord, or what is not 0 to 6" 57 167 61 exOK1 (by decide) ⟨rfl, trivial⟩ dX5_cord_18 dX5_cord_21 dX5_cord_22 dX5_cord_24 dX5_cord_27 (Nat.le_of_ble_eq_true rfl) (Nat.le_of_ble_eq_true rfl) (Nat.le_of_ble_eq_true rfl) (Nat.le_of_ble_eq_true rfl)
theorem nV_X5_knot : yV yX5_knot RX5 cX5_knot 3 (some .int) 2 := ⟨(inLr24 _ (List.mem_of_getElem? (i := 1) rfl)), (inLr24 _ (List.mem_of_getElem? (i := 2) rfl)), (inLr1 _ (List.mem_of_getElem? (i := 2) rfl)), (inLr24 _ (List.mem_of_getElem? (i := 3) rfl)), rfl, by decide, by decide, by decide +kernel⟩
set_option maxHeartbeats 4000000 in
set_option maxRecDepth 100000 in
theorem q_X5_knot (hlt : l.stackTraces = false) (b : Nat → Nat) (x : Int32) (y : Int32)  : XI l D (tyL cI cO cJ cZ) yX5_knot cX5_knot 3 .int ({ frames := 8, cells := 1, slots := 6, locals := 200 } : Room) [.ref (b 0), .int x, .int y] ([((b 0), kOb b)]) (fun _ (_ : Unit) => False) (fun _ => []) (fun E => (E = "java/lang/IndexOutOfBoundsException" ∧ True)) := by
  refine XI.of hlt (by decide) (Nat.le_of_ble_eq_true rfl) (fun G hC hE hX => ?_)
  show G 0 0 ([((b 0), kOb b)]) 0 [(0, .ref (b 0)), (1, .int x), (2, .int y)] []
  refine y_aload_n hC dX5_knot_0 0 rfl rfl ?_
  refine y_iload_n hC dX5_knot_1 1 rfl rfl ?_
  refine y_iload_n hC dX5_knot_2 2 rfl rfl ?_
  refine y_callV_i hC (As := [.int x, .int y]) (rest := []) (q_isNoPlace b x y) nV_X5_isNoPlace (inLr24 _ (List.mem_of_getElem? (i := 5) rfl)) [0] [] [0] (fun u => [((b 0), kOb b)]) rfl rfl rfl rfl (by decide) rfl (fun _ => rfl) 0 rfl rfl rfl rfl (Nat.le_of_ble_eq_true rfl) dX5_knot_3 ⟨(Nat.le_of_ble_eq_true rfl), (Nat.le_of_ble_eq_true rfl)⟩ ⟨(Nat.le_of_ble_eq_true rfl), (Nat.le_of_ble_eq_true rfl)⟩ (fun r1 u1 hw1 => ?_)
  subst hw1
  refine y_if_eq_n hC 19 dX5_knot_6 (by decide) 1 rfl (by omega) (fun c6 => absurd c6 (by omega)) (fun c6 => ?_)
  exact hX _ _ _ _ _ "java/lang/IndexOutOfBoundsException" "there is no such cord or place" 57 197 61 exOK1 (by decide) ⟨rfl, trivial⟩ dX5_knot_9 dX5_knot_12 dX5_knot_13 dX5_knot_15 dX5_knot_18 (Nat.le_of_ble_eq_true rfl) (Nat.le_of_ble_eq_true rfl) (Nat.le_of_ble_eq_true rfl) (Nat.le_of_ble_eq_true rfl)
theorem nV_X5_retie : yV yX5_retie RX5 cX5_retie 5 (some .int) 3 := ⟨(inLr24 _ (List.mem_of_getElem? (i := 17) rfl)), (inLr24 _ (List.mem_of_getElem? (i := 18) rfl)), (inLr1 _ (List.mem_of_getElem? (i := 2) rfl)), (inLr24 _ (List.mem_of_getElem? (i := 19) rfl)), rfl, by decide, by decide, by decide +kernel⟩
set_option maxHeartbeats 4000000 in
set_option maxRecDepth 100000 in
theorem q_X5_retie (hlt : l.stackTraces = false) (b : Nat → Nat) (x : Int32) (y : Int32) (z : Int32)  : XI l D (tyL cI cO cJ cZ) yX5_retie cX5_retie 5 .int ({ frames := 8, cells := 1, slots := 6, locals := 200 } : Room) [.ref (b 0), .int x, .int y, .int z] ([((b 0), kOb b)]) (fun _ (_ : Unit) => False) (fun _ => []) (fun E => (E = "java/lang/IndexOutOfBoundsException" ∧ True)) := by
  refine XI.of hlt (by decide) (Nat.le_of_ble_eq_true rfl) (fun G hC hE hX => ?_)
  show G 0 0 ([((b 0), kOb b)]) 0 [(0, .ref (b 0)), (1, .int x), (2, .int y), (3, .int z)] []
  refine y_aload_n hC dX5_retie_0 0 rfl rfl ?_
  refine y_iload_n hC dX5_retie_1 1 rfl rfl ?_
  refine y_iload_n hC dX5_retie_2 2 rfl rfl ?_
  refine y_callV_i hC (As := [.int x, .int y]) (rest := []) (q_isNoPlace b x y) nV_X5_isNoPlace (inLr24 _ (List.mem_of_getElem? (i := 5) rfl)) [0] [] [0] (fun u => [((b 0), kOb b)]) rfl rfl rfl rfl (by decide) rfl (fun _ => rfl) 0 rfl rfl rfl rfl (Nat.le_of_ble_eq_true rfl) dX5_retie_3 ⟨(Nat.le_of_ble_eq_true rfl), (Nat.le_of_ble_eq_true rfl)⟩ ⟨(Nat.le_of_ble_eq_true rfl), (Nat.le_of_ble_eq_true rfl)⟩ (fun r1 u1 hw1 => ?_)
  subst hw1
  refine y_if_eq_n hC 19 dX5_retie_6 (by decide) 1 rfl (by omega) (fun c6 => absurd c6 (by omega)) (fun c6 => ?_)
  exact hX _ _ _ _ _ "java/lang/IndexOutOfBoundsException" "there is no such cord or place" 57 197 61 exOK1 (by decide) ⟨rfl, trivial⟩ dX5_retie_9 dX5_retie_12 dX5_retie_13 dX5_retie_15 dX5_retie_18 (Nat.le_of_ble_eq_true rfl) (Nat.le_of_ble_eq_true rfl) (Nat.le_of_ble_eq_true rfl) (Nat.le_of_ble_eq_true rfl)
theorem nV_X5_distance : yV yX5_distance RX5 cX5_distance 3 (some .int) 2 := ⟨(inLr25 _ (List.mem_of_getElem? (i := 4) rfl)), (inLr25 _ (List.mem_of_getElem? (i := 5) rfl)), (inLr1 _ (List.mem_of_getElem? (i := 2) rfl)), (inLr25 _ (List.mem_of_getElem? (i := 6) rfl)), rfl, by decide, by decide, by decide +kernel⟩
set_option maxHeartbeats 4000000 in
set_option maxRecDepth 100000 in
theorem q_X5_distance (hlt : l.stackTraces = false) (b : Nat → Nat) (x : Int32) (y : Int32)  : XI l D (tyL cI cO cJ cZ) yX5_distance cX5_distance 3 .int ({ frames := 8, cells := 1, slots := 6, locals := 200 } : Room) [.ref (b 0), .int x, .int y] ([((b 0), kOb b)]) (fun _ (_ : Unit) => False) (fun _ => []) (fun E => (E = "java/lang/IndexOutOfBoundsException" ∧ True)) := by
  refine XI.of hlt (by decide) (Nat.le_of_ble_eq_true rfl) (fun G hC hE hX => ?_)
  show G 0 0 ([((b 0), kOb b)]) 0 [(0, .ref (b 0)), (1, .int x), (2, .int y)] []
  refine y_aload_n hC dX5_distance_0 0 rfl rfl ?_
  refine y_iload_n hC dX5_distance_1 1 rfl rfl ?_
  refine y_callV_i hC (As := [.int x]) (rest := []) (q_isNoCord b x) nV_X5_isNoCord (inLr18 _ (List.mem_of_getElem? (i := 23) rfl)) [0] [] [0] (fun u => [((b 0), kOb b)]) rfl rfl rfl rfl (by decide) rfl (fun _ => rfl) 0 rfl rfl rfl rfl (Nat.le_of_ble_eq_true rfl) dX5_distance_2 ⟨(Nat.le_of_ble_eq_true rfl), (Nat.le_of_ble_eq_true rfl)⟩ ⟨(Nat.le_of_ble_eq_true rfl), (Nat.le_of_ble_eq_true rfl)⟩ (fun r1 u1 hw1 => ?_)
  subst hw1
  refine y_if_ne_n hC 16 dX5_distance_5 (by decide) 1 rfl (by omega) (fun c5 => ?_) (fun c5 => absurd c5 (by omega))
  exact hX _ _ _ _ _ "java/lang/IndexOutOfBoundsException" "there is no such cord" 57 206 61 exOK1 (by decide) ⟨rfl, trivial⟩ dX5_distance_16 dX5_distance_19 dX5_distance_20 dX5_distance_22 dX5_distance_25 (Nat.le_of_ble_eq_true rfl) (Nat.le_of_ble_eq_true rfl) (Nat.le_of_ble_eq_true rfl) (Nat.le_of_ble_eq_true rfl)
theorem nV_X5_nearest : yV yX5_nearest RX5 cX5_nearest 6 (some .int) 1 := ⟨(inLr25 _ (List.mem_of_getElem? (i := 23) rfl)), (inLr26 _ (List.mem_of_getElem? (i := 0) rfl)), (inLr1 _ (List.mem_of_getElem? (i := 2) rfl)), (inLr26 _ (List.mem_of_getElem? (i := 1) rfl)), rfl, by decide, by decide, by decide +kernel⟩
set_option maxHeartbeats 4000000 in
set_option maxRecDepth 100000 in
theorem q_X5_nearest (hlt : l.stackTraces = false) (b : Nat → Nat) (x : Int32)  : XI l D (tyL cI cO cJ cZ) yX5_nearest cX5_nearest 6 .int ({ frames := 8, cells := 1, slots := 6, locals := 200 } : Room) [.ref (b 0), .int x] ([((b 0), kOb b)]) (fun _ (_ : Unit) => False) (fun _ => []) (fun E => (E = "java/lang/IndexOutOfBoundsException" ∧ True)) := by
  refine XI.of hlt (by decide) (Nat.le_of_ble_eq_true rfl) (fun G hC hE hX => ?_)
  show G 0 0 ([((b 0), kOb b)]) 0 [(0, .ref (b 0)), (1, .int x)] []
  refine y_aload_n hC dX5_nearest_0 0 rfl rfl ?_
  refine y_iload_n hC dX5_nearest_1 1 rfl rfl ?_
  refine y_callV_i hC (As := [.int x]) (rest := []) (q_isNoCord b x) nV_X5_isNoCord (inLr18 _ (List.mem_of_getElem? (i := 23) rfl)) [0] [] [0] (fun u => [((b 0), kOb b)]) rfl rfl rfl rfl (by decide) rfl (fun _ => rfl) 0 rfl rfl rfl rfl (Nat.le_of_ble_eq_true rfl) dX5_nearest_2 ⟨(Nat.le_of_ble_eq_true rfl), (Nat.le_of_ble_eq_true rfl)⟩ ⟨(Nat.le_of_ble_eq_true rfl), (Nat.le_of_ble_eq_true rfl)⟩ (fun r1 u1 hw1 => ?_)
  subst hw1
  refine y_if_eq_n hC 18 dX5_nearest_5 (by decide) 1 rfl (by omega) (fun c5 => absurd c5 (by omega)) (fun c5 => ?_)
  exact hX _ _ _ _ _ "java/lang/IndexOutOfBoundsException" "there is no such cord" 57 206 61 exOK1 (by decide) ⟨rfl, trivial⟩ dX5_nearest_8 dX5_nearest_11 dX5_nearest_12 dX5_nearest_14 dX5_nearest_17 (Nat.le_of_ble_eq_true rfl) (Nat.le_of_ble_eq_true rfl) (Nat.le_of_ble_eq_true rfl) (Nat.le_of_ble_eq_true rfl)
theorem nV_X5_read : yV yX5_read RX5 cX5_read 2 (some .int) 1 := ⟨(inLr26 _ (List.mem_of_getElem? (i := 10) rfl)), (inLr26 _ (List.mem_of_getElem? (i := 11) rfl)), (inLr1 _ (List.mem_of_getElem? (i := 2) rfl)), (inLr26 _ (List.mem_of_getElem? (i := 12) rfl)), rfl, by decide, by decide, by decide +kernel⟩
set_option maxHeartbeats 4000000 in
set_option maxRecDepth 100000 in
theorem q_X5_read (hlt : l.stackTraces = false) (b : Nat → Nat) (x : Int32)  : XI l D (tyL cI cO cJ cZ) yX5_read cX5_read 2 .int ({ frames := 8, cells := 1, slots := 6, locals := 200 } : Room) [.ref (b 0), .int x] ([((b 0), kOb b)]) (fun _ (_ : Unit) => False) (fun _ => []) (fun E => (E = "java/lang/IndexOutOfBoundsException" ∧ True)) := by
  refine XI.of hlt (by decide) (Nat.le_of_ble_eq_true rfl) (fun G hC hE hX => ?_)
  show G 0 0 ([((b 0), kOb b)]) 0 [(0, .ref (b 0)), (1, .int x)] []
  refine y_aload_n hC dX5_read_0 0 rfl rfl ?_
  refine y_iload_n hC dX5_read_1 1 rfl rfl ?_
  refine y_callV_i hC (As := [.int x]) (rest := []) (q_isNoCord b x) nV_X5_isNoCord (inLr18 _ (List.mem_of_getElem? (i := 23) rfl)) [0] [] [0] (fun u => [((b 0), kOb b)]) rfl rfl rfl rfl (by decide) rfl (fun _ => rfl) 0 rfl rfl rfl rfl (Nat.le_of_ble_eq_true rfl) dX5_read_2 ⟨(Nat.le_of_ble_eq_true rfl), (Nat.le_of_ble_eq_true rfl)⟩ ⟨(Nat.le_of_ble_eq_true rfl), (Nat.le_of_ble_eq_true rfl)⟩ (fun r1 u1 hw1 => ?_)
  subst hw1
  refine y_if_eq_n hC 18 dX5_read_5 (by decide) 1 rfl (by omega) (fun c5 => absurd c5 (by omega)) (fun c5 => ?_)
  exact hX _ _ _ _ _ "java/lang/IndexOutOfBoundsException" "there is no such cord" 57 206 61 exOK1 (by decide) ⟨rfl, trivial⟩ dX5_read_8 dX5_read_11 dX5_read_12 dX5_read_14 dX5_read_17 (Nat.le_of_ble_eq_true rfl) (Nat.le_of_ble_eq_true rfl) (Nat.le_of_ble_eq_true rfl) (Nat.le_of_ble_eq_true rfl)
theorem nV_X5_byteAt : yV yX5_byteAt RX5 cX5_byteAt 2 (some .int) 1 := ⟨(inLr27 _ (List.mem_of_getElem? (i := 7) rfl)), (inLr27 _ (List.mem_of_getElem? (i := 8) rfl)), (inLr1 _ (List.mem_of_getElem? (i := 2) rfl)), (inLr27 _ (List.mem_of_getElem? (i := 9) rfl)), rfl, by decide, by decide, by decide +kernel⟩
set_option maxHeartbeats 4000000 in
set_option maxRecDepth 100000 in
theorem q_X5_byteAt (hlt : l.stackTraces = false) (b : Nat → Nat) (x : Int32)  : XI l D (tyL cI cO cJ cZ) yX5_byteAt cX5_byteAt 2 .int ({ frames := 8, cells := 1, slots := 6, locals := 200 } : Room) [.ref (b 0), .int x] ([((b 0), kOb b)]) (fun _ (_ : Unit) => False) (fun _ => []) (fun E => (E = "java/lang/IndexOutOfBoundsException" ∧ True)) := by
  refine XI.of hlt (by decide) (Nat.le_of_ble_eq_true rfl) (fun G hC hE hX => ?_)
  show G 0 0 ([((b 0), kOb b)]) 0 [(0, .ref (b 0)), (1, .int x)] []
  refine y_iload_n hC dX5_byteAt_0 1 rfl rfl ?_
  refine y_if_lt_z hC 12 dX5_byteAt_1 (by decide) (fun c1 => ?_) (fun c1 => ?_)
  · exact hX _ _ _ _ _ "java/lang/IndexOutOfBoundsException" "there is no such place on the paper" 57 218 61 exOK1 (by decide) ⟨rfl, trivial⟩ dX5_byteAt_12 dX5_byteAt_15 dX5_byteAt_16 dX5_byteAt_18 dX5_byteAt_21 (Nat.le_of_ble_eq_true rfl) (Nat.le_of_ble_eq_true rfl) (Nat.le_of_ble_eq_true rfl) (Nat.le_of_ble_eq_true rfl)
  · refine y_iload_n hC dX5_byteAt_4 1 rfl rfl ?_
    refine y_aload_n hC dX5_byteAt_5 0 rfl rfl ?_
    refine y_get hC cC5 0 rfl 9 (by decide) (inLr26 _ (List.mem_of_getElem? (i := 13) rfl)) rfl dX5_byteAt_6 ?_
    refine y_icmp_lt_z hC 22 dX5_byteAt_9 (by decide) 0 rfl (by omega) (fun c9 => absurd c9 (by omega)) (fun c9 => ?_)
    exact hX _ _ _ _ _ "java/lang/IndexOutOfBoundsException" "there is no such place on the paper" 57 218 61 exOK1 (by decide) ⟨rfl, trivial⟩ dX5_byteAt_12 dX5_byteAt_15 dX5_byteAt_16 dX5_byteAt_18 dX5_byteAt_21 (Nat.le_of_ble_eq_true rfl) (Nat.le_of_ble_eq_true rfl) (Nat.le_of_ble_eq_true rfl) (Nat.le_of_ble_eq_true rfl)
theorem nV_X0_lettersWithKnots : yV yX0_lettersWithKnots RX0 cX0_lettersWithKnots 3 (some .int) 0 := ⟨(inLr28 _ (List.mem_of_getElem? (i := 1) rfl)), (inLr28 _ (List.mem_of_getElem? (i := 2) rfl)), (inLr1 _ (List.mem_of_getElem? (i := 15) rfl)), (inLr28 _ (List.mem_of_getElem? (i := 3) rfl)), rfl, by decide, by decide, by decide +kernel⟩
set_option maxHeartbeats 4000000 in
set_option maxRecDepth 100000 in
theorem q_letters (b : Nat → Nat)   : MI l D (tyL cI cO cJ cZ) yX0_lettersWithKnots cX0_lettersWithKnots 3 .int ({ frames := 0, cells := 0, slots := 0, locals := 0 } : Room) [.ref (b 1)] ([((b 1), .inr (0, [.ref (b 2), .ref (b 3), .ref (b 4), .ref (b 5), .ref (b 6), .ref (b 7), .int (nI 0)])), ((b 2), .inl (cI, 12, .inl (fun k => nI (Zf k))))]) (fun r (_ : Unit) => r = nI 0) (fun _ => [((b 1), .inr (0, [.ref (b 2), .ref (b 3), .ref (b 4), .ref (b 5), .ref (b 6), .ref (b 7), .int (nI 0)])), ((b 2), .inl (cI, 12, .inl (fun k => nI (Zf k))))]) := by
  refine MI.of (by decide) (Nat.le_of_ble_eq_true rfl) (fun G hC hE => ?_)
  show G 0 0 ([((b 1), .inr (0, [.ref (b 2), .ref (b 3), .ref (b 4), .ref (b 5), .ref (b 6), .ref (b 7), .int (nI 0)])), ((b 2), .inl (cI, 12, .inl (fun k => nI (Zf k))))]) 0 [(0, .ref (b 1))] []
  refine y_iconst hC (v := nI 0) dX0_lettersWithKnots_0 rfl ?_
  refine y_istore_n hC [(1, .int (nI 0)), (0, .ref (b 1))] dX0_lettersWithKnots_1 rfl (by decide) rfl ?_
  refine y_iconst hC (v := nI 0) dX0_lettersWithKnots_2 rfl ?_
  refine y_istore_n hC [(2, .int (nI 0)), (1, .int (nI 0)), (0, .ref (b 1))] dX0_lettersWithKnots_3 rfl (by decide) rfl ?_
  have L4_l1 : ∀ n i : Nat, 12 + 1 ≤ i + n → i ≤ 12 → G 0 0 ([((b 1), .inr (0, [.ref (b 2), .ref (b 3), .ref (b 4), .ref (b 5), .ref (b 6), .ref (b 7), .int (nI 0)])), ((b 2), .inl (cI, 12, .inl (fun k => nI (Zf k))))]) 4 [(0, .ref (b 1)), (1, .int (nI 0)), (2, .int (nI i))] [] := by
    intro n
    induction n with
    | zero => intro i h1 h2; omega
    | succ n ih4i =>
      intro i h1i h2i
      refine y_iload_n hC dX0_lettersWithKnots_4 2 rfl rfl ?_
      refine y_bipush hC (v := nI 12) dX0_lettersWithKnots_5 rfl ?_
      refine y_icmp_ge_n hC 28 dX0_lettersWithKnots_7 (by decide) i 12 rfl rfl (by omega) (by omega) (fun c7 => ?_) (fun c7 => ?_)
      · refine y_iload_n hC dX0_lettersWithKnots_28 1 rfl rfl ?_
        exact hE (nI 0) () _ _ _ _ dX0_lettersWithKnots_29 (Nat.le_of_ble_eq_true rfl) (Nat.le_of_ble_eq_true rfl) rfl rfl
      · refine y_aload_n hC dX0_lettersWithKnots_10 0 rfl rfl ?_
        refine y_get hC cC0 0 rfl 0 (by decide) (inLr2 _ (List.mem_of_getElem? (i := 15) rfl)) rfl dX0_lettersWithKnots_11 ?_
        refine y_iload_n hC dX0_lettersWithKnots_14 2 rfl rfl ?_
        refine y_iald hC 1 0 rfl rfl i rfl (by omega) (by decide) dX0_lettersWithKnots_15 ?_
        refine y_if_eq_n hC 22 dX0_lettersWithKnots_16 (by decide) 0 rfl (by omega) (fun c16 => ?_) (fun c16 => absurd c16 (by omega))
        refine y_iinc hC (v := nI (i + 1)) [(2, .int (nI (i + 1))), (0, .ref (b 1)), (1, .int (nI 0))] dX0_lettersWithKnots_22 (k := 2) rfl (ninc _) (by decide) rfl ?_
        refine y_goto hC 4 dX0_lettersWithKnots_25 (by decide) ?_
        refine y_sub hC [1, 2, 0] rfl ?_
        exact ih4i (i + 1) (by omega) (by omega)
  refine y_sub hC [2, 1, 0] rfl ?_
  exact L4_l1 (12 + 1) 0 (by omega) (by omega)
theorem nV_X5_count : yV yX5_count RX5 cX5_count 2 (some .int) 1 := ⟨(inLr27 _ (List.mem_of_getElem? (i := 18) rfl)), (inLr27 _ (List.mem_of_getElem? (i := 19) rfl)), (inLr1 _ (List.mem_of_getElem? (i := 2) rfl)), (inLr27 _ (List.mem_of_getElem? (i := 20) rfl)), rfl, by decide, by decide, by decide +kernel⟩
set_option maxHeartbeats 4000000 in
set_option maxRecDepth 100000 in
theorem q_X5_count (hlt : l.stackTraces = false) (b : Nat → Nat) (x : Int32)  : XI l D (tyL cI cO cJ cZ) yX5_count cX5_count 2 .int ({ frames := 8, cells := 1, slots := 6, locals := 200 } : Room) [.ref (b 0), .int x] ([((b 0), kOb b), ((b 1), .inr (0, [.ref (b 2), .ref (b 3), .ref (b 4), .ref (b 5), .ref (b 6), .ref (b 7), .int (nI 0)])), ((b 2), .inl (cI, 12, .inl (fun k => nI (Zf k)))), ((b 8), .inr (3, [.int (nI 0), .int (nI 0), .int (nI 0), .int (nI 0), .int (nI 0)]))]) (fun r (_ : Unit) => kcCou x = 0 ∧ r = nI 0) (fun _ => []) (fun E => (E = "java/lang/IndexOutOfBoundsException" ∧ kcCou x = 1)) := by
  refine XI.of hlt (by decide) (Nat.le_of_ble_eq_true rfl) (fun G hC hE hX => ?_)
  show G 0 0 ([((b 0), kOb b), ((b 1), .inr (0, [.ref (b 2), .ref (b 3), .ref (b 4), .ref (b 5), .ref (b 6), .ref (b 7), .int (nI 0)])), ((b 2), .inl (cI, 12, .inl (fun k => nI (Zf k)))), ((b 8), .inr (3, [.int (nI 0), .int (nI 0), .int (nI 0), .int (nI 0), .int (nI 0)]))]) 0 [(0, .ref (b 0)), (1, .int x)] []
  refine y_iload_n hC dX5_count_0 1 rfl rfl ?_
  refine y_if_lt_z hC 10 dX5_count_1 (by decide) (fun c1 => ?_) (fun c1 => ?_)
  · exact hX _ _ _ _ _ "java/lang/IndexOutOfBoundsException" "what is 0 to 6" 57 220 61 exOK1 (by decide) ⟨rfl, by unfold kcCou; split <;> omega⟩ dX5_count_10 dX5_count_13 dX5_count_14 dX5_count_16 dX5_count_19 (Nat.le_of_ble_eq_true rfl) (Nat.le_of_ble_eq_true rfl) (Nat.le_of_ble_eq_true rfl) (Nat.le_of_ble_eq_true rfl)
  · refine y_iload_n hC dX5_count_4 1 rfl rfl ?_
    refine y_bipush hC (v := nI 7) dX5_count_5 rfl ?_
    refine y_icmp_lt_z hC 20 dX5_count_7 (by decide) 7 rfl (by omega) (fun c7 => ?_) (fun c7 => ?_)
    · obtain ⟨j1, hj1, rfl⟩ := i32_nat (x := x) (n := 7) (by omega) (by omega)
      have ej1 := nI_toInt (show j1 < 2 ^ 31 by omega)
      refine y_iload_n hC dX5_count_20 1 rfl rfl ?_
      rcases (show j1 = 0 ∨ j1 = 1 ∨ j1 = 2 ∨ j1 = 3 ∨ j1 = 4 ∨ j1 = 5 ∨ j1 = 6 by omega) with rfl | rfl | rfl | rfl | rfl | rfl | rfl
      · refine y_tableIn hC 60 dX5_count_21 (by decide) (by decide) (off := 39) (by decide) (by decide) ?_
        refine y_aload_n hC dX5_count_60 0 rfl rfl ?_
        refine y_get hC cC5 0 rfl 0 (by decide) (inLr1 _ (List.mem_of_getElem? (i := 16) rfl)) rfl dX5_count_61 ?_
        refine y_callV_i hC (As := []) (rest := []) (q_letters b) nV_X0_lettersWithKnots (inLr28 _ (List.mem_of_getElem? (i := 0) rfl)) [1, 2] [0, 3] [0, 2, 3, 1] (fun u => [((b 0), kOb b), ((b 1), .inr (0, [.ref (b 2), .ref (b 3), .ref (b 4), .ref (b 5), .ref (b 6), .ref (b 7), .int (nI 0)])), ((b 2), .inl (cI, 12, .inl (fun k => nI (Zf k)))), ((b 8), .inr (3, [.int (nI 0), .int (nI 0), .int (nI 0), .int (nI 0), .int (nI 0)]))]) rfl rfl rfl rfl (by decide) rfl (fun _ => rfl) 0 rfl rfl rfl rfl (Nat.le_of_ble_eq_true rfl) dX5_count_64 ⟨(Nat.le_of_ble_eq_true rfl), (Nat.le_of_ble_eq_true rfl)⟩ ⟨(Nat.le_of_ble_eq_true rfl), (Nat.le_of_ble_eq_true rfl)⟩ (fun r1 u1 hw1 => ?_)
        subst hw1
        refine y_world hC [] (ws' := []) rfl rfl ?_
        exact hE (nI 0) () _ _ _ _ dX5_count_67 (Nat.le_of_ble_eq_true rfl) (Nat.le_of_ble_eq_true rfl) rfl ⟨by unfold kcCou; split <;> omega, rfl⟩
      · refine y_tableIn hC 68 dX5_count_21 (by decide) (by decide) (off := 47) (by decide) (by decide) ?_
        refine y_aload_n hC dX5_count_68 0 rfl rfl ?_
        refine y_get hC cC5 0 rfl 5 (by decide) (inLr15 _ (List.mem_of_getElem? (i := 23) rfl)) rfl dX5_count_69 ?_
        refine y_world hC [] (ws' := []) rfl rfl ?_
        exact hE (nI 0) () _ _ _ _ dX5_count_72 (Nat.le_of_ble_eq_true rfl) (Nat.le_of_ble_eq_true rfl) rfl ⟨by unfold kcCou; split <;> omega, rfl⟩
      · refine y_tableIn hC 73 dX5_count_21 (by decide) (by decide) (off := 52) (by decide) (by decide) ?_
        refine y_aload_n hC dX5_count_73 0 rfl rfl ?_
        refine y_get hC cC5 0 rfl 1 (by decide) (inLr1 _ (List.mem_of_getElem? (i := 20) rfl)) rfl dX5_count_74 ?_
        refine y_get hC cC3 3 rfl 2 (by decide) (inLr27 _ (List.mem_of_getElem? (i := 21) rfl)) rfl dX5_count_77 ?_
        refine y_world hC [] (ws' := []) rfl rfl ?_
        exact hE (nI 0) () _ _ _ _ dX5_count_80 (Nat.le_of_ble_eq_true rfl) (Nat.le_of_ble_eq_true rfl) rfl ⟨by unfold kcCou; split <;> omega, rfl⟩
      · refine y_tableIn hC 81 dX5_count_21 (by decide) (by decide) (off := 60) (by decide) (by decide) ?_
        refine y_aload_n hC dX5_count_81 0 rfl rfl ?_
        refine y_get hC cC5 0 rfl 1 (by decide) (inLr1 _ (List.mem_of_getElem? (i := 20) rfl)) rfl dX5_count_82 ?_
        refine y_get hC cC3 3 rfl 3 (by decide) (inLr27 _ (List.mem_of_getElem? (i := 22) rfl)) rfl dX5_count_85 ?_
        refine y_world hC [] (ws' := []) rfl rfl ?_
        exact hE (nI 0) () _ _ _ _ dX5_count_88 (Nat.le_of_ble_eq_true rfl) (Nat.le_of_ble_eq_true rfl) rfl ⟨by unfold kcCou; split <;> omega, rfl⟩
      · refine y_tableIn hC 89 dX5_count_21 (by decide) (by decide) (off := 68) (by decide) (by decide) ?_
        refine y_aload_n hC dX5_count_89 0 rfl rfl ?_
        refine y_get hC cC5 0 rfl 1 (by decide) (inLr1 _ (List.mem_of_getElem? (i := 20) rfl)) rfl dX5_count_90 ?_
        refine y_get hC cC3 3 rfl 4 (by decide) (inLr27 _ (List.mem_of_getElem? (i := 23) rfl)) rfl dX5_count_93 ?_
        refine y_world hC [] (ws' := []) rfl rfl ?_
        exact hE (nI 0) () _ _ _ _ dX5_count_96 (Nat.le_of_ble_eq_true rfl) (Nat.le_of_ble_eq_true rfl) rfl ⟨by unfold kcCou; split <;> omega, rfl⟩
      · refine y_tableIn hC 97 dX5_count_21 (by decide) (by decide) (off := 76) (by decide) (by decide) ?_
        refine y_aload_n hC dX5_count_97 0 rfl rfl ?_
        refine y_get hC cC5 0 rfl 7 (by decide) (inLr14 _ (List.mem_of_getElem? (i := 19) rfl)) rfl dX5_count_98 ?_
        refine y_world hC [] (ws' := []) rfl rfl ?_
        exact hE (nI 0) () _ _ _ _ dX5_count_101 (Nat.le_of_ble_eq_true rfl) (Nat.le_of_ble_eq_true rfl) rfl ⟨by unfold kcCou; split <;> omega, rfl⟩
      · refine y_tableOut hC 102 dX5_count_21 (by decide) (by decide) ?_
        refine y_aload_n hC dX5_count_102 0 rfl rfl ?_
        refine y_get hC cC5 0 rfl 9 (by decide) (inLr26 _ (List.mem_of_getElem? (i := 13) rfl)) rfl dX5_count_103 ?_
        refine y_world hC [] (ws' := []) rfl rfl ?_
        exact hE (nI 0) () _ _ _ _ dX5_count_106 (Nat.le_of_ble_eq_true rfl) (Nat.le_of_ble_eq_true rfl) rfl ⟨by unfold kcCou; split <;> omega, rfl⟩
    · exact hX _ _ _ _ _ "java/lang/IndexOutOfBoundsException" "what is 0 to 6" 57 220 61 exOK1 (by decide) ⟨rfl, by unfold kcCou; split <;> omega⟩ dX5_count_10 dX5_count_13 dX5_count_14 dX5_count_16 dX5_count_19 (Nat.le_of_ble_eq_true rfl) (Nat.le_of_ble_eq_true rfl) (Nat.le_of_ble_eq_true rfl) (Nat.le_of_ble_eq_true rfl)
set_option maxHeartbeats 4000000 in
set_option maxRecDepth 100000 in
theorem q_count (b : Nat → Nat) (k : Nat) (hk : k < 7) : MI l D (tyL cI cO cJ cZ) yX5_count cX5_count 2 .int ({ frames := 1, cells := 0, slots := 0, locals := 40 } : Room) [.ref (b 0), .int (nI k)] ([((b 0), kOb b), ((b 1), .inr (0, [.ref (b 2), .ref (b 3), .ref (b 4), .ref (b 5), .ref (b 6), .ref (b 7), .int (nI 0)])), ((b 2), .inl (cI, 12, .inl (fun k => nI (Zf k)))), ((b 8), .inr (3, [.int (nI 0), .int (nI 0), .int (nI 0), .int (nI 0), .int (nI 0)]))]) (fun r (_ : Unit) => r = nI 0) (fun _ => [((b 0), kOb b), ((b 1), .inr (0, [.ref (b 2), .ref (b 3), .ref (b 4), .ref (b 5), .ref (b 6), .ref (b 7), .int (nI 0)])), ((b 2), .inl (cI, 12, .inl (fun k => nI (Zf k)))), ((b 8), .inr (3, [.int (nI 0), .int (nI 0), .int (nI 0), .int (nI 0), .int (nI 0)]))]) := by
  refine MI.of (by decide) (Nat.le_of_ble_eq_true rfl) (fun G hC hE => ?_)
  show G 0 0 ([((b 0), kOb b), ((b 1), .inr (0, [.ref (b 2), .ref (b 3), .ref (b 4), .ref (b 5), .ref (b 6), .ref (b 7), .int (nI 0)])), ((b 2), .inl (cI, 12, .inl (fun k => nI (Zf k)))), ((b 8), .inr (3, [.int (nI 0), .int (nI 0), .int (nI 0), .int (nI 0), .int (nI 0)]))]) 0 [(0, .ref (b 0)), (1, .int (nI k))] []
  refine y_iload_n hC dX5_count_0 1 rfl rfl ?_
  refine y_if_lt_n hC 10 dX5_count_1 (by decide) k rfl (by omega) ?_
  refine y_iload_n hC dX5_count_4 1 rfl rfl ?_
  refine y_bipush hC (v := nI 7) dX5_count_5 rfl ?_
  refine y_icmp_lt_n hC 20 dX5_count_7 (by decide) k 7 rfl rfl (by omega) (by omega) (fun c7 => ?_) (fun c7 => absurd c7 (by omega))
  refine y_iload_n hC dX5_count_20 1 rfl rfl ?_
  rcases (show k = 0 ∨ k = 1 ∨ k = 2 ∨ k = 3 ∨ k = 4 ∨ k = 5 ∨ k = 6 by omega) with rfl | rfl | rfl | rfl | rfl | rfl | rfl
  · refine y_tableIn hC 60 dX5_count_21 (by decide) (by decide) (off := 39) (by decide) (by decide) ?_
    refine y_aload_n hC dX5_count_60 0 rfl rfl ?_
    refine y_get hC cC5 0 rfl 0 (by decide) (inLr1 _ (List.mem_of_getElem? (i := 16) rfl)) rfl dX5_count_61 ?_
    refine y_callV_i hC (As := []) (rest := []) (q_letters b) nV_X0_lettersWithKnots (inLr28 _ (List.mem_of_getElem? (i := 0) rfl)) [1, 2] [0, 3] [0, 2, 3, 1] (fun u => [((b 0), kOb b), ((b 1), .inr (0, [.ref (b 2), .ref (b 3), .ref (b 4), .ref (b 5), .ref (b 6), .ref (b 7), .int (nI 0)])), ((b 2), .inl (cI, 12, .inl (fun k => nI (Zf k)))), ((b 8), .inr (3, [.int (nI 0), .int (nI 0), .int (nI 0), .int (nI 0), .int (nI 0)]))]) rfl rfl rfl rfl (by decide) rfl (fun _ => rfl) 0 rfl rfl rfl rfl (Nat.le_of_ble_eq_true rfl) dX5_count_64 ⟨(Nat.le_of_ble_eq_true rfl), (Nat.le_of_ble_eq_true rfl)⟩ ⟨(Nat.le_of_ble_eq_true rfl), (Nat.le_of_ble_eq_true rfl)⟩ (fun r1 u1 hw1 => ?_)
    subst hw1
    exact hE (nI 0) () _ _ _ _ dX5_count_67 (Nat.le_of_ble_eq_true rfl) (Nat.le_of_ble_eq_true rfl) rfl rfl
  · refine y_tableIn hC 68 dX5_count_21 (by decide) (by decide) (off := 47) (by decide) (by decide) ?_
    refine y_aload_n hC dX5_count_68 0 rfl rfl ?_
    refine y_get hC cC5 0 rfl 5 (by decide) (inLr15 _ (List.mem_of_getElem? (i := 23) rfl)) rfl dX5_count_69 ?_
    exact hE (nI 0) () _ _ _ _ dX5_count_72 (Nat.le_of_ble_eq_true rfl) (Nat.le_of_ble_eq_true rfl) rfl rfl
  · refine y_tableIn hC 73 dX5_count_21 (by decide) (by decide) (off := 52) (by decide) (by decide) ?_
    refine y_aload_n hC dX5_count_73 0 rfl rfl ?_
    refine y_get hC cC5 0 rfl 1 (by decide) (inLr1 _ (List.mem_of_getElem? (i := 20) rfl)) rfl dX5_count_74 ?_
    refine y_get hC cC3 3 rfl 2 (by decide) (inLr27 _ (List.mem_of_getElem? (i := 21) rfl)) rfl dX5_count_77 ?_
    exact hE (nI 0) () _ _ _ _ dX5_count_80 (Nat.le_of_ble_eq_true rfl) (Nat.le_of_ble_eq_true rfl) rfl rfl
  · refine y_tableIn hC 81 dX5_count_21 (by decide) (by decide) (off := 60) (by decide) (by decide) ?_
    refine y_aload_n hC dX5_count_81 0 rfl rfl ?_
    refine y_get hC cC5 0 rfl 1 (by decide) (inLr1 _ (List.mem_of_getElem? (i := 20) rfl)) rfl dX5_count_82 ?_
    refine y_get hC cC3 3 rfl 3 (by decide) (inLr27 _ (List.mem_of_getElem? (i := 22) rfl)) rfl dX5_count_85 ?_
    exact hE (nI 0) () _ _ _ _ dX5_count_88 (Nat.le_of_ble_eq_true rfl) (Nat.le_of_ble_eq_true rfl) rfl rfl
  · refine y_tableIn hC 89 dX5_count_21 (by decide) (by decide) (off := 68) (by decide) (by decide) ?_
    refine y_aload_n hC dX5_count_89 0 rfl rfl ?_
    refine y_get hC cC5 0 rfl 1 (by decide) (inLr1 _ (List.mem_of_getElem? (i := 20) rfl)) rfl dX5_count_90 ?_
    refine y_get hC cC3 3 rfl 4 (by decide) (inLr27 _ (List.mem_of_getElem? (i := 23) rfl)) rfl dX5_count_93 ?_
    exact hE (nI 0) () _ _ _ _ dX5_count_96 (Nat.le_of_ble_eq_true rfl) (Nat.le_of_ble_eq_true rfl) rfl rfl
  · refine y_tableIn hC 97 dX5_count_21 (by decide) (by decide) (off := 76) (by decide) (by decide) ?_
    refine y_aload_n hC dX5_count_97 0 rfl rfl ?_
    refine y_get hC cC5 0 rfl 7 (by decide) (inLr14 _ (List.mem_of_getElem? (i := 19) rfl)) rfl dX5_count_98 ?_
    exact hE (nI 0) () _ _ _ _ dX5_count_101 (Nat.le_of_ble_eq_true rfl) (Nat.le_of_ble_eq_true rfl) rfl rfl
  · refine y_tableOut hC 102 dX5_count_21 (by decide) (by decide) ?_
    refine y_aload_n hC dX5_count_102 0 rfl rfl ?_
    refine y_get hC cC5 0 rfl 9 (by decide) (inLr26 _ (List.mem_of_getElem? (i := 13) rfl)) rfl dX5_count_103 ?_
    exact hE (nI 0) () _ _ _ _ dX5_count_106 (Nat.le_of_ble_eq_true rfl) (Nat.le_of_ble_eq_true rfl) rfl rfl
theorem nV_X5_mean : yV yX5_mean RX5 cX5_mean 4 (some .double) 0 := ⟨(inLr28 _ (List.mem_of_getElem? (i := 13) rfl)), (inLr28 _ (List.mem_of_getElem? (i := 14) rfl)), (inLr1 _ (List.mem_of_getElem? (i := 2) rfl)), (inLr28 _ (List.mem_of_getElem? (i := 15) rfl)), rfl, by decide, by decide, by decide +kernel⟩
set_option maxHeartbeats 4000000 in
set_option maxRecDepth 100000 in
theorem q_X5_mean (b : Nat → Nat)   : MF l D (tyL cI cO cJ cZ) yX5_mean cX5_mean 4 ({ frames := 1, cells := 0, slots := 0, locals := 60 } : Room) [.ref (b 0)] ([((b 0), kOb b), ((b 1), .inr (0, [.ref (b 2), .ref (b 3), .ref (b 4), .ref (b 5), .ref (b 6), .ref (b 7), .int (nI 0)])), ((b 2), .inl (cI, 12, .inl (fun k => nI (Zf k))))]) (fun r (_ : Unit) => r = 0) (fun _ => []) := by
  refine MF.of (by decide) (Nat.le_of_ble_eq_true rfl) (fun G hC hE => ?_)
  show G 0 0 ([((b 0), kOb b), ((b 1), .inr (0, [.ref (b 2), .ref (b 3), .ref (b 4), .ref (b 5), .ref (b 6), .ref (b 7), .int (nI 0)])), ((b 2), .inl (cI, 12, .inl (fun k => nI (Zf k))))]) 0 [(0, .ref (b 0))] []
  refine y_aload_n hC dX5_mean_0 0 rfl rfl ?_
  refine y_get hC cC5 0 rfl 0 (by decide) (inLr1 _ (List.mem_of_getElem? (i := 16) rfl)) rfl dX5_mean_1 ?_
  refine y_callV_i hC (As := []) (rest := []) (q_letters b) nV_X0_lettersWithKnots (inLr28 _ (List.mem_of_getElem? (i := 0) rfl)) [1, 2] [0] [0, 1, 2] (fun u => [((b 0), kOb b), ((b 1), .inr (0, [.ref (b 2), .ref (b 3), .ref (b 4), .ref (b 5), .ref (b 6), .ref (b 7), .int (nI 0)])), ((b 2), .inl (cI, 12, .inl (fun k => nI (Zf k))))]) rfl rfl rfl rfl (by decide) rfl (fun _ => rfl) 0 rfl rfl rfl rfl (Nat.le_of_ble_eq_true rfl) dX5_mean_4 ⟨(Nat.le_of_ble_eq_true rfl), (Nat.le_of_ble_eq_true rfl)⟩ ⟨(Nat.le_of_ble_eq_true rfl), (Nat.le_of_ble_eq_true rfl)⟩ (fun r1 u1 hw1 => ?_)
  subst hw1
  refine y_istore_n hC [(1, .int (nI 0)), (0, .ref (b 0))] dX5_mean_7 rfl (by decide) rfl ?_
  refine y_iload_n hC dX5_mean_8 0 rfl rfl ?_
  refine y_if_ne_n hC 14 dX5_mean_9 (by decide) 0 rfl (by omega) (fun c9 => absurd c9 (by omega)) (fun c9 => ?_)
  refine y_dconst0 hC dX5_mean_12 ?_
  refine y_world hC [] (ws' := []) rfl rfl ?_
  exact hE 0 () _ _ _ _ dX5_mean_13 (Nat.le_of_ble_eq_true rfl) (Nat.le_of_ble_eq_true rfl) rfl
theorem nV_X5_digest : yV yX5_digest RX5 cX5_digest 5 (some .long) 0 := ⟨(inLr28 _ (List.mem_of_getElem? (i := 21) rfl)), (inLr28 _ (List.mem_of_getElem? (i := 22) rfl)), (inLr1 _ (List.mem_of_getElem? (i := 2) rfl)), (inLr28 _ (List.mem_of_getElem? (i := 23) rfl)), rfl, by decide, by decide, by decide +kernel⟩
set_option maxHeartbeats 4000000 in
set_option maxRecDepth 100000 in
theorem q_X5_digest (b : Nat → Nat)   : ML l D (tyL cI cO cJ cZ) yX5_digest cX5_digest 5 ({ frames := 2, cells := 0, slots := 0, locals := 80 } : Room) [.ref (b 0)] ([((b 0), kOb b), ((b 1), .inr (0, [.ref (b 2), .ref (b 3), .ref (b 4), .ref (b 5), .ref (b 6), .ref (b 7), .int (nI 0)])), ((b 2), .inl (cI, 12, .inl (fun k => nI (Zf k)))), ((b 3), .inl (cI, 12, .inl (fun k => nI (Zf k)))), ((b 4), .inl (cI, 12, .inl (fun k => nI (Zf k)))), ((b 8), .inr (3, [.int (nI 0), .int (nI 0), .int (nI 0), .int (nI 0), .int (nI 0)]))]) (fun r (_ : Unit) => r = dgf 43) (fun _ => []) := by
  refine ML.of (by decide) (Nat.le_of_ble_eq_true rfl) (fun G hC hE => ?_)
  show G 0 0 ([((b 0), kOb b), ((b 1), .inr (0, [.ref (b 2), .ref (b 3), .ref (b 4), .ref (b 5), .ref (b 6), .ref (b 7), .int (nI 0)])), ((b 2), .inl (cI, 12, .inl (fun k => nI (Zf k)))), ((b 3), .inl (cI, 12, .inl (fun k => nI (Zf k)))), ((b 4), .inl (cI, 12, .inl (fun k => nI (Zf k)))), ((b 8), .inr (3, [.int (nI 0), .int (nI 0), .int (nI 0), .int (nI 0), .int (nI 0)]))]) 0 [(0, .ref (b 0))] []
  refine y_ldc2 hC (v := lN 571) dX5_digest_0 (inLr29 _ (List.mem_of_getElem? (i := 0) rfl)) ?_
  refine y_lstore_n hC [(1, .long (lN 571)), (0, .ref (b 0))] dX5_digest_3 rfl (by decide) rfl ?_
  refine y_iconst hC (v := nI 0) dX5_digest_4 rfl ?_
  refine y_istore_n hC [(3, .int (nI 0)), (1, .long (lN 571)), (0, .ref (b 0))] dX5_digest_5 rfl (by decide) rfl ?_
  refine y_iload_n hC dX5_digest_6 0 rfl rfl ?_
  refine y_bipush hC (v := nI 7) dX5_digest_7 rfl ?_
  refine y_icmp_ge_n hC 28 dX5_digest_9 (by decide) 0 7 rfl rfl (by omega) (by omega) (fun c9 => absurd c9 (by omega)) (fun c9 => ?_)
  refine y_lload_n hC dX5_digest_12 1 rfl rfl ?_
  refine y_aload_n hC dX5_digest_13 2 rfl rfl ?_
  refine y_iload_n hC dX5_digest_14 0 rfl rfl ?_
  refine y_callV_i hC (As := [.int (nI 0)]) (rest := [.long (lN 571)]) (q_count b 0 (by omega)) nV_X5_count (inLr29 _ (List.mem_of_getElem? (i := 1) rfl)) [0, 1, 2, 5] [3, 4] [2, 3, 4, 0, 1, 5] (fun u => [((b 0), kOb b), ((b 1), .inr (0, [.ref (b 2), .ref (b 3), .ref (b 4), .ref (b 5), .ref (b 6), .ref (b 7), .int (nI 0)])), ((b 2), .inl (cI, 12, .inl (fun k => nI (Zf k)))), ((b 3), .inl (cI, 12, .inl (fun k => nI (Zf k)))), ((b 4), .inl (cI, 12, .inl (fun k => nI (Zf k)))), ((b 8), .inr (3, [.int (nI 0), .int (nI 0), .int (nI 0), .int (nI 0), .int (nI 0)]))]) rfl rfl rfl rfl (by decide) rfl (fun _ => rfl) 0 rfl rfl rfl rfl (Nat.le_of_ble_eq_true rfl) dX5_digest_15 ⟨(Nat.le_of_ble_eq_true rfl), (Nat.le_of_ble_eq_true rfl)⟩ ⟨(Nat.le_of_ble_eq_true rfl), (Nat.le_of_ble_eq_true rfl)⟩ (fun r1 u1 hw1 => ?_)
  subst hw1
  refine y_callS_l hC (As := [.long (lN 571), .int (nI 0)]) (rest := []) (q_X5_mixed (lN 571) (nI 0)) nS_X5_mixed (inLr29 _ (List.mem_of_getElem? (i := 2) rfl)) [] [0, 1, 2, 3, 4, 5] [0, 1, 2, 3, 4, 5] (fun u => [((b 0), kOb b), ((b 1), .inr (0, [.ref (b 2), .ref (b 3), .ref (b 4), .ref (b 5), .ref (b 6), .ref (b 7), .int (nI 0)])), ((b 2), .inl (cI, 12, .inl (fun k => nI (Zf k)))), ((b 3), .inl (cI, 12, .inl (fun k => nI (Zf k)))), ((b 4), .inl (cI, 12, .inl (fun k => nI (Zf k)))), ((b 8), .inr (3, [.int (nI 0), .int (nI 0), .int (nI 0), .int (nI 0), .int (nI 0)]))]) rfl rfl rfl rfl (by decide) rfl (fun _ => rfl) rfl rfl (Nat.le_of_ble_eq_true rfl) dX5_digest_18 ⟨(Nat.le_of_ble_eq_true rfl), (Nat.le_of_ble_eq_true rfl)⟩ ⟨(Nat.le_of_ble_eq_true rfl), (Nat.le_of_ble_eq_true rfl)⟩ (fun r2 u2 hw2 => ?_)
  subst hw2
  refine y_lstore_n hC [(1, .long ((lN 571) * lN 31 + (nI 0).toInt64)), (3, .int (nI 0)), (0, .ref (b 0))] dX5_digest_21 rfl (by decide) rfl ?_
  refine y_iinc hC (v := nI 1) [(3, .int (nI 1)), (1, .long ((lN 571) * lN 31 + (nI 0).toInt64)), (0, .ref (b 0))] dX5_digest_22 (k := 1) rfl (ninc _) (by decide) rfl ?_
  refine y_goto hC 6 dX5_digest_25 (by decide) ?_
  refine y_iload_n hC dX5_digest_6 0 rfl rfl ?_
  refine y_bipush hC (v := nI 7) dX5_digest_7 rfl ?_
  refine y_icmp_ge_n hC 28 dX5_digest_9 (by decide) 1 7 rfl rfl (by omega) (by omega) (fun c9 => absurd c9 (by omega)) (fun c9 => ?_)
  refine y_lload_n hC dX5_digest_12 1 rfl rfl ?_
  refine y_aload_n hC dX5_digest_13 2 rfl rfl ?_
  refine y_iload_n hC dX5_digest_14 0 rfl rfl ?_
  refine y_callV_i hC (As := [.int (nI 1)]) (rest := [.long ((lN 571) * lN 31 + (nI 0).toInt64)]) (q_count b 1 (by omega)) nV_X5_count (inLr29 _ (List.mem_of_getElem? (i := 1) rfl)) [0, 1, 2, 5] [3, 4] [2, 3, 4, 0, 1, 5] (fun u => [((b 0), kOb b), ((b 1), .inr (0, [.ref (b 2), .ref (b 3), .ref (b 4), .ref (b 5), .ref (b 6), .ref (b 7), .int (nI 0)])), ((b 2), .inl (cI, 12, .inl (fun k => nI (Zf k)))), ((b 3), .inl (cI, 12, .inl (fun k => nI (Zf k)))), ((b 4), .inl (cI, 12, .inl (fun k => nI (Zf k)))), ((b 8), .inr (3, [.int (nI 0), .int (nI 0), .int (nI 0), .int (nI 0), .int (nI 0)]))]) rfl rfl rfl rfl (by decide) rfl (fun _ => rfl) 0 rfl rfl rfl rfl (Nat.le_of_ble_eq_true rfl) dX5_digest_15 ⟨(Nat.le_of_ble_eq_true rfl), (Nat.le_of_ble_eq_true rfl)⟩ ⟨(Nat.le_of_ble_eq_true rfl), (Nat.le_of_ble_eq_true rfl)⟩ (fun r3 u3 hw3 => ?_)
  subst hw3
  refine y_callS_l hC (As := [.long ((lN 571) * lN 31 + (nI 0).toInt64), .int (nI 0)]) (rest := []) (q_X5_mixed ((lN 571) * lN 31 + (nI 0).toInt64) (nI 0)) nS_X5_mixed (inLr29 _ (List.mem_of_getElem? (i := 2) rfl)) [] [0, 1, 2, 3, 4, 5] [0, 1, 2, 3, 4, 5] (fun u => [((b 0), kOb b), ((b 1), .inr (0, [.ref (b 2), .ref (b 3), .ref (b 4), .ref (b 5), .ref (b 6), .ref (b 7), .int (nI 0)])), ((b 2), .inl (cI, 12, .inl (fun k => nI (Zf k)))), ((b 3), .inl (cI, 12, .inl (fun k => nI (Zf k)))), ((b 4), .inl (cI, 12, .inl (fun k => nI (Zf k)))), ((b 8), .inr (3, [.int (nI 0), .int (nI 0), .int (nI 0), .int (nI 0), .int (nI 0)]))]) rfl rfl rfl rfl (by decide) rfl (fun _ => rfl) rfl rfl (Nat.le_of_ble_eq_true rfl) dX5_digest_18 ⟨(Nat.le_of_ble_eq_true rfl), (Nat.le_of_ble_eq_true rfl)⟩ ⟨(Nat.le_of_ble_eq_true rfl), (Nat.le_of_ble_eq_true rfl)⟩ (fun r4 u4 hw4 => ?_)
  subst hw4
  refine y_lstore_n hC [(1, .long (((lN 571) * lN 31 + (nI 0).toInt64) * lN 31 + (nI 0).toInt64)), (3, .int (nI 1)), (0, .ref (b 0))] dX5_digest_21 rfl (by decide) rfl ?_
  refine y_iinc hC (v := nI 2) [(3, .int (nI 2)), (1, .long (((lN 571) * lN 31 + (nI 0).toInt64) * lN 31 + (nI 0).toInt64)), (0, .ref (b 0))] dX5_digest_22 (k := 1) rfl (ninc _) (by decide) rfl ?_
  refine y_goto hC 6 dX5_digest_25 (by decide) ?_
  refine y_iload_n hC dX5_digest_6 0 rfl rfl ?_
  refine y_bipush hC (v := nI 7) dX5_digest_7 rfl ?_
  refine y_icmp_ge_n hC 28 dX5_digest_9 (by decide) 2 7 rfl rfl (by omega) (by omega) (fun c9 => absurd c9 (by omega)) (fun c9 => ?_)
  refine y_lload_n hC dX5_digest_12 1 rfl rfl ?_
  refine y_aload_n hC dX5_digest_13 2 rfl rfl ?_
  refine y_iload_n hC dX5_digest_14 0 rfl rfl ?_
  refine y_callV_i hC (As := [.int (nI 2)]) (rest := [.long (((lN 571) * lN 31 + (nI 0).toInt64) * lN 31 + (nI 0).toInt64)]) (q_count b 2 (by omega)) nV_X5_count (inLr29 _ (List.mem_of_getElem? (i := 1) rfl)) [0, 1, 2, 5] [3, 4] [2, 3, 4, 0, 1, 5] (fun u => [((b 0), kOb b), ((b 1), .inr (0, [.ref (b 2), .ref (b 3), .ref (b 4), .ref (b 5), .ref (b 6), .ref (b 7), .int (nI 0)])), ((b 2), .inl (cI, 12, .inl (fun k => nI (Zf k)))), ((b 3), .inl (cI, 12, .inl (fun k => nI (Zf k)))), ((b 4), .inl (cI, 12, .inl (fun k => nI (Zf k)))), ((b 8), .inr (3, [.int (nI 0), .int (nI 0), .int (nI 0), .int (nI 0), .int (nI 0)]))]) rfl rfl rfl rfl (by decide) rfl (fun _ => rfl) 0 rfl rfl rfl rfl (Nat.le_of_ble_eq_true rfl) dX5_digest_15 ⟨(Nat.le_of_ble_eq_true rfl), (Nat.le_of_ble_eq_true rfl)⟩ ⟨(Nat.le_of_ble_eq_true rfl), (Nat.le_of_ble_eq_true rfl)⟩ (fun r5 u5 hw5 => ?_)
  subst hw5
  refine y_callS_l hC (As := [.long (((lN 571) * lN 31 + (nI 0).toInt64) * lN 31 + (nI 0).toInt64), .int (nI 0)]) (rest := []) (q_X5_mixed (((lN 571) * lN 31 + (nI 0).toInt64) * lN 31 + (nI 0).toInt64) (nI 0)) nS_X5_mixed (inLr29 _ (List.mem_of_getElem? (i := 2) rfl)) [] [0, 1, 2, 3, 4, 5] [0, 1, 2, 3, 4, 5] (fun u => [((b 0), kOb b), ((b 1), .inr (0, [.ref (b 2), .ref (b 3), .ref (b 4), .ref (b 5), .ref (b 6), .ref (b 7), .int (nI 0)])), ((b 2), .inl (cI, 12, .inl (fun k => nI (Zf k)))), ((b 3), .inl (cI, 12, .inl (fun k => nI (Zf k)))), ((b 4), .inl (cI, 12, .inl (fun k => nI (Zf k)))), ((b 8), .inr (3, [.int (nI 0), .int (nI 0), .int (nI 0), .int (nI 0), .int (nI 0)]))]) rfl rfl rfl rfl (by decide) rfl (fun _ => rfl) rfl rfl (Nat.le_of_ble_eq_true rfl) dX5_digest_18 ⟨(Nat.le_of_ble_eq_true rfl), (Nat.le_of_ble_eq_true rfl)⟩ ⟨(Nat.le_of_ble_eq_true rfl), (Nat.le_of_ble_eq_true rfl)⟩ (fun r6 u6 hw6 => ?_)
  subst hw6
  refine y_lstore_n hC [(1, .long ((((lN 571) * lN 31 + (nI 0).toInt64) * lN 31 + (nI 0).toInt64) * lN 31 + (nI 0).toInt64)), (3, .int (nI 2)), (0, .ref (b 0))] dX5_digest_21 rfl (by decide) rfl ?_
  refine y_iinc hC (v := nI 3) [(3, .int (nI 3)), (1, .long ((((lN 571) * lN 31 + (nI 0).toInt64) * lN 31 + (nI 0).toInt64) * lN 31 + (nI 0).toInt64)), (0, .ref (b 0))] dX5_digest_22 (k := 1) rfl (ninc _) (by decide) rfl ?_
  refine y_goto hC 6 dX5_digest_25 (by decide) ?_
  refine y_iload_n hC dX5_digest_6 0 rfl rfl ?_
  refine y_bipush hC (v := nI 7) dX5_digest_7 rfl ?_
  refine y_icmp_ge_n hC 28 dX5_digest_9 (by decide) 3 7 rfl rfl (by omega) (by omega) (fun c9 => absurd c9 (by omega)) (fun c9 => ?_)
  refine y_lload_n hC dX5_digest_12 1 rfl rfl ?_
  refine y_aload_n hC dX5_digest_13 2 rfl rfl ?_
  refine y_iload_n hC dX5_digest_14 0 rfl rfl ?_
  refine y_callV_i hC (As := [.int (nI 3)]) (rest := [.long ((((lN 571) * lN 31 + (nI 0).toInt64) * lN 31 + (nI 0).toInt64) * lN 31 + (nI 0).toInt64)]) (q_count b 3 (by omega)) nV_X5_count (inLr29 _ (List.mem_of_getElem? (i := 1) rfl)) [0, 1, 2, 5] [3, 4] [2, 3, 4, 0, 1, 5] (fun u => [((b 0), kOb b), ((b 1), .inr (0, [.ref (b 2), .ref (b 3), .ref (b 4), .ref (b 5), .ref (b 6), .ref (b 7), .int (nI 0)])), ((b 2), .inl (cI, 12, .inl (fun k => nI (Zf k)))), ((b 3), .inl (cI, 12, .inl (fun k => nI (Zf k)))), ((b 4), .inl (cI, 12, .inl (fun k => nI (Zf k)))), ((b 8), .inr (3, [.int (nI 0), .int (nI 0), .int (nI 0), .int (nI 0), .int (nI 0)]))]) rfl rfl rfl rfl (by decide) rfl (fun _ => rfl) 0 rfl rfl rfl rfl (Nat.le_of_ble_eq_true rfl) dX5_digest_15 ⟨(Nat.le_of_ble_eq_true rfl), (Nat.le_of_ble_eq_true rfl)⟩ ⟨(Nat.le_of_ble_eq_true rfl), (Nat.le_of_ble_eq_true rfl)⟩ (fun r7 u7 hw7 => ?_)
  subst hw7
  refine y_callS_l hC (As := [.long ((((lN 571) * lN 31 + (nI 0).toInt64) * lN 31 + (nI 0).toInt64) * lN 31 + (nI 0).toInt64), .int (nI 0)]) (rest := []) (q_X5_mixed ((((lN 571) * lN 31 + (nI 0).toInt64) * lN 31 + (nI 0).toInt64) * lN 31 + (nI 0).toInt64) (nI 0)) nS_X5_mixed (inLr29 _ (List.mem_of_getElem? (i := 2) rfl)) [] [0, 1, 2, 3, 4, 5] [0, 1, 2, 3, 4, 5] (fun u => [((b 0), kOb b), ((b 1), .inr (0, [.ref (b 2), .ref (b 3), .ref (b 4), .ref (b 5), .ref (b 6), .ref (b 7), .int (nI 0)])), ((b 2), .inl (cI, 12, .inl (fun k => nI (Zf k)))), ((b 3), .inl (cI, 12, .inl (fun k => nI (Zf k)))), ((b 4), .inl (cI, 12, .inl (fun k => nI (Zf k)))), ((b 8), .inr (3, [.int (nI 0), .int (nI 0), .int (nI 0), .int (nI 0), .int (nI 0)]))]) rfl rfl rfl rfl (by decide) rfl (fun _ => rfl) rfl rfl (Nat.le_of_ble_eq_true rfl) dX5_digest_18 ⟨(Nat.le_of_ble_eq_true rfl), (Nat.le_of_ble_eq_true rfl)⟩ ⟨(Nat.le_of_ble_eq_true rfl), (Nat.le_of_ble_eq_true rfl)⟩ (fun r8 u8 hw8 => ?_)
  subst hw8
  refine y_lstore_n hC [(1, .long (((((lN 571) * lN 31 + (nI 0).toInt64) * lN 31 + (nI 0).toInt64) * lN 31 + (nI 0).toInt64) * lN 31 + (nI 0).toInt64)), (3, .int (nI 3)), (0, .ref (b 0))] dX5_digest_21 rfl (by decide) rfl ?_
  refine y_iinc hC (v := nI 4) [(3, .int (nI 4)), (1, .long (((((lN 571) * lN 31 + (nI 0).toInt64) * lN 31 + (nI 0).toInt64) * lN 31 + (nI 0).toInt64) * lN 31 + (nI 0).toInt64)), (0, .ref (b 0))] dX5_digest_22 (k := 1) rfl (ninc _) (by decide) rfl ?_
  refine y_goto hC 6 dX5_digest_25 (by decide) ?_
  refine y_iload_n hC dX5_digest_6 0 rfl rfl ?_
  refine y_bipush hC (v := nI 7) dX5_digest_7 rfl ?_
  refine y_icmp_ge_n hC 28 dX5_digest_9 (by decide) 4 7 rfl rfl (by omega) (by omega) (fun c9 => absurd c9 (by omega)) (fun c9 => ?_)
  refine y_lload_n hC dX5_digest_12 1 rfl rfl ?_
  refine y_aload_n hC dX5_digest_13 2 rfl rfl ?_
  refine y_iload_n hC dX5_digest_14 0 rfl rfl ?_
  refine y_callV_i hC (As := [.int (nI 4)]) (rest := [.long (((((lN 571) * lN 31 + (nI 0).toInt64) * lN 31 + (nI 0).toInt64) * lN 31 + (nI 0).toInt64) * lN 31 + (nI 0).toInt64)]) (q_count b 4 (by omega)) nV_X5_count (inLr29 _ (List.mem_of_getElem? (i := 1) rfl)) [0, 1, 2, 5] [3, 4] [2, 3, 4, 0, 1, 5] (fun u => [((b 0), kOb b), ((b 1), .inr (0, [.ref (b 2), .ref (b 3), .ref (b 4), .ref (b 5), .ref (b 6), .ref (b 7), .int (nI 0)])), ((b 2), .inl (cI, 12, .inl (fun k => nI (Zf k)))), ((b 3), .inl (cI, 12, .inl (fun k => nI (Zf k)))), ((b 4), .inl (cI, 12, .inl (fun k => nI (Zf k)))), ((b 8), .inr (3, [.int (nI 0), .int (nI 0), .int (nI 0), .int (nI 0), .int (nI 0)]))]) rfl rfl rfl rfl (by decide) rfl (fun _ => rfl) 0 rfl rfl rfl rfl (Nat.le_of_ble_eq_true rfl) dX5_digest_15 ⟨(Nat.le_of_ble_eq_true rfl), (Nat.le_of_ble_eq_true rfl)⟩ ⟨(Nat.le_of_ble_eq_true rfl), (Nat.le_of_ble_eq_true rfl)⟩ (fun r9 u9 hw9 => ?_)
  subst hw9
  refine y_callS_l hC (As := [.long (((((lN 571) * lN 31 + (nI 0).toInt64) * lN 31 + (nI 0).toInt64) * lN 31 + (nI 0).toInt64) * lN 31 + (nI 0).toInt64), .int (nI 0)]) (rest := []) (q_X5_mixed (((((lN 571) * lN 31 + (nI 0).toInt64) * lN 31 + (nI 0).toInt64) * lN 31 + (nI 0).toInt64) * lN 31 + (nI 0).toInt64) (nI 0)) nS_X5_mixed (inLr29 _ (List.mem_of_getElem? (i := 2) rfl)) [] [0, 1, 2, 3, 4, 5] [0, 1, 2, 3, 4, 5] (fun u => [((b 0), kOb b), ((b 1), .inr (0, [.ref (b 2), .ref (b 3), .ref (b 4), .ref (b 5), .ref (b 6), .ref (b 7), .int (nI 0)])), ((b 2), .inl (cI, 12, .inl (fun k => nI (Zf k)))), ((b 3), .inl (cI, 12, .inl (fun k => nI (Zf k)))), ((b 4), .inl (cI, 12, .inl (fun k => nI (Zf k)))), ((b 8), .inr (3, [.int (nI 0), .int (nI 0), .int (nI 0), .int (nI 0), .int (nI 0)]))]) rfl rfl rfl rfl (by decide) rfl (fun _ => rfl) rfl rfl (Nat.le_of_ble_eq_true rfl) dX5_digest_18 ⟨(Nat.le_of_ble_eq_true rfl), (Nat.le_of_ble_eq_true rfl)⟩ ⟨(Nat.le_of_ble_eq_true rfl), (Nat.le_of_ble_eq_true rfl)⟩ (fun r10 u10 hw10 => ?_)
  subst hw10
  refine y_lstore_n hC [(1, .long ((((((lN 571) * lN 31 + (nI 0).toInt64) * lN 31 + (nI 0).toInt64) * lN 31 + (nI 0).toInt64) * lN 31 + (nI 0).toInt64) * lN 31 + (nI 0).toInt64)), (3, .int (nI 4)), (0, .ref (b 0))] dX5_digest_21 rfl (by decide) rfl ?_
  refine y_iinc hC (v := nI 5) [(3, .int (nI 5)), (1, .long ((((((lN 571) * lN 31 + (nI 0).toInt64) * lN 31 + (nI 0).toInt64) * lN 31 + (nI 0).toInt64) * lN 31 + (nI 0).toInt64) * lN 31 + (nI 0).toInt64)), (0, .ref (b 0))] dX5_digest_22 (k := 1) rfl (ninc _) (by decide) rfl ?_
  refine y_goto hC 6 dX5_digest_25 (by decide) ?_
  refine y_iload_n hC dX5_digest_6 0 rfl rfl ?_
  refine y_bipush hC (v := nI 7) dX5_digest_7 rfl ?_
  refine y_icmp_ge_n hC 28 dX5_digest_9 (by decide) 5 7 rfl rfl (by omega) (by omega) (fun c9 => absurd c9 (by omega)) (fun c9 => ?_)
  refine y_lload_n hC dX5_digest_12 1 rfl rfl ?_
  refine y_aload_n hC dX5_digest_13 2 rfl rfl ?_
  refine y_iload_n hC dX5_digest_14 0 rfl rfl ?_
  refine y_callV_i hC (As := [.int (nI 5)]) (rest := [.long ((((((lN 571) * lN 31 + (nI 0).toInt64) * lN 31 + (nI 0).toInt64) * lN 31 + (nI 0).toInt64) * lN 31 + (nI 0).toInt64) * lN 31 + (nI 0).toInt64)]) (q_count b 5 (by omega)) nV_X5_count (inLr29 _ (List.mem_of_getElem? (i := 1) rfl)) [0, 1, 2, 5] [3, 4] [2, 3, 4, 0, 1, 5] (fun u => [((b 0), kOb b), ((b 1), .inr (0, [.ref (b 2), .ref (b 3), .ref (b 4), .ref (b 5), .ref (b 6), .ref (b 7), .int (nI 0)])), ((b 2), .inl (cI, 12, .inl (fun k => nI (Zf k)))), ((b 3), .inl (cI, 12, .inl (fun k => nI (Zf k)))), ((b 4), .inl (cI, 12, .inl (fun k => nI (Zf k)))), ((b 8), .inr (3, [.int (nI 0), .int (nI 0), .int (nI 0), .int (nI 0), .int (nI 0)]))]) rfl rfl rfl rfl (by decide) rfl (fun _ => rfl) 0 rfl rfl rfl rfl (Nat.le_of_ble_eq_true rfl) dX5_digest_15 ⟨(Nat.le_of_ble_eq_true rfl), (Nat.le_of_ble_eq_true rfl)⟩ ⟨(Nat.le_of_ble_eq_true rfl), (Nat.le_of_ble_eq_true rfl)⟩ (fun r11 u11 hw11 => ?_)
  subst hw11
  refine y_callS_l hC (As := [.long ((((((lN 571) * lN 31 + (nI 0).toInt64) * lN 31 + (nI 0).toInt64) * lN 31 + (nI 0).toInt64) * lN 31 + (nI 0).toInt64) * lN 31 + (nI 0).toInt64), .int (nI 0)]) (rest := []) (q_X5_mixed ((((((lN 571) * lN 31 + (nI 0).toInt64) * lN 31 + (nI 0).toInt64) * lN 31 + (nI 0).toInt64) * lN 31 + (nI 0).toInt64) * lN 31 + (nI 0).toInt64) (nI 0)) nS_X5_mixed (inLr29 _ (List.mem_of_getElem? (i := 2) rfl)) [] [0, 1, 2, 3, 4, 5] [0, 1, 2, 3, 4, 5] (fun u => [((b 0), kOb b), ((b 1), .inr (0, [.ref (b 2), .ref (b 3), .ref (b 4), .ref (b 5), .ref (b 6), .ref (b 7), .int (nI 0)])), ((b 2), .inl (cI, 12, .inl (fun k => nI (Zf k)))), ((b 3), .inl (cI, 12, .inl (fun k => nI (Zf k)))), ((b 4), .inl (cI, 12, .inl (fun k => nI (Zf k)))), ((b 8), .inr (3, [.int (nI 0), .int (nI 0), .int (nI 0), .int (nI 0), .int (nI 0)]))]) rfl rfl rfl rfl (by decide) rfl (fun _ => rfl) rfl rfl (Nat.le_of_ble_eq_true rfl) dX5_digest_18 ⟨(Nat.le_of_ble_eq_true rfl), (Nat.le_of_ble_eq_true rfl)⟩ ⟨(Nat.le_of_ble_eq_true rfl), (Nat.le_of_ble_eq_true rfl)⟩ (fun r12 u12 hw12 => ?_)
  subst hw12
  refine y_lstore_n hC [(1, .long (((((((lN 571) * lN 31 + (nI 0).toInt64) * lN 31 + (nI 0).toInt64) * lN 31 + (nI 0).toInt64) * lN 31 + (nI 0).toInt64) * lN 31 + (nI 0).toInt64) * lN 31 + (nI 0).toInt64)), (3, .int (nI 5)), (0, .ref (b 0))] dX5_digest_21 rfl (by decide) rfl ?_
  refine y_iinc hC (v := nI 6) [(3, .int (nI 6)), (1, .long (((((((lN 571) * lN 31 + (nI 0).toInt64) * lN 31 + (nI 0).toInt64) * lN 31 + (nI 0).toInt64) * lN 31 + (nI 0).toInt64) * lN 31 + (nI 0).toInt64) * lN 31 + (nI 0).toInt64)), (0, .ref (b 0))] dX5_digest_22 (k := 1) rfl (ninc _) (by decide) rfl ?_
  refine y_goto hC 6 dX5_digest_25 (by decide) ?_
  refine y_iload_n hC dX5_digest_6 0 rfl rfl ?_
  refine y_bipush hC (v := nI 7) dX5_digest_7 rfl ?_
  refine y_icmp_ge_n hC 28 dX5_digest_9 (by decide) 6 7 rfl rfl (by omega) (by omega) (fun c9 => absurd c9 (by omega)) (fun c9 => ?_)
  refine y_lload_n hC dX5_digest_12 1 rfl rfl ?_
  refine y_aload_n hC dX5_digest_13 2 rfl rfl ?_
  refine y_iload_n hC dX5_digest_14 0 rfl rfl ?_
  refine y_callV_i hC (As := [.int (nI 6)]) (rest := [.long (((((((lN 571) * lN 31 + (nI 0).toInt64) * lN 31 + (nI 0).toInt64) * lN 31 + (nI 0).toInt64) * lN 31 + (nI 0).toInt64) * lN 31 + (nI 0).toInt64) * lN 31 + (nI 0).toInt64)]) (q_count b 6 (by omega)) nV_X5_count (inLr29 _ (List.mem_of_getElem? (i := 1) rfl)) [0, 1, 2, 5] [3, 4] [2, 3, 4, 0, 1, 5] (fun u => [((b 0), kOb b), ((b 1), .inr (0, [.ref (b 2), .ref (b 3), .ref (b 4), .ref (b 5), .ref (b 6), .ref (b 7), .int (nI 0)])), ((b 2), .inl (cI, 12, .inl (fun k => nI (Zf k)))), ((b 3), .inl (cI, 12, .inl (fun k => nI (Zf k)))), ((b 4), .inl (cI, 12, .inl (fun k => nI (Zf k)))), ((b 8), .inr (3, [.int (nI 0), .int (nI 0), .int (nI 0), .int (nI 0), .int (nI 0)]))]) rfl rfl rfl rfl (by decide) rfl (fun _ => rfl) 0 rfl rfl rfl rfl (Nat.le_of_ble_eq_true rfl) dX5_digest_15 ⟨(Nat.le_of_ble_eq_true rfl), (Nat.le_of_ble_eq_true rfl)⟩ ⟨(Nat.le_of_ble_eq_true rfl), (Nat.le_of_ble_eq_true rfl)⟩ (fun r13 u13 hw13 => ?_)
  subst hw13
  refine y_callS_l hC (As := [.long (((((((lN 571) * lN 31 + (nI 0).toInt64) * lN 31 + (nI 0).toInt64) * lN 31 + (nI 0).toInt64) * lN 31 + (nI 0).toInt64) * lN 31 + (nI 0).toInt64) * lN 31 + (nI 0).toInt64), .int (nI 0)]) (rest := []) (q_X5_mixed (((((((lN 571) * lN 31 + (nI 0).toInt64) * lN 31 + (nI 0).toInt64) * lN 31 + (nI 0).toInt64) * lN 31 + (nI 0).toInt64) * lN 31 + (nI 0).toInt64) * lN 31 + (nI 0).toInt64) (nI 0)) nS_X5_mixed (inLr29 _ (List.mem_of_getElem? (i := 2) rfl)) [] [0, 1, 2, 3, 4, 5] [0, 1, 2, 3, 4, 5] (fun u => [((b 0), kOb b), ((b 1), .inr (0, [.ref (b 2), .ref (b 3), .ref (b 4), .ref (b 5), .ref (b 6), .ref (b 7), .int (nI 0)])), ((b 2), .inl (cI, 12, .inl (fun k => nI (Zf k)))), ((b 3), .inl (cI, 12, .inl (fun k => nI (Zf k)))), ((b 4), .inl (cI, 12, .inl (fun k => nI (Zf k)))), ((b 8), .inr (3, [.int (nI 0), .int (nI 0), .int (nI 0), .int (nI 0), .int (nI 0)]))]) rfl rfl rfl rfl (by decide) rfl (fun _ => rfl) rfl rfl (Nat.le_of_ble_eq_true rfl) dX5_digest_18 ⟨(Nat.le_of_ble_eq_true rfl), (Nat.le_of_ble_eq_true rfl)⟩ ⟨(Nat.le_of_ble_eq_true rfl), (Nat.le_of_ble_eq_true rfl)⟩ (fun r14 u14 hw14 => ?_)
  subst hw14
  refine y_lstore_n hC [(1, .long ((((((((lN 571) * lN 31 + (nI 0).toInt64) * lN 31 + (nI 0).toInt64) * lN 31 + (nI 0).toInt64) * lN 31 + (nI 0).toInt64) * lN 31 + (nI 0).toInt64) * lN 31 + (nI 0).toInt64) * lN 31 + (nI 0).toInt64)), (3, .int (nI 6)), (0, .ref (b 0))] dX5_digest_21 rfl (by decide) rfl ?_
  refine y_iinc hC (v := nI 7) [(3, .int (nI 7)), (1, .long ((((((((lN 571) * lN 31 + (nI 0).toInt64) * lN 31 + (nI 0).toInt64) * lN 31 + (nI 0).toInt64) * lN 31 + (nI 0).toInt64) * lN 31 + (nI 0).toInt64) * lN 31 + (nI 0).toInt64) * lN 31 + (nI 0).toInt64)), (0, .ref (b 0))] dX5_digest_22 (k := 1) rfl (ninc _) (by decide) rfl ?_
  refine y_goto hC 6 dX5_digest_25 (by decide) ?_
  refine y_iload_n hC dX5_digest_6 0 rfl rfl ?_
  refine y_bipush hC (v := nI 7) dX5_digest_7 rfl ?_
  refine y_icmp_ge_n hC 28 dX5_digest_9 (by decide) 7 7 rfl rfl (by omega) (by omega) (fun c9 => ?_) (fun c9 => absurd c9 (by omega))
  refine y_iconst hC (v := nI 0) dX5_digest_28 rfl ?_
  refine y_istore_n hC [(3, .int (nI 0)), (1, .long ((((((((lN 571) * lN 31 + (nI 0).toInt64) * lN 31 + (nI 0).toInt64) * lN 31 + (nI 0).toInt64) * lN 31 + (nI 0).toInt64) * lN 31 + (nI 0).toInt64) * lN 31 + (nI 0).toInt64) * lN 31 + (nI 0).toInt64)), (0, .ref (b 0))] dX5_digest_29 rfl (by decide) rfl ?_
  have L30_l1 : ∀ (n : Nat) (i : Nat), (13 ≤ i + n) → (i ≤ 12) → G 0 0 ([((b 0), kOb b), ((b 1), .inr (0, [.ref (b 2), .ref (b 3), .ref (b 4), .ref (b 5), .ref (b 6), .ref (b 7), .int (nI 0)])), ((b 2), .inl (cI, 12, .inl (fun k => nI (Zf k)))), ((b 3), .inl (cI, 12, .inl (fun k => nI (Zf k)))), ((b 4), .inl (cI, 12, .inl (fun k => nI (Zf k)))), ((b 8), .inr (3, [.int (nI 0), .int (nI 0), .int (nI 0), .int (nI 0), .int (nI 0)]))]) 30 [(0, .ref (b 0)), (1, .long (dgf (7 + 3 * i))), (3, .int (nI i))] [] := by
    intro n
    induction n with
    | zero => intro i h1 h2; omega
    | succ n ihd =>
      intro i h1 h2
      refine y_iload_n hC dX5_digest_30 2 rfl rfl ?_
      refine y_bipush hC (v := nI 12) dX5_digest_31 rfl ?_
      refine y_icmp_ge_n hC 69 dX5_digest_33 (by decide) i 12 rfl rfl (by omega) (by omega) (fun c33 => ?_) (fun c33 => ?_)
      · obtain rfl : i = 12 := by omega
        refine y_iconst hC (v := nI 0) dX5_digest_69 rfl ?_
        refine y_istore_n hC [(3, .int (nI 0)), (0, .ref (b 0)), (1, .long (dgf (7 + 3 * 12)))] dX5_digest_70 rfl (by decide) rfl ?_
        refine y_iload_n hC dX5_digest_71 0 rfl rfl ?_
        refine y_aload_n hC dX5_digest_72 1 rfl rfl ?_
        refine y_get hC cC5 0 rfl 5 (by decide) (inLr15 _ (List.mem_of_getElem? (i := 23) rfl)) rfl dX5_digest_73 ?_
        refine y_icmp_ge_n hC 153 dX5_digest_76 (by decide) 0 0 rfl rfl (by omega) (by omega) (fun c76 => ?_) (fun c76 => absurd c76 (by omega))
        refine y_iconst hC (v := nI 0) dX5_digest_153 rfl ?_
        refine y_istore_n hC [(3, .int (nI 0)), (0, .ref (b 0)), (1, .long (dgf (7 + 3 * 12)))] dX5_digest_154 rfl (by decide) rfl ?_
        refine y_iload_n hC dX5_digest_155 0 rfl rfl ?_
        refine y_aload_n hC dX5_digest_156 1 rfl rfl ?_
        refine y_get hC cC5 0 rfl 9 (by decide) (inLr26 _ (List.mem_of_getElem? (i := 13) rfl)) rfl dX5_digest_157 ?_
        refine y_icmp_ge_n hC 180 dX5_digest_160 (by decide) 0 0 rfl rfl (by omega) (by omega) (fun c160 => ?_) (fun c160 => absurd c160 (by omega))
        refine y_lload_n hC dX5_digest_180 2 rfl rfl ?_
        refine y_world hC [] (ws' := []) rfl rfl ?_
        exact hE (dgf (7 + 3 * 12)) () _ _ _ _ dX5_digest_181 (Nat.le_of_ble_eq_true rfl) (Nat.le_of_ble_eq_true rfl) rfl
      · refine y_iconst hC (v := nI 0) dX5_digest_36 rfl ?_
        refine y_istore hC [(4, .int (nI 0)), (0, .ref (b 0)), (1, .long (dgf (7 + 3 * i))), (3, .int (nI i))] dX5_digest_37 (by decide) rfl ?_
        refine y_iload hC dX5_digest_39 0 rfl ?_
        refine y_iconst hC (v := nI 3) dX5_digest_41 rfl ?_
        refine y_icmp_ge_n hC 63 dX5_digest_42 (by decide) 0 3 rfl rfl (by omega) (by omega) (fun c42 => absurd c42 (by omega)) (fun c42 => ?_)
        refine y_lload_n hC dX5_digest_45 2 rfl rfl ?_
        refine y_aload_n hC dX5_digest_46 1 rfl rfl ?_
        refine y_iload_n hC dX5_digest_47 3 rfl rfl ?_
        refine y_iload hC dX5_digest_48 0 rfl ?_
        refine y_callV_i hC (As := [.int (nI i), .int (nI 0)]) (rest := [.long (dgf (7 + 3 * i))]) (q_letter b i 0 (by omega) (by omega)) nV_X5_letter (inLr29 _ (List.mem_of_getElem? (i := 6) rfl)) [0, 1, 2, 3, 4] [5] [1, 2, 3, 4, 5, 0] (fun u => [((b 0), kOb b), ((b 1), .inr (0, [.ref (b 2), .ref (b 3), .ref (b 4), .ref (b 5), .ref (b 6), .ref (b 7), .int (nI 0)])), ((b 2), .inl (cI, 12, .inl (fun k => nI (Zf k)))), ((b 3), .inl (cI, 12, .inl (fun k => nI (Zf k)))), ((b 4), .inl (cI, 12, .inl (fun k => nI (Zf k)))), ((b 8), .inr (3, [.int (nI 0), .int (nI 0), .int (nI 0), .int (nI 0), .int (nI 0)]))]) rfl rfl rfl rfl (by decide) rfl (fun _ => rfl) 0 rfl rfl rfl rfl (Nat.le_of_ble_eq_true rfl) dX5_digest_50 ⟨(Nat.le_of_ble_eq_true rfl), (Nat.le_of_ble_eq_true rfl)⟩ ⟨(Nat.le_of_ble_eq_true rfl), (Nat.le_of_ble_eq_true rfl)⟩ (fun r15 u15 hw15 => ?_)
        subst hw15
        refine y_callS_l hC (As := [.long (dgf (7 + 3 * i)), .int (nI 0)]) (rest := []) (q_X5_mixed (dgf (7 + 3 * i)) (nI 0)) nS_X5_mixed (inLr29 _ (List.mem_of_getElem? (i := 2) rfl)) [] [0, 1, 2, 3, 4, 5] [0, 1, 2, 3, 4, 5] (fun u => [((b 0), kOb b), ((b 1), .inr (0, [.ref (b 2), .ref (b 3), .ref (b 4), .ref (b 5), .ref (b 6), .ref (b 7), .int (nI 0)])), ((b 2), .inl (cI, 12, .inl (fun k => nI (Zf k)))), ((b 3), .inl (cI, 12, .inl (fun k => nI (Zf k)))), ((b 4), .inl (cI, 12, .inl (fun k => nI (Zf k)))), ((b 8), .inr (3, [.int (nI 0), .int (nI 0), .int (nI 0), .int (nI 0), .int (nI 0)]))]) rfl rfl rfl rfl (by decide) rfl (fun _ => rfl) rfl rfl (Nat.le_of_ble_eq_true rfl) dX5_digest_53 ⟨(Nat.le_of_ble_eq_true rfl), (Nat.le_of_ble_eq_true rfl)⟩ ⟨(Nat.le_of_ble_eq_true rfl), (Nat.le_of_ble_eq_true rfl)⟩ (fun r16 u16 hw16 => ?_)
        subst hw16
        refine y_lstore_n hC [(1, .long ((dgf (7 + 3 * i)) * lN 31 + (nI 0).toInt64)), (4, .int (nI 0)), (0, .ref (b 0)), (3, .int (nI i))] dX5_digest_56 rfl (by decide) rfl ?_
        refine y_iinc hC (v := nI 1) [(4, .int (nI 1)), (1, .long ((dgf (7 + 3 * i)) * lN 31 + (nI 0).toInt64)), (0, .ref (b 0)), (3, .int (nI i))] dX5_digest_57 (k := 1) rfl (ninc _) (by decide) rfl ?_
        refine y_goto hC 39 dX5_digest_60 (by decide) ?_
        refine y_iload hC dX5_digest_39 0 rfl ?_
        refine y_iconst hC (v := nI 3) dX5_digest_41 rfl ?_
        refine y_icmp_ge_n hC 63 dX5_digest_42 (by decide) 1 3 rfl rfl (by omega) (by omega) (fun c42 => absurd c42 (by omega)) (fun c42 => ?_)
        refine y_lload_n hC dX5_digest_45 1 rfl rfl ?_
        refine y_aload_n hC dX5_digest_46 2 rfl rfl ?_
        refine y_iload_n hC dX5_digest_47 3 rfl rfl ?_
        refine y_iload hC dX5_digest_48 0 rfl ?_
        refine y_callV_i hC (As := [.int (nI i), .int (nI 1)]) (rest := [.long ((dgf (7 + 3 * i)) * lN 31 + (nI 0).toInt64)]) (q_letter b i 1 (by omega) (by omega)) nV_X5_letter (inLr29 _ (List.mem_of_getElem? (i := 6) rfl)) [0, 1, 2, 3, 4] [5] [1, 2, 3, 4, 5, 0] (fun u => [((b 0), kOb b), ((b 1), .inr (0, [.ref (b 2), .ref (b 3), .ref (b 4), .ref (b 5), .ref (b 6), .ref (b 7), .int (nI 0)])), ((b 2), .inl (cI, 12, .inl (fun k => nI (Zf k)))), ((b 3), .inl (cI, 12, .inl (fun k => nI (Zf k)))), ((b 4), .inl (cI, 12, .inl (fun k => nI (Zf k)))), ((b 8), .inr (3, [.int (nI 0), .int (nI 0), .int (nI 0), .int (nI 0), .int (nI 0)]))]) rfl rfl rfl rfl (by decide) rfl (fun _ => rfl) 0 rfl rfl rfl rfl (Nat.le_of_ble_eq_true rfl) dX5_digest_50 ⟨(Nat.le_of_ble_eq_true rfl), (Nat.le_of_ble_eq_true rfl)⟩ ⟨(Nat.le_of_ble_eq_true rfl), (Nat.le_of_ble_eq_true rfl)⟩ (fun r17 u17 hw17 => ?_)
        subst hw17
        refine y_callS_l hC (As := [.long ((dgf (7 + 3 * i)) * lN 31 + (nI 0).toInt64), .int (nI 0)]) (rest := []) (q_X5_mixed ((dgf (7 + 3 * i)) * lN 31 + (nI 0).toInt64) (nI 0)) nS_X5_mixed (inLr29 _ (List.mem_of_getElem? (i := 2) rfl)) [] [0, 1, 2, 3, 4, 5] [0, 1, 2, 3, 4, 5] (fun u => [((b 0), kOb b), ((b 1), .inr (0, [.ref (b 2), .ref (b 3), .ref (b 4), .ref (b 5), .ref (b 6), .ref (b 7), .int (nI 0)])), ((b 2), .inl (cI, 12, .inl (fun k => nI (Zf k)))), ((b 3), .inl (cI, 12, .inl (fun k => nI (Zf k)))), ((b 4), .inl (cI, 12, .inl (fun k => nI (Zf k)))), ((b 8), .inr (3, [.int (nI 0), .int (nI 0), .int (nI 0), .int (nI 0), .int (nI 0)]))]) rfl rfl rfl rfl (by decide) rfl (fun _ => rfl) rfl rfl (Nat.le_of_ble_eq_true rfl) dX5_digest_53 ⟨(Nat.le_of_ble_eq_true rfl), (Nat.le_of_ble_eq_true rfl)⟩ ⟨(Nat.le_of_ble_eq_true rfl), (Nat.le_of_ble_eq_true rfl)⟩ (fun r18 u18 hw18 => ?_)
        subst hw18
        refine y_lstore_n hC [(1, .long (((dgf (7 + 3 * i)) * lN 31 + (nI 0).toInt64) * lN 31 + (nI 0).toInt64)), (4, .int (nI 1)), (0, .ref (b 0)), (3, .int (nI i))] dX5_digest_56 rfl (by decide) rfl ?_
        refine y_iinc hC (v := nI 2) [(4, .int (nI 2)), (1, .long (((dgf (7 + 3 * i)) * lN 31 + (nI 0).toInt64) * lN 31 + (nI 0).toInt64)), (0, .ref (b 0)), (3, .int (nI i))] dX5_digest_57 (k := 1) rfl (ninc _) (by decide) rfl ?_
        refine y_goto hC 39 dX5_digest_60 (by decide) ?_
        refine y_iload hC dX5_digest_39 0 rfl ?_
        refine y_iconst hC (v := nI 3) dX5_digest_41 rfl ?_
        refine y_icmp_ge_n hC 63 dX5_digest_42 (by decide) 2 3 rfl rfl (by omega) (by omega) (fun c42 => absurd c42 (by omega)) (fun c42 => ?_)
        refine y_lload_n hC dX5_digest_45 1 rfl rfl ?_
        refine y_aload_n hC dX5_digest_46 2 rfl rfl ?_
        refine y_iload_n hC dX5_digest_47 3 rfl rfl ?_
        refine y_iload hC dX5_digest_48 0 rfl ?_
        refine y_callV_i hC (As := [.int (nI i), .int (nI 2)]) (rest := [.long (((dgf (7 + 3 * i)) * lN 31 + (nI 0).toInt64) * lN 31 + (nI 0).toInt64)]) (q_letter b i 2 (by omega) (by omega)) nV_X5_letter (inLr29 _ (List.mem_of_getElem? (i := 6) rfl)) [0, 1, 2, 3, 4] [5] [1, 2, 3, 4, 5, 0] (fun u => [((b 0), kOb b), ((b 1), .inr (0, [.ref (b 2), .ref (b 3), .ref (b 4), .ref (b 5), .ref (b 6), .ref (b 7), .int (nI 0)])), ((b 2), .inl (cI, 12, .inl (fun k => nI (Zf k)))), ((b 3), .inl (cI, 12, .inl (fun k => nI (Zf k)))), ((b 4), .inl (cI, 12, .inl (fun k => nI (Zf k)))), ((b 8), .inr (3, [.int (nI 0), .int (nI 0), .int (nI 0), .int (nI 0), .int (nI 0)]))]) rfl rfl rfl rfl (by decide) rfl (fun _ => rfl) 0 rfl rfl rfl rfl (Nat.le_of_ble_eq_true rfl) dX5_digest_50 ⟨(Nat.le_of_ble_eq_true rfl), (Nat.le_of_ble_eq_true rfl)⟩ ⟨(Nat.le_of_ble_eq_true rfl), (Nat.le_of_ble_eq_true rfl)⟩ (fun r19 u19 hw19 => ?_)
        subst hw19
        refine y_callS_l hC (As := [.long (((dgf (7 + 3 * i)) * lN 31 + (nI 0).toInt64) * lN 31 + (nI 0).toInt64), .int (nI 0)]) (rest := []) (q_X5_mixed (((dgf (7 + 3 * i)) * lN 31 + (nI 0).toInt64) * lN 31 + (nI 0).toInt64) (nI 0)) nS_X5_mixed (inLr29 _ (List.mem_of_getElem? (i := 2) rfl)) [] [0, 1, 2, 3, 4, 5] [0, 1, 2, 3, 4, 5] (fun u => [((b 0), kOb b), ((b 1), .inr (0, [.ref (b 2), .ref (b 3), .ref (b 4), .ref (b 5), .ref (b 6), .ref (b 7), .int (nI 0)])), ((b 2), .inl (cI, 12, .inl (fun k => nI (Zf k)))), ((b 3), .inl (cI, 12, .inl (fun k => nI (Zf k)))), ((b 4), .inl (cI, 12, .inl (fun k => nI (Zf k)))), ((b 8), .inr (3, [.int (nI 0), .int (nI 0), .int (nI 0), .int (nI 0), .int (nI 0)]))]) rfl rfl rfl rfl (by decide) rfl (fun _ => rfl) rfl rfl (Nat.le_of_ble_eq_true rfl) dX5_digest_53 ⟨(Nat.le_of_ble_eq_true rfl), (Nat.le_of_ble_eq_true rfl)⟩ ⟨(Nat.le_of_ble_eq_true rfl), (Nat.le_of_ble_eq_true rfl)⟩ (fun r20 u20 hw20 => ?_)
        subst hw20
        refine y_lstore_n hC [(1, .long ((((dgf (7 + 3 * i)) * lN 31 + (nI 0).toInt64) * lN 31 + (nI 0).toInt64) * lN 31 + (nI 0).toInt64)), (4, .int (nI 2)), (0, .ref (b 0)), (3, .int (nI i))] dX5_digest_56 rfl (by decide) rfl ?_
        refine y_iinc hC (v := nI 3) [(4, .int (nI 3)), (1, .long ((((dgf (7 + 3 * i)) * lN 31 + (nI 0).toInt64) * lN 31 + (nI 0).toInt64) * lN 31 + (nI 0).toInt64)), (0, .ref (b 0)), (3, .int (nI i))] dX5_digest_57 (k := 1) rfl (ninc _) (by decide) rfl ?_
        refine y_goto hC 39 dX5_digest_60 (by decide) ?_
        refine y_iload hC dX5_digest_39 0 rfl ?_
        refine y_iconst hC (v := nI 3) dX5_digest_41 rfl ?_
        refine y_icmp_ge_n hC 63 dX5_digest_42 (by decide) 3 3 rfl rfl (by omega) (by omega) (fun c42 => ?_) (fun c42 => absurd c42 (by omega))
        refine y_iinc hC (v := nI (i + 1)) [(3, .int (nI (i + 1))), (4, .int (nI 3)), (1, .long ((((dgf (7 + 3 * i)) * lN 31 + (nI 0).toInt64) * lN 31 + (nI 0).toInt64) * lN 31 + (nI 0).toInt64)), (0, .ref (b 0))] dX5_digest_63 (k := 3) rfl (ninc _) (by decide) rfl ?_
        refine y_goto hC 30 dX5_digest_66 (by decide) ?_
        refine y_sub hC [3, 2, 0] rfl ?_
        exact ihd (i + 1) (by omega) (by omega)
  refine y_sub hC [2, 1, 0] rfl ?_
  exact L30_l1 13 0 (by omega) (by omega)
end P1C
