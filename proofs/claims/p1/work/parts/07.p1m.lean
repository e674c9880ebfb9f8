section P1M
variable {l : Launch} {D : va_G} {cI cO cJ cZ : ClassId}
/-- the fresh reference, but for what it threw -/
abbrev mOb (a : Nat → Nat) (t : Nat) : va_E := .inr (6, [.int (nI t), .ref (a 1), .ref (a 2), .int (nI 0), .int (nI 0), .int (nI 0), .ref (a 3), .int (nI 4), .int (nI 4), .int (nI 0), .ref (a 4), .ref (a 5), .ref (a 6), .ref (a 7), .ref (a 8), .int (nI 0), .ref (a 9), .int (nI 0), .ref (a 10), .ref (a 11), .ref (a 12), .ref (a 13), .ref (a 14)])
set_option maxHeartbeats 4000000 in
set_option maxRecDepth 100000 in
theorem p_len0  : MI l D (tyL cI cO cJ cZ) yX6_lengthOf cX6_lengthOf 1 .int ({ frames := 0, cells := 0, slots := 0, locals := 0 } : Room) [.int (nI 0)] [] (fun r (_ : Unit) => r = nI 0) (fun _ => []) := by
  refine MI.of (by decide) (Nat.le_of_ble_eq_true rfl) (fun G hC hE => ?_)
  show G 0 0 ([]) 0 [(0, .int (nI 0))] []
  refine y_iload_n hC dX6_lengthOf_0 0 rfl rfl ?_
  refine y_if_ne_n hC 8 dX6_lengthOf_1 (by decide) 0 rfl (by omega) (fun c1 => absurd c1 (by omega)) (fun c1 => ?_)
  refine y_iconst hC (v := nI 0) dX6_lengthOf_4 rfl ?_
  refine y_goto hC 17 dX6_lengthOf_5 (by decide) ?_
  exact hE (nI 0) () _ _ _ _ dX6_lengthOf_17 (Nat.le_of_ble_eq_true rfl) (Nat.le_of_ble_eq_true rfl) rfl rfl
theorem nV_X6_letterTold : yV yX6_letterTold RX6 cX6_letterTold 3 (some .int) 2 := ⟨(inLr7 _ (List.mem_of_getElem? (i := 12) rfl)), (inLr7 _ (List.mem_of_getElem? (i := 13) rfl)), (inLr1 _ (List.mem_of_getElem? (i := 5) rfl)), (inLr7 _ (List.mem_of_getElem? (i := 14) rfl)), rfl, by decide, by decide, by decide +kernel⟩
set_option maxHeartbeats 4000000 in
set_option maxRecDepth 100000 in
theorem p_told (a : Nat → Nat) (t i k : Nat) (hi : i < 12) (hk : k < 3) : MI l D (tyL cI cO cJ cZ) yX6_letterTold cX6_letterTold 3 .int ({ frames := 1, cells := 0, slots := 0, locals := 20 } : Room) [.ref (a 0), .int (nI i), .int (nI k)] [((a 0), mOb a t), ((a 1), .inl (cI, 12, .inl (fun k => nI (Zf k)))), ((a 2), .inl (cI, 12, .inl (fun k => nI (Zf k))))] (fun r (_ : Unit) => r = nI 0) (fun _ => [((a 0), mOb a t), ((a 1), .inl (cI, 12, .inl (fun k => nI (Zf k)))), ((a 2), .inl (cI, 12, .inl (fun k => nI (Zf k))))]) := by
  refine MI.of (by decide) (Nat.le_of_ble_eq_true rfl) (fun G hC hE => ?_)
  show G 0 0 [((a 0), mOb a t), ((a 1), .inl (cI, 12, .inl (fun k => nI (Zf k)))), ((a 2), .inl (cI, 12, .inl (fun k => nI (Zf k))))] 0 [(0, .ref (a 0)), (1, .int (nI i)), (2, .int (nI k))] []
  refine y_iload_n hC dX6_letterTold_0 2 rfl rfl ?_
  refine y_if_ne_n hC 13 dX6_letterTold_1 (by decide) k rfl (by omega) (fun c1 => ?_) (fun c1 => ?_)
  · refine y_iload_n hC dX6_letterTold_13 2 rfl rfl ?_
    refine y_iconst hC (v := nI 1) dX6_letterTold_14 rfl ?_
    refine y_icmp_ne_n hC 30 dX6_letterTold_15 (by decide) k 1 rfl rfl (by omega) (by omega) (fun c15 => ?_) (fun c15 => ?_)
    · refine y_aload_n hC dX6_letterTold_30 0 rfl rfl ?_
      refine y_get hC cC6 0 rfl 2 (by decide) (inLr4 _ (List.mem_of_getElem? (i := 9) rfl)) rfl dX6_letterTold_31 ?_
      refine y_iload_n hC dX6_letterTold_34 1 rfl rfl ?_
      refine y_iald hC 2 0 rfl rfl i rfl (by omega) (by decide) dX6_letterTold_35 ?_
      exact hE (nI 0) () _ _ _ _ dX6_letterTold_36 (Nat.le_of_ble_eq_true rfl) (Nat.le_of_ble_eq_true rfl) rfl rfl
    · refine y_aload_n hC dX6_letterTold_18 0 rfl rfl ?_
      refine y_get hC cC6 0 rfl 1 (by decide) (inLr4 _ (List.mem_of_getElem? (i := 8) rfl)) rfl dX6_letterTold_19 ?_
      refine y_iload_n hC dX6_letterTold_22 1 rfl rfl ?_
      refine y_iald hC 1 0 rfl rfl i rfl (by omega) (by decide) dX6_letterTold_23 ?_
      refine y_callS_i hC (As := [.int (nI 0)]) (rest := []) (p_len0) nS_X6_lengthOf (inLr7 _ (List.mem_of_getElem? (i := 15) rfl)) [] [0, 1, 2] [0, 1, 2] (fun u => [((a 0), mOb a t), ((a 1), .inl (cI, 12, .inl (fun k => nI (Zf k)))), ((a 2), .inl (cI, 12, .inl (fun k => nI (Zf k))))]) rfl rfl rfl rfl (by decide) rfl (fun _ => rfl) rfl rfl (Nat.le_of_ble_eq_true rfl) dX6_letterTold_24 ⟨(Nat.le_of_ble_eq_true rfl), (Nat.le_of_ble_eq_true rfl)⟩ ⟨(Nat.le_of_ble_eq_true rfl), (Nat.le_of_ble_eq_true rfl)⟩ (fun r1 u1 hw1 => ?_)
      subst hw1
      refine y_goto hC 36 dX6_letterTold_27 (by decide) ?_
      exact hE (nI 0) () _ _ _ _ dX6_letterTold_36 (Nat.le_of_ble_eq_true rfl) (Nat.le_of_ble_eq_true rfl) rfl rfl
  · refine y_aload_n hC dX6_letterTold_4 0 rfl rfl ?_
    refine y_get hC cC6 0 rfl 1 (by decide) (inLr4 _ (List.mem_of_getElem? (i := 8) rfl)) rfl dX6_letterTold_5 ?_
    refine y_iload_n hC dX6_letterTold_8 1 rfl rfl ?_
    refine y_iald hC 1 0 rfl rfl i rfl (by omega) (by decide) dX6_letterTold_9 ?_
    refine y_goto hC 36 dX6_letterTold_10 (by decide) ?_
    exact hE (nI 0) () _ _ _ _ dX6_letterTold_36 (Nat.le_of_ble_eq_true rfl) (Nat.le_of_ble_eq_true rfl) rfl rfl
theorem nV_X6_letter : yV yX6_letter RX6 cX6_letter 3 (some .int) 2 := ⟨(inLr7 _ (List.mem_of_getElem? (i := 8) rfl)), (inLr7 _ (List.mem_of_getElem? (i := 9) rfl)), (inLr1 _ (List.mem_of_getElem? (i := 5) rfl)), (inLr7 _ (List.mem_of_getElem? (i := 10) rfl)), rfl, by decide, by decide, by decide +kernel⟩
set_option maxHeartbeats 4000000 in
set_option maxRecDepth 100000 in
theorem p_X6_letter (a : Nat → Nat) (x : Int32) (y : Int32)  : MI l D (tyL cI cO cJ cZ) yX6_letter cX6_letter 3 .int ({ frames := 2, cells := 0, slots := 0, locals := 60 } : Room) [.ref (a 0), .int x, .int y] [((a 0), mOb a 0), ((a 1), .inl (cI, 12, .inl (fun k => nI (Zf k)))), ((a 2), .inl (cI, 12, .inl (fun k => nI (Zf k))))] (fun r u => u.1 = kcLet x y ∧ (kcLet x y = 0 → r = nI 0)) (fun (u : Nat × List Value) => [((a 0), .inr (6, .int (nI u.1) :: u.2))]) := by
  refine MI.of (by decide) (Nat.le_of_ble_eq_true rfl) (fun G hC hE => ?_)
  show G 0 0 ([((a 0), mOb a 0), ((a 1), .inl (cI, 12, .inl (fun k => nI (Zf k)))), ((a 2), .inl (cI, 12, .inl (fun k => nI (Zf k))))]) 0 [(0, .ref (a 0)), (1, .int x), (2, .int y)] []
  refine y_aload_n hC dX6_letter_0 0 rfl rfl ?_
  refine y_iconst hC (v := nI 0) dX6_letter_1 rfl ?_
  refine y_put hC cC6 0 rfl 0 (by decide) (inLr6 _ (List.mem_of_getElem? (i := 7) rfl)) rfl rfl rfl (Nat.le_of_ble_eq_true rfl) dX6_letter_2 ([((a 0), mOb a 0), ((a 1), .inl (cI, 12, .inl (fun k => nI (Zf k)))), ((a 2), .inl (cI, 12, .inl (fun k => nI (Zf k))))]) rfl ?_
  refine y_iload_n hC dX6_letter_5 1 rfl rfl ?_
  refine y_iconst hC (v := nI 0) dX6_letter_6 rfl ?_
  refine y_bipush hC (v := nI 11) dX6_letter_7 rfl ?_
  refine y_callS_i hC (As := [.int x, .int (nI 0), .int (nI 11)]) (rest := []) (c_X6_isIn x (nI 0) (nI 11)) nS_X6_isIn (inLr6 _ (List.mem_of_getElem? (i := 8) rfl)) [] [0, 1, 2] [0, 1, 2] (fun u => [((a 0), mOb a 0), ((a 1), .inl (cI, 12, .inl (fun k => nI (Zf k)))), ((a 2), .inl (cI, 12, .inl (fun k => nI (Zf k))))]) rfl rfl rfl rfl (by decide) rfl (fun _ => rfl) rfl rfl (Nat.le_of_ble_eq_true rfl) dX6_letter_9 ⟨(Nat.le_of_ble_eq_true rfl), (Nat.le_of_ble_eq_true rfl)⟩ ⟨(Nat.le_of_ble_eq_true rfl), (Nat.le_of_ble_eq_true rfl)⟩ (fun r1 u1 hw1 => ?_)
  obtain ⟨rfl, hb_u1⟩ := hw1
  try rw [show (nI 0 : Int32).toInt = 0 from by decide] at hb_u1
  try rw [show (nI 11 : Int32).toInt = 11 from by decide] at hb_u1
  refine y_if_eq_n hC 33 dX6_letter_12 (by decide) u1 rfl (by omega) (fun c12 => ?_) (fun c12 => ?_)
  · refine y_aload_n hC dX6_letter_33 0 rfl rfl ?_
    refine y_iconst hC (v := nI 1) dX6_letter_34 rfl ?_
    refine y_callV_i hC (As := [.int (nI 1)]) (rest := []) (c_X6_no _ _ _ 1) nV_X6_no (inLr6 _ (List.mem_of_getElem? (i := 11) rfl)) [0] [1, 2] [2, 0, 1] (fun u => [((a 0), mOb a 1), ((a 1), .inl (cI, 12, .inl (fun k => nI (Zf k)))), ((a 2), .inl (cI, 12, .inl (fun k => nI (Zf k))))]) rfl rfl rfl rfl (by decide) rfl (fun _ => rfl) 0 rfl rfl rfl rfl (Nat.le_of_ble_eq_true rfl) dX6_letter_35 ⟨(Nat.le_of_ble_eq_true rfl), (Nat.le_of_ble_eq_true rfl)⟩ ⟨(Nat.le_of_ble_eq_true rfl), (Nat.le_of_ble_eq_true rfl)⟩ (fun r2 u2 hw2 => ?_)
    subst hw2
    refine y_world hC [0] (ws' := [((a 0), mOb a 1)]) rfl rfl ?_
    exact hE (nI 0) (1, _) _ _ _ _ dX6_letter_38 (Nat.le_of_ble_eq_true rfl) (Nat.le_of_ble_eq_true rfl) rfl ⟨by show (1 : Nat) = _; unfold kcLet; split <;> omega, fun _ => rfl⟩
  · refine y_iload_n hC dX6_letter_15 2 rfl rfl ?_
    refine y_iconst hC (v := nI 0) dX6_letter_16 rfl ?_
    refine y_iconst hC (v := nI 2) dX6_letter_17 rfl ?_
    refine y_callS_i hC (As := [.int y, .int (nI 0), .int (nI 2)]) (rest := []) (c_X6_isIn y (nI 0) (nI 2)) nS_X6_isIn (inLr6 _ (List.mem_of_getElem? (i := 8) rfl)) [] [0, 1, 2] [0, 1, 2] (fun u => [((a 0), mOb a 0), ((a 1), .inl (cI, 12, .inl (fun k => nI (Zf k)))), ((a 2), .inl (cI, 12, .inl (fun k => nI (Zf k))))]) rfl rfl rfl rfl (by decide) rfl (fun _ => rfl) rfl rfl (Nat.le_of_ble_eq_true rfl) dX6_letter_18 ⟨(Nat.le_of_ble_eq_true rfl), (Nat.le_of_ble_eq_true rfl)⟩ ⟨(Nat.le_of_ble_eq_true rfl), (Nat.le_of_ble_eq_true rfl)⟩ (fun r3 u3 hw3 => ?_)
    obtain ⟨rfl, hb_u3⟩ := hw3
    try rw [show (nI 0 : Int32).toInt = 0 from by decide] at hb_u3
    try rw [show (nI 2 : Int32).toInt = 2 from by decide] at hb_u3
    refine y_if_eq_n hC 33 dX6_letter_21 (by decide) u3 rfl (by omega) (fun c21 => ?_) (fun c21 => ?_)
    · refine y_aload_n hC dX6_letter_33 0 rfl rfl ?_
      refine y_iconst hC (v := nI 1) dX6_letter_34 rfl ?_
      refine y_callV_i hC (As := [.int (nI 1)]) (rest := []) (c_X6_no _ _ _ 1) nV_X6_no (inLr6 _ (List.mem_of_getElem? (i := 11) rfl)) [0] [1, 2] [2, 0, 1] (fun u => [((a 0), mOb a 1), ((a 1), .inl (cI, 12, .inl (fun k => nI (Zf k)))), ((a 2), .inl (cI, 12, .inl (fun k => nI (Zf k))))]) rfl rfl rfl rfl (by decide) rfl (fun _ => rfl) 0 rfl rfl rfl rfl (Nat.le_of_ble_eq_true rfl) dX6_letter_35 ⟨(Nat.le_of_ble_eq_true rfl), (Nat.le_of_ble_eq_true rfl)⟩ ⟨(Nat.le_of_ble_eq_true rfl), (Nat.le_of_ble_eq_true rfl)⟩ (fun r4 u4 hw4 => ?_)
      subst hw4
      refine y_world hC [0] (ws' := [((a 0), mOb a 1)]) rfl rfl ?_
      exact hE (nI 0) (1, _) _ _ _ _ dX6_letter_38 (Nat.le_of_ble_eq_true rfl) (Nat.le_of_ble_eq_true rfl) rfl ⟨by show (1 : Nat) = _; unfold kcLet; split <;> omega, fun _ => rfl⟩
    · obtain ⟨j1, hj1, rfl⟩ := i32_nat (x := x) (n := 12) (by omega) (by omega)
      have ej1 := nI_toInt (show j1 < 2 ^ 31 by omega)
      obtain ⟨j2, hj2, rfl⟩ := i32_nat (x := y) (n := 3) (by omega) (by omega)
      have ej2 := nI_toInt (show j2 < 2 ^ 31 by omega)
      refine y_aload_n hC dX6_letter_24 0 rfl rfl ?_
      refine y_iload_n hC dX6_letter_25 1 rfl rfl ?_
      refine y_iload_n hC dX6_letter_26 2 rfl rfl ?_
      refine y_callV_i hC (As := [.int (nI j1), .int (nI j2)]) (rest := []) (p_told a 0 j1 j2 (by omega) (by omega)) nV_X6_letterTold (inLr7 _ (List.mem_of_getElem? (i := 11) rfl)) [0, 1, 2] [] [0, 1, 2] (fun u => [((a 0), mOb a 0), ((a 1), .inl (cI, 12, .inl (fun k => nI (Zf k)))), ((a 2), .inl (cI, 12, .inl (fun k => nI (Zf k))))]) rfl rfl rfl rfl (by decide) rfl (fun _ => rfl) 0 rfl rfl rfl rfl (Nat.le_of_ble_eq_true rfl) dX6_letter_27 ⟨(Nat.le_of_ble_eq_true rfl), (Nat.le_of_ble_eq_true rfl)⟩ ⟨(Nat.le_of_ble_eq_true rfl), (Nat.le_of_ble_eq_true rfl)⟩ (fun r5 u5 hw5 => ?_)
      subst hw5
      refine y_goto hC 38 dX6_letter_30 (by decide) ?_
      refine y_world hC [0] (ws' := [((a 0), mOb a 0)]) rfl rfl ?_
      exact hE (nI 0) (0, _) _ _ _ _ dX6_letter_38 (Nat.le_of_ble_eq_true rfl) (Nat.le_of_ble_eq_true rfl) rfl ⟨by show (0 : Nat) = _; unfold kcLet; split <;> omega, fun _ => rfl⟩
set_option maxHeartbeats 4000000 in
set_option maxRecDepth 100000 in
theorem c_X6_isRow (x : Int32) : MI l D (tyL cI cO cJ cZ) yX6_isRow cX6_isRow 3 .boolean ({ frames := 1, cells := 0, slots := 0, locals := 22 } : Room) [.int x] [] (fun r (u : Nat) => r = nI u ∧ u ≤ 1 ∧ (u = 1 ↔ rowP x)) (fun _ => []) := by
  refine MI.of (by decide) (Nat.le_of_ble_eq_true rfl) (fun G hC hE => ?_)
  show G 0 0 ([]) 0 [(0, .int x)] []
  refine y_iload_n hC dX6_isRow_0 0 rfl rfl ?_
  refine y_if_lt_z hC 15 dX6_isRow_1 (by decide) (fun c1 => ?_) (fun c1 => ?_)
  · refine y_iconst hC (v := nI 0) dX6_isRow_15 rfl ?_
    have hno : ¬ rowP x := fun h => by have h1 := h.1; have h2 := h.2.1; omega
    refine y_istore_n hC [(1, .int (nI 0)), (0, .int x)] dX6_isRow_16 rfl (by decide) rfl ?_
    refine y_iload_n hC dX6_isRow_17 1 rfl rfl ?_
    refine y_istore_n hC [(2, .int x), (1, .int (nI 0)), (0, .int x)] dX6_isRow_18 rfl (by decide) rfl ?_
    refine y_iload_n hC dX6_isRow_19 0 rfl rfl ?_
    refine y_if_le_z hC 45 dX6_isRow_20 (by decide) (fun c20 => ?_) (fun c20 => ?_)
    · refine y_iload_n hC dX6_isRow_45 1 rfl rfl ?_
      exact hE (nI 0) 0 _ _ _ _ dX6_isRow_46 (Nat.le_of_ble_eq_true rfl) (Nat.le_of_ble_eq_true rfl) rfl ⟨rfl, by omega, fun h => absurd h (by omega), fun h => absurd h hno⟩
    · refine y_iload_n hC dX6_isRow_23 1 rfl rfl ?_
      refine y_if_eq_n hC 45 dX6_isRow_24 (by decide) 0 rfl (by omega) (fun c24 => ?_) (fun c24 => absurd c24 (by omega))
      refine y_iload_n hC dX6_isRow_45 1 rfl rfl ?_
      exact hE (nI 0) 0 _ _ _ _ dX6_isRow_46 (Nat.le_of_ble_eq_true rfl) (Nat.le_of_ble_eq_true rfl) rfl ⟨rfl, by omega, fun h => absurd h (by omega), fun h => absurd h hno⟩
  · refine y_iload_n hC dX6_isRow_4 0 rfl rfl ?_
    refine y_sipush hC (v := nI 10000) dX6_isRow_5 rfl ?_
    refine y_icmp_ge_z hC 15 dX6_isRow_8 (by decide) 10000 rfl (by omega) (fun c8 => ?_) (fun c8 => ?_)
    · refine y_iconst hC (v := nI 0) dX6_isRow_15 rfl ?_
      have hno : ¬ rowP x := fun h => by have h1 := h.1; have h2 := h.2.1; omega
      refine y_istore_n hC [(1, .int (nI 0)), (0, .int x)] dX6_isRow_16 rfl (by decide) rfl ?_
      refine y_iload_n hC dX6_isRow_17 1 rfl rfl ?_
      refine y_istore_n hC [(2, .int x), (1, .int (nI 0)), (0, .int x)] dX6_isRow_18 rfl (by decide) rfl ?_
      refine y_iload_n hC dX6_isRow_19 0 rfl rfl ?_
      refine y_if_le_z hC 45 dX6_isRow_20 (by decide) (fun c20 => ?_) (fun c20 => ?_)
      · refine y_iload_n hC dX6_isRow_45 1 rfl rfl ?_
        exact hE (nI 0) 0 _ _ _ _ dX6_isRow_46 (Nat.le_of_ble_eq_true rfl) (Nat.le_of_ble_eq_true rfl) rfl ⟨rfl, by omega, fun h => absurd h (by omega), fun h => absurd h hno⟩
      · refine y_iload_n hC dX6_isRow_23 1 rfl rfl ?_
        refine y_if_eq_n hC 45 dX6_isRow_24 (by decide) 0 rfl (by omega) (fun c24 => ?_) (fun c24 => absurd c24 (by omega))
        refine y_iload_n hC dX6_isRow_45 1 rfl rfl ?_
        exact hE (nI 0) 0 _ _ _ _ dX6_isRow_46 (Nat.le_of_ble_eq_true rfl) (Nat.le_of_ble_eq_true rfl) rfl ⟨rfl, by omega, fun h => absurd h (by omega), fun h => absurd h hno⟩
    · refine y_iconst hC (v := nI 1) dX6_isRow_11 rfl ?_
      refine y_goto hC 16 dX6_isRow_12 (by decide) ?_
      obtain ⟨x0, hx0, rfl⟩ := i32_nat (x := x) (n := 10000) (by omega) (by omega)
      have ex0 := nI_toInt (show x0 < 2 ^ 31 by omega)
      have hini : ((1 : Nat) = 1 ∧ okD x0) ↔ rowP (nI x0) := by unfold rowP; rw [ex0, Int.toNat_natCast]; exact ⟨fun h => ⟨by omega, by omega, h.2⟩, fun h => ⟨rfl, h.2.2⟩⟩
      refine y_istore_n hC [(1, .int (nI 1)), (0, .int (nI x0))] dX6_isRow_16 rfl (by decide) rfl ?_
      refine y_iload_n hC dX6_isRow_17 1 rfl rfl ?_
      refine y_istore_n hC [(2, .int (nI x0)), (1, .int (nI 1)), (0, .int (nI x0))] dX6_isRow_18 rfl (by decide) rfl ?_
      have L19_l1 : ∀ (n : Nat) (b left : Nat), (left < n) → (left < 10000) → (b ≤ 1) → ((b = 1 ∧ okD left) ↔ rowP (nI x0)) → G 0 0 ([]) 19 [(0, .int (nI x0)), (1, .int (nI b)), (2, .int (nI left))] [] := by
        intro n
        induction n with
        | zero => intro b left h1 h2 h3 h4; omega
        | succ n ihr =>
          intro b left h1 h2 h3 h4
          refine y_iload_n hC dX6_isRow_19 2 rfl rfl ?_
          refine y_if_le_n hC 45 dX6_isRow_20 (by decide) left rfl (by omega) (fun c20 => ?_) (fun c20 => ?_)
          · have hend : b = 1 ↔ rowP (nI x0) := by rw [← h4, c20]; exact ⟨fun h => ⟨h, okD_0⟩, fun h => h.1⟩
            refine y_iload_n hC dX6_isRow_45 1 rfl rfl ?_
            exact hE (nI b) b _ _ _ _ dX6_isRow_46 (Nat.le_of_ble_eq_true rfl) (Nat.le_of_ble_eq_true rfl) (nar_b (by omega)) ⟨rfl, by omega, hend⟩
          · refine y_iload_n hC dX6_isRow_23 1 rfl rfl ?_
            refine y_if_eq_n hC 45 dX6_isRow_24 (by decide) b rfl (by omega) (fun c24 => ?_) (fun c24 => ?_)
            · have hend : b = 1 ↔ rowP (nI x0) := by rw [← h4]; exact ⟨fun h => absurd h (by omega), fun h => h.1⟩
              refine y_iload_n hC dX6_isRow_45 1 rfl rfl ?_
              exact hE (nI b) b _ _ _ _ dX6_isRow_46 (Nat.le_of_ble_eq_true rfl) (Nat.le_of_ble_eq_true rfl) (nar_b (by omega)) ⟨rfl, by omega, hend⟩
            · refine y_iload_n hC dX6_isRow_27 2 rfl rfl ?_
              refine y_bipush hC (v := nI 10) dX6_isRow_28 rfl ?_
              refine y_irem hC (v := nI (left % 10)) dX6_isRow_30 (by decide) (pk_rem (by omega) (by decide) (by decide)) ?_
              refine y_iconst hC (v := nI 1) dX6_isRow_31 rfl ?_
              refine y_iconst hC (v := nI 4) dX6_isRow_32 rfl ?_
              refine y_callS_i hC (As := [.int (nI (left % 10)), .int (nI 1), .int (nI 4)]) (rest := []) (c_X6_isIn (nI (left % 10)) (nI 1) (nI 4)) nS_X6_isIn (inLr6 _ (List.mem_of_getElem? (i := 8) rfl)) [] [] [] (fun u => []) rfl rfl rfl rfl (by decide) rfl (fun _ => rfl) rfl rfl (Nat.le_of_ble_eq_true rfl) dX6_isRow_33 ⟨(Nat.le_of_ble_eq_true rfl), (Nat.le_of_ble_eq_true rfl)⟩ ⟨(Nat.le_of_ble_eq_true rfl), (Nat.le_of_ble_eq_true rfl)⟩ (fun r1 u1 hw1 => ?_)
              obtain ⟨rfl, hb_u1⟩ := hw1
              try rw [show (nI 1 : Int32).toInt = 1 from by decide] at hb_u1
              try rw [show (nI 4 : Int32).toInt = 4 from by decide] at hb_u1
              rw [nI_toInt (show left % 10 < 2 ^ 31 by omega)] at hb_u1
              have hstep : ((u1 = 1 ∧ okD (left / 10)) ↔ rowP (nI x0)) := by
                rw [← h4, okD_step c20]; exact ⟨fun h => ⟨by omega, by omega, h.2⟩, fun h => ⟨by omega, h.2.2⟩⟩
              refine y_istore_n hC [(1, .int (nI u1)), (0, .int (nI x0)), (2, .int (nI left))] dX6_isRow_36 rfl (by decide) rfl ?_
              refine y_iload_n hC dX6_isRow_37 2 rfl rfl ?_
              refine y_bipush hC (v := nI 10) dX6_isRow_38 rfl ?_
              refine y_idiv hC (v := nI (left / 10)) dX6_isRow_40 (by decide) (pk_div (by omega) (by decide) (by decide)) ?_
              refine y_istore_n hC [(2, .int (nI (left / 10))), (1, .int (nI u1)), (0, .int (nI x0))] dX6_isRow_41 rfl (by decide) rfl ?_
              refine y_goto hC 19 dX6_isRow_42 (by decide) ?_
              refine y_sub hC [2, 1, 0] rfl ?_
              exact ihr _ _ (by omega) (by omega) (by omega) hstep
      refine y_sub hC [2, 1, 0] rfl ?_
      exact L19_l1 10001 1 x0 (by omega) (by omega) (by omega) hini
theorem nV_X6_setLetter : yV yX6_setLetter RX6 cX6_setLetter 4 (some .int) 2 := ⟨(inLr6 _ (List.mem_of_getElem? (i := 4) rfl)), (inLr6 _ (List.mem_of_getElem? (i := 5) rfl)), (inLr1 _ (List.mem_of_getElem? (i := 5) rfl)), (inLr6 _ (List.mem_of_getElem? (i := 6) rfl)), rfl, by decide, by decide, by decide +kernel⟩
set_option maxHeartbeats 4000000 in
set_option maxRecDepth 100000 in
theorem p_X6_setLetter (a : Nat → Nat) (x : Int32) (y : Int32)  : MI l D (tyL cI cO cJ cZ) yX6_setLetter cX6_setLetter 4 .int ({ frames := 2, cells := 0, slots := 0, locals := 60 } : Room) [.ref (a 0), .int x, .int y] [((a 0), mOb a 0), ((a 1), .inl (cI, 12, .inl (fun k => nI (Zf k))))] (fun r u => u.1 = kcSet x y ∧ (kcSet x y = 0 → r = nI 0)) (fun (u : Nat × List Value) => [((a 0), .inr (6, .int (nI u.1) :: u.2))]) := by
  refine MI.of (by decide) (Nat.le_of_ble_eq_true rfl) (fun G hC hE => ?_)
  show G 0 0 ([((a 0), mOb a 0), ((a 1), .inl (cI, 12, .inl (fun k => nI (Zf k))))]) 0 [(0, .ref (a 0)), (1, .int x), (2, .int y)] []
  refine y_aload_n hC dX6_setLetter_0 0 rfl rfl ?_
  refine y_iconst hC (v := nI 0) dX6_setLetter_1 rfl ?_
  refine y_put hC cC6 0 rfl 0 (by decide) (inLr6 _ (List.mem_of_getElem? (i := 7) rfl)) rfl rfl rfl (Nat.le_of_ble_eq_true rfl) dX6_setLetter_2 ([((a 0), mOb a 0), ((a 1), .inl (cI, 12, .inl (fun k => nI (Zf k))))]) rfl ?_
  refine y_iload_n hC dX6_setLetter_5 1 rfl rfl ?_
  refine y_iconst hC (v := nI 0) dX6_setLetter_6 rfl ?_
  refine y_bipush hC (v := nI 11) dX6_setLetter_7 rfl ?_
  refine y_callS_i hC (As := [.int x, .int (nI 0), .int (nI 11)]) (rest := []) (c_X6_isIn x (nI 0) (nI 11)) nS_X6_isIn (inLr6 _ (List.mem_of_getElem? (i := 8) rfl)) [] [0, 1] [0, 1] (fun u => [((a 0), mOb a 0), ((a 1), .inl (cI, 12, .inl (fun k => nI (Zf k))))]) rfl rfl rfl rfl (by decide) rfl (fun _ => rfl) rfl rfl (Nat.le_of_ble_eq_true rfl) dX6_setLetter_9 ⟨(Nat.le_of_ble_eq_true rfl), (Nat.le_of_ble_eq_true rfl)⟩ ⟨(Nat.le_of_ble_eq_true rfl), (Nat.le_of_ble_eq_true rfl)⟩ (fun r1 u1 hw1 => ?_)
  obtain ⟨rfl, hb_u1⟩ := hw1
  try rw [show (nI 0 : Int32).toInt = 0 from by decide] at hb_u1
  try rw [show (nI 11 : Int32).toInt = 11 from by decide] at hb_u1
  refine y_if_ne_n hC 21 dX6_setLetter_12 (by decide) u1 rfl (by omega) (fun c12 => ?_) (fun c12 => ?_)
  · refine y_iload_n hC dX6_setLetter_21 2 rfl rfl ?_
    refine y_callS_i hC (As := [.int y]) (rest := []) (c_X6_isRow y) nS_X6_isRow (inLr6 _ (List.mem_of_getElem? (i := 15) rfl)) [] [0, 1] [0, 1] (fun u => [((a 0), mOb a 0), ((a 1), .inl (cI, 12, .inl (fun k => nI (Zf k))))]) rfl rfl rfl rfl (by decide) rfl (fun _ => rfl) rfl rfl (Nat.le_of_ble_eq_true rfl) dX6_setLetter_22 ⟨(Nat.le_of_ble_eq_true rfl), (Nat.le_of_ble_eq_true rfl)⟩ ⟨(Nat.le_of_ble_eq_true rfl), (Nat.le_of_ble_eq_true rfl)⟩ (fun r2 u2 hw2 => ?_)
    obtain ⟨rfl, hu_u2, hb_u2⟩ := hw2
    refine y_if_ne_n hC 34 dX6_setLetter_25 (by decide) u2 rfl (by omega) (fun c25 => ?_) (fun c25 => ?_)
    · obtain ⟨j1, hj1, rfl⟩ := i32_nat (x := x) (n := 12) (by omega) (by omega)
      have ej1 := nI_toInt (show j1 < 2 ^ 31 by omega)
      refine y_aload_n hC dX6_setLetter_34 0 rfl rfl ?_
      refine y_get hC cC6 0 rfl 1 (by decide) (inLr4 _ (List.mem_of_getElem? (i := 8) rfl)) rfl dX6_setLetter_35 ?_
      refine y_iload_n hC dX6_setLetter_38 1 rfl rfl ?_
      refine y_iald hC 1 0 rfl rfl j1 rfl (by omega) (by decide) dX6_setLetter_39 ?_
      refine y_istore_n hC [(3, .int (nI 0)), (0, .ref (a 0)), (1, .int (nI j1)), (2, .int y)] dX6_setLetter_40 rfl (by decide) rfl ?_
      refine y_aload_n hC dX6_setLetter_41 1 rfl rfl ?_
      refine y_get hC cC6 0 rfl 1 (by decide) (inLr4 _ (List.mem_of_getElem? (i := 8) rfl)) rfl dX6_setLetter_42 ?_
      refine y_iload_n hC dX6_setLetter_45 2 rfl rfl ?_
      refine y_iload_n hC dX6_setLetter_46 3 rfl rfl ?_
      refine y_iast hC 1 0 rfl rfl j1 rfl (by omega) (by decide) dX6_setLetter_47 ([((a 0), mOb a 0), ((a 1), .inl (cI, 12, .inl (upd (fun k => nI (Zf k)) j1 y)))]) rfl ?_
      refine y_iload_n hC dX6_setLetter_48 0 rfl rfl ?_
      refine y_world hC [0] (ws' := [((a 0), mOb a 0)]) rfl rfl ?_
      exact hE (nI 0) (0, _) _ _ _ _ dX6_setLetter_49 (Nat.le_of_ble_eq_true rfl) (Nat.le_of_ble_eq_true rfl) rfl ⟨by show (0 : Nat) = _; unfold kcSet; rw [if_pos (by omega), if_pos (hb_u2.mp (by omega))], fun _ => rfl⟩
    · refine y_aload_n hC dX6_setLetter_28 0 rfl rfl ?_
      refine y_iconst hC (v := nI 2) dX6_setLetter_29 rfl ?_
      refine y_callV_i hC (As := [.int (nI 2)]) (rest := []) (c_X6_no _ _ _ 2) nV_X6_no (inLr6 _ (List.mem_of_getElem? (i := 11) rfl)) [0] [1] [1, 0] (fun u => [((a 0), mOb a 2), ((a 1), .inl (cI, 12, .inl (fun k => nI (Zf k))))]) rfl rfl rfl rfl (by decide) rfl (fun _ => rfl) 0 rfl rfl rfl rfl (Nat.le_of_ble_eq_true rfl) dX6_setLetter_30 ⟨(Nat.le_of_ble_eq_true rfl), (Nat.le_of_ble_eq_true rfl)⟩ ⟨(Nat.le_of_ble_eq_true rfl), (Nat.le_of_ble_eq_true rfl)⟩ (fun r3 u3 hw3 => ?_)
      subst hw3
      refine y_world hC [0] (ws' := [((a 0), mOb a 2)]) rfl rfl ?_
      exact hE (nI 0) (2, _) _ _ _ _ dX6_setLetter_33 (Nat.le_of_ble_eq_true rfl) (Nat.le_of_ble_eq_true rfl) rfl ⟨by show (2 : Nat) = _; unfold kcSet; rw [if_pos (by omega), if_neg (fun h => by have := hb_u2.mpr h; omega)], fun _ => rfl⟩
  · refine y_aload_n hC dX6_setLetter_15 0 rfl rfl ?_
    refine y_iconst hC (v := nI 1) dX6_setLetter_16 rfl ?_
    refine y_callV_i hC (As := [.int (nI 1)]) (rest := []) (c_X6_no _ _ _ 1) nV_X6_no (inLr6 _ (List.mem_of_getElem? (i := 11) rfl)) [0] [1] [1, 0] (fun u => [((a 0), mOb a 1), ((a 1), .inl (cI, 12, .inl (fun k => nI (Zf k))))]) rfl rfl rfl rfl (by decide) rfl (fun _ => rfl) 0 rfl rfl rfl rfl (Nat.le_of_ble_eq_true rfl) dX6_setLetter_17 ⟨(Nat.le_of_ble_eq_true rfl), (Nat.le_of_ble_eq_true rfl)⟩ ⟨(Nat.le_of_ble_eq_true rfl), (Nat.le_of_ble_eq_true rfl)⟩ (fun r4 u4 hw4 => ?_)
    subst hw4
    refine y_world hC [0] (ws' := [((a 0), mOb a 1)]) rfl rfl ?_
    exact hE (nI 0) (1, _) _ _ _ _ dX6_setLetter_20 (Nat.le_of_ble_eq_true rfl) (Nat.le_of_ble_eq_true rfl) rfl ⟨by show (1 : Nat) = _; unfold kcSet; rw [if_neg (by omega)], fun _ => rfl⟩
theorem nV_X6_alike : yV yX6_alike RX6 cX6_alike 3 (some .int) 2 := ⟨(inLr11 _ (List.mem_of_getElem? (i := 9) rfl)), (inLr11 _ (List.mem_of_getElem? (i := 10) rfl)), (inLr1 _ (List.mem_of_getElem? (i := 5) rfl)), (inLr11 _ (List.mem_of_getElem? (i := 11) rfl)), rfl, by decide, by decide, by decide +kernel⟩
set_option maxHeartbeats 4000000 in
set_option maxRecDepth 100000 in
theorem p_X6_alike (a : Nat → Nat) (x : Int32) (y : Int32)  : MI l D (tyL cI cO cJ cZ) yX6_alike cX6_alike 3 .int ({ frames := 1, cells := 0, slots := 0, locals := 60 } : Room) [.ref (a 0), .int x, .int y] [((a 0), mOb a 0), ((a 1), .inl (cI, 12, .inl (fun k => nI (Zf k))))] (fun r u => u.1 = kcAli x y ∧ (kcAli x y = 0 → r = (-1))) (fun (u : Nat × List Value) => [((a 0), .inr (6, .int (nI u.1) :: u.2))]) := by
  refine MI.of (by decide) (Nat.le_of_ble_eq_true rfl) (fun G hC hE => ?_)
  show G 0 0 ([((a 0), mOb a 0), ((a 1), .inl (cI, 12, .inl (fun k => nI (Zf k))))]) 0 [(0, .ref (a 0)), (1, .int x), (2, .int y)] []
  refine y_aload_n hC dX6_alike_0 0 rfl rfl ?_
  refine y_iconst hC (v := nI 0) dX6_alike_1 rfl ?_
  refine y_put hC cC6 0 rfl 0 (by decide) (inLr6 _ (List.mem_of_getElem? (i := 7) rfl)) rfl rfl rfl (Nat.le_of_ble_eq_true rfl) dX6_alike_2 ([((a 0), mOb a 0), ((a 1), .inl (cI, 12, .inl (fun k => nI (Zf k))))]) rfl ?_
  refine y_iload_n hC dX6_alike_5 1 rfl rfl ?_
  refine y_iconst hC (v := nI 0) dX6_alike_6 rfl ?_
  refine y_bipush hC (v := nI 11) dX6_alike_7 rfl ?_
  refine y_callS_i hC (As := [.int x, .int (nI 0), .int (nI 11)]) (rest := []) (c_X6_isIn x (nI 0) (nI 11)) nS_X6_isIn (inLr6 _ (List.mem_of_getElem? (i := 8) rfl)) [] [0, 1] [0, 1] (fun u => [((a 0), mOb a 0), ((a 1), .inl (cI, 12, .inl (fun k => nI (Zf k))))]) rfl rfl rfl rfl (by decide) rfl (fun _ => rfl) rfl rfl (Nat.le_of_ble_eq_true rfl) dX6_alike_9 ⟨(Nat.le_of_ble_eq_true rfl), (Nat.le_of_ble_eq_true rfl)⟩ ⟨(Nat.le_of_ble_eq_true rfl), (Nat.le_of_ble_eq_true rfl)⟩ (fun r1 u1 hw1 => ?_)
  obtain ⟨rfl, hb_u1⟩ := hw1
  try rw [show (nI 0 : Int32).toInt = 0 from by decide] at hb_u1
  try rw [show (nI 11 : Int32).toInt = 11 from by decide] at hb_u1
  refine y_if_eq_n hC 25 dX6_alike_12 (by decide) u1 rfl (by omega) (fun c12 => ?_) (fun c12 => ?_)
  · refine y_aload_n hC dX6_alike_25 0 rfl rfl ?_
    refine y_iconst hC (v := nI 1) dX6_alike_26 rfl ?_
    refine y_callV_i hC (As := [.int (nI 1)]) (rest := []) (c_X6_no _ _ _ 1) nV_X6_no (inLr6 _ (List.mem_of_getElem? (i := 11) rfl)) [0] [1] [1, 0] (fun u => [((a 0), mOb a 1), ((a 1), .inl (cI, 12, .inl (fun k => nI (Zf k))))]) rfl rfl rfl rfl (by decide) rfl (fun _ => rfl) 0 rfl rfl rfl rfl (Nat.le_of_ble_eq_true rfl) dX6_alike_27 ⟨(Nat.le_of_ble_eq_true rfl), (Nat.le_of_ble_eq_true rfl)⟩ ⟨(Nat.le_of_ble_eq_true rfl), (Nat.le_of_ble_eq_true rfl)⟩ (fun r2 u2 hw2 => ?_)
    subst hw2
    refine y_world hC [0] (ws' := [((a 0), mOb a 1)]) rfl rfl ?_
    exact hE (nI 0) (1, _) _ _ _ _ dX6_alike_30 (Nat.le_of_ble_eq_true rfl) (Nat.le_of_ble_eq_true rfl) rfl ⟨by show (1 : Nat) = _; unfold kcAli; split <;> omega, fun h => absurd h (by unfold kcAli; split <;> omega)⟩
  · refine y_iload_n hC dX6_alike_15 2 rfl rfl ?_
    refine y_iconst hC (v := nI 0) dX6_alike_16 rfl ?_
    refine y_bipush hC (v := nI 11) dX6_alike_17 rfl ?_
    refine y_callS_i hC (As := [.int y, .int (nI 0), .int (nI 11)]) (rest := []) (c_X6_isIn y (nI 0) (nI 11)) nS_X6_isIn (inLr6 _ (List.mem_of_getElem? (i := 8) rfl)) [] [0, 1] [0, 1] (fun u => [((a 0), mOb a 0), ((a 1), .inl (cI, 12, .inl (fun k => nI (Zf k))))]) rfl rfl rfl rfl (by decide) rfl (fun _ => rfl) rfl rfl (Nat.le_of_ble_eq_true rfl) dX6_alike_19 ⟨(Nat.le_of_ble_eq_true rfl), (Nat.le_of_ble_eq_true rfl)⟩ ⟨(Nat.le_of_ble_eq_true rfl), (Nat.le_of_ble_eq_true rfl)⟩ (fun r3 u3 hw3 => ?_)
    obtain ⟨rfl, hb_u3⟩ := hw3
    try rw [show (nI 0 : Int32).toInt = 0 from by decide] at hb_u3
    try rw [show (nI 11 : Int32).toInt = 11 from by decide] at hb_u3
    refine y_if_ne_n hC 31 dX6_alike_22 (by decide) u3 rfl (by omega) (fun c22 => ?_) (fun c22 => ?_)
    · obtain ⟨j1, hj1, rfl⟩ := i32_nat (x := x) (n := 12) (by omega) (by omega)
      have ej1 := nI_toInt (show j1 < 2 ^ 31 by omega)
      obtain ⟨j2, hj2, rfl⟩ := i32_nat (x := y) (n := 12) (by omega) (by omega)
      have ej2 := nI_toInt (show j2 < 2 ^ 31 by omega)
      refine y_aload_n hC dX6_alike_31 0 rfl rfl ?_
      refine y_get hC cC6 0 rfl 1 (by decide) (inLr4 _ (List.mem_of_getElem? (i := 8) rfl)) rfl dX6_alike_32 ?_
      refine y_iload_n hC dX6_alike_35 1 rfl rfl ?_
      refine y_iald hC 1 0 rfl rfl j1 rfl (by omega) (by decide) dX6_alike_36 ?_
      refine y_if_eq_n hC 49 dX6_alike_37 (by decide) 0 rfl (by omega) (fun c37 => ?_) (fun c37 => absurd c37 (by omega))
      refine y_iconst hC (v := (-1)) dX6_alike_49 (by decide) ?_
      refine y_goto hC 59 dX6_alike_50 (by decide) ?_
      refine y_world hC [0] (ws' := [((a 0), mOb a 0)]) rfl rfl ?_
      exact hE (-1) (0, _) _ _ _ _ dX6_alike_59 (Nat.le_of_ble_eq_true rfl) (Nat.le_of_ble_eq_true rfl) rfl ⟨by show (0 : Nat) = _; unfold kcAli; split <;> omega, fun _ => rfl⟩
    · refine y_aload_n hC dX6_alike_25 0 rfl rfl ?_
      refine y_iconst hC (v := nI 1) dX6_alike_26 rfl ?_
      refine y_callV_i hC (As := [.int (nI 1)]) (rest := []) (c_X6_no _ _ _ 1) nV_X6_no (inLr6 _ (List.mem_of_getElem? (i := 11) rfl)) [0] [1] [1, 0] (fun u => [((a 0), mOb a 1), ((a 1), .inl (cI, 12, .inl (fun k => nI (Zf k))))]) rfl rfl rfl rfl (by decide) rfl (fun _ => rfl) 0 rfl rfl rfl rfl (Nat.le_of_ble_eq_true rfl) dX6_alike_27 ⟨(Nat.le_of_ble_eq_true rfl), (Nat.le_of_ble_eq_true rfl)⟩ ⟨(Nat.le_of_ble_eq_true rfl), (Nat.le_of_ble_eq_true rfl)⟩ (fun r4 u4 hw4 => ?_)
      subst hw4
      refine y_world hC [0] (ws' := [((a 0), mOb a 1)]) rfl rfl ?_
      exact hE (nI 0) (1, _) _ _ _ _ dX6_alike_30 (Nat.le_of_ble_eq_true rfl) (Nat.le_of_ble_eq_true rfl) rfl ⟨by show (1 : Nat) = _; unfold kcAli; split <;> omega, fun h => absurd h (by unfold kcAli; split <;> omega)⟩
theorem nV_X6_closest : yV yX6_closest RX6 cX6_closest 5 (some .int) 0 := ⟨(inLr11 _ (List.mem_of_getElem? (i := 22) rfl)), (inLr11 _ (List.mem_of_getElem? (i := 23) rfl)), (inLr1 _ (List.mem_of_getElem? (i := 5) rfl)), (inLr12 _ (List.mem_of_getElem? (i := 0) rfl)), rfl, by decide, by decide, by decide +kernel⟩
set_option maxHeartbeats 4000000 in
set_option maxRecDepth 100000 in
theorem p_X6_closest (a : Nat → Nat)   : MI l D (tyL cI cO cJ cZ) yX6_closest cX6_closest 5 .int ({ frames := 1, cells := 0, slots := 0, locals := 60 } : Room) [.ref (a 0)] [((a 0), mOb a 0), ((a 1), .inl (cI, 12, .inl (fun k => nI (Zf k))))] (fun r u => u.1 = 0 ∧ r = (-1)) (fun (u : Nat × List Value) => [((a 0), .inr (6, .int (nI u.1) :: u.2))]) := by
  refine MI.of (by decide) (Nat.le_of_ble_eq_true rfl) (fun G hC hE => ?_)
  show G 0 0 ([((a 0), mOb a 0), ((a 1), .inl (cI, 12, .inl (fun k => nI (Zf k))))]) 0 [(0, .ref (a 0))] []
  refine y_aload_n hC dX6_closest_0 0 rfl rfl ?_
  refine y_iconst hC (v := nI 0) dX6_closest_1 rfl ?_
  refine y_put hC cC6 0 rfl 0 (by decide) (inLr6 _ (List.mem_of_getElem? (i := 7) rfl)) rfl rfl rfl (Nat.le_of_ble_eq_true rfl) dX6_closest_2 ([((a 0), mOb a 0), ((a 1), .inl (cI, 12, .inl (fun k => nI (Zf k))))]) rfl ?_
  refine y_iconst hC (v := (-1)) dX6_closest_5 (by decide) ?_
  refine y_istore_n hC [(1, .int (-1)), (0, .ref (a 0))] dX6_closest_6 rfl (by decide) rfl ?_
  refine y_iconst hC (v := nI 0) dX6_closest_7 rfl ?_
  refine y_istore_n hC [(2, .int (nI 0)), (1, .int (-1)), (0, .ref (a 0))] dX6_closest_8 rfl (by decide) rfl ?_
  refine y_iconst hC (v := nI 0) dX6_closest_9 rfl ?_
  refine y_istore_n hC [(3, .int (nI 0)), (2, .int (nI 0)), (1, .int (-1)), (0, .ref (a 0))] dX6_closest_10 rfl (by decide) rfl ?_
  have L11_l1 : ∀ n i : Nat, 12 + 1 ≤ i + n → i ≤ 12 → G 0 0 ([((a 0), mOb a 0), ((a 1), .inl (cI, 12, .inl (fun k => nI (Zf k))))]) 11 [(0, .ref (a 0)), (1, .int (-1)), (2, .int (nI 0)), (3, .int (nI i))] [] := by
    intro n
    induction n with
    | zero => intro i h1 h2; omega
    | succ n ih11i =>
      intro i h1i h2i
      refine y_iload_n hC dX6_closest_11 3 rfl rfl ?_
      refine y_bipush hC (v := nI 12) dX6_closest_12 rfl ?_
      refine y_icmp_ge_n hC 95 dX6_closest_14 (by decide) i 12 rfl rfl (by omega) (by omega) (fun c14 => ?_) (fun c14 => ?_)
      · refine y_iload_n hC dX6_closest_95 1 rfl rfl ?_
        refine y_world hC [0] (ws' := [((a 0), mOb a 0)]) rfl rfl ?_
        exact hE (-1) (0, _) _ _ _ _ dX6_closest_96 (Nat.le_of_ble_eq_true rfl) (Nat.le_of_ble_eq_true rfl) rfl ⟨rfl, rfl⟩
      · refine y_iload_n hC dX6_closest_17 3 rfl rfl ?_
        refine y_iconst hC (v := nI 1) dX6_closest_18 rfl ?_
        refine y_iadd hC (v := nI (i + 1)) dX6_closest_19 (nI_add _ _) ?_
        refine y_istore hC [(4, .int (nI (i + 1))), (0, .ref (a 0)), (1, .int (-1)), (2, .int (nI 0)), (3, .int (nI i))] dX6_closest_20 (by decide) rfl ?_
        have L22_l2 : ∀ n j : Nat, 12 + 1 ≤ j + n → j ≤ 12 → G 0 0 ([((a 0), mOb a 0), ((a 1), .inl (cI, 12, .inl (fun k => nI (Zf k))))]) 22 [(0, .ref (a 0)), (1, .int (-1)), (2, .int (nI 0)), (3, .int (nI i)), (4, .int (nI j))] [] := by
          intro n
          induction n with
          | zero => intro j h1 h2; omega
          | succ n ih22j =>
            intro j h1j h2j
            refine y_iload hC dX6_closest_22 4 rfl ?_
            refine y_bipush hC (v := nI 12) dX6_closest_24 rfl ?_
            refine y_icmp_ge_n hC 89 dX6_closest_26 (by decide) j 12 rfl rfl (by omega) (by omega) (fun c26 => ?_) (fun c26 => ?_)
            · refine y_iinc hC (v := nI (i + 1)) [(3, .int (nI (i + 1))), (0, .ref (a 0)), (1, .int (-1)), (2, .int (nI 0)), (4, .int (nI j))] dX6_closest_89 (k := 3) rfl (ninc _) (by decide) rfl ?_
              refine y_goto hC 11 dX6_closest_92 (by decide) ?_
              refine y_sub hC [1, 2, 3, 0] rfl ?_
              exact ih11i (i + 1) (by omega) (by omega)
            · refine y_aload_n hC dX6_closest_29 0 rfl rfl ?_
              refine y_get hC cC6 0 rfl 1 (by decide) (inLr4 _ (List.mem_of_getElem? (i := 8) rfl)) rfl dX6_closest_30 ?_
              refine y_iload_n hC dX6_closest_33 3 rfl rfl ?_
              refine y_iald hC 1 0 rfl rfl i rfl (by omega) (by decide) dX6_closest_34 ?_
              refine y_if_eq_n hC 83 dX6_closest_35 (by decide) 0 rfl (by omega) (fun c35 => ?_) (fun c35 => absurd c35 (by omega))
              refine y_iinc hC (v := nI (j + 1)) [(4, .int (nI (j + 1))), (0, .ref (a 0)), (1, .int (-1)), (2, .int (nI 0)), (3, .int (nI i))] dX6_closest_83 (k := 4) rfl (ninc _) (by decide) rfl ?_
              refine y_goto hC 22 dX6_closest_86 (by decide) ?_
              refine y_sub hC [1, 2, 3, 4, 0] rfl ?_
              exact ih22j (j + 1) (by omega) (by omega)
        refine y_sub hC [1, 2, 3, 4, 0] rfl ?_
        exact L22_l2 (12 + 1) (i + 1) (by omega) (by omega)
  refine y_sub hC [3, 2, 1, 0] rfl ?_
  exact L11_l1 (12 + 1) 0 (by omega) (by omega)
theorem nV_X6_isFree : yV yX6_isFree RX6 cX6_isFree 4 (some .boolean) 0 := ⟨(inLr8 _ (List.mem_of_getElem? (i := 13) rfl)), (inLr8 _ (List.mem_of_getElem? (i := 14) rfl)), (inLr1 _ (List.mem_of_getElem? (i := 5) rfl)), (inLr8 _ (List.mem_of_getElem? (i := 15) rfl)), rfl, by decide, by decide, by decide +kernel⟩
set_option maxHeartbeats 4000000 in
set_option maxRecDepth 100000 in
theorem p_X6_isFree (a : Nat → Nat)   : MI l D (tyL cI cO cJ cZ) yX6_isFree cX6_isFree 4 .boolean ({ frames := 1, cells := 0, slots := 0, locals := 60 } : Room) [.ref (a 0)] [((a 0), mOb a 0), ((a 1), .inl (cI, 12, .inl (fun k => nI (Zf k))))] (fun r u => u.1 = 0 ∧ r = nI 1) (fun (u : Nat × List Value) => [((a 0), .inr (6, .int (nI u.1) :: u.2))]) := by
  refine MI.of (by decide) (Nat.le_of_ble_eq_true rfl) (fun G hC hE => ?_)
  show G 0 0 ([((a 0), mOb a 0), ((a 1), .inl (cI, 12, .inl (fun k => nI (Zf k))))]) 0 [(0, .ref (a 0))] []
  refine y_aload_n hC dX6_isFree_0 0 rfl rfl ?_
  refine y_iconst hC (v := nI 0) dX6_isFree_1 rfl ?_
  refine y_put hC cC6 0 rfl 0 (by decide) (inLr6 _ (List.mem_of_getElem? (i := 7) rfl)) rfl rfl rfl (Nat.le_of_ble_eq_true rfl) dX6_isFree_2 ([((a 0), mOb a 0), ((a 1), .inl (cI, 12, .inl (fun k => nI (Zf k))))]) rfl ?_
  refine y_iconst hC (v := nI 1) dX6_isFree_5 rfl ?_
  refine y_istore_n hC [(1, .int (nI 1)), (0, .ref (a 0))] dX6_isFree_6 rfl (by decide) rfl ?_
  refine y_iconst hC (v := nI 0) dX6_isFree_7 rfl ?_
  refine y_istore_n hC [(2, .int (nI 0)), (1, .int (nI 1)), (0, .ref (a 0))] dX6_isFree_8 rfl (by decide) rfl ?_
  have L9_l1 : ∀ n i : Nat, 12 + 1 ≤ i + n → i ≤ 12 → G 0 0 ([((a 0), mOb a 0), ((a 1), .inl (cI, 12, .inl (fun k => nI (Zf k))))]) 9 [(0, .ref (a 0)), (1, .int (nI 1)), (2, .int (nI i))] [] := by
    intro n
    induction n with
    | zero => intro i h1 h2; omega
    | succ n ih9i =>
      intro i h1i h2i
      refine y_iload_n hC dX6_isFree_9 2 rfl rfl ?_
      refine y_bipush hC (v := nI 12) dX6_isFree_10 rfl ?_
      refine y_icmp_ge_n hC 86 dX6_isFree_12 (by decide) i 12 rfl rfl (by omega) (by omega) (fun c12 => ?_) (fun c12 => ?_)
      · refine y_iload_n hC dX6_isFree_86 1 rfl rfl ?_
        refine y_world hC [0] (ws' := [((a 0), mOb a 0)]) rfl rfl ?_
        exact hE (nI 1) (0, _) _ _ _ _ dX6_isFree_87 (Nat.le_of_ble_eq_true rfl) (Nat.le_of_ble_eq_true rfl) rfl ⟨rfl, rfl⟩
      · refine y_iconst hC (v := nI 0) dX6_isFree_15 rfl ?_
        refine y_istore_n hC [(3, .int (nI 0)), (0, .ref (a 0)), (1, .int (nI 1)), (2, .int (nI i))] dX6_isFree_16 rfl (by decide) rfl ?_
        have L17_l2 : ∀ n j : Nat, 12 + 1 ≤ j + n → j ≤ 12 → G 0 0 ([((a 0), mOb a 0), ((a 1), .inl (cI, 12, .inl (fun k => nI (Zf k))))]) 17 [(0, .ref (a 0)), (1, .int (nI 1)), (2, .int (nI i)), (3, .int (nI j))] [] := by
          intro n
          induction n with
          | zero => intro j h1 h2; omega
          | succ n ih17j =>
            intro j h1j h2j
            refine y_iload_n hC dX6_isFree_17 3 rfl rfl ?_
            refine y_bipush hC (v := nI 12) dX6_isFree_18 rfl ?_
            refine y_icmp_ge_n hC 80 dX6_isFree_20 (by decide) j 12 rfl rfl (by omega) (by omega) (fun c20 => ?_) (fun c20 => ?_)
            · refine y_iinc hC (v := nI (i + 1)) [(2, .int (nI (i + 1))), (0, .ref (a 0)), (1, .int (nI 1)), (3, .int (nI j))] dX6_isFree_80 (k := 2) rfl (ninc _) (by decide) rfl ?_
              refine y_goto hC 9 dX6_isFree_83 (by decide) ?_
              refine y_sub hC [1, 2, 0] rfl ?_
              exact ih9i (i + 1) (by omega) (by omega)
            · refine y_iload_n hC dX6_isFree_23 1 rfl rfl ?_
              refine y_if_eq_n hC 72 dX6_isFree_24 (by decide) 1 rfl (by omega) (fun c24 => absurd c24 (by omega)) (fun c24 => ?_)
              refine y_iload_n hC dX6_isFree_27 2 rfl rfl ?_
              refine y_iload_n hC dX6_isFree_28 3 rfl rfl ?_
              refine y_icmp_eq_n hC 68 dX6_isFree_29 (by decide) i j rfl rfl (by omega) (by omega) (fun c29 => ?_) (fun c29 => ?_)
              · refine y_iconst hC (v := nI 1) dX6_isFree_68 rfl ?_
                refine y_goto hC 73 dX6_isFree_69 (by decide) ?_
                refine y_istore_n hC [(1, .int (nI 1)), (0, .ref (a 0)), (2, .int (nI i)), (3, .int (nI j))] dX6_isFree_73 rfl (by decide) rfl ?_
                refine y_iinc hC (v := nI (j + 1)) [(3, .int (nI (j + 1))), (1, .int (nI 1)), (0, .ref (a 0)), (2, .int (nI i))] dX6_isFree_74 (k := 3) rfl (ninc _) (by decide) rfl ?_
                refine y_goto hC 17 dX6_isFree_77 (by decide) ?_
                refine y_sub hC [2, 1, 3, 0] rfl ?_
                exact ih17j (j + 1) (by omega) (by omega)
              · refine y_aload_n hC dX6_isFree_32 0 rfl rfl ?_
                refine y_get hC cC6 0 rfl 1 (by decide) (inLr4 _ (List.mem_of_getElem? (i := 8) rfl)) rfl dX6_isFree_33 ?_
                refine y_iload_n hC dX6_isFree_36 2 rfl rfl ?_
                refine y_iald hC 1 0 rfl rfl i rfl (by omega) (by decide) dX6_isFree_37 ?_
                refine y_if_eq_n hC 68 dX6_isFree_38 (by decide) 0 rfl (by omega) (fun c38 => ?_) (fun c38 => absurd c38 (by omega))
                refine y_iconst hC (v := nI 1) dX6_isFree_68 rfl ?_
                refine y_goto hC 73 dX6_isFree_69 (by decide) ?_
                refine y_istore_n hC [(1, .int (nI 1)), (0, .ref (a 0)), (2, .int (nI i)), (3, .int (nI j))] dX6_isFree_73 rfl (by decide) rfl ?_
                refine y_iinc hC (v := nI (j + 1)) [(3, .int (nI (j + 1))), (1, .int (nI 1)), (0, .ref (a 0)), (2, .int (nI i))] dX6_isFree_74 (k := 3) rfl (ninc _) (by decide) rfl ?_
                refine y_goto hC 17 dX6_isFree_77 (by decide) ?_
                refine y_sub hC [2, 1, 3, 0] rfl ?_
                exact ih17j (j + 1) (by omega) (by omega)
        refine y_sub hC [1, 2, 3, 0] rfl ?_
        exact L17_l2 (12 + 1) 0 (by omega) (by omega)
  refine y_sub hC [2, 1, 0] rfl ?_
  exact L9_l1 (12 + 1) 0 (by omega) (by omega)
theorem nV_X6_isClear : yV yX6_isClear RX6 cX6_isClear 7 (some .boolean) 0 := ⟨(inLr9 _ (List.mem_of_getElem? (i := 14) rfl)), (inLr9 _ (List.mem_of_getElem? (i := 15) rfl)), (inLr1 _ (List.mem_of_getElem? (i := 5) rfl)), (inLr9 _ (List.mem_of_getElem? (i := 16) rfl)), rfl, by decide, by decide, by decide +kernel⟩
set_option maxHeartbeats 4000000 in
set_option maxRecDepth 100000 in
theorem p_X6_isClear (a : Nat → Nat)   : MI l D (tyL cI cO cJ cZ) yX6_isClear cX6_isClear 7 .boolean ({ frames := 1, cells := 2, slots := 96, locals := 60 } : Room) [.ref (a 0)] [((a 0), mOb a 0), ((a 1), .inl (cI, 12, .inl (fun k => nI (Zf k))))] (fun r u => u.1 = 0 ∧ r = nI 1) (fun (u : Nat × List Value) => [((a 0), .inr (6, .int (nI u.1) :: u.2))]) := by
  refine MI.of (by decide) (Nat.le_of_ble_eq_true rfl) (fun G hC hE => ?_)
  show G 0 0 ([((a 0), mOb a 0), ((a 1), .inl (cI, 12, .inl (fun k => nI (Zf k))))]) 0 [(0, .ref (a 0))] []
  refine y_aload_n hC dX6_isClear_0 0 rfl rfl ?_
  refine y_iconst hC (v := nI 0) dX6_isClear_1 rfl ?_
  refine y_put hC cC6 0 rfl 0 (by decide) (inLr6 _ (List.mem_of_getElem? (i := 7) rfl)) rfl rfl rfl (Nat.le_of_ble_eq_true rfl) dX6_isClear_2 ([((a 0), mOb a 0), ((a 1), .inl (cI, 12, .inl (fun k => nI (Zf k))))]) rfl ?_
  refine y_bipush hC (v := nI 48) dX6_isClear_5 rfl ?_
  refine y_newa hC (atype := .boolean) (N := 48) (a0 := (48, .inl (fun _ => nI 0))) (cA := cZ) (inLr9 _ (List.mem_of_getElem? (i := 17) rfl)) rfl 3 rfl ⟨rfl, fun _ h => h⟩ (fun _ => rfl) rfl (by decide) (Nat.le_of_ble_eq_true rfl) (Nat.le_of_ble_eq_true rfl) dX6_isClear_7 (fun q1 => ?_)
  show G 1 48 ([((a 0), mOb a 0), ((a 1), .inl (cI, 12, .inl (fun k => nI (Zf k)))), (q1, .inl (cZ, 48, .inl (fun _ => nI 0)))]) 9 [(0, .ref (a 0))] [.ref q1]
  refine y_astore_n hC [(1, .ref q1), (0, .ref (a 0))] dX6_isClear_9 rfl (by decide) rfl ?_
  refine y_bipush hC (v := nI 48) dX6_isClear_10 rfl ?_
  refine y_newa hC (atype := .int) (N := 48) (a0 := (48, .inl (fun k => nI (Zf k)))) (cA := cI) (inLr2 _ (List.mem_of_getElem? (i := 9) rfl)) rfl 0 rfl ⟨rfl, fun _ h => h⟩ (fun _ => rfl) rfl (by decide) (Nat.le_of_ble_eq_true rfl) (Nat.le_of_ble_eq_true rfl) dX6_isClear_12 (fun q2 => ?_)
  show G 2 96 ([((a 0), mOb a 0), ((a 1), .inl (cI, 12, .inl (fun k => nI (Zf k)))), (q1, .inl (cZ, 48, .inl (fun _ => nI 0))), (q2, .inl (cI, 48, .inl (fun k => nI (Zf k))))]) 14 [(1, .ref q1), (0, .ref (a 0))] [.ref q2]
  refine y_astore_n hC [(2, .ref q2), (1, .ref q1), (0, .ref (a 0))] dX6_isClear_14 rfl (by decide) rfl ?_
  refine y_iconst hC (v := nI 0) dX6_isClear_15 rfl ?_
  refine y_istore_n hC [(3, .int (nI 0)), (2, .ref q2), (1, .ref q1), (0, .ref (a 0))] dX6_isClear_16 rfl (by decide) rfl ?_
  refine y_iconst hC (v := nI 0) dX6_isClear_17 rfl ?_
  refine y_istore hC [(4, .int (nI 0)), (3, .int (nI 0)), (2, .ref q2), (1, .ref q1), (0, .ref (a 0))] dX6_isClear_18 (by decide) rfl ?_
  have L20_l1 : ∀ n i : Nat, 12 + 1 ≤ i + n → i ≤ 12 → G 2 96 ([((a 0), mOb a 0), ((a 1), .inl (cI, 12, .inl (fun k => nI (Zf k)))), (q1, .inl (cZ, 48, .inl (fun _ => nI 0))), (q2, .inl (cI, 48, .inl (fun k => nI (Zf k))))]) 20 [(0, .ref (a 0)), (1, .ref q1), (2, .ref q2), (3, .int (nI 0)), (4, .int (nI i))] [] := by
    intro n
    induction n with
    | zero => intro i h1 h2; omega
    | succ n ih20i =>
      intro i h1i h2i
      refine y_iload hC dX6_isClear_20 4 rfl ?_
      refine y_bipush hC (v := nI 12) dX6_isClear_22 rfl ?_
      refine y_icmp_ge_n hC 124 dX6_isClear_24 (by decide) i 12 rfl rfl (by omega) (by omega) (fun c24 => ?_) (fun c24 => ?_)
      · refine y_iconst hC (v := nI 0) dX6_isClear_124 rfl ?_
        refine y_istore hC [(4, .int (nI 0)), (0, .ref (a 0)), (1, .ref q1), (2, .ref q2), (3, .int (nI 0))] dX6_isClear_125 (by decide) rfl ?_
        refine y_iload hC dX6_isClear_127 0 rfl ?_
        refine y_iload_n hC dX6_isClear_129 4 rfl rfl ?_
        refine y_icmp_ge_n hC 226 dX6_isClear_130 (by decide) 0 0 rfl rfl (by omega) (by omega) (fun c130 => ?_) (fun c130 => absurd c130 (by omega))
        refine y_iconst hC (v := nI 1) dX6_isClear_226 rfl ?_
        refine y_world hC [0] (ws' := [((a 0), mOb a 0)]) rfl rfl ?_
        exact hE (nI 1) (0, _) _ _ _ _ dX6_isClear_227 (Nat.le_of_ble_eq_true rfl) (Nat.le_of_ble_eq_true rfl) rfl ⟨rfl, rfl⟩
      · refine y_iload hC dX6_isClear_27 4 rfl ?_
        refine y_iconst hC (v := nI 1) dX6_isClear_29 rfl ?_
        refine y_iadd hC (v := nI (i + 1)) dX6_isClear_30 (nI_add _ _) ?_
        refine y_istore hC [(5, .int (nI (i + 1))), (0, .ref (a 0)), (1, .ref q1), (2, .ref q2), (3, .int (nI 0)), (4, .int (nI i))] dX6_isClear_31 (by decide) rfl ?_
        have L33_l2 : ∀ n j : Nat, 12 + 1 ≤ j + n → j ≤ 12 → G 2 96 ([((a 0), mOb a 0), ((a 1), .inl (cI, 12, .inl (fun k => nI (Zf k)))), (q1, .inl (cZ, 48, .inl (fun _ => nI 0))), (q2, .inl (cI, 48, .inl (fun k => nI (Zf k))))]) 33 [(0, .ref (a 0)), (1, .ref q1), (2, .ref q2), (3, .int (nI 0)), (4, .int (nI i)), (5, .int (nI j))] [] := by
          intro n
          induction n with
          | zero => intro j h1 h2; omega
          | succ n ih33j =>
            intro j h1j h2j
            refine y_iload hC dX6_isClear_33 5 rfl ?_
            refine y_bipush hC (v := nI 12) dX6_isClear_35 rfl ?_
            refine y_icmp_ge_n hC 118 dX6_isClear_37 (by decide) j 12 rfl rfl (by omega) (by omega) (fun c37 => ?_) (fun c37 => ?_)
            · refine y_iinc hC (v := nI (i + 1)) [(4, .int (nI (i + 1))), (0, .ref (a 0)), (1, .ref q1), (2, .ref q2), (3, .int (nI 0)), (5, .int (nI j))] dX6_isClear_118 (k := 4) rfl (ninc _) (by decide) rfl ?_
              refine y_goto hC 20 dX6_isClear_121 (by decide) ?_
              refine y_sub hC [1, 2, 3, 4, 0] rfl ?_
              exact ih20i (i + 1) (by omega) (by omega)
            · refine y_aload_n hC dX6_isClear_40 0 rfl rfl ?_
              refine y_get hC cC6 0 rfl 1 (by decide) (inLr4 _ (List.mem_of_getElem? (i := 8) rfl)) rfl dX6_isClear_41 ?_
              refine y_iload hC dX6_isClear_44 4 rfl ?_
              refine y_iald hC 1 0 rfl rfl i rfl (by omega) (by decide) dX6_isClear_46 ?_
              refine y_if_eq_n hC 112 dX6_isClear_47 (by decide) 0 rfl (by omega) (fun c47 => ?_) (fun c47 => absurd c47 (by omega))
              refine y_iinc hC (v := nI (j + 1)) [(5, .int (nI (j + 1))), (0, .ref (a 0)), (1, .ref q1), (2, .ref q2), (3, .int (nI 0)), (4, .int (nI i))] dX6_isClear_112 (k := 5) rfl (ninc _) (by decide) rfl ?_
              refine y_goto hC 33 dX6_isClear_115 (by decide) ?_
              refine y_sub hC [1, 2, 3, 4, 5, 0] rfl ?_
              exact ih33j (j + 1) (by omega) (by omega)
        refine y_sub hC [1, 2, 3, 4, 5, 0] rfl ?_
        exact L33_l2 (12 + 1) (i + 1) (by omega) (by omega)
  refine y_sub hC [4, 3, 2, 1, 0] rfl ?_
  exact L20_l1 (12 + 1) 0 (by omega) (by omega)
theorem nV_X6_advise : yV yX6_advise RX6 cX6_advise 4 (some .int) 0 := ⟨(inLr12 _ (List.mem_of_getElem? (i := 9) rfl)), (inLr12 _ (List.mem_of_getElem? (i := 10) rfl)), (inLr1 _ (List.mem_of_getElem? (i := 5) rfl)), (inLr12 _ (List.mem_of_getElem? (i := 11) rfl)), rfl, by decide, by decide, by decide +kernel⟩
set_option maxHeartbeats 4000000 in
set_option maxRecDepth 100000 in
theorem p_X6_advise (a : Nat → Nat)   : MI l D (tyL cI cO cJ cZ) yX6_advise cX6_advise 4 .int ({ frames := 2, cells := 0, slots := 0, locals := 60 } : Room) [.ref (a 0)] [((a 0), mOb a 0), ((a 1), .inl (cI, 12, .inl (fun k => nI (Zf k))))] (fun r u => u.1 = 0 ∧ r = nI 1) (fun (u : Nat × List Value) => [((a 0), .inr (6, .int (nI u.1) :: u.2))]) := by
  refine MI.of (by decide) (Nat.le_of_ble_eq_true rfl) (fun G hC hE => ?_)
  show G 0 0 ([((a 0), mOb a 0), ((a 1), .inl (cI, 12, .inl (fun k => nI (Zf k))))]) 0 [(0, .ref (a 0))] []
  refine y_aload_n hC dX6_advise_0 0 rfl rfl ?_
  refine y_iconst hC (v := nI 0) dX6_advise_1 rfl ?_
  refine y_put hC cC6 0 rfl 0 (by decide) (inLr6 _ (List.mem_of_getElem? (i := 7) rfl)) rfl rfl rfl (Nat.le_of_ble_eq_true rfl) dX6_advise_2 ([((a 0), mOb a 0), ((a 1), .inl (cI, 12, .inl (fun k => nI (Zf k))))]) rfl ?_
  refine y_iconst hC (v := nI 1) dX6_advise_5 rfl ?_
  refine y_istore_n hC [(1, .int (nI 1)), (0, .ref (a 0))] dX6_advise_6 rfl (by decide) rfl ?_
  refine y_iload_n hC dX6_advise_7 0 rfl rfl ?_
  refine y_sipush hC (v := nI 5000) dX6_advise_8 rfl ?_
  refine y_icmp_ge_n hC 90 dX6_advise_11 (by decide) 1 5000 rfl rfl (by omega) (by omega) (fun c11 => absurd c11 (by omega)) (fun c11 => ?_)
  refine y_iload_n hC dX6_advise_14 0 rfl rfl ?_
  refine y_callS_i hC (As := [.int (nI 1)]) (rest := []) (c_X6_isRow (nI 1)) nS_X6_isRow (inLr6 _ (List.mem_of_getElem? (i := 15) rfl)) [] [0, 1] [0, 1] (fun u => [((a 0), mOb a 0), ((a 1), .inl (cI, 12, .inl (fun k => nI (Zf k))))]) rfl rfl rfl rfl (by decide) rfl (fun _ => rfl) rfl rfl (Nat.le_of_ble_eq_true rfl) dX6_advise_15 ⟨(Nat.le_of_ble_eq_true rfl), (Nat.le_of_ble_eq_true rfl)⟩ ⟨(Nat.le_of_ble_eq_true rfl), (Nat.le_of_ble_eq_true rfl)⟩ (fun r1 u1 hw1 => ?_)
  obtain ⟨rfl, hu_u1, hb_u1⟩ := hw1
  obtain rfl : u1 = 1 := hb_u1.mpr ⟨by decide, by decide, okD_1⟩
  refine y_istore_n hC [(2, .int (nI 1)), (1, .int (nI 1)), (0, .ref (a 0))] dX6_advise_18 rfl (by decide) rfl ?_
  refine y_iconst hC (v := nI 0) dX6_advise_19 rfl ?_
  refine y_istore_n hC [(3, .int (nI 0)), (2, .int (nI 1)), (1, .int (nI 1)), (0, .ref (a 0))] dX6_advise_20 rfl (by decide) rfl ?_
  have L21_l1 : ∀ n i : Nat, 12 + 1 ≤ i + n → i ≤ 12 → G 0 0 ([((a 0), mOb a 0), ((a 1), .inl (cI, 12, .inl (fun k => nI (Zf k))))]) 21 [(0, .ref (a 0)), (1, .int (nI 1)), (2, .int (nI 1)), (3, .int (nI i))] [] := by
    intro n
    induction n with
    | zero => intro i h1 h2; omega
    | succ n ih21i =>
      intro i h1i h2i
      refine y_iload_n hC dX6_advise_21 3 rfl rfl ?_
      refine y_bipush hC (v := nI 12) dX6_advise_22 rfl ?_
      refine y_icmp_ge_n hC 78 dX6_advise_24 (by decide) i 12 rfl rfl (by omega) (by omega) (fun c24 => ?_) (fun c24 => ?_)
      · refine y_iload_n hC dX6_advise_78 2 rfl rfl ?_
        refine y_if_eq_n hC 84 dX6_advise_79 (by decide) 1 rfl (by omega) (fun c79 => absurd c79 (by omega)) (fun c79 => ?_)
        refine y_iload_n hC dX6_advise_82 1 rfl rfl ?_
        refine y_world hC [0] (ws' := [((a 0), mOb a 0)]) rfl rfl ?_
        exact hE (nI 1) (0, _) _ _ _ _ dX6_advise_83 (Nat.le_of_ble_eq_true rfl) (Nat.le_of_ble_eq_true rfl) rfl ⟨rfl, rfl⟩
      · refine y_iload_n hC dX6_advise_27 2 rfl rfl ?_
        refine y_if_eq_n hC 78 dX6_advise_28 (by decide) 1 rfl (by omega) (fun c28 => absurd c28 (by omega)) (fun c28 => ?_)
        refine y_aload_n hC dX6_advise_31 0 rfl rfl ?_
        refine y_get hC cC6 0 rfl 1 (by decide) (inLr4 _ (List.mem_of_getElem? (i := 8) rfl)) rfl dX6_advise_32 ?_
        refine y_iload_n hC dX6_advise_35 3 rfl rfl ?_
        refine y_iald hC 1 0 rfl rfl i rfl (by omega) (by decide) dX6_advise_36 ?_
        refine y_if_eq_n hC 66 dX6_advise_37 (by decide) 0 rfl (by omega) (fun c37 => ?_) (fun c37 => absurd c37 (by omega))
        refine y_iconst hC (v := nI 1) dX6_advise_66 rfl ?_
        refine y_goto hC 71 dX6_advise_67 (by decide) ?_
        refine y_istore_n hC [(2, .int (nI 1)), (0, .ref (a 0)), (1, .int (nI 1)), (3, .int (nI i))] dX6_advise_71 rfl (by decide) rfl ?_
        refine y_iinc hC (v := nI (i + 1)) [(3, .int (nI (i + 1))), (2, .int (nI 1)), (0, .ref (a 0)), (1, .int (nI 1))] dX6_advise_72 (k := 3) rfl (ninc _) (by decide) rfl ?_
        refine y_goto hC 21 dX6_advise_75 (by decide) ?_
        refine y_sub hC [2, 3, 1, 0] rfl ?_
        exact ih21i (i + 1) (by omega) (by omega)
  refine y_sub hC [3, 2, 1, 0] rfl ?_
  exact L21_l1 (12 + 1) 0 (by omega) (by omega)
theorem nV_X6_setKnotter : yV yX6_setKnotter RX6 cX6_setKnotter 4 (some .int) 2 := ⟨(inLr12 _ (List.mem_of_getElem? (i := 22) rfl)), (inLr12 _ (List.mem_of_getElem? (i := 23) rfl)), (inLr1 _ (List.mem_of_getElem? (i := 5) rfl)), (inLr13 _ (List.mem_of_getElem? (i := 0) rfl)), rfl, by decide, by decide, by decide +kernel⟩
set_option maxHeartbeats 4000000 in
set_option maxRecDepth 100000 in
theorem p_X6_setKnotter (a : Nat → Nat) (x : Int32) (y : Int32)  : MI l D (tyL cI cO cJ cZ) yX6_setKnotter cX6_setKnotter 4 .int ({ frames := 1, cells := 0, slots := 0, locals := 60 } : Room) [.ref (a 0), .int x, .int y] [((a 0), mOb a 0)] (fun r u => u.1 = kcKno x y ∧ (kcKno x y = 0 → r = nI 0)) (fun (u : Nat × List Value) => [((a 0), .inr (6, .int (nI u.1) :: u.2))]) := by
  refine MI.of (by decide) (Nat.le_of_ble_eq_true rfl) (fun G hC hE => ?_)
  show G 0 0 ([((a 0), mOb a 0)]) 0 [(0, .ref (a 0)), (1, .int x), (2, .int y)] []
  refine y_aload_n hC dX6_setKnotter_0 0 rfl rfl ?_
  refine y_iconst hC (v := nI 0) dX6_setKnotter_1 rfl ?_
  refine y_put hC cC6 0 rfl 0 (by decide) (inLr6 _ (List.mem_of_getElem? (i := 7) rfl)) rfl rfl rfl (Nat.le_of_ble_eq_true rfl) dX6_setKnotter_2 ([((a 0), mOb a 0)]) rfl ?_
  refine y_iload_n hC dX6_setKnotter_5 1 rfl rfl ?_
  refine y_iconst hC (v := nI 0) dX6_setKnotter_6 rfl ?_
  refine y_bipush hC (v := nI 99) dX6_setKnotter_7 rfl ?_
  refine y_callS_i hC (As := [.int x, .int (nI 0), .int (nI 99)]) (rest := []) (c_X6_isIn x (nI 0) (nI 99)) nS_X6_isIn (inLr6 _ (List.mem_of_getElem? (i := 8) rfl)) [] [0] [0] (fun u => [((a 0), mOb a 0)]) rfl rfl rfl rfl (by decide) rfl (fun _ => rfl) rfl rfl (Nat.le_of_ble_eq_true rfl) dX6_setKnotter_9 ⟨(Nat.le_of_ble_eq_true rfl), (Nat.le_of_ble_eq_true rfl)⟩ ⟨(Nat.le_of_ble_eq_true rfl), (Nat.le_of_ble_eq_true rfl)⟩ (fun r1 u1 hw1 => ?_)
  obtain ⟨rfl, hb_u1⟩ := hw1
  try rw [show (nI 0 : Int32).toInt = 0 from by decide] at hb_u1
  try rw [show (nI 99 : Int32).toInt = 99 from by decide] at hb_u1
  refine y_if_eq_n hC 25 dX6_setKnotter_12 (by decide) u1 rfl (by omega) (fun c12 => ?_) (fun c12 => ?_)
  · refine y_aload_n hC dX6_setKnotter_25 0 rfl rfl ?_
    refine y_iconst hC (v := nI 1) dX6_setKnotter_26 rfl ?_
    refine y_callV_i hC (As := [.int (nI 1)]) (rest := []) (c_X6_no _ _ _ 1) nV_X6_no (inLr6 _ (List.mem_of_getElem? (i := 11) rfl)) [0] [] [0] (fun u => [((a 0), mOb a 1)]) rfl rfl rfl rfl (by decide) rfl (fun _ => rfl) 0 rfl rfl rfl rfl (Nat.le_of_ble_eq_true rfl) dX6_setKnotter_27 ⟨(Nat.le_of_ble_eq_true rfl), (Nat.le_of_ble_eq_true rfl)⟩ ⟨(Nat.le_of_ble_eq_true rfl), (Nat.le_of_ble_eq_true rfl)⟩ (fun r2 u2 hw2 => ?_)
    subst hw2
    refine y_world hC [0] (ws' := [((a 0), mOb a 1)]) rfl rfl ?_
    exact hE (nI 0) (1, _) _ _ _ _ dX6_setKnotter_30 (Nat.le_of_ble_eq_true rfl) (Nat.le_of_ble_eq_true rfl) rfl ⟨by show (1 : Nat) = _; unfold kcKno; split <;> omega, fun _ => rfl⟩
  · refine y_iload_n hC dX6_setKnotter_15 2 rfl rfl ?_
    refine y_iconst hC (v := nI 0) dX6_setKnotter_16 rfl ?_
    refine y_bipush hC (v := nI 99) dX6_setKnotter_17 rfl ?_
    refine y_callS_i hC (As := [.int y, .int (nI 0), .int (nI 99)]) (rest := []) (c_X6_isIn y (nI 0) (nI 99)) nS_X6_isIn (inLr6 _ (List.mem_of_getElem? (i := 8) rfl)) [] [0] [0] (fun u => [((a 0), mOb a 0)]) rfl rfl rfl rfl (by decide) rfl (fun _ => rfl) rfl rfl (Nat.le_of_ble_eq_true rfl) dX6_setKnotter_19 ⟨(Nat.le_of_ble_eq_true rfl), (Nat.le_of_ble_eq_true rfl)⟩ ⟨(Nat.le_of_ble_eq_true rfl), (Nat.le_of_ble_eq_true rfl)⟩ (fun r3 u3 hw3 => ?_)
    obtain ⟨rfl, hb_u3⟩ := hw3
    try rw [show (nI 0 : Int32).toInt = 0 from by decide] at hb_u3
    try rw [show (nI 99 : Int32).toInt = 99 from by decide] at hb_u3
    refine y_if_ne_n hC 31 dX6_setKnotter_22 (by decide) u3 rfl (by omega) (fun c22 => ?_) (fun c22 => ?_)
    · obtain ⟨j1, hj1, rfl⟩ := i32_nat (x := x) (n := 100) (by omega) (by omega)
      have ej1 := nI_toInt (show j1 < 2 ^ 31 by omega)
      obtain ⟨j2, hj2, rfl⟩ := i32_nat (x := y) (n := 100) (by omega) (by omega)
      have ej2 := nI_toInt (show j2 < 2 ^ 31 by omega)
      refine y_bipush hC (v := nI 100) dX6_setKnotter_31 rfl ?_
      refine y_aload_n hC dX6_setKnotter_33 0 rfl rfl ?_
      refine y_get hC cC6 0 rfl 3 (by decide) (inLr13 _ (List.mem_of_getElem? (i := 1) rfl)) rfl dX6_setKnotter_34 ?_
      refine y_imul hC (v := nI 0) dX6_setKnotter_37 (by decide) ?_
      refine y_aload_n hC dX6_setKnotter_38 0 rfl rfl ?_
      refine y_get hC cC6 0 rfl 4 (by decide) (inLr13 _ (List.mem_of_getElem? (i := 2) rfl)) rfl dX6_setKnotter_39 ?_
      refine y_iadd hC (v := nI 0) dX6_setKnotter_42 (by decide) ?_
      refine y_istore_n hC [(3, .int (nI 0)), (0, .ref (a 0)), (1, .int (nI j1)), (2, .int (nI j2))] dX6_setKnotter_43 rfl (by decide) rfl ?_
      refine y_aload_n hC dX6_setKnotter_44 1 rfl rfl ?_
      refine y_iload_n hC dX6_setKnotter_45 2 rfl rfl ?_
      refine y_put hC cC6 0 rfl 3 (by decide) (inLr13 _ (List.mem_of_getElem? (i := 1) rfl)) rfl rfl rfl (Nat.le_of_ble_eq_true rfl) dX6_setKnotter_46 ([((a 0), .inr (6, [.int (nI 0), .ref (a 1), .ref (a 2), .int (nI j1), .int (nI 0), .int (nI 0), .ref (a 3), .int (nI 4), .int (nI 4), .int (nI 0), .ref (a 4), .ref (a 5), .ref (a 6), .ref (a 7), .ref (a 8), .int (nI 0), .ref (a 9), .int (nI 0), .ref (a 10), .ref (a 11), .ref (a 12), .ref (a 13), .ref (a 14)]))]) rfl ?_
      refine y_aload_n hC dX6_setKnotter_49 1 rfl rfl ?_
      refine y_iload_n hC dX6_setKnotter_50 3 rfl rfl ?_
      refine y_put hC cC6 0 rfl 4 (by decide) (inLr13 _ (List.mem_of_getElem? (i := 2) rfl)) rfl rfl rfl (Nat.le_of_ble_eq_true rfl) dX6_setKnotter_51 ([((a 0), .inr (6, [.int (nI 0), .ref (a 1), .ref (a 2), .int (nI j1), .int (nI j2), .int (nI 0), .ref (a 3), .int (nI 4), .int (nI 4), .int (nI 0), .ref (a 4), .ref (a 5), .ref (a 6), .ref (a 7), .ref (a 8), .int (nI 0), .ref (a 9), .int (nI 0), .ref (a 10), .ref (a 11), .ref (a 12), .ref (a 13), .ref (a 14)]))]) rfl ?_
      refine y_iload_n hC dX6_setKnotter_54 0 rfl rfl ?_
      refine y_world hC [0] (ws' := [((a 0), .inr (6, [.int (nI 0), .ref (a 1), .ref (a 2), .int (nI j1), .int (nI j2), .int (nI 0), .ref (a 3), .int (nI 4), .int (nI 4), .int (nI 0), .ref (a 4), .ref (a 5), .ref (a 6), .ref (a 7), .ref (a 8), .int (nI 0), .ref (a 9), .int (nI 0), .ref (a 10), .ref (a 11), .ref (a 12), .ref (a 13), .ref (a 14)]))]) rfl rfl ?_
      exact hE (nI 0) (0, _) _ _ _ _ dX6_setKnotter_55 (Nat.le_of_ble_eq_true rfl) (Nat.le_of_ble_eq_true rfl) rfl ⟨by show (0 : Nat) = _; unfold kcKno; split <;> omega, fun _ => rfl⟩
    · refine y_aload_n hC dX6_setKnotter_25 0 rfl rfl ?_
      refine y_iconst hC (v := nI 1) dX6_setKnotter_26 rfl ?_
      refine y_callV_i hC (As := [.int (nI 1)]) (rest := []) (c_X6_no _ _ _ 1) nV_X6_no (inLr6 _ (List.mem_of_getElem? (i := 11) rfl)) [0] [] [0] (fun u => [((a 0), mOb a 1)]) rfl rfl rfl rfl (by decide) rfl (fun _ => rfl) 0 rfl rfl rfl rfl (Nat.le_of_ble_eq_true rfl) dX6_setKnotter_27 ⟨(Nat.le_of_ble_eq_true rfl), (Nat.le_of_ble_eq_true rfl)⟩ ⟨(Nat.le_of_ble_eq_true rfl), (Nat.le_of_ble_eq_true rfl)⟩ (fun r4 u4 hw4 => ?_)
      subst hw4
      refine y_world hC [0] (ws' := [((a 0), mOb a 1)]) rfl rfl ?_
      exact hE (nI 0) (1, _) _ _ _ _ dX6_setKnotter_30 (Nat.le_of_ble_eq_true rfl) (Nat.le_of_ble_eq_true rfl) rfl ⟨by show (1 : Nat) = _; unfold kcKno; split <;> omega, fun _ => rfl⟩
theorem nV_X6_setCosts : yV yX6_setCosts RX6 cX6_setCosts 4 (some .int) 2 := ⟨(inLr14 _ (List.mem_of_getElem? (i := 6) rfl)), (inLr14 _ (List.mem_of_getElem? (i := 7) rfl)), (inLr1 _ (List.mem_of_getElem? (i := 5) rfl)), (inLr14 _ (List.mem_of_getElem? (i := 8) rfl)), rfl, by decide, by decide, by decide +kernel⟩
set_option maxHeartbeats 4000000 in
set_option maxRecDepth 100000 in
theorem p_X6_setCosts (a : Nat → Nat) (x : Int32) (y : Int32)  : MI l D (tyL cI cO cJ cZ) yX6_setCosts cX6_setCosts 4 .int ({ frames := 1, cells := 0, slots := 0, locals := 60 } : Room) [.ref (a 0), .int x, .int y] [((a 0), mOb a 0)] (fun r u => u.1 = kcCos x y ∧ (kcCos x y = 0 → r = nI 44)) (fun (u : Nat × List Value) => [((a 0), .inr (6, .int (nI u.1) :: u.2))]) := by
  refine MI.of (by decide) (Nat.le_of_ble_eq_true rfl) (fun G hC hE => ?_)
  show G 0 0 ([((a 0), mOb a 0)]) 0 [(0, .ref (a 0)), (1, .int x), (2, .int y)] []
  refine y_aload_n hC dX6_setCosts_0 0 rfl rfl ?_
  refine y_iconst hC (v := nI 0) dX6_setCosts_1 rfl ?_
  refine y_put hC cC6 0 rfl 0 (by decide) (inLr6 _ (List.mem_of_getElem? (i := 7) rfl)) rfl rfl rfl (Nat.le_of_ble_eq_true rfl) dX6_setCosts_2 ([((a 0), mOb a 0)]) rfl ?_
  refine y_iload_n hC dX6_setCosts_5 1 rfl rfl ?_
  refine y_iconst hC (v := nI 1) dX6_setCosts_6 rfl ?_
  refine y_bipush hC (v := nI 9) dX6_setCosts_7 rfl ?_
  refine y_callS_i hC (As := [.int x, .int (nI 1), .int (nI 9)]) (rest := []) (c_X6_isIn x (nI 1) (nI 9)) nS_X6_isIn (inLr6 _ (List.mem_of_getElem? (i := 8) rfl)) [] [0] [0] (fun u => [((a 0), mOb a 0)]) rfl rfl rfl rfl (by decide) rfl (fun _ => rfl) rfl rfl (Nat.le_of_ble_eq_true rfl) dX6_setCosts_9 ⟨(Nat.le_of_ble_eq_true rfl), (Nat.le_of_ble_eq_true rfl)⟩ ⟨(Nat.le_of_ble_eq_true rfl), (Nat.le_of_ble_eq_true rfl)⟩ (fun r1 u1 hw1 => ?_)
  obtain ⟨rfl, hb_u1⟩ := hw1
  try rw [show (nI 1 : Int32).toInt = 1 from by decide] at hb_u1
  try rw [show (nI 9 : Int32).toInt = 9 from by decide] at hb_u1
  refine y_if_eq_n hC 25 dX6_setCosts_12 (by decide) u1 rfl (by omega) (fun c12 => ?_) (fun c12 => ?_)
  · refine y_aload_n hC dX6_setCosts_25 0 rfl rfl ?_
    refine y_iconst hC (v := nI 1) dX6_setCosts_26 rfl ?_
    refine y_callV_i hC (As := [.int (nI 1)]) (rest := []) (c_X6_no _ _ _ 1) nV_X6_no (inLr6 _ (List.mem_of_getElem? (i := 11) rfl)) [0] [] [0] (fun u => [((a 0), mOb a 1)]) rfl rfl rfl rfl (by decide) rfl (fun _ => rfl) 0 rfl rfl rfl rfl (Nat.le_of_ble_eq_true rfl) dX6_setCosts_27 ⟨(Nat.le_of_ble_eq_true rfl), (Nat.le_of_ble_eq_true rfl)⟩ ⟨(Nat.le_of_ble_eq_true rfl), (Nat.le_of_ble_eq_true rfl)⟩ (fun r2 u2 hw2 => ?_)
    subst hw2
    refine y_world hC [0] (ws' := [((a 0), mOb a 1)]) rfl rfl ?_
    exact hE (nI 0) (1, _) _ _ _ _ dX6_setCosts_30 (Nat.le_of_ble_eq_true rfl) (Nat.le_of_ble_eq_true rfl) rfl ⟨by show (1 : Nat) = _; unfold kcCos; split <;> omega, fun h => absurd h (by unfold kcCos; split <;> omega)⟩
  · refine y_iload_n hC dX6_setCosts_15 2 rfl rfl ?_
    refine y_iconst hC (v := nI 1) dX6_setCosts_16 rfl ?_
    refine y_bipush hC (v := nI 9) dX6_setCosts_17 rfl ?_
    refine y_callS_i hC (As := [.int y, .int (nI 1), .int (nI 9)]) (rest := []) (c_X6_isIn y (nI 1) (nI 9)) nS_X6_isIn (inLr6 _ (List.mem_of_getElem? (i := 8) rfl)) [] [0] [0] (fun u => [((a 0), mOb a 0)]) rfl rfl rfl rfl (by decide) rfl (fun _ => rfl) rfl rfl (Nat.le_of_ble_eq_true rfl) dX6_setCosts_19 ⟨(Nat.le_of_ble_eq_true rfl), (Nat.le_of_ble_eq_true rfl)⟩ ⟨(Nat.le_of_ble_eq_true rfl), (Nat.le_of_ble_eq_true rfl)⟩ (fun r3 u3 hw3 => ?_)
    obtain ⟨rfl, hb_u3⟩ := hw3
    try rw [show (nI 1 : Int32).toInt = 1 from by decide] at hb_u3
    try rw [show (nI 9 : Int32).toInt = 9 from by decide] at hb_u3
    refine y_if_ne_n hC 31 dX6_setCosts_22 (by decide) u3 rfl (by omega) (fun c22 => ?_) (fun c22 => ?_)
    · obtain ⟨j1, hj1, rfl⟩ := i32_nat (x := x) (n := 10) (by omega) (by omega)
      have ej1 := nI_toInt (show j1 < 2 ^ 31 by omega)
      obtain ⟨j2, hj2, rfl⟩ := i32_nat (x := y) (n := 10) (by omega) (by omega)
      have ej2 := nI_toInt (show j2 < 2 ^ 31 by omega)
      refine y_bipush hC (v := nI 10) dX6_setCosts_31 rfl ?_
      refine y_aload_n hC dX6_setCosts_33 0 rfl rfl ?_
      refine y_get hC cC6 0 rfl 7 (by decide) (inLr4 _ (List.mem_of_getElem? (i := 11) rfl)) rfl dX6_setCosts_34 ?_
      refine y_imul hC (v := nI 40) dX6_setCosts_37 (by decide) ?_
      refine y_aload_n hC dX6_setCosts_38 0 rfl rfl ?_
      refine y_get hC cC6 0 rfl 8 (by decide) (inLr4 _ (List.mem_of_getElem? (i := 12) rfl)) rfl dX6_setCosts_39 ?_
      refine y_iadd hC (v := nI 44) dX6_setCosts_42 (by decide) ?_
      refine y_istore_n hC [(3, .int (nI 44)), (0, .ref (a 0)), (1, .int (nI j1)), (2, .int (nI j2))] dX6_setCosts_43 rfl (by decide) rfl ?_
      refine y_aload_n hC dX6_setCosts_44 1 rfl rfl ?_
      refine y_iload_n hC dX6_setCosts_45 2 rfl rfl ?_
      refine y_put hC cC6 0 rfl 7 (by decide) (inLr4 _ (List.mem_of_getElem? (i := 11) rfl)) rfl rfl rfl (Nat.le_of_ble_eq_true rfl) dX6_setCosts_46 ([((a 0), .inr (6, [.int (nI 0), .ref (a 1), .ref (a 2), .int (nI 0), .int (nI 0), .int (nI 0), .ref (a 3), .int (nI j1), .int (nI 4), .int (nI 0), .ref (a 4), .ref (a 5), .ref (a 6), .ref (a 7), .ref (a 8), .int (nI 0), .ref (a 9), .int (nI 0), .ref (a 10), .ref (a 11), .ref (a 12), .ref (a 13), .ref (a 14)]))]) rfl ?_
      refine y_aload_n hC dX6_setCosts_49 1 rfl rfl ?_
      refine y_iload_n hC dX6_setCosts_50 3 rfl rfl ?_
      refine y_put hC cC6 0 rfl 8 (by decide) (inLr4 _ (List.mem_of_getElem? (i := 12) rfl)) rfl rfl rfl (Nat.le_of_ble_eq_true rfl) dX6_setCosts_51 ([((a 0), .inr (6, [.int (nI 0), .ref (a 1), .ref (a 2), .int (nI 0), .int (nI 0), .int (nI 0), .ref (a 3), .int (nI j1), .int (nI j2), .int (nI 0), .ref (a 4), .ref (a 5), .ref (a 6), .ref (a 7), .ref (a 8), .int (nI 0), .ref (a 9), .int (nI 0), .ref (a 10), .ref (a 11), .ref (a 12), .ref (a 13), .ref (a 14)]))]) rfl ?_
      refine y_iload_n hC dX6_setCosts_54 0 rfl rfl ?_
      refine y_world hC [0] (ws' := [((a 0), .inr (6, [.int (nI 0), .ref (a 1), .ref (a 2), .int (nI 0), .int (nI 0), .int (nI 0), .ref (a 3), .int (nI j1), .int (nI j2), .int (nI 0), .ref (a 4), .ref (a 5), .ref (a 6), .ref (a 7), .ref (a 8), .int (nI 0), .ref (a 9), .int (nI 0), .ref (a 10), .ref (a 11), .ref (a 12), .ref (a 13), .ref (a 14)]))]) rfl rfl ?_
      exact hE (nI 44) (0, _) _ _ _ _ dX6_setCosts_55 (Nat.le_of_ble_eq_true rfl) (Nat.le_of_ble_eq_true rfl) rfl ⟨by show (0 : Nat) = _; unfold kcCos; split <;> omega, fun _ => rfl⟩
    · refine y_aload_n hC dX6_setCosts_25 0 rfl rfl ?_
      refine y_iconst hC (v := nI 1) dX6_setCosts_26 rfl ?_
      refine y_callV_i hC (As := [.int (nI 1)]) (rest := []) (c_X6_no _ _ _ 1) nV_X6_no (inLr6 _ (List.mem_of_getElem? (i := 11) rfl)) [0] [] [0] (fun u => [((a 0), mOb a 1)]) rfl rfl rfl rfl (by decide) rfl (fun _ => rfl) 0 rfl rfl rfl rfl (Nat.le_of_ble_eq_true rfl) dX6_setCosts_27 ⟨(Nat.le_of_ble_eq_true rfl), (Nat.le_of_ble_eq_true rfl)⟩ ⟨(Nat.le_of_ble_eq_true rfl), (Nat.le_of_ble_eq_true rfl)⟩ (fun r4 u4 hw4 => ?_)
      subst hw4
      refine y_world hC [0] (ws' := [((a 0), mOb a 1)]) rfl rfl ?_
      exact hE (nI 0) (1, _) _ _ _ _ dX6_setCosts_30 (Nat.le_of_ble_eq_true rfl) (Nat.le_of_ble_eq_true rfl) rfl ⟨by show (1 : Nat) = _; unfold kcCos; split <;> omega, fun h => absurd h (by unfold kcCos; split <;> omega)⟩
theorem nV_X6_setFeel : yV yX6_setFeel RX6 cX6_setFeel 5 (some .int) 3 := ⟨(inLr13 _ (List.mem_of_getElem? (i := 17) rfl)), (inLr13 _ (List.mem_of_getElem? (i := 18) rfl)), (inLr1 _ (List.mem_of_getElem? (i := 5) rfl)), (inLr13 _ (List.mem_of_getElem? (i := 19) rfl)), rfl, by decide, by decide, by decide +kernel⟩
set_option maxHeartbeats 4000000 in
set_option maxRecDepth 100000 in
theorem p_X6_setFeel (a : Nat → Nat) (x : Int32) (y : Int32) (z : Int32) (fl : Nat → Nat) (hfl : ∀ k, k < 25 → fl k = feelv k) : MI l D (tyL cI cO cJ cZ) yX6_setFeel cX6_setFeel 5 .int ({ frames := 1, cells := 0, slots := 0, locals := 60 } : Room) [.ref (a 0), .int x, .int y, .int z] [((a 0), mOb a 0), ((a 3), .inl (cI, 25, .inl (fun k => nI (fl k))))] (fun r u => u.1 = kcFee x y z ∧ (kcFee x y z = 0 → r = nI 3)) (fun (u : Nat × List Value) => [((a 0), .inr (6, .int (nI u.1) :: u.2))]) := by
  refine MI.of (by decide) (Nat.le_of_ble_eq_true rfl) (fun G hC hE => ?_)
  show G 0 0 ([((a 0), mOb a 0), ((a 3), .inl (cI, 25, .inl (fun k => nI (fl k))))]) 0 [(0, .ref (a 0)), (1, .int x), (2, .int y), (3, .int z)] []
  refine y_aload_n hC dX6_setFeel_0 0 rfl rfl ?_
  refine y_iconst hC (v := nI 0) dX6_setFeel_1 rfl ?_
  refine y_put hC cC6 0 rfl 0 (by decide) (inLr6 _ (List.mem_of_getElem? (i := 7) rfl)) rfl rfl rfl (Nat.le_of_ble_eq_true rfl) dX6_setFeel_2 ([((a 0), mOb a 0), ((a 3), .inl (cI, 25, .inl (fun k => nI (fl k))))]) rfl ?_
  refine y_iload_n hC dX6_setFeel_5 1 rfl rfl ?_
  refine y_iconst hC (v := nI 1) dX6_setFeel_6 rfl ?_
  refine y_iconst hC (v := nI 4) dX6_setFeel_7 rfl ?_
  refine y_callS_i hC (As := [.int x, .int (nI 1), .int (nI 4)]) (rest := []) (c_X6_isIn x (nI 1) (nI 4)) nS_X6_isIn (inLr6 _ (List.mem_of_getElem? (i := 8) rfl)) [] [0, 1] [0, 1] (fun u => [((a 0), mOb a 0), ((a 3), .inl (cI, 25, .inl (fun k => nI (fl k))))]) rfl rfl rfl rfl (by decide) rfl (fun _ => rfl) rfl rfl (Nat.le_of_ble_eq_true rfl) dX6_setFeel_8 ⟨(Nat.le_of_ble_eq_true rfl), (Nat.le_of_ble_eq_true rfl)⟩ ⟨(Nat.le_of_ble_eq_true rfl), (Nat.le_of_ble_eq_true rfl)⟩ (fun r1 u1 hw1 => ?_)
  obtain ⟨rfl, hb_u1⟩ := hw1
  try rw [show (nI 1 : Int32).toInt = 1 from by decide] at hb_u1
  try rw [show (nI 4 : Int32).toInt = 4 from by decide] at hb_u1
  refine y_if_eq_n hC 38 dX6_setFeel_11 (by decide) u1 rfl (by omega) (fun c11 => ?_) (fun c11 => ?_)
  · refine y_aload_n hC dX6_setFeel_38 0 rfl rfl ?_
    refine y_iconst hC (v := nI 1) dX6_setFeel_39 rfl ?_
    refine y_callV_i hC (As := [.int (nI 1)]) (rest := []) (c_X6_no _ _ _ 1) nV_X6_no (inLr6 _ (List.mem_of_getElem? (i := 11) rfl)) [0] [1] [1, 0] (fun u => [((a 0), mOb a 1), ((a 3), .inl (cI, 25, .inl (fun k => nI (fl k))))]) rfl rfl rfl rfl (by decide) rfl (fun _ => rfl) 0 rfl rfl rfl rfl (Nat.le_of_ble_eq_true rfl) dX6_setFeel_40 ⟨(Nat.le_of_ble_eq_true rfl), (Nat.le_of_ble_eq_true rfl)⟩ ⟨(Nat.le_of_ble_eq_true rfl), (Nat.le_of_ble_eq_true rfl)⟩ (fun r2 u2 hw2 => ?_)
    subst hw2
    refine y_world hC [0] (ws' := [((a 0), mOb a 1)]) rfl rfl ?_
    exact hE (nI 0) (1, _) _ _ _ _ dX6_setFeel_43 (Nat.le_of_ble_eq_true rfl) (Nat.le_of_ble_eq_true rfl) rfl ⟨by show (1 : Nat) = _; unfold kcFee; split <;> omega, fun h => absurd h (by unfold kcFee; split <;> omega)⟩
  · refine y_iload_n hC dX6_setFeel_14 2 rfl rfl ?_
    refine y_iconst hC (v := nI 1) dX6_setFeel_15 rfl ?_
    refine y_iconst hC (v := nI 4) dX6_setFeel_16 rfl ?_
    refine y_callS_i hC (As := [.int y, .int (nI 1), .int (nI 4)]) (rest := []) (c_X6_isIn y (nI 1) (nI 4)) nS_X6_isIn (inLr6 _ (List.mem_of_getElem? (i := 8) rfl)) [] [0, 1] [0, 1] (fun u => [((a 0), mOb a 0), ((a 3), .inl (cI, 25, .inl (fun k => nI (fl k))))]) rfl rfl rfl rfl (by decide) rfl (fun _ => rfl) rfl rfl (Nat.le_of_ble_eq_true rfl) dX6_setFeel_17 ⟨(Nat.le_of_ble_eq_true rfl), (Nat.le_of_ble_eq_true rfl)⟩ ⟨(Nat.le_of_ble_eq_true rfl), (Nat.le_of_ble_eq_true rfl)⟩ (fun r3 u3 hw3 => ?_)
    obtain ⟨rfl, hb_u3⟩ := hw3
    try rw [show (nI 1 : Int32).toInt = 1 from by decide] at hb_u3
    try rw [show (nI 4 : Int32).toInt = 4 from by decide] at hb_u3
    refine y_if_eq_n hC 38 dX6_setFeel_20 (by decide) u3 rfl (by omega) (fun c20 => ?_) (fun c20 => ?_)
    · refine y_aload_n hC dX6_setFeel_38 0 rfl rfl ?_
      refine y_iconst hC (v := nI 1) dX6_setFeel_39 rfl ?_
      refine y_callV_i hC (As := [.int (nI 1)]) (rest := []) (c_X6_no _ _ _ 1) nV_X6_no (inLr6 _ (List.mem_of_getElem? (i := 11) rfl)) [0] [1] [1, 0] (fun u => [((a 0), mOb a 1), ((a 3), .inl (cI, 25, .inl (fun k => nI (fl k))))]) rfl rfl rfl rfl (by decide) rfl (fun _ => rfl) 0 rfl rfl rfl rfl (Nat.le_of_ble_eq_true rfl) dX6_setFeel_40 ⟨(Nat.le_of_ble_eq_true rfl), (Nat.le_of_ble_eq_true rfl)⟩ ⟨(Nat.le_of_ble_eq_true rfl), (Nat.le_of_ble_eq_true rfl)⟩ (fun r4 u4 hw4 => ?_)
      subst hw4
      refine y_world hC [0] (ws' := [((a 0), mOb a 1)]) rfl rfl ?_
      exact hE (nI 0) (1, _) _ _ _ _ dX6_setFeel_43 (Nat.le_of_ble_eq_true rfl) (Nat.le_of_ble_eq_true rfl) rfl ⟨by show (1 : Nat) = _; unfold kcFee; split <;> omega, fun h => absurd h (by unfold kcFee; split <;> omega)⟩
    · refine y_iload_n hC dX6_setFeel_23 1 rfl rfl ?_
      refine y_iload_n hC dX6_setFeel_24 2 rfl rfl ?_
      refine y_icmp_eq_w hC 38 dX6_setFeel_25 (by decide) (fun c25 => ?_) (fun c25 => ?_)
      · refine y_aload_n hC dX6_setFeel_38 0 rfl rfl ?_
        refine y_iconst hC (v := nI 1) dX6_setFeel_39 rfl ?_
        refine y_callV_i hC (As := [.int (nI 1)]) (rest := []) (c_X6_no _ _ _ 1) nV_X6_no (inLr6 _ (List.mem_of_getElem? (i := 11) rfl)) [0] [1] [1, 0] (fun u => [((a 0), mOb a 1), ((a 3), .inl (cI, 25, .inl (fun k => nI (fl k))))]) rfl rfl rfl rfl (by decide) rfl (fun _ => rfl) 0 rfl rfl rfl rfl (Nat.le_of_ble_eq_true rfl) dX6_setFeel_40 ⟨(Nat.le_of_ble_eq_true rfl), (Nat.le_of_ble_eq_true rfl)⟩ ⟨(Nat.le_of_ble_eq_true rfl), (Nat.le_of_ble_eq_true rfl)⟩ (fun r5 u5 hw5 => ?_)
        subst hw5
        refine y_world hC [0] (ws' := [((a 0), mOb a 1)]) rfl rfl ?_
        exact hE (nI 0) (1, _) _ _ _ _ dX6_setFeel_43 (Nat.le_of_ble_eq_true rfl) (Nat.le_of_ble_eq_true rfl) rfl ⟨by show (1 : Nat) = _; unfold kcFee; split <;> omega, fun h => absurd h (by unfold kcFee; split <;> omega)⟩
      · refine y_iload_n hC dX6_setFeel_28 3 rfl rfl ?_
        refine y_iconst hC (v := nI 0) dX6_setFeel_29 rfl ?_
        refine y_bipush hC (v := nI 9) dX6_setFeel_30 rfl ?_
        refine y_callS_i hC (As := [.int z, .int (nI 0), .int (nI 9)]) (rest := []) (c_X6_isIn z (nI 0) (nI 9)) nS_X6_isIn (inLr6 _ (List.mem_of_getElem? (i := 8) rfl)) [] [0, 1] [0, 1] (fun u => [((a 0), mOb a 0), ((a 3), .inl (cI, 25, .inl (fun k => nI (fl k))))]) rfl rfl rfl rfl (by decide) rfl (fun _ => rfl) rfl rfl (Nat.le_of_ble_eq_true rfl) dX6_setFeel_32 ⟨(Nat.le_of_ble_eq_true rfl), (Nat.le_of_ble_eq_true rfl)⟩ ⟨(Nat.le_of_ble_eq_true rfl), (Nat.le_of_ble_eq_true rfl)⟩ (fun r6 u6 hw6 => ?_)
        obtain ⟨rfl, hb_u6⟩ := hw6
        try rw [show (nI 0 : Int32).toInt = 0 from by decide] at hb_u6
        try rw [show (nI 9 : Int32).toInt = 9 from by decide] at hb_u6
        refine y_if_ne_n hC 44 dX6_setFeel_35 (by decide) u6 rfl (by omega) (fun c35 => ?_) (fun c35 => ?_)
        · obtain ⟨j1, hj1, rfl⟩ := i32_nat (x := x) (n := 5) (by omega) (by omega)
          have ej1 := nI_toInt (show j1 < 2 ^ 31 by omega)
          obtain ⟨j2, hj2, rfl⟩ := i32_nat (x := y) (n := 5) (by omega) (by omega)
          have ej2 := nI_toInt (show j2 < 2 ^ 31 by omega)
          obtain ⟨j3, hj3, rfl⟩ := i32_nat (x := z) (n := 10) (by omega) (by omega)
          have ej3 := nI_toInt (show j3 < 2 ^ 31 by omega)
          have hfv := feel_ab hfl (a := j1) (b := j2) (by omega) (by omega) (by omega)
          refine y_aload_n hC dX6_setFeel_44 0 rfl rfl ?_
          refine y_get hC cC6 0 rfl 6 (by decide) (inLr4 _ (List.mem_of_getElem? (i := 10) rfl)) rfl dX6_setFeel_45 ?_
          refine y_iconst hC (v := nI 5) dX6_setFeel_48 rfl ?_
          refine y_iload_n hC dX6_setFeel_49 1 rfl rfl ?_
          refine y_imul hC (v := nI (5 * j1)) dX6_setFeel_50 (pk_mul _ _) ?_
          refine y_iload_n hC dX6_setFeel_51 2 rfl rfl ?_
          refine y_iadd hC (v := nI ((5 * j1) + j2)) dX6_setFeel_52 (nI_add _ _) ?_
          refine y_iald hC 1 0 rfl rfl ((5 * j1) + j2) rfl (by omega) (by decide) dX6_setFeel_53 ?_
          rw [hfv]
          refine y_istore hC [(4, .int (nI 3)), (0, .ref (a 0)), (1, .int (nI j1)), (2, .int (nI j2)), (3, .int (nI j3))] dX6_setFeel_54 (by decide) rfl ?_
          refine y_aload_n hC dX6_setFeel_56 1 rfl rfl ?_
          refine y_get hC cC6 0 rfl 6 (by decide) (inLr4 _ (List.mem_of_getElem? (i := 10) rfl)) rfl dX6_setFeel_57 ?_
          refine y_iconst hC (v := nI 5) dX6_setFeel_60 rfl ?_
          refine y_iload_n hC dX6_setFeel_61 2 rfl rfl ?_
          refine y_imul hC (v := nI (5 * j1)) dX6_setFeel_62 (pk_mul _ _) ?_
          refine y_iload_n hC dX6_setFeel_63 3 rfl rfl ?_
          refine y_iadd hC (v := nI ((5 * j1) + j2)) dX6_setFeel_64 (nI_add _ _) ?_
          refine y_iload_n hC dX6_setFeel_65 4 rfl rfl ?_
          refine y_iast hC 1 0 rfl rfl ((5 * j1) + j2) rfl (by omega) (by decide) dX6_setFeel_66 ([((a 0), mOb a 0), ((a 3), .inl (cI, 25, .inl (fun k => nI ((updN fl ((5 * j1) + j2) j3) k))))]) (by rw [← updN_eq]; rfl) ?_
          refine y_aload_n hC dX6_setFeel_67 1 rfl rfl ?_
          refine y_get hC cC6 0 rfl 6 (by decide) (inLr4 _ (List.mem_of_getElem? (i := 10) rfl)) rfl dX6_setFeel_68 ?_
          refine y_iconst hC (v := nI 5) dX6_setFeel_71 rfl ?_
          refine y_iload_n hC dX6_setFeel_72 3 rfl rfl ?_
          refine y_imul hC (v := nI (5 * j2)) dX6_setFeel_73 (pk_mul _ _) ?_
          refine y_iload_n hC dX6_setFeel_74 2 rfl rfl ?_
          refine y_iadd hC (v := nI ((5 * j2) + j1)) dX6_setFeel_75 (nI_add _ _) ?_
          refine y_iload_n hC dX6_setFeel_76 4 rfl rfl ?_
          refine y_iast hC 1 0 rfl rfl ((5 * j2) + j1) rfl (by omega) (by decide) dX6_setFeel_77 ([((a 0), mOb a 0), ((a 3), .inl (cI, 25, .inl (fun k => nI ((updN (updN fl ((5 * j1) + j2) j3) ((5 * j2) + j1) j3) k))))]) (by rw [← updN_eq]; rfl) ?_
          refine y_iload hC dX6_setFeel_78 0 rfl ?_
          refine y_world hC [0] (ws' := [((a 0), mOb a 0)]) rfl rfl ?_
          exact hE (nI 3) (0, _) _ _ _ _ dX6_setFeel_80 (Nat.le_of_ble_eq_true rfl) (Nat.le_of_ble_eq_true rfl) rfl ⟨by show (0 : Nat) = _; unfold kcFee; split <;> omega, fun _ => rfl⟩
        · refine y_aload_n hC dX6_setFeel_38 0 rfl rfl ?_
          refine y_iconst hC (v := nI 1) dX6_setFeel_39 rfl ?_
          refine y_callV_i hC (As := [.int (nI 1)]) (rest := []) (c_X6_no _ _ _ 1) nV_X6_no (inLr6 _ (List.mem_of_getElem? (i := 11) rfl)) [0] [1] [1, 0] (fun u => [((a 0), mOb a 1), ((a 3), .inl (cI, 25, .inl (fun k => nI (fl k))))]) rfl rfl rfl rfl (by decide) rfl (fun _ => rfl) 0 rfl rfl rfl rfl (Nat.le_of_ble_eq_true rfl) dX6_setFeel_40 ⟨(Nat.le_of_ble_eq_true rfl), (Nat.le_of_ble_eq_true rfl)⟩ ⟨(Nat.le_of_ble_eq_true rfl), (Nat.le_of_ble_eq_true rfl)⟩ (fun r7 u7 hw7 => ?_)
          subst hw7
          refine y_world hC [0] (ws' := [((a 0), mOb a 1)]) rfl rfl ?_
          exact hE (nI 0) (1, _) _ _ _ _ dX6_setFeel_43 (Nat.le_of_ble_eq_true rfl) (Nat.le_of_ble_eq_true rfl) rfl ⟨by show (1 : Nat) = _; unfold kcFee; split <;> omega, fun h => absurd h (by unfold kcFee; split <;> omega)⟩
theorem nV_X6_feed : yV yX6_feed RX6 cX6_feed 12 (some .int) 5 := ⟨(inLr15 _ (List.mem_of_getElem? (i := 1) rfl)), (inLr15 _ (List.mem_of_getElem? (i := 2) rfl)), (inLr1 _ (List.mem_of_getElem? (i := 5) rfl)), (inLr15 _ (List.mem_of_getElem? (i := 3) rfl)), rfl, by decide, by decide, by decide +kernel⟩
set_option maxHeartbeats 4000000 in
set_option maxRecDepth 100000 in
theorem p_X6_feed (a : Nat → Nat) (x1 : Int32) (x2 : Int32) (x3 : Int32) (x4 : Int32) (x5 : Int32)  : MI l D (tyL cI cO cJ cZ) yX6_feed cX6_feed 12 .int ({ frames := 1, cells := 1, slots := 5, locals := 60 } : Room) [.ref (a 0), .int x1, .int x2, .int x3, .int x4, .int x5] [((a 0), mOb a 0), ((a 8), .inl (cI, 80, .inl (fun k => nI (Zf k))))] (fun r u => u.1 = 0 ∧ r = nI 20) (fun (u : Nat × List Value) => [((a 0), .inr (6, .int (nI u.1) :: u.2))]) := by
  refine MI.of (by decide) (Nat.le_of_ble_eq_true rfl) (fun G hC hE => ?_)
  show G 0 0 ([((a 0), mOb a 0), ((a 8), .inl (cI, 80, .inl (fun k => nI (Zf k))))]) 0 [(0, .ref (a 0)), (1, .int x1), (2, .int x2), (3, .int x3), (4, .int x4), (5, .int x5)] []
  refine y_aload_n hC dX6_feed_0 0 rfl rfl ?_
  refine y_iconst hC (v := nI 0) dX6_feed_1 rfl ?_
  refine y_put hC cC6 0 rfl 0 (by decide) (inLr6 _ (List.mem_of_getElem? (i := 7) rfl)) rfl rfl rfl (Nat.le_of_ble_eq_true rfl) dX6_feed_2 ([((a 0), mOb a 0), ((a 8), .inl (cI, 80, .inl (fun k => nI (Zf k))))]) rfl ?_
  refine y_aload_n hC dX6_feed_5 0 rfl rfl ?_
  refine y_get hC cC6 0 rfl 15 (by decide) (inLr15 _ (List.mem_of_getElem? (i := 4) rfl)) rfl dX6_feed_6 ?_
  refine y_bipush hC (v := nI 20) dX6_feed_9 rfl ?_
  refine y_iadd hC (v := nI 20) dX6_feed_11 (by decide) ?_
  refine y_bipush hC (v := nI 80) dX6_feed_12 rfl ?_
  refine y_icmp_le_n hC 23 dX6_feed_14 (by decide) 20 80 rfl rfl (by omega) (by omega) (fun c14 => ?_) (fun c14 => absurd c14 (by omega))
  refine y_iconst hC (v := nI 5) dX6_feed_23 rfl ?_
  refine y_newa hC (atype := .int) (N := 5) (a0 := (5, .inl (fun k => nI (Zf k)))) (cA := cI) (inLr2 _ (List.mem_of_getElem? (i := 9) rfl)) rfl 0 rfl ⟨rfl, fun _ h => h⟩ (fun _ => rfl) rfl (by decide) (Nat.le_of_ble_eq_true rfl) (Nat.le_of_ble_eq_true rfl) dX6_feed_24 (fun q1 => ?_)
  show G 1 5 ([((a 0), mOb a 0), ((a 8), .inl (cI, 80, .inl (fun k => nI (Zf k)))), (q1, .inl (cI, 5, .inl (fun k => nI (Zf k))))]) 26 [(0, .ref (a 0)), (1, .int x1), (2, .int x2), (3, .int x3), (4, .int x4), (5, .int x5)] [.ref q1]
  refine y_dup hC dX6_feed_26 rfl ?_
  refine y_iconst hC (v := nI 0) dX6_feed_27 rfl ?_
  refine y_iload_n hC dX6_feed_28 1 rfl rfl ?_
  refine y_iast hC 2 0 rfl rfl 0 rfl (by omega) (by decide) dX6_feed_29 ([((a 0), mOb a 0), ((a 8), .inl (cI, 80, .inl (fun k => nI (Zf k)))), (q1, .inl (cI, 5, .inl (upd (fun k => nI (Zf k)) 0 x1)))]) rfl ?_
  refine y_dup hC dX6_feed_30 rfl ?_
  refine y_iconst hC (v := nI 1) dX6_feed_31 rfl ?_
  refine y_iload_n hC dX6_feed_32 2 rfl rfl ?_
  refine y_iast hC 2 0 rfl rfl 1 rfl (by omega) (by decide) dX6_feed_33 ([((a 0), mOb a 0), ((a 8), .inl (cI, 80, .inl (fun k => nI (Zf k)))), (q1, .inl (cI, 5, .inl (upd (upd (fun k => nI (Zf k)) 0 x1) 1 x2)))]) rfl ?_
  refine y_dup hC dX6_feed_34 rfl ?_
  refine y_iconst hC (v := nI 2) dX6_feed_35 rfl ?_
  refine y_iload_n hC dX6_feed_36 3 rfl rfl ?_
  refine y_iast hC 2 0 rfl rfl 2 rfl (by omega) (by decide) dX6_feed_37 ([((a 0), mOb a 0), ((a 8), .inl (cI, 80, .inl (fun k => nI (Zf k)))), (q1, .inl (cI, 5, .inl (upd (upd (upd (fun k => nI (Zf k)) 0 x1) 1 x2) 2 x3)))]) rfl ?_
  refine y_dup hC dX6_feed_38 rfl ?_
  refine y_iconst hC (v := nI 3) dX6_feed_39 rfl ?_
  refine y_iload hC dX6_feed_40 4 rfl ?_
  refine y_iast hC 2 0 rfl rfl 3 rfl (by omega) (by decide) dX6_feed_42 ([((a 0), mOb a 0), ((a 8), .inl (cI, 80, .inl (fun k => nI (Zf k)))), (q1, .inl (cI, 5, .inl (upd (upd (upd (upd (fun k => nI (Zf k)) 0 x1) 1 x2) 2 x3) 3 x4)))]) rfl ?_
  refine y_dup hC dX6_feed_43 rfl ?_
  refine y_iconst hC (v := nI 4) dX6_feed_44 rfl ?_
  refine y_iload hC dX6_feed_45 5 rfl ?_
  refine y_iast hC 2 0 rfl rfl 4 rfl (by omega) (by decide) dX6_feed_47 ([((a 0), mOb a 0), ((a 8), .inl (cI, 80, .inl (fun k => nI (Zf k)))), (q1, .inl (cI, 5, .inl (upd (upd (upd (upd (upd (fun k => nI (Zf k)) 0 x1) 1 x2) 2 x3) 3 x4) 4 x5)))]) rfl ?_
  refine y_astore hC [(6, .ref q1), (0, .ref (a 0)), (1, .int x1), (2, .int x2), (3, .int x3), (4, .int x4), (5, .int x5)] dX6_feed_48 (by decide) rfl ?_
  refine y_aload hC dX6_feed_50 0 rfl ?_
  refine y_astore hC [(7, .ref q1), (6, .ref q1), (0, .ref (a 0)), (1, .int x1), (2, .int x2), (3, .int x3), (4, .int x4), (5, .int x5)] dX6_feed_52 (by decide) rfl ?_
  refine y_aload hC dX6_feed_54 0 rfl ?_
  refine y_alen hC (v := nI 5) 2 0 rfl rfl rfl dX6_feed_56 ?_
  refine y_istore hC [(8, .int (nI 5)), (7, .ref q1), (6, .ref q1), (0, .ref (a 0)), (1, .int x1), (2, .int x2), (3, .int x3), (4, .int x4), (5, .int x5)] dX6_feed_57 (by decide) rfl ?_
  refine y_iconst hC (v := nI 0) dX6_feed_59 rfl ?_
  refine y_istore hC [(9, .int (nI 0)), (8, .int (nI 5)), (7, .ref q1), (6, .ref q1), (0, .ref (a 0)), (1, .int x1), (2, .int x2), (3, .int x3), (4, .int x4), (5, .int x5)] dX6_feed_60 (by decide) rfl ?_
  refine y_iload hC dX6_feed_62 0 rfl ?_
  refine y_iload hC dX6_feed_64 1 rfl ?_
  refine y_icmp_ge_n hC 127 dX6_feed_66 (by decide) 0 5 rfl rfl (by omega) (by omega) (fun c66 => absurd c66 (by omega)) (fun c66 => ?_)
  refine y_aload hC dX6_feed_69 2 rfl ?_
  refine y_iload hC dX6_feed_71 0 rfl ?_
  refine y_iald hC 2 0 rfl rfl 0 rfl (by omega) (by decide) dX6_feed_73 ?_
  refine y_istore hC [(10, .int ((upd (upd (upd (upd (upd (fun k => nI (Zf k)) 0 x1) 1 x2) 2 x3) 3 x4) 4 x5) 0)), (9, .int (nI 0)), (8, .int (nI 5)), (7, .ref q1), (6, .ref q1), (0, .ref (a 0)), (1, .int x1), (2, .int x2), (3, .int x3), (4, .int x4), (5, .int x5)] dX6_feed_74 (by decide) rfl ?_
  refine y_iconst hC (v := nI 3) dX6_feed_76 rfl ?_
  refine y_istore hC [(11, .int (nI 3)), (10, .int ((upd (upd (upd (upd (upd (fun k => nI (Zf k)) 0 x1) 1 x2) 2 x3) 3 x4) 4 x5) 0)), (9, .int (nI 0)), (8, .int (nI 5)), (7, .ref q1), (6, .ref q1), (0, .ref (a 0)), (1, .int x1), (2, .int x2), (3, .int x3), (4, .int x4), (5, .int x5)] dX6_feed_77 (by decide) rfl ?_
  refine y_iload hC dX6_feed_79 0 rfl ?_
  refine y_if_lt_n hC 121 dX6_feed_81 (by decide) 3 rfl (by omega) ?_
  refine y_aload_n hC dX6_feed_84 6 rfl rfl ?_
  refine y_get hC cC6 0 rfl 14 (by decide) (inLr4 _ (List.mem_of_getElem? (i := 17) rfl)) rfl dX6_feed_85 ?_
  refine y_aload_n hC dX6_feed_88 6 rfl rfl ?_
  refine y_get hC cC6 0 rfl 15 (by decide) (inLr15 _ (List.mem_of_getElem? (i := 4) rfl)) rfl dX6_feed_89 ?_
  refine y_iload hC dX6_feed_92 1 rfl ?_
  refine y_bipush hC (v := nI 8) dX6_feed_94 rfl ?_
  refine y_iload hC dX6_feed_96 0 rfl ?_
  refine y_imul hC (v := nI 24) dX6_feed_98 (by decide) ?_
  refine y_ishr hC (v := (((upd (upd (upd (upd (upd (fun k => nI (Zf k)) 0 x1) 1 x2) 2 x3) 3 x4) 4 x5) 0) >>> ((nI 24) &&& 31))) dX6_feed_99 rfl ?_
  refine y_sipush hC (v := nI 255) dX6_feed_100 rfl ?_
  refine y_iand hC (v := (((upd (upd (upd (upd (upd (fun k => nI (Zf k)) 0 x1) 1 x2) 2 x3) 3 x4) 4 x5) 0) >>> ((nI 24) &&& 31)) &&& (nI 255)) dX6_feed_103 rfl ?_
  refine y_iast hC 1 0 rfl rfl 0 rfl (by omega) (by decide) dX6_feed_104 ([((a 0), mOb a 0), ((a 8), .inl (cI, 80, .inl (upd (fun k => nI (Zf k)) 0 ((((upd (upd (upd (upd (upd (fun k => nI (Zf k)) 0 x1) 1 x2) 2 x3) 3 x4) 4 x5) 0) >>> ((nI 24) &&& 31)) &&& (nI 255))))), (q1, .inl (cI, 5, .inl (upd (upd (upd (upd (upd (fun k => nI (Zf k)) 0 x1) 1 x2) 2 x3) 3 x4) 4 x5)))]) rfl ?_
  suffices H9 : ∀ tp1 : Nat → Int32, G 1 5 ([((a 0), mOb a 0), ((a 8), .inl (cI, 80, .inl tp1)), (q1, .inl (cI, 5, .inl (upd (upd (upd (upd (upd (fun k => nI (Zf k)) 0 x1) 1 x2) 2 x3) 3 x4) 4 x5)))]) 105 [(11, .int (nI 3)), (10, .int ((upd (upd (upd (upd (upd (fun k => nI (Zf k)) 0 x1) 1 x2) 2 x3) 3 x4) 4 x5) 0)), (9, .int (nI 0)), (8, .int (nI 5)), (7, .ref q1), (6, .ref q1), (0, .ref (a 0)), (1, .int x1), (2, .int x2), (3, .int x3), (4, .int x4), (5, .int x5)] [] from H9 _
  intro tp1
  refine y_aload_n hC dX6_feed_105 6 rfl rfl ?_
  refine y_dup hC dX6_feed_106 rfl ?_
  refine y_get hC cC6 0 rfl 15 (by decide) (inLr15 _ (List.mem_of_getElem? (i := 4) rfl)) rfl dX6_feed_107 ?_
  refine y_iconst hC (v := nI 1) dX6_feed_110 rfl ?_
  refine y_iadd hC (v := nI 1) dX6_feed_111 (by decide) ?_
  refine y_put hC cC6 0 rfl 15 (by decide) (inLr15 _ (List.mem_of_getElem? (i := 4) rfl)) rfl rfl rfl (Nat.le_of_ble_eq_true rfl) dX6_feed_112 ([((a 0), .inr (6, [.int (nI 0), .ref (a 1), .ref (a 2), .int (nI 0), .int (nI 0), .int (nI 0), .ref (a 3), .int (nI 4), .int (nI 4), .int (nI 0), .ref (a 4), .ref (a 5), .ref (a 6), .ref (a 7), .ref (a 8), .int (nI 1), .ref (a 9), .int (nI 0), .ref (a 10), .ref (a 11), .ref (a 12), .ref (a 13), .ref (a 14)])), ((a 8), .inl (cI, 80, .inl tp1)), (q1, .inl (cI, 5, .inl (upd (upd (upd (upd (upd (fun k => nI (Zf k)) 0 x1) 1 x2) 2 x3) 3 x4) 4 x5)))]) rfl ?_
  refine y_iinc hC (v := nI 2) [(11, .int (nI 2)), (10, .int ((upd (upd (upd (upd (upd (fun k => nI (Zf k)) 0 x1) 1 x2) 2 x3) 3 x4) 4 x5) 0)), (9, .int (nI 0)), (8, .int (nI 5)), (7, .ref q1), (6, .ref q1), (0, .ref (a 0)), (1, .int x1), (2, .int x2), (3, .int x3), (4, .int x4), (5, .int x5)] dX6_feed_115 (k := 0) rfl (by decide) (by decide) rfl ?_
  refine y_goto hC 79 dX6_feed_118 (by decide) ?_
  refine y_iload hC dX6_feed_79 0 rfl ?_
  refine y_if_lt_n hC 121 dX6_feed_81 (by decide) 2 rfl (by omega) ?_
  refine y_aload_n hC dX6_feed_84 6 rfl rfl ?_
  refine y_get hC cC6 0 rfl 14 (by decide) (inLr4 _ (List.mem_of_getElem? (i := 17) rfl)) rfl dX6_feed_85 ?_
  refine y_aload_n hC dX6_feed_88 6 rfl rfl ?_
  refine y_get hC cC6 0 rfl 15 (by decide) (inLr15 _ (List.mem_of_getElem? (i := 4) rfl)) rfl dX6_feed_89 ?_
  refine y_iload hC dX6_feed_92 1 rfl ?_
  refine y_bipush hC (v := nI 8) dX6_feed_94 rfl ?_
  refine y_iload hC dX6_feed_96 0 rfl ?_
  refine y_imul hC (v := nI 16) dX6_feed_98 (by decide) ?_
  refine y_ishr hC (v := (((upd (upd (upd (upd (upd (fun k => nI (Zf k)) 0 x1) 1 x2) 2 x3) 3 x4) 4 x5) 0) >>> ((nI 16) &&& 31))) dX6_feed_99 rfl ?_
  refine y_sipush hC (v := nI 255) dX6_feed_100 rfl ?_
  refine y_iand hC (v := (((upd (upd (upd (upd (upd (fun k => nI (Zf k)) 0 x1) 1 x2) 2 x3) 3 x4) 4 x5) 0) >>> ((nI 16) &&& 31)) &&& (nI 255)) dX6_feed_103 rfl ?_
  refine y_iast hC 1 0 rfl rfl 1 rfl (by omega) (by decide) dX6_feed_104 ([((a 0), .inr (6, [.int (nI 0), .ref (a 1), .ref (a 2), .int (nI 0), .int (nI 0), .int (nI 0), .ref (a 3), .int (nI 4), .int (nI 4), .int (nI 0), .ref (a 4), .ref (a 5), .ref (a 6), .ref (a 7), .ref (a 8), .int (nI 1), .ref (a 9), .int (nI 0), .ref (a 10), .ref (a 11), .ref (a 12), .ref (a 13), .ref (a 14)])), ((a 8), .inl (cI, 80, .inl (upd tp1 1 ((((upd (upd (upd (upd (upd (fun k => nI (Zf k)) 0 x1) 1 x2) 2 x3) 3 x4) 4 x5) 0) >>> ((nI 16) &&& 31)) &&& (nI 255))))), (q1, .inl (cI, 5, .inl (upd (upd (upd (upd (upd (fun k => nI (Zf k)) 0 x1) 1 x2) 2 x3) 3 x4) 4 x5)))]) rfl ?_
  suffices H9 : ∀ tp2 : Nat → Int32, G 1 5 ([((a 0), .inr (6, [.int (nI 0), .ref (a 1), .ref (a 2), .int (nI 0), .int (nI 0), .int (nI 0), .ref (a 3), .int (nI 4), .int (nI 4), .int (nI 0), .ref (a 4), .ref (a 5), .ref (a 6), .ref (a 7), .ref (a 8), .int (nI 1), .ref (a 9), .int (nI 0), .ref (a 10), .ref (a 11), .ref (a 12), .ref (a 13), .ref (a 14)])), ((a 8), .inl (cI, 80, .inl tp2)), (q1, .inl (cI, 5, .inl (upd (upd (upd (upd (upd (fun k => nI (Zf k)) 0 x1) 1 x2) 2 x3) 3 x4) 4 x5)))]) 105 [(11, .int (nI 2)), (10, .int ((upd (upd (upd (upd (upd (fun k => nI (Zf k)) 0 x1) 1 x2) 2 x3) 3 x4) 4 x5) 0)), (9, .int (nI 0)), (8, .int (nI 5)), (7, .ref q1), (6, .ref q1), (0, .ref (a 0)), (1, .int x1), (2, .int x2), (3, .int x3), (4, .int x4), (5, .int x5)] [] from H9 _
  intro tp2
  refine y_aload_n hC dX6_feed_105 6 rfl rfl ?_
  refine y_dup hC dX6_feed_106 rfl ?_
  refine y_get hC cC6 0 rfl 15 (by decide) (inLr15 _ (List.mem_of_getElem? (i := 4) rfl)) rfl dX6_feed_107 ?_
  refine y_iconst hC (v := nI 1) dX6_feed_110 rfl ?_
  refine y_iadd hC (v := nI 2) dX6_feed_111 (by decide) ?_
  refine y_put hC cC6 0 rfl 15 (by decide) (inLr15 _ (List.mem_of_getElem? (i := 4) rfl)) rfl rfl rfl (Nat.le_of_ble_eq_true rfl) dX6_feed_112 ([((a 0), .inr (6, [.int (nI 0), .ref (a 1), .ref (a 2), .int (nI 0), .int (nI 0), .int (nI 0), .ref (a 3), .int (nI 4), .int (nI 4), .int (nI 0), .ref (a 4), .ref (a 5), .ref (a 6), .ref (a 7), .ref (a 8), .int (nI 2), .ref (a 9), .int (nI 0), .ref (a 10), .ref (a 11), .ref (a 12), .ref (a 13), .ref (a 14)])), ((a 8), .inl (cI, 80, .inl tp2)), (q1, .inl (cI, 5, .inl (upd (upd (upd (upd (upd (fun k => nI (Zf k)) 0 x1) 1 x2) 2 x3) 3 x4) 4 x5)))]) rfl ?_
  refine y_iinc hC (v := nI 1) [(11, .int (nI 1)), (10, .int ((upd (upd (upd (upd (upd (fun k => nI (Zf k)) 0 x1) 1 x2) 2 x3) 3 x4) 4 x5) 0)), (9, .int (nI 0)), (8, .int (nI 5)), (7, .ref q1), (6, .ref q1), (0, .ref (a 0)), (1, .int x1), (2, .int x2), (3, .int x3), (4, .int x4), (5, .int x5)] dX6_feed_115 (k := 0) rfl (by decide) (by decide) rfl ?_
  refine y_goto hC 79 dX6_feed_118 (by decide) ?_
  refine y_iload hC dX6_feed_79 0 rfl ?_
  refine y_if_lt_n hC 121 dX6_feed_81 (by decide) 1 rfl (by omega) ?_
  refine y_aload_n hC dX6_feed_84 6 rfl rfl ?_
  refine y_get hC cC6 0 rfl 14 (by decide) (inLr4 _ (List.mem_of_getElem? (i := 17) rfl)) rfl dX6_feed_85 ?_
  refine y_aload_n hC dX6_feed_88 6 rfl rfl ?_
  refine y_get hC cC6 0 rfl 15 (by decide) (inLr15 _ (List.mem_of_getElem? (i := 4) rfl)) rfl dX6_feed_89 ?_
  refine y_iload hC dX6_feed_92 1 rfl ?_
  refine y_bipush hC (v := nI 8) dX6_feed_94 rfl ?_
  refine y_iload hC dX6_feed_96 0 rfl ?_
  refine y_imul hC (v := nI 8) dX6_feed_98 (by decide) ?_
  refine y_ishr hC (v := (((upd (upd (upd (upd (upd (fun k => nI (Zf k)) 0 x1) 1 x2) 2 x3) 3 x4) 4 x5) 0) >>> ((nI 8) &&& 31))) dX6_feed_99 rfl ?_
  refine y_sipush hC (v := nI 255) dX6_feed_100 rfl ?_
  refine y_iand hC (v := (((upd (upd (upd (upd (upd (fun k => nI (Zf k)) 0 x1) 1 x2) 2 x3) 3 x4) 4 x5) 0) >>> ((nI 8) &&& 31)) &&& (nI 255)) dX6_feed_103 rfl ?_
  refine y_iast hC 1 0 rfl rfl 2 rfl (by omega) (by decide) dX6_feed_104 ([((a 0), .inr (6, [.int (nI 0), .ref (a 1), .ref (a 2), .int (nI 0), .int (nI 0), .int (nI 0), .ref (a 3), .int (nI 4), .int (nI 4), .int (nI 0), .ref (a 4), .ref (a 5), .ref (a 6), .ref (a 7), .ref (a 8), .int (nI 2), .ref (a 9), .int (nI 0), .ref (a 10), .ref (a 11), .ref (a 12), .ref (a 13), .ref (a 14)])), ((a 8), .inl (cI, 80, .inl (upd tp2 2 ((((upd (upd (upd (upd (upd (fun k => nI (Zf k)) 0 x1) 1 x2) 2 x3) 3 x4) 4 x5) 0) >>> ((nI 8) &&& 31)) &&& (nI 255))))), (q1, .inl (cI, 5, .inl (upd (upd (upd (upd (upd (fun k => nI (Zf k)) 0 x1) 1 x2) 2 x3) 3 x4) 4 x5)))]) rfl ?_
  suffices H9 : ∀ tp3 : Nat → Int32, G 1 5 ([((a 0), .inr (6, [.int (nI 0), .ref (a 1), .ref (a 2), .int (nI 0), .int (nI 0), .int (nI 0), .ref (a 3), .int (nI 4), .int (nI 4), .int (nI 0), .ref (a 4), .ref (a 5), .ref (a 6), .ref (a 7), .ref (a 8), .int (nI 2), .ref (a 9), .int (nI 0), .ref (a 10), .ref (a 11), .ref (a 12), .ref (a 13), .ref (a 14)])), ((a 8), .inl (cI, 80, .inl tp3)), (q1, .inl (cI, 5, .inl (upd (upd (upd (upd (upd (fun k => nI (Zf k)) 0 x1) 1 x2) 2 x3) 3 x4) 4 x5)))]) 105 [(11, .int (nI 1)), (10, .int ((upd (upd (upd (upd (upd (fun k => nI (Zf k)) 0 x1) 1 x2) 2 x3) 3 x4) 4 x5) 0)), (9, .int (nI 0)), (8, .int (nI 5)), (7, .ref q1), (6, .ref q1), (0, .ref (a 0)), (1, .int x1), (2, .int x2), (3, .int x3), (4, .int x4), (5, .int x5)] [] from H9 _
  intro tp3
  refine y_aload_n hC dX6_feed_105 6 rfl rfl ?_
  refine y_dup hC dX6_feed_106 rfl ?_
  refine y_get hC cC6 0 rfl 15 (by decide) (inLr15 _ (List.mem_of_getElem? (i := 4) rfl)) rfl dX6_feed_107 ?_
  refine y_iconst hC (v := nI 1) dX6_feed_110 rfl ?_
  refine y_iadd hC (v := nI 3) dX6_feed_111 (by decide) ?_
  refine y_put hC cC6 0 rfl 15 (by decide) (inLr15 _ (List.mem_of_getElem? (i := 4) rfl)) rfl rfl rfl (Nat.le_of_ble_eq_true rfl) dX6_feed_112 ([((a 0), .inr (6, [.int (nI 0), .ref (a 1), .ref (a 2), .int (nI 0), .int (nI 0), .int (nI 0), .ref (a 3), .int (nI 4), .int (nI 4), .int (nI 0), .ref (a 4), .ref (a 5), .ref (a 6), .ref (a 7), .ref (a 8), .int (nI 3), .ref (a 9), .int (nI 0), .ref (a 10), .ref (a 11), .ref (a 12), .ref (a 13), .ref (a 14)])), ((a 8), .inl (cI, 80, .inl tp3)), (q1, .inl (cI, 5, .inl (upd (upd (upd (upd (upd (fun k => nI (Zf k)) 0 x1) 1 x2) 2 x3) 3 x4) 4 x5)))]) rfl ?_
  refine y_iinc hC (v := nI 0) [(11, .int (nI 0)), (10, .int ((upd (upd (upd (upd (upd (fun k => nI (Zf k)) 0 x1) 1 x2) 2 x3) 3 x4) 4 x5) 0)), (9, .int (nI 0)), (8, .int (nI 5)), (7, .ref q1), (6, .ref q1), (0, .ref (a 0)), (1, .int x1), (2, .int x2), (3, .int x3), (4, .int x4), (5, .int x5)] dX6_feed_115 (k := 0) rfl (by decide) (by decide) rfl ?_
  refine y_goto hC 79 dX6_feed_118 (by decide) ?_
  refine y_iload hC dX6_feed_79 0 rfl ?_
  refine y_if_lt_n hC 121 dX6_feed_81 (by decide) 0 rfl (by omega) ?_
  refine y_aload_n hC dX6_feed_84 6 rfl rfl ?_
  refine y_get hC cC6 0 rfl 14 (by decide) (inLr4 _ (List.mem_of_getElem? (i := 17) rfl)) rfl dX6_feed_85 ?_
  refine y_aload_n hC dX6_feed_88 6 rfl rfl ?_
  refine y_get hC cC6 0 rfl 15 (by decide) (inLr15 _ (List.mem_of_getElem? (i := 4) rfl)) rfl dX6_feed_89 ?_
  refine y_iload hC dX6_feed_92 1 rfl ?_
  refine y_bipush hC (v := nI 8) dX6_feed_94 rfl ?_
  refine y_iload hC dX6_feed_96 0 rfl ?_
  refine y_imul hC (v := nI 0) dX6_feed_98 (by decide) ?_
  refine y_ishr hC (v := (((upd (upd (upd (upd (upd (fun k => nI (Zf k)) 0 x1) 1 x2) 2 x3) 3 x4) 4 x5) 0) >>> ((nI 0) &&& 31))) dX6_feed_99 rfl ?_
  refine y_sipush hC (v := nI 255) dX6_feed_100 rfl ?_
  refine y_iand hC (v := (((upd (upd (upd (upd (upd (fun k => nI (Zf k)) 0 x1) 1 x2) 2 x3) 3 x4) 4 x5) 0) >>> ((nI 0) &&& 31)) &&& (nI 255)) dX6_feed_103 rfl ?_
  refine y_iast hC 1 0 rfl rfl 3 rfl (by omega) (by decide) dX6_feed_104 ([((a 0), .inr (6, [.int (nI 0), .ref (a 1), .ref (a 2), .int (nI 0), .int (nI 0), .int (nI 0), .ref (a 3), .int (nI 4), .int (nI 4), .int (nI 0), .ref (a 4), .ref (a 5), .ref (a 6), .ref (a 7), .ref (a 8), .int (nI 3), .ref (a 9), .int (nI 0), .ref (a 10), .ref (a 11), .ref (a 12), .ref (a 13), .ref (a 14)])), ((a 8), .inl (cI, 80, .inl (upd tp3 3 ((((upd (upd (upd (upd (upd (fun k => nI (Zf k)) 0 x1) 1 x2) 2 x3) 3 x4) 4 x5) 0) >>> ((nI 0) &&& 31)) &&& (nI 255))))), (q1, .inl (cI, 5, .inl (upd (upd (upd (upd (upd (fun k => nI (Zf k)) 0 x1) 1 x2) 2 x3) 3 x4) 4 x5)))]) rfl ?_
  suffices H9 : ∀ tp4 : Nat → Int32, G 1 5 ([((a 0), .inr (6, [.int (nI 0), .ref (a 1), .ref (a 2), .int (nI 0), .int (nI 0), .int (nI 0), .ref (a 3), .int (nI 4), .int (nI 4), .int (nI 0), .ref (a 4), .ref (a 5), .ref (a 6), .ref (a 7), .ref (a 8), .int (nI 3), .ref (a 9), .int (nI 0), .ref (a 10), .ref (a 11), .ref (a 12), .ref (a 13), .ref (a 14)])), ((a 8), .inl (cI, 80, .inl tp4)), (q1, .inl (cI, 5, .inl (upd (upd (upd (upd (upd (fun k => nI (Zf k)) 0 x1) 1 x2) 2 x3) 3 x4) 4 x5)))]) 105 [(11, .int (nI 0)), (10, .int ((upd (upd (upd (upd (upd (fun k => nI (Zf k)) 0 x1) 1 x2) 2 x3) 3 x4) 4 x5) 0)), (9, .int (nI 0)), (8, .int (nI 5)), (7, .ref q1), (6, .ref q1), (0, .ref (a 0)), (1, .int x1), (2, .int x2), (3, .int x3), (4, .int x4), (5, .int x5)] [] from H9 _
  intro tp4
  refine y_aload_n hC dX6_feed_105 6 rfl rfl ?_
  refine y_dup hC dX6_feed_106 rfl ?_
  refine y_get hC cC6 0 rfl 15 (by decide) (inLr15 _ (List.mem_of_getElem? (i := 4) rfl)) rfl dX6_feed_107 ?_
  refine y_iconst hC (v := nI 1) dX6_feed_110 rfl ?_
  refine y_iadd hC (v := nI 4) dX6_feed_111 (by decide) ?_
  refine y_put hC cC6 0 rfl 15 (by decide) (inLr15 _ (List.mem_of_getElem? (i := 4) rfl)) rfl rfl rfl (Nat.le_of_ble_eq_true rfl) dX6_feed_112 ([((a 0), .inr (6, [.int (nI 0), .ref (a 1), .ref (a 2), .int (nI 0), .int (nI 0), .int (nI 0), .ref (a 3), .int (nI 4), .int (nI 4), .int (nI 0), .ref (a 4), .ref (a 5), .ref (a 6), .ref (a 7), .ref (a 8), .int (nI 4), .ref (a 9), .int (nI 0), .ref (a 10), .ref (a 11), .ref (a 12), .ref (a 13), .ref (a 14)])), ((a 8), .inl (cI, 80, .inl tp4)), (q1, .inl (cI, 5, .inl (upd (upd (upd (upd (upd (fun k => nI (Zf k)) 0 x1) 1 x2) 2 x3) 3 x4) 4 x5)))]) rfl ?_
  refine y_iinc hC (v := (-1)) [(11, .int (-1)), (10, .int ((upd (upd (upd (upd (upd (fun k => nI (Zf k)) 0 x1) 1 x2) 2 x3) 3 x4) 4 x5) 0)), (9, .int (nI 0)), (8, .int (nI 5)), (7, .ref q1), (6, .ref q1), (0, .ref (a 0)), (1, .int x1), (2, .int x2), (3, .int x3), (4, .int x4), (5, .int x5)] dX6_feed_115 (k := 0) rfl (by decide) (by decide) rfl ?_
  refine y_goto hC 79 dX6_feed_118 (by decide) ?_
  refine y_iload hC dX6_feed_79 0 rfl ?_
  refine y_if_lt_z hC 121 dX6_feed_81 (by decide) (fun c81 => ?_) (fun c81 => absurd c81 (by decide))
  refine y_iinc hC (v := nI 1) [(9, .int (nI 1)), (11, .int (-1)), (10, .int ((upd (upd (upd (upd (upd (fun k => nI (Zf k)) 0 x1) 1 x2) 2 x3) 3 x4) 4 x5) 0)), (8, .int (nI 5)), (7, .ref q1), (6, .ref q1), (0, .ref (a 0)), (1, .int x1), (2, .int x2), (3, .int x3), (4, .int x4), (5, .int x5)] dX6_feed_121 (k := 2) rfl (ninc _) (by decide) rfl ?_
  refine y_goto hC 62 dX6_feed_124 (by decide) ?_
  refine y_iload hC dX6_feed_62 0 rfl ?_
  refine y_iload hC dX6_feed_64 3 rfl ?_
  refine y_icmp_ge_n hC 127 dX6_feed_66 (by decide) 1 5 rfl rfl (by omega) (by omega) (fun c66 => absurd c66 (by omega)) (fun c66 => ?_)
  refine y_aload hC dX6_feed_69 4 rfl ?_
  refine y_iload hC dX6_feed_71 0 rfl ?_
  refine y_iald hC 2 0 rfl rfl 1 rfl (by omega) (by decide) dX6_feed_73 ?_
  refine y_istore hC [(10, .int ((upd (upd (upd (upd (upd (fun k => nI (Zf k)) 0 x1) 1 x2) 2 x3) 3 x4) 4 x5) 1)), (9, .int (nI 1)), (11, .int (-1)), (8, .int (nI 5)), (7, .ref q1), (6, .ref q1), (0, .ref (a 0)), (1, .int x1), (2, .int x2), (3, .int x3), (4, .int x4), (5, .int x5)] dX6_feed_74 (by decide) rfl ?_
  refine y_iconst hC (v := nI 3) dX6_feed_76 rfl ?_
  refine y_istore hC [(11, .int (nI 3)), (10, .int ((upd (upd (upd (upd (upd (fun k => nI (Zf k)) 0 x1) 1 x2) 2 x3) 3 x4) 4 x5) 1)), (9, .int (nI 1)), (8, .int (nI 5)), (7, .ref q1), (6, .ref q1), (0, .ref (a 0)), (1, .int x1), (2, .int x2), (3, .int x3), (4, .int x4), (5, .int x5)] dX6_feed_77 (by decide) rfl ?_
  refine y_iload hC dX6_feed_79 0 rfl ?_
  refine y_if_lt_n hC 121 dX6_feed_81 (by decide) 3 rfl (by omega) ?_
  refine y_aload_n hC dX6_feed_84 6 rfl rfl ?_
  refine y_get hC cC6 0 rfl 14 (by decide) (inLr4 _ (List.mem_of_getElem? (i := 17) rfl)) rfl dX6_feed_85 ?_
  refine y_aload_n hC dX6_feed_88 6 rfl rfl ?_
  refine y_get hC cC6 0 rfl 15 (by decide) (inLr15 _ (List.mem_of_getElem? (i := 4) rfl)) rfl dX6_feed_89 ?_
  refine y_iload hC dX6_feed_92 1 rfl ?_
  refine y_bipush hC (v := nI 8) dX6_feed_94 rfl ?_
  refine y_iload hC dX6_feed_96 0 rfl ?_
  refine y_imul hC (v := nI 24) dX6_feed_98 (by decide) ?_
  refine y_ishr hC (v := (((upd (upd (upd (upd (upd (fun k => nI (Zf k)) 0 x1) 1 x2) 2 x3) 3 x4) 4 x5) 1) >>> ((nI 24) &&& 31))) dX6_feed_99 rfl ?_
  refine y_sipush hC (v := nI 255) dX6_feed_100 rfl ?_
  refine y_iand hC (v := (((upd (upd (upd (upd (upd (fun k => nI (Zf k)) 0 x1) 1 x2) 2 x3) 3 x4) 4 x5) 1) >>> ((nI 24) &&& 31)) &&& (nI 255)) dX6_feed_103 rfl ?_
  refine y_iast hC 1 0 rfl rfl 4 rfl (by omega) (by decide) dX6_feed_104 ([((a 0), .inr (6, [.int (nI 0), .ref (a 1), .ref (a 2), .int (nI 0), .int (nI 0), .int (nI 0), .ref (a 3), .int (nI 4), .int (nI 4), .int (nI 0), .ref (a 4), .ref (a 5), .ref (a 6), .ref (a 7), .ref (a 8), .int (nI 4), .ref (a 9), .int (nI 0), .ref (a 10), .ref (a 11), .ref (a 12), .ref (a 13), .ref (a 14)])), ((a 8), .inl (cI, 80, .inl (upd tp4 4 ((((upd (upd (upd (upd (upd (fun k => nI (Zf k)) 0 x1) 1 x2) 2 x3) 3 x4) 4 x5) 1) >>> ((nI 24) &&& 31)) &&& (nI 255))))), (q1, .inl (cI, 5, .inl (upd (upd (upd (upd (upd (fun k => nI (Zf k)) 0 x1) 1 x2) 2 x3) 3 x4) 4 x5)))]) rfl ?_
  suffices H9 : ∀ tp5 : Nat → Int32, G 1 5 ([((a 0), .inr (6, [.int (nI 0), .ref (a 1), .ref (a 2), .int (nI 0), .int (nI 0), .int (nI 0), .ref (a 3), .int (nI 4), .int (nI 4), .int (nI 0), .ref (a 4), .ref (a 5), .ref (a 6), .ref (a 7), .ref (a 8), .int (nI 4), .ref (a 9), .int (nI 0), .ref (a 10), .ref (a 11), .ref (a 12), .ref (a 13), .ref (a 14)])), ((a 8), .inl (cI, 80, .inl tp5)), (q1, .inl (cI, 5, .inl (upd (upd (upd (upd (upd (fun k => nI (Zf k)) 0 x1) 1 x2) 2 x3) 3 x4) 4 x5)))]) 105 [(11, .int (nI 3)), (10, .int ((upd (upd (upd (upd (upd (fun k => nI (Zf k)) 0 x1) 1 x2) 2 x3) 3 x4) 4 x5) 1)), (9, .int (nI 1)), (8, .int (nI 5)), (7, .ref q1), (6, .ref q1), (0, .ref (a 0)), (1, .int x1), (2, .int x2), (3, .int x3), (4, .int x4), (5, .int x5)] [] from H9 _
  intro tp5
  refine y_aload_n hC dX6_feed_105 6 rfl rfl ?_
  refine y_dup hC dX6_feed_106 rfl ?_
  refine y_get hC cC6 0 rfl 15 (by decide) (inLr15 _ (List.mem_of_getElem? (i := 4) rfl)) rfl dX6_feed_107 ?_
  refine y_iconst hC (v := nI 1) dX6_feed_110 rfl ?_
  refine y_iadd hC (v := nI 5) dX6_feed_111 (by decide) ?_
  refine y_put hC cC6 0 rfl 15 (by decide) (inLr15 _ (List.mem_of_getElem? (i := 4) rfl)) rfl rfl rfl (Nat.le_of_ble_eq_true rfl) dX6_feed_112 ([((a 0), .inr (6, [.int (nI 0), .ref (a 1), .ref (a 2), .int (nI 0), .int (nI 0), .int (nI 0), .ref (a 3), .int (nI 4), .int (nI 4), .int (nI 0), .ref (a 4), .ref (a 5), .ref (a 6), .ref (a 7), .ref (a 8), .int (nI 5), .ref (a 9), .int (nI 0), .ref (a 10), .ref (a 11), .ref (a 12), .ref (a 13), .ref (a 14)])), ((a 8), .inl (cI, 80, .inl tp5)), (q1, .inl (cI, 5, .inl (upd (upd (upd (upd (upd (fun k => nI (Zf k)) 0 x1) 1 x2) 2 x3) 3 x4) 4 x5)))]) rfl ?_
  refine y_iinc hC (v := nI 2) [(11, .int (nI 2)), (10, .int ((upd (upd (upd (upd (upd (fun k => nI (Zf k)) 0 x1) 1 x2) 2 x3) 3 x4) 4 x5) 1)), (9, .int (nI 1)), (8, .int (nI 5)), (7, .ref q1), (6, .ref q1), (0, .ref (a 0)), (1, .int x1), (2, .int x2), (3, .int x3), (4, .int x4), (5, .int x5)] dX6_feed_115 (k := 0) rfl (by decide) (by decide) rfl ?_
  refine y_goto hC 79 dX6_feed_118 (by decide) ?_
  refine y_iload hC dX6_feed_79 0 rfl ?_
  refine y_if_lt_n hC 121 dX6_feed_81 (by decide) 2 rfl (by omega) ?_
  refine y_aload_n hC dX6_feed_84 6 rfl rfl ?_
  refine y_get hC cC6 0 rfl 14 (by decide) (inLr4 _ (List.mem_of_getElem? (i := 17) rfl)) rfl dX6_feed_85 ?_
  refine y_aload_n hC dX6_feed_88 6 rfl rfl ?_
  refine y_get hC cC6 0 rfl 15 (by decide) (inLr15 _ (List.mem_of_getElem? (i := 4) rfl)) rfl dX6_feed_89 ?_
  refine y_iload hC dX6_feed_92 1 rfl ?_
  refine y_bipush hC (v := nI 8) dX6_feed_94 rfl ?_
  refine y_iload hC dX6_feed_96 0 rfl ?_
  refine y_imul hC (v := nI 16) dX6_feed_98 (by decide) ?_
  refine y_ishr hC (v := (((upd (upd (upd (upd (upd (fun k => nI (Zf k)) 0 x1) 1 x2) 2 x3) 3 x4) 4 x5) 1) >>> ((nI 16) &&& 31))) dX6_feed_99 rfl ?_
  refine y_sipush hC (v := nI 255) dX6_feed_100 rfl ?_
  refine y_iand hC (v := (((upd (upd (upd (upd (upd (fun k => nI (Zf k)) 0 x1) 1 x2) 2 x3) 3 x4) 4 x5) 1) >>> ((nI 16) &&& 31)) &&& (nI 255)) dX6_feed_103 rfl ?_
  refine y_iast hC 1 0 rfl rfl 5 rfl (by omega) (by decide) dX6_feed_104 ([((a 0), .inr (6, [.int (nI 0), .ref (a 1), .ref (a 2), .int (nI 0), .int (nI 0), .int (nI 0), .ref (a 3), .int (nI 4), .int (nI 4), .int (nI 0), .ref (a 4), .ref (a 5), .ref (a 6), .ref (a 7), .ref (a 8), .int (nI 5), .ref (a 9), .int (nI 0), .ref (a 10), .ref (a 11), .ref (a 12), .ref (a 13), .ref (a 14)])), ((a 8), .inl (cI, 80, .inl (upd tp5 5 ((((upd (upd (upd (upd (upd (fun k => nI (Zf k)) 0 x1) 1 x2) 2 x3) 3 x4) 4 x5) 1) >>> ((nI 16) &&& 31)) &&& (nI 255))))), (q1, .inl (cI, 5, .inl (upd (upd (upd (upd (upd (fun k => nI (Zf k)) 0 x1) 1 x2) 2 x3) 3 x4) 4 x5)))]) rfl ?_
  suffices H9 : ∀ tp6 : Nat → Int32, G 1 5 ([((a 0), .inr (6, [.int (nI 0), .ref (a 1), .ref (a 2), .int (nI 0), .int (nI 0), .int (nI 0), .ref (a 3), .int (nI 4), .int (nI 4), .int (nI 0), .ref (a 4), .ref (a 5), .ref (a 6), .ref (a 7), .ref (a 8), .int (nI 5), .ref (a 9), .int (nI 0), .ref (a 10), .ref (a 11), .ref (a 12), .ref (a 13), .ref (a 14)])), ((a 8), .inl (cI, 80, .inl tp6)), (q1, .inl (cI, 5, .inl (upd (upd (upd (upd (upd (fun k => nI (Zf k)) 0 x1) 1 x2) 2 x3) 3 x4) 4 x5)))]) 105 [(11, .int (nI 2)), (10, .int ((upd (upd (upd (upd (upd (fun k => nI (Zf k)) 0 x1) 1 x2) 2 x3) 3 x4) 4 x5) 1)), (9, .int (nI 1)), (8, .int (nI 5)), (7, .ref q1), (6, .ref q1), (0, .ref (a 0)), (1, .int x1), (2, .int x2), (3, .int x3), (4, .int x4), (5, .int x5)] [] from H9 _
  intro tp6
  refine y_aload_n hC dX6_feed_105 6 rfl rfl ?_
  refine y_dup hC dX6_feed_106 rfl ?_
  refine y_get hC cC6 0 rfl 15 (by decide) (inLr15 _ (List.mem_of_getElem? (i := 4) rfl)) rfl dX6_feed_107 ?_
  refine y_iconst hC (v := nI 1) dX6_feed_110 rfl ?_
  refine y_iadd hC (v := nI 6) dX6_feed_111 (by decide) ?_
  refine y_put hC cC6 0 rfl 15 (by decide) (inLr15 _ (List.mem_of_getElem? (i := 4) rfl)) rfl rfl rfl (Nat.le_of_ble_eq_true rfl) dX6_feed_112 ([((a 0), .inr (6, [.int (nI 0), .ref (a 1), .ref (a 2), .int (nI 0), .int (nI 0), .int (nI 0), .ref (a 3), .int (nI 4), .int (nI 4), .int (nI 0), .ref (a 4), .ref (a 5), .ref (a 6), .ref (a 7), .ref (a 8), .int (nI 6), .ref (a 9), .int (nI 0), .ref (a 10), .ref (a 11), .ref (a 12), .ref (a 13), .ref (a 14)])), ((a 8), .inl (cI, 80, .inl tp6)), (q1, .inl (cI, 5, .inl (upd (upd (upd (upd (upd (fun k => nI (Zf k)) 0 x1) 1 x2) 2 x3) 3 x4) 4 x5)))]) rfl ?_
  refine y_iinc hC (v := nI 1) [(11, .int (nI 1)), (10, .int ((upd (upd (upd (upd (upd (fun k => nI (Zf k)) 0 x1) 1 x2) 2 x3) 3 x4) 4 x5) 1)), (9, .int (nI 1)), (8, .int (nI 5)), (7, .ref q1), (6, .ref q1), (0, .ref (a 0)), (1, .int x1), (2, .int x2), (3, .int x3), (4, .int x4), (5, .int x5)] dX6_feed_115 (k := 0) rfl (by decide) (by decide) rfl ?_
  refine y_goto hC 79 dX6_feed_118 (by decide) ?_
  refine y_iload hC dX6_feed_79 0 rfl ?_
  refine y_if_lt_n hC 121 dX6_feed_81 (by decide) 1 rfl (by omega) ?_
  refine y_aload_n hC dX6_feed_84 6 rfl rfl ?_
  refine y_get hC cC6 0 rfl 14 (by decide) (inLr4 _ (List.mem_of_getElem? (i := 17) rfl)) rfl dX6_feed_85 ?_
  refine y_aload_n hC dX6_feed_88 6 rfl rfl ?_
  refine y_get hC cC6 0 rfl 15 (by decide) (inLr15 _ (List.mem_of_getElem? (i := 4) rfl)) rfl dX6_feed_89 ?_
  refine y_iload hC dX6_feed_92 1 rfl ?_
  refine y_bipush hC (v := nI 8) dX6_feed_94 rfl ?_
  refine y_iload hC dX6_feed_96 0 rfl ?_
  refine y_imul hC (v := nI 8) dX6_feed_98 (by decide) ?_
  refine y_ishr hC (v := (((upd (upd (upd (upd (upd (fun k => nI (Zf k)) 0 x1) 1 x2) 2 x3) 3 x4) 4 x5) 1) >>> ((nI 8) &&& 31))) dX6_feed_99 rfl ?_
  refine y_sipush hC (v := nI 255) dX6_feed_100 rfl ?_
  refine y_iand hC (v := (((upd (upd (upd (upd (upd (fun k => nI (Zf k)) 0 x1) 1 x2) 2 x3) 3 x4) 4 x5) 1) >>> ((nI 8) &&& 31)) &&& (nI 255)) dX6_feed_103 rfl ?_
  refine y_iast hC 1 0 rfl rfl 6 rfl (by omega) (by decide) dX6_feed_104 ([((a 0), .inr (6, [.int (nI 0), .ref (a 1), .ref (a 2), .int (nI 0), .int (nI 0), .int (nI 0), .ref (a 3), .int (nI 4), .int (nI 4), .int (nI 0), .ref (a 4), .ref (a 5), .ref (a 6), .ref (a 7), .ref (a 8), .int (nI 6), .ref (a 9), .int (nI 0), .ref (a 10), .ref (a 11), .ref (a 12), .ref (a 13), .ref (a 14)])), ((a 8), .inl (cI, 80, .inl (upd tp6 6 ((((upd (upd (upd (upd (upd (fun k => nI (Zf k)) 0 x1) 1 x2) 2 x3) 3 x4) 4 x5) 1) >>> ((nI 8) &&& 31)) &&& (nI 255))))), (q1, .inl (cI, 5, .inl (upd (upd (upd (upd (upd (fun k => nI (Zf k)) 0 x1) 1 x2) 2 x3) 3 x4) 4 x5)))]) rfl ?_
  suffices H9 : ∀ tp7 : Nat → Int32, G 1 5 ([((a 0), .inr (6, [.int (nI 0), .ref (a 1), .ref (a 2), .int (nI 0), .int (nI 0), .int (nI 0), .ref (a 3), .int (nI 4), .int (nI 4), .int (nI 0), .ref (a 4), .ref (a 5), .ref (a 6), .ref (a 7), .ref (a 8), .int (nI 6), .ref (a 9), .int (nI 0), .ref (a 10), .ref (a 11), .ref (a 12), .ref (a 13), .ref (a 14)])), ((a 8), .inl (cI, 80, .inl tp7)), (q1, .inl (cI, 5, .inl (upd (upd (upd (upd (upd (fun k => nI (Zf k)) 0 x1) 1 x2) 2 x3) 3 x4) 4 x5)))]) 105 [(11, .int (nI 1)), (10, .int ((upd (upd (upd (upd (upd (fun k => nI (Zf k)) 0 x1) 1 x2) 2 x3) 3 x4) 4 x5) 1)), (9, .int (nI 1)), (8, .int (nI 5)), (7, .ref q1), (6, .ref q1), (0, .ref (a 0)), (1, .int x1), (2, .int x2), (3, .int x3), (4, .int x4), (5, .int x5)] [] from H9 _
  intro tp7
  refine y_aload_n hC dX6_feed_105 6 rfl rfl ?_
  refine y_dup hC dX6_feed_106 rfl ?_
  refine y_get hC cC6 0 rfl 15 (by decide) (inLr15 _ (List.mem_of_getElem? (i := 4) rfl)) rfl dX6_feed_107 ?_
  refine y_iconst hC (v := nI 1) dX6_feed_110 rfl ?_
  refine y_iadd hC (v := nI 7) dX6_feed_111 (by decide) ?_
  refine y_put hC cC6 0 rfl 15 (by decide) (inLr15 _ (List.mem_of_getElem? (i := 4) rfl)) rfl rfl rfl (Nat.le_of_ble_eq_true rfl) dX6_feed_112 ([((a 0), .inr (6, [.int (nI 0), .ref (a 1), .ref (a 2), .int (nI 0), .int (nI 0), .int (nI 0), .ref (a 3), .int (nI 4), .int (nI 4), .int (nI 0), .ref (a 4), .ref (a 5), .ref (a 6), .ref (a 7), .ref (a 8), .int (nI 7), .ref (a 9), .int (nI 0), .ref (a 10), .ref (a 11), .ref (a 12), .ref (a 13), .ref (a 14)])), ((a 8), .inl (cI, 80, .inl tp7)), (q1, .inl (cI, 5, .inl (upd (upd (upd (upd (upd (fun k => nI (Zf k)) 0 x1) 1 x2) 2 x3) 3 x4) 4 x5)))]) rfl ?_
  refine y_iinc hC (v := nI 0) [(11, .int (nI 0)), (10, .int ((upd (upd (upd (upd (upd (fun k => nI (Zf k)) 0 x1) 1 x2) 2 x3) 3 x4) 4 x5) 1)), (9, .int (nI 1)), (8, .int (nI 5)), (7, .ref q1), (6, .ref q1), (0, .ref (a 0)), (1, .int x1), (2, .int x2), (3, .int x3), (4, .int x4), (5, .int x5)] dX6_feed_115 (k := 0) rfl (by decide) (by decide) rfl ?_
  refine y_goto hC 79 dX6_feed_118 (by decide) ?_
  refine y_iload hC dX6_feed_79 0 rfl ?_
  refine y_if_lt_n hC 121 dX6_feed_81 (by decide) 0 rfl (by omega) ?_
  refine y_aload_n hC dX6_feed_84 6 rfl rfl ?_
  refine y_get hC cC6 0 rfl 14 (by decide) (inLr4 _ (List.mem_of_getElem? (i := 17) rfl)) rfl dX6_feed_85 ?_
  refine y_aload_n hC dX6_feed_88 6 rfl rfl ?_
  refine y_get hC cC6 0 rfl 15 (by decide) (inLr15 _ (List.mem_of_getElem? (i := 4) rfl)) rfl dX6_feed_89 ?_
  refine y_iload hC dX6_feed_92 1 rfl ?_
  refine y_bipush hC (v := nI 8) dX6_feed_94 rfl ?_
  refine y_iload hC dX6_feed_96 0 rfl ?_
  refine y_imul hC (v := nI 0) dX6_feed_98 (by decide) ?_
  refine y_ishr hC (v := (((upd (upd (upd (upd (upd (fun k => nI (Zf k)) 0 x1) 1 x2) 2 x3) 3 x4) 4 x5) 1) >>> ((nI 0) &&& 31))) dX6_feed_99 rfl ?_
  refine y_sipush hC (v := nI 255) dX6_feed_100 rfl ?_
  refine y_iand hC (v := (((upd (upd (upd (upd (upd (fun k => nI (Zf k)) 0 x1) 1 x2) 2 x3) 3 x4) 4 x5) 1) >>> ((nI 0) &&& 31)) &&& (nI 255)) dX6_feed_103 rfl ?_
  refine y_iast hC 1 0 rfl rfl 7 rfl (by omega) (by decide) dX6_feed_104 ([((a 0), .inr (6, [.int (nI 0), .ref (a 1), .ref (a 2), .int (nI 0), .int (nI 0), .int (nI 0), .ref (a 3), .int (nI 4), .int (nI 4), .int (nI 0), .ref (a 4), .ref (a 5), .ref (a 6), .ref (a 7), .ref (a 8), .int (nI 7), .ref (a 9), .int (nI 0), .ref (a 10), .ref (a 11), .ref (a 12), .ref (a 13), .ref (a 14)])), ((a 8), .inl (cI, 80, .inl (upd tp7 7 ((((upd (upd (upd (upd (upd (fun k => nI (Zf k)) 0 x1) 1 x2) 2 x3) 3 x4) 4 x5) 1) >>> ((nI 0) &&& 31)) &&& (nI 255))))), (q1, .inl (cI, 5, .inl (upd (upd (upd (upd (upd (fun k => nI (Zf k)) 0 x1) 1 x2) 2 x3) 3 x4) 4 x5)))]) rfl ?_
  suffices H9 : ∀ tp8 : Nat → Int32, G 1 5 ([((a 0), .inr (6, [.int (nI 0), .ref (a 1), .ref (a 2), .int (nI 0), .int (nI 0), .int (nI 0), .ref (a 3), .int (nI 4), .int (nI 4), .int (nI 0), .ref (a 4), .ref (a 5), .ref (a 6), .ref (a 7), .ref (a 8), .int (nI 7), .ref (a 9), .int (nI 0), .ref (a 10), .ref (a 11), .ref (a 12), .ref (a 13), .ref (a 14)])), ((a 8), .inl (cI, 80, .inl tp8)), (q1, .inl (cI, 5, .inl (upd (upd (upd (upd (upd (fun k => nI (Zf k)) 0 x1) 1 x2) 2 x3) 3 x4) 4 x5)))]) 105 [(11, .int (nI 0)), (10, .int ((upd (upd (upd (upd (upd (fun k => nI (Zf k)) 0 x1) 1 x2) 2 x3) 3 x4) 4 x5) 1)), (9, .int (nI 1)), (8, .int (nI 5)), (7, .ref q1), (6, .ref q1), (0, .ref (a 0)), (1, .int x1), (2, .int x2), (3, .int x3), (4, .int x4), (5, .int x5)] [] from H9 _
  intro tp8
  refine y_aload_n hC dX6_feed_105 6 rfl rfl ?_
  refine y_dup hC dX6_feed_106 rfl ?_
  refine y_get hC cC6 0 rfl 15 (by decide) (inLr15 _ (List.mem_of_getElem? (i := 4) rfl)) rfl dX6_feed_107 ?_
  refine y_iconst hC (v := nI 1) dX6_feed_110 rfl ?_
  refine y_iadd hC (v := nI 8) dX6_feed_111 (by decide) ?_
  refine y_put hC cC6 0 rfl 15 (by decide) (inLr15 _ (List.mem_of_getElem? (i := 4) rfl)) rfl rfl rfl (Nat.le_of_ble_eq_true rfl) dX6_feed_112 ([((a 0), .inr (6, [.int (nI 0), .ref (a 1), .ref (a 2), .int (nI 0), .int (nI 0), .int (nI 0), .ref (a 3), .int (nI 4), .int (nI 4), .int (nI 0), .ref (a 4), .ref (a 5), .ref (a 6), .ref (a 7), .ref (a 8), .int (nI 8), .ref (a 9), .int (nI 0), .ref (a 10), .ref (a 11), .ref (a 12), .ref (a 13), .ref (a 14)])), ((a 8), .inl (cI, 80, .inl tp8)), (q1, .inl (cI, 5, .inl (upd (upd (upd (upd (upd (fun k => nI (Zf k)) 0 x1) 1 x2) 2 x3) 3 x4) 4 x5)))]) rfl ?_
  refine y_iinc hC (v := (-1)) [(11, .int (-1)), (10, .int ((upd (upd (upd (upd (upd (fun k => nI (Zf k)) 0 x1) 1 x2) 2 x3) 3 x4) 4 x5) 1)), (9, .int (nI 1)), (8, .int (nI 5)), (7, .ref q1), (6, .ref q1), (0, .ref (a 0)), (1, .int x1), (2, .int x2), (3, .int x3), (4, .int x4), (5, .int x5)] dX6_feed_115 (k := 0) rfl (by decide) (by decide) rfl ?_
  refine y_goto hC 79 dX6_feed_118 (by decide) ?_
  refine y_iload hC dX6_feed_79 0 rfl ?_
  refine y_if_lt_z hC 121 dX6_feed_81 (by decide) (fun c81 => ?_) (fun c81 => absurd c81 (by decide))
  refine y_iinc hC (v := nI 2) [(9, .int (nI 2)), (11, .int (-1)), (10, .int ((upd (upd (upd (upd (upd (fun k => nI (Zf k)) 0 x1) 1 x2) 2 x3) 3 x4) 4 x5) 1)), (8, .int (nI 5)), (7, .ref q1), (6, .ref q1), (0, .ref (a 0)), (1, .int x1), (2, .int x2), (3, .int x3), (4, .int x4), (5, .int x5)] dX6_feed_121 (k := 2) rfl (ninc _) (by decide) rfl ?_
  refine y_goto hC 62 dX6_feed_124 (by decide) ?_
  refine y_iload hC dX6_feed_62 0 rfl ?_
  refine y_iload hC dX6_feed_64 3 rfl ?_
  refine y_icmp_ge_n hC 127 dX6_feed_66 (by decide) 2 5 rfl rfl (by omega) (by omega) (fun c66 => absurd c66 (by omega)) (fun c66 => ?_)
  refine y_aload hC dX6_feed_69 4 rfl ?_
  refine y_iload hC dX6_feed_71 0 rfl ?_
  refine y_iald hC 2 0 rfl rfl 2 rfl (by omega) (by decide) dX6_feed_73 ?_
  refine y_istore hC [(10, .int ((upd (upd (upd (upd (upd (fun k => nI (Zf k)) 0 x1) 1 x2) 2 x3) 3 x4) 4 x5) 2)), (9, .int (nI 2)), (11, .int (-1)), (8, .int (nI 5)), (7, .ref q1), (6, .ref q1), (0, .ref (a 0)), (1, .int x1), (2, .int x2), (3, .int x3), (4, .int x4), (5, .int x5)] dX6_feed_74 (by decide) rfl ?_
  refine y_iconst hC (v := nI 3) dX6_feed_76 rfl ?_
  refine y_istore hC [(11, .int (nI 3)), (10, .int ((upd (upd (upd (upd (upd (fun k => nI (Zf k)) 0 x1) 1 x2) 2 x3) 3 x4) 4 x5) 2)), (9, .int (nI 2)), (8, .int (nI 5)), (7, .ref q1), (6, .ref q1), (0, .ref (a 0)), (1, .int x1), (2, .int x2), (3, .int x3), (4, .int x4), (5, .int x5)] dX6_feed_77 (by decide) rfl ?_
  refine y_iload hC dX6_feed_79 0 rfl ?_
  refine y_if_lt_n hC 121 dX6_feed_81 (by decide) 3 rfl (by omega) ?_
  refine y_aload_n hC dX6_feed_84 6 rfl rfl ?_
  refine y_get hC cC6 0 rfl 14 (by decide) (inLr4 _ (List.mem_of_getElem? (i := 17) rfl)) rfl dX6_feed_85 ?_
  refine y_aload_n hC dX6_feed_88 6 rfl rfl ?_
  refine y_get hC cC6 0 rfl 15 (by decide) (inLr15 _ (List.mem_of_getElem? (i := 4) rfl)) rfl dX6_feed_89 ?_
  refine y_iload hC dX6_feed_92 1 rfl ?_
  refine y_bipush hC (v := nI 8) dX6_feed_94 rfl ?_
  refine y_iload hC dX6_feed_96 0 rfl ?_
  refine y_imul hC (v := nI 24) dX6_feed_98 (by decide) ?_
  refine y_ishr hC (v := (((upd (upd (upd (upd (upd (fun k => nI (Zf k)) 0 x1) 1 x2) 2 x3) 3 x4) 4 x5) 2) >>> ((nI 24) &&& 31))) dX6_feed_99 rfl ?_
  refine y_sipush hC (v := nI 255) dX6_feed_100 rfl ?_
  refine y_iand hC (v := (((upd (upd (upd (upd (upd (fun k => nI (Zf k)) 0 x1) 1 x2) 2 x3) 3 x4) 4 x5) 2) >>> ((nI 24) &&& 31)) &&& (nI 255)) dX6_feed_103 rfl ?_
  refine y_iast hC 1 0 rfl rfl 8 rfl (by omega) (by decide) dX6_feed_104 ([((a 0), .inr (6, [.int (nI 0), .ref (a 1), .ref (a 2), .int (nI 0), .int (nI 0), .int (nI 0), .ref (a 3), .int (nI 4), .int (nI 4), .int (nI 0), .ref (a 4), .ref (a 5), .ref (a 6), .ref (a 7), .ref (a 8), .int (nI 8), .ref (a 9), .int (nI 0), .ref (a 10), .ref (a 11), .ref (a 12), .ref (a 13), .ref (a 14)])), ((a 8), .inl (cI, 80, .inl (upd tp8 8 ((((upd (upd (upd (upd (upd (fun k => nI (Zf k)) 0 x1) 1 x2) 2 x3) 3 x4) 4 x5) 2) >>> ((nI 24) &&& 31)) &&& (nI 255))))), (q1, .inl (cI, 5, .inl (upd (upd (upd (upd (upd (fun k => nI (Zf k)) 0 x1) 1 x2) 2 x3) 3 x4) 4 x5)))]) rfl ?_
  suffices H9 : ∀ tp9 : Nat → Int32, G 1 5 ([((a 0), .inr (6, [.int (nI 0), .ref (a 1), .ref (a 2), .int (nI 0), .int (nI 0), .int (nI 0), .ref (a 3), .int (nI 4), .int (nI 4), .int (nI 0), .ref (a 4), .ref (a 5), .ref (a 6), .ref (a 7), .ref (a 8), .int (nI 8), .ref (a 9), .int (nI 0), .ref (a 10), .ref (a 11), .ref (a 12), .ref (a 13), .ref (a 14)])), ((a 8), .inl (cI, 80, .inl tp9)), (q1, .inl (cI, 5, .inl (upd (upd (upd (upd (upd (fun k => nI (Zf k)) 0 x1) 1 x2) 2 x3) 3 x4) 4 x5)))]) 105 [(11, .int (nI 3)), (10, .int ((upd (upd (upd (upd (upd (fun k => nI (Zf k)) 0 x1) 1 x2) 2 x3) 3 x4) 4 x5) 2)), (9, .int (nI 2)), (8, .int (nI 5)), (7, .ref q1), (6, .ref q1), (0, .ref (a 0)), (1, .int x1), (2, .int x2), (3, .int x3), (4, .int x4), (5, .int x5)] [] from H9 _
  intro tp9
  refine y_aload_n hC dX6_feed_105 6 rfl rfl ?_
  refine y_dup hC dX6_feed_106 rfl ?_
  refine y_get hC cC6 0 rfl 15 (by decide) (inLr15 _ (List.mem_of_getElem? (i := 4) rfl)) rfl dX6_feed_107 ?_
  refine y_iconst hC (v := nI 1) dX6_feed_110 rfl ?_
  refine y_iadd hC (v := nI 9) dX6_feed_111 (by decide) ?_
  refine y_put hC cC6 0 rfl 15 (by decide) (inLr15 _ (List.mem_of_getElem? (i := 4) rfl)) rfl rfl rfl (Nat.le_of_ble_eq_true rfl) dX6_feed_112 ([((a 0), .inr (6, [.int (nI 0), .ref (a 1), .ref (a 2), .int (nI 0), .int (nI 0), .int (nI 0), .ref (a 3), .int (nI 4), .int (nI 4), .int (nI 0), .ref (a 4), .ref (a 5), .ref (a 6), .ref (a 7), .ref (a 8), .int (nI 9), .ref (a 9), .int (nI 0), .ref (a 10), .ref (a 11), .ref (a 12), .ref (a 13), .ref (a 14)])), ((a 8), .inl (cI, 80, .inl tp9)), (q1, .inl (cI, 5, .inl (upd (upd (upd (upd (upd (fun k => nI (Zf k)) 0 x1) 1 x2) 2 x3) 3 x4) 4 x5)))]) rfl ?_
  refine y_iinc hC (v := nI 2) [(11, .int (nI 2)), (10, .int ((upd (upd (upd (upd (upd (fun k => nI (Zf k)) 0 x1) 1 x2) 2 x3) 3 x4) 4 x5) 2)), (9, .int (nI 2)), (8, .int (nI 5)), (7, .ref q1), (6, .ref q1), (0, .ref (a 0)), (1, .int x1), (2, .int x2), (3, .int x3), (4, .int x4), (5, .int x5)] dX6_feed_115 (k := 0) rfl (by decide) (by decide) rfl ?_
  refine y_goto hC 79 dX6_feed_118 (by decide) ?_
  refine y_iload hC dX6_feed_79 0 rfl ?_
  refine y_if_lt_n hC 121 dX6_feed_81 (by decide) 2 rfl (by omega) ?_
  refine y_aload_n hC dX6_feed_84 6 rfl rfl ?_
  refine y_get hC cC6 0 rfl 14 (by decide) (inLr4 _ (List.mem_of_getElem? (i := 17) rfl)) rfl dX6_feed_85 ?_
  refine y_aload_n hC dX6_feed_88 6 rfl rfl ?_
  refine y_get hC cC6 0 rfl 15 (by decide) (inLr15 _ (List.mem_of_getElem? (i := 4) rfl)) rfl dX6_feed_89 ?_
  refine y_iload hC dX6_feed_92 1 rfl ?_
  refine y_bipush hC (v := nI 8) dX6_feed_94 rfl ?_
  refine y_iload hC dX6_feed_96 0 rfl ?_
  refine y_imul hC (v := nI 16) dX6_feed_98 (by decide) ?_
  refine y_ishr hC (v := (((upd (upd (upd (upd (upd (fun k => nI (Zf k)) 0 x1) 1 x2) 2 x3) 3 x4) 4 x5) 2) >>> ((nI 16) &&& 31))) dX6_feed_99 rfl ?_
  refine y_sipush hC (v := nI 255) dX6_feed_100 rfl ?_
  refine y_iand hC (v := (((upd (upd (upd (upd (upd (fun k => nI (Zf k)) 0 x1) 1 x2) 2 x3) 3 x4) 4 x5) 2) >>> ((nI 16) &&& 31)) &&& (nI 255)) dX6_feed_103 rfl ?_
  refine y_iast hC 1 0 rfl rfl 9 rfl (by omega) (by decide) dX6_feed_104 ([((a 0), .inr (6, [.int (nI 0), .ref (a 1), .ref (a 2), .int (nI 0), .int (nI 0), .int (nI 0), .ref (a 3), .int (nI 4), .int (nI 4), .int (nI 0), .ref (a 4), .ref (a 5), .ref (a 6), .ref (a 7), .ref (a 8), .int (nI 9), .ref (a 9), .int (nI 0), .ref (a 10), .ref (a 11), .ref (a 12), .ref (a 13), .ref (a 14)])), ((a 8), .inl (cI, 80, .inl (upd tp9 9 ((((upd (upd (upd (upd (upd (fun k => nI (Zf k)) 0 x1) 1 x2) 2 x3) 3 x4) 4 x5) 2) >>> ((nI 16) &&& 31)) &&& (nI 255))))), (q1, .inl (cI, 5, .inl (upd (upd (upd (upd (upd (fun k => nI (Zf k)) 0 x1) 1 x2) 2 x3) 3 x4) 4 x5)))]) rfl ?_
  suffices H9 : ∀ tp10 : Nat → Int32, G 1 5 ([((a 0), .inr (6, [.int (nI 0), .ref (a 1), .ref (a 2), .int (nI 0), .int (nI 0), .int (nI 0), .ref (a 3), .int (nI 4), .int (nI 4), .int (nI 0), .ref (a 4), .ref (a 5), .ref (a 6), .ref (a 7), .ref (a 8), .int (nI 9), .ref (a 9), .int (nI 0), .ref (a 10), .ref (a 11), .ref (a 12), .ref (a 13), .ref (a 14)])), ((a 8), .inl (cI, 80, .inl tp10)), (q1, .inl (cI, 5, .inl (upd (upd (upd (upd (upd (fun k => nI (Zf k)) 0 x1) 1 x2) 2 x3) 3 x4) 4 x5)))]) 105 [(11, .int (nI 2)), (10, .int ((upd (upd (upd (upd (upd (fun k => nI (Zf k)) 0 x1) 1 x2) 2 x3) 3 x4) 4 x5) 2)), (9, .int (nI 2)), (8, .int (nI 5)), (7, .ref q1), (6, .ref q1), (0, .ref (a 0)), (1, .int x1), (2, .int x2), (3, .int x3), (4, .int x4), (5, .int x5)] [] from H9 _
  intro tp10
  refine y_aload_n hC dX6_feed_105 6 rfl rfl ?_
  refine y_dup hC dX6_feed_106 rfl ?_
  refine y_get hC cC6 0 rfl 15 (by decide) (inLr15 _ (List.mem_of_getElem? (i := 4) rfl)) rfl dX6_feed_107 ?_
  refine y_iconst hC (v := nI 1) dX6_feed_110 rfl ?_
  refine y_iadd hC (v := nI 10) dX6_feed_111 (by decide) ?_
  refine y_put hC cC6 0 rfl 15 (by decide) (inLr15 _ (List.mem_of_getElem? (i := 4) rfl)) rfl rfl rfl (Nat.le_of_ble_eq_true rfl) dX6_feed_112 ([((a 0), .inr (6, [.int (nI 0), .ref (a 1), .ref (a 2), .int (nI 0), .int (nI 0), .int (nI 0), .ref (a 3), .int (nI 4), .int (nI 4), .int (nI 0), .ref (a 4), .ref (a 5), .ref (a 6), .ref (a 7), .ref (a 8), .int (nI 10), .ref (a 9), .int (nI 0), .ref (a 10), .ref (a 11), .ref (a 12), .ref (a 13), .ref (a 14)])), ((a 8), .inl (cI, 80, .inl tp10)), (q1, .inl (cI, 5, .inl (upd (upd (upd (upd (upd (fun k => nI (Zf k)) 0 x1) 1 x2) 2 x3) 3 x4) 4 x5)))]) rfl ?_
  refine y_iinc hC (v := nI 1) [(11, .int (nI 1)), (10, .int ((upd (upd (upd (upd (upd (fun k => nI (Zf k)) 0 x1) 1 x2) 2 x3) 3 x4) 4 x5) 2)), (9, .int (nI 2)), (8, .int (nI 5)), (7, .ref q1), (6, .ref q1), (0, .ref (a 0)), (1, .int x1), (2, .int x2), (3, .int x3), (4, .int x4), (5, .int x5)] dX6_feed_115 (k := 0) rfl (by decide) (by decide) rfl ?_
  refine y_goto hC 79 dX6_feed_118 (by decide) ?_
  refine y_iload hC dX6_feed_79 0 rfl ?_
  refine y_if_lt_n hC 121 dX6_feed_81 (by decide) 1 rfl (by omega) ?_
  refine y_aload_n hC dX6_feed_84 6 rfl rfl ?_
  refine y_get hC cC6 0 rfl 14 (by decide) (inLr4 _ (List.mem_of_getElem? (i := 17) rfl)) rfl dX6_feed_85 ?_
  refine y_aload_n hC dX6_feed_88 6 rfl rfl ?_
  refine y_get hC cC6 0 rfl 15 (by decide) (inLr15 _ (List.mem_of_getElem? (i := 4) rfl)) rfl dX6_feed_89 ?_
  refine y_iload hC dX6_feed_92 1 rfl ?_
  refine y_bipush hC (v := nI 8) dX6_feed_94 rfl ?_
  refine y_iload hC dX6_feed_96 0 rfl ?_
  refine y_imul hC (v := nI 8) dX6_feed_98 (by decide) ?_
  refine y_ishr hC (v := (((upd (upd (upd (upd (upd (fun k => nI (Zf k)) 0 x1) 1 x2) 2 x3) 3 x4) 4 x5) 2) >>> ((nI 8) &&& 31))) dX6_feed_99 rfl ?_
  refine y_sipush hC (v := nI 255) dX6_feed_100 rfl ?_
  refine y_iand hC (v := (((upd (upd (upd (upd (upd (fun k => nI (Zf k)) 0 x1) 1 x2) 2 x3) 3 x4) 4 x5) 2) >>> ((nI 8) &&& 31)) &&& (nI 255)) dX6_feed_103 rfl ?_
  refine y_iast hC 1 0 rfl rfl 10 rfl (by omega) (by decide) dX6_feed_104 ([((a 0), .inr (6, [.int (nI 0), .ref (a 1), .ref (a 2), .int (nI 0), .int (nI 0), .int (nI 0), .ref (a 3), .int (nI 4), .int (nI 4), .int (nI 0), .ref (a 4), .ref (a 5), .ref (a 6), .ref (a 7), .ref (a 8), .int (nI 10), .ref (a 9), .int (nI 0), .ref (a 10), .ref (a 11), .ref (a 12), .ref (a 13), .ref (a 14)])), ((a 8), .inl (cI, 80, .inl (upd tp10 10 ((((upd (upd (upd (upd (upd (fun k => nI (Zf k)) 0 x1) 1 x2) 2 x3) 3 x4) 4 x5) 2) >>> ((nI 8) &&& 31)) &&& (nI 255))))), (q1, .inl (cI, 5, .inl (upd (upd (upd (upd (upd (fun k => nI (Zf k)) 0 x1) 1 x2) 2 x3) 3 x4) 4 x5)))]) rfl ?_
  suffices H9 : ∀ tp11 : Nat → Int32, G 1 5 ([((a 0), .inr (6, [.int (nI 0), .ref (a 1), .ref (a 2), .int (nI 0), .int (nI 0), .int (nI 0), .ref (a 3), .int (nI 4), .int (nI 4), .int (nI 0), .ref (a 4), .ref (a 5), .ref (a 6), .ref (a 7), .ref (a 8), .int (nI 10), .ref (a 9), .int (nI 0), .ref (a 10), .ref (a 11), .ref (a 12), .ref (a 13), .ref (a 14)])), ((a 8), .inl (cI, 80, .inl tp11)), (q1, .inl (cI, 5, .inl (upd (upd (upd (upd (upd (fun k => nI (Zf k)) 0 x1) 1 x2) 2 x3) 3 x4) 4 x5)))]) 105 [(11, .int (nI 1)), (10, .int ((upd (upd (upd (upd (upd (fun k => nI (Zf k)) 0 x1) 1 x2) 2 x3) 3 x4) 4 x5) 2)), (9, .int (nI 2)), (8, .int (nI 5)), (7, .ref q1), (6, .ref q1), (0, .ref (a 0)), (1, .int x1), (2, .int x2), (3, .int x3), (4, .int x4), (5, .int x5)] [] from H9 _
  intro tp11
  refine y_aload_n hC dX6_feed_105 6 rfl rfl ?_
  refine y_dup hC dX6_feed_106 rfl ?_
  refine y_get hC cC6 0 rfl 15 (by decide) (inLr15 _ (List.mem_of_getElem? (i := 4) rfl)) rfl dX6_feed_107 ?_
  refine y_iconst hC (v := nI 1) dX6_feed_110 rfl ?_
  refine y_iadd hC (v := nI 11) dX6_feed_111 (by decide) ?_
  refine y_put hC cC6 0 rfl 15 (by decide) (inLr15 _ (List.mem_of_getElem? (i := 4) rfl)) rfl rfl rfl (Nat.le_of_ble_eq_true rfl) dX6_feed_112 ([((a 0), .inr (6, [.int (nI 0), .ref (a 1), .ref (a 2), .int (nI 0), .int (nI 0), .int (nI 0), .ref (a 3), .int (nI 4), .int (nI 4), .int (nI 0), .ref (a 4), .ref (a 5), .ref (a 6), .ref (a 7), .ref (a 8), .int (nI 11), .ref (a 9), .int (nI 0), .ref (a 10), .ref (a 11), .ref (a 12), .ref (a 13), .ref (a 14)])), ((a 8), .inl (cI, 80, .inl tp11)), (q1, .inl (cI, 5, .inl (upd (upd (upd (upd (upd (fun k => nI (Zf k)) 0 x1) 1 x2) 2 x3) 3 x4) 4 x5)))]) rfl ?_
  refine y_iinc hC (v := nI 0) [(11, .int (nI 0)), (10, .int ((upd (upd (upd (upd (upd (fun k => nI (Zf k)) 0 x1) 1 x2) 2 x3) 3 x4) 4 x5) 2)), (9, .int (nI 2)), (8, .int (nI 5)), (7, .ref q1), (6, .ref q1), (0, .ref (a 0)), (1, .int x1), (2, .int x2), (3, .int x3), (4, .int x4), (5, .int x5)] dX6_feed_115 (k := 0) rfl (by decide) (by decide) rfl ?_
  refine y_goto hC 79 dX6_feed_118 (by decide) ?_
  refine y_iload hC dX6_feed_79 0 rfl ?_
  refine y_if_lt_n hC 121 dX6_feed_81 (by decide) 0 rfl (by omega) ?_
  refine y_aload_n hC dX6_feed_84 6 rfl rfl ?_
  refine y_get hC cC6 0 rfl 14 (by decide) (inLr4 _ (List.mem_of_getElem? (i := 17) rfl)) rfl dX6_feed_85 ?_
  refine y_aload_n hC dX6_feed_88 6 rfl rfl ?_
  refine y_get hC cC6 0 rfl 15 (by decide) (inLr15 _ (List.mem_of_getElem? (i := 4) rfl)) rfl dX6_feed_89 ?_
  refine y_iload hC dX6_feed_92 1 rfl ?_
  refine y_bipush hC (v := nI 8) dX6_feed_94 rfl ?_
  refine y_iload hC dX6_feed_96 0 rfl ?_
  refine y_imul hC (v := nI 0) dX6_feed_98 (by decide) ?_
  refine y_ishr hC (v := (((upd (upd (upd (upd (upd (fun k => nI (Zf k)) 0 x1) 1 x2) 2 x3) 3 x4) 4 x5) 2) >>> ((nI 0) &&& 31))) dX6_feed_99 rfl ?_
  refine y_sipush hC (v := nI 255) dX6_feed_100 rfl ?_
  refine y_iand hC (v := (((upd (upd (upd (upd (upd (fun k => nI (Zf k)) 0 x1) 1 x2) 2 x3) 3 x4) 4 x5) 2) >>> ((nI 0) &&& 31)) &&& (nI 255)) dX6_feed_103 rfl ?_
  refine y_iast hC 1 0 rfl rfl 11 rfl (by omega) (by decide) dX6_feed_104 ([((a 0), .inr (6, [.int (nI 0), .ref (a 1), .ref (a 2), .int (nI 0), .int (nI 0), .int (nI 0), .ref (a 3), .int (nI 4), .int (nI 4), .int (nI 0), .ref (a 4), .ref (a 5), .ref (a 6), .ref (a 7), .ref (a 8), .int (nI 11), .ref (a 9), .int (nI 0), .ref (a 10), .ref (a 11), .ref (a 12), .ref (a 13), .ref (a 14)])), ((a 8), .inl (cI, 80, .inl (upd tp11 11 ((((upd (upd (upd (upd (upd (fun k => nI (Zf k)) 0 x1) 1 x2) 2 x3) 3 x4) 4 x5) 2) >>> ((nI 0) &&& 31)) &&& (nI 255))))), (q1, .inl (cI, 5, .inl (upd (upd (upd (upd (upd (fun k => nI (Zf k)) 0 x1) 1 x2) 2 x3) 3 x4) 4 x5)))]) rfl ?_
  suffices H9 : ∀ tp12 : Nat → Int32, G 1 5 ([((a 0), .inr (6, [.int (nI 0), .ref (a 1), .ref (a 2), .int (nI 0), .int (nI 0), .int (nI 0), .ref (a 3), .int (nI 4), .int (nI 4), .int (nI 0), .ref (a 4), .ref (a 5), .ref (a 6), .ref (a 7), .ref (a 8), .int (nI 11), .ref (a 9), .int (nI 0), .ref (a 10), .ref (a 11), .ref (a 12), .ref (a 13), .ref (a 14)])), ((a 8), .inl (cI, 80, .inl tp12)), (q1, .inl (cI, 5, .inl (upd (upd (upd (upd (upd (fun k => nI (Zf k)) 0 x1) 1 x2) 2 x3) 3 x4) 4 x5)))]) 105 [(11, .int (nI 0)), (10, .int ((upd (upd (upd (upd (upd (fun k => nI (Zf k)) 0 x1) 1 x2) 2 x3) 3 x4) 4 x5) 2)), (9, .int (nI 2)), (8, .int (nI 5)), (7, .ref q1), (6, .ref q1), (0, .ref (a 0)), (1, .int x1), (2, .int x2), (3, .int x3), (4, .int x4), (5, .int x5)] [] from H9 _
  intro tp12
  refine y_aload_n hC dX6_feed_105 6 rfl rfl ?_
  refine y_dup hC dX6_feed_106 rfl ?_
  refine y_get hC cC6 0 rfl 15 (by decide) (inLr15 _ (List.mem_of_getElem? (i := 4) rfl)) rfl dX6_feed_107 ?_
  refine y_iconst hC (v := nI 1) dX6_feed_110 rfl ?_
  refine y_iadd hC (v := nI 12) dX6_feed_111 (by decide) ?_
  refine y_put hC cC6 0 rfl 15 (by decide) (inLr15 _ (List.mem_of_getElem? (i := 4) rfl)) rfl rfl rfl (Nat.le_of_ble_eq_true rfl) dX6_feed_112 ([((a 0), .inr (6, [.int (nI 0), .ref (a 1), .ref (a 2), .int (nI 0), .int (nI 0), .int (nI 0), .ref (a 3), .int (nI 4), .int (nI 4), .int (nI 0), .ref (a 4), .ref (a 5), .ref (a 6), .ref (a 7), .ref (a 8), .int (nI 12), .ref (a 9), .int (nI 0), .ref (a 10), .ref (a 11), .ref (a 12), .ref (a 13), .ref (a 14)])), ((a 8), .inl (cI, 80, .inl tp12)), (q1, .inl (cI, 5, .inl (upd (upd (upd (upd (upd (fun k => nI (Zf k)) 0 x1) 1 x2) 2 x3) 3 x4) 4 x5)))]) rfl ?_
  refine y_iinc hC (v := (-1)) [(11, .int (-1)), (10, .int ((upd (upd (upd (upd (upd (fun k => nI (Zf k)) 0 x1) 1 x2) 2 x3) 3 x4) 4 x5) 2)), (9, .int (nI 2)), (8, .int (nI 5)), (7, .ref q1), (6, .ref q1), (0, .ref (a 0)), (1, .int x1), (2, .int x2), (3, .int x3), (4, .int x4), (5, .int x5)] dX6_feed_115 (k := 0) rfl (by decide) (by decide) rfl ?_
  refine y_goto hC 79 dX6_feed_118 (by decide) ?_
  refine y_iload hC dX6_feed_79 0 rfl ?_
  refine y_if_lt_z hC 121 dX6_feed_81 (by decide) (fun c81 => ?_) (fun c81 => absurd c81 (by decide))
  refine y_iinc hC (v := nI 3) [(9, .int (nI 3)), (11, .int (-1)), (10, .int ((upd (upd (upd (upd (upd (fun k => nI (Zf k)) 0 x1) 1 x2) 2 x3) 3 x4) 4 x5) 2)), (8, .int (nI 5)), (7, .ref q1), (6, .ref q1), (0, .ref (a 0)), (1, .int x1), (2, .int x2), (3, .int x3), (4, .int x4), (5, .int x5)] dX6_feed_121 (k := 2) rfl (ninc _) (by decide) rfl ?_
  refine y_goto hC 62 dX6_feed_124 (by decide) ?_
  refine y_iload hC dX6_feed_62 0 rfl ?_
  refine y_iload hC dX6_feed_64 3 rfl ?_
  refine y_icmp_ge_n hC 127 dX6_feed_66 (by decide) 3 5 rfl rfl (by omega) (by omega) (fun c66 => absurd c66 (by omega)) (fun c66 => ?_)
  refine y_aload hC dX6_feed_69 4 rfl ?_
  refine y_iload hC dX6_feed_71 0 rfl ?_
  refine y_iald hC 2 0 rfl rfl 3 rfl (by omega) (by decide) dX6_feed_73 ?_
  refine y_istore hC [(10, .int ((upd (upd (upd (upd (upd (fun k => nI (Zf k)) 0 x1) 1 x2) 2 x3) 3 x4) 4 x5) 3)), (9, .int (nI 3)), (11, .int (-1)), (8, .int (nI 5)), (7, .ref q1), (6, .ref q1), (0, .ref (a 0)), (1, .int x1), (2, .int x2), (3, .int x3), (4, .int x4), (5, .int x5)] dX6_feed_74 (by decide) rfl ?_
  refine y_iconst hC (v := nI 3) dX6_feed_76 rfl ?_
  refine y_istore hC [(11, .int (nI 3)), (10, .int ((upd (upd (upd (upd (upd (fun k => nI (Zf k)) 0 x1) 1 x2) 2 x3) 3 x4) 4 x5) 3)), (9, .int (nI 3)), (8, .int (nI 5)), (7, .ref q1), (6, .ref q1), (0, .ref (a 0)), (1, .int x1), (2, .int x2), (3, .int x3), (4, .int x4), (5, .int x5)] dX6_feed_77 (by decide) rfl ?_
  refine y_iload hC dX6_feed_79 0 rfl ?_
  refine y_if_lt_n hC 121 dX6_feed_81 (by decide) 3 rfl (by omega) ?_
  refine y_aload_n hC dX6_feed_84 6 rfl rfl ?_
  refine y_get hC cC6 0 rfl 14 (by decide) (inLr4 _ (List.mem_of_getElem? (i := 17) rfl)) rfl dX6_feed_85 ?_
  refine y_aload_n hC dX6_feed_88 6 rfl rfl ?_
  refine y_get hC cC6 0 rfl 15 (by decide) (inLr15 _ (List.mem_of_getElem? (i := 4) rfl)) rfl dX6_feed_89 ?_
  refine y_iload hC dX6_feed_92 1 rfl ?_
  refine y_bipush hC (v := nI 8) dX6_feed_94 rfl ?_
  refine y_iload hC dX6_feed_96 0 rfl ?_
  refine y_imul hC (v := nI 24) dX6_feed_98 (by decide) ?_
  refine y_ishr hC (v := (((upd (upd (upd (upd (upd (fun k => nI (Zf k)) 0 x1) 1 x2) 2 x3) 3 x4) 4 x5) 3) >>> ((nI 24) &&& 31))) dX6_feed_99 rfl ?_
  refine y_sipush hC (v := nI 255) dX6_feed_100 rfl ?_
  refine y_iand hC (v := (((upd (upd (upd (upd (upd (fun k => nI (Zf k)) 0 x1) 1 x2) 2 x3) 3 x4) 4 x5) 3) >>> ((nI 24) &&& 31)) &&& (nI 255)) dX6_feed_103 rfl ?_
  refine y_iast hC 1 0 rfl rfl 12 rfl (by omega) (by decide) dX6_feed_104 ([((a 0), .inr (6, [.int (nI 0), .ref (a 1), .ref (a 2), .int (nI 0), .int (nI 0), .int (nI 0), .ref (a 3), .int (nI 4), .int (nI 4), .int (nI 0), .ref (a 4), .ref (a 5), .ref (a 6), .ref (a 7), .ref (a 8), .int (nI 12), .ref (a 9), .int (nI 0), .ref (a 10), .ref (a 11), .ref (a 12), .ref (a 13), .ref (a 14)])), ((a 8), .inl (cI, 80, .inl (upd tp12 12 ((((upd (upd (upd (upd (upd (fun k => nI (Zf k)) 0 x1) 1 x2) 2 x3) 3 x4) 4 x5) 3) >>> ((nI 24) &&& 31)) &&& (nI 255))))), (q1, .inl (cI, 5, .inl (upd (upd (upd (upd (upd (fun k => nI (Zf k)) 0 x1) 1 x2) 2 x3) 3 x4) 4 x5)))]) rfl ?_
  suffices H9 : ∀ tp13 : Nat → Int32, G 1 5 ([((a 0), .inr (6, [.int (nI 0), .ref (a 1), .ref (a 2), .int (nI 0), .int (nI 0), .int (nI 0), .ref (a 3), .int (nI 4), .int (nI 4), .int (nI 0), .ref (a 4), .ref (a 5), .ref (a 6), .ref (a 7), .ref (a 8), .int (nI 12), .ref (a 9), .int (nI 0), .ref (a 10), .ref (a 11), .ref (a 12), .ref (a 13), .ref (a 14)])), ((a 8), .inl (cI, 80, .inl tp13)), (q1, .inl (cI, 5, .inl (upd (upd (upd (upd (upd (fun k => nI (Zf k)) 0 x1) 1 x2) 2 x3) 3 x4) 4 x5)))]) 105 [(11, .int (nI 3)), (10, .int ((upd (upd (upd (upd (upd (fun k => nI (Zf k)) 0 x1) 1 x2) 2 x3) 3 x4) 4 x5) 3)), (9, .int (nI 3)), (8, .int (nI 5)), (7, .ref q1), (6, .ref q1), (0, .ref (a 0)), (1, .int x1), (2, .int x2), (3, .int x3), (4, .int x4), (5, .int x5)] [] from H9 _
  intro tp13
  refine y_aload_n hC dX6_feed_105 6 rfl rfl ?_
  refine y_dup hC dX6_feed_106 rfl ?_
  refine y_get hC cC6 0 rfl 15 (by decide) (inLr15 _ (List.mem_of_getElem? (i := 4) rfl)) rfl dX6_feed_107 ?_
  refine y_iconst hC (v := nI 1) dX6_feed_110 rfl ?_
  refine y_iadd hC (v := nI 13) dX6_feed_111 (by decide) ?_
  refine y_put hC cC6 0 rfl 15 (by decide) (inLr15 _ (List.mem_of_getElem? (i := 4) rfl)) rfl rfl rfl (Nat.le_of_ble_eq_true rfl) dX6_feed_112 ([((a 0), .inr (6, [.int (nI 0), .ref (a 1), .ref (a 2), .int (nI 0), .int (nI 0), .int (nI 0), .ref (a 3), .int (nI 4), .int (nI 4), .int (nI 0), .ref (a 4), .ref (a 5), .ref (a 6), .ref (a 7), .ref (a 8), .int (nI 13), .ref (a 9), .int (nI 0), .ref (a 10), .ref (a 11), .ref (a 12), .ref (a 13), .ref (a 14)])), ((a 8), .inl (cI, 80, .inl tp13)), (q1, .inl (cI, 5, .inl (upd (upd (upd (upd (upd (fun k => nI (Zf k)) 0 x1) 1 x2) 2 x3) 3 x4) 4 x5)))]) rfl ?_
  refine y_iinc hC (v := nI 2) [(11, .int (nI 2)), (10, .int ((upd (upd (upd (upd (upd (fun k => nI (Zf k)) 0 x1) 1 x2) 2 x3) 3 x4) 4 x5) 3)), (9, .int (nI 3)), (8, .int (nI 5)), (7, .ref q1), (6, .ref q1), (0, .ref (a 0)), (1, .int x1), (2, .int x2), (3, .int x3), (4, .int x4), (5, .int x5)] dX6_feed_115 (k := 0) rfl (by decide) (by decide) rfl ?_
  refine y_goto hC 79 dX6_feed_118 (by decide) ?_
  refine y_iload hC dX6_feed_79 0 rfl ?_
  refine y_if_lt_n hC 121 dX6_feed_81 (by decide) 2 rfl (by omega) ?_
  refine y_aload_n hC dX6_feed_84 6 rfl rfl ?_
  refine y_get hC cC6 0 rfl 14 (by decide) (inLr4 _ (List.mem_of_getElem? (i := 17) rfl)) rfl dX6_feed_85 ?_
  refine y_aload_n hC dX6_feed_88 6 rfl rfl ?_
  refine y_get hC cC6 0 rfl 15 (by decide) (inLr15 _ (List.mem_of_getElem? (i := 4) rfl)) rfl dX6_feed_89 ?_
  refine y_iload hC dX6_feed_92 1 rfl ?_
  refine y_bipush hC (v := nI 8) dX6_feed_94 rfl ?_
  refine y_iload hC dX6_feed_96 0 rfl ?_
  refine y_imul hC (v := nI 16) dX6_feed_98 (by decide) ?_
  refine y_ishr hC (v := (((upd (upd (upd (upd (upd (fun k => nI (Zf k)) 0 x1) 1 x2) 2 x3) 3 x4) 4 x5) 3) >>> ((nI 16) &&& 31))) dX6_feed_99 rfl ?_
  refine y_sipush hC (v := nI 255) dX6_feed_100 rfl ?_
  refine y_iand hC (v := (((upd (upd (upd (upd (upd (fun k => nI (Zf k)) 0 x1) 1 x2) 2 x3) 3 x4) 4 x5) 3) >>> ((nI 16) &&& 31)) &&& (nI 255)) dX6_feed_103 rfl ?_
  refine y_iast hC 1 0 rfl rfl 13 rfl (by omega) (by decide) dX6_feed_104 ([((a 0), .inr (6, [.int (nI 0), .ref (a 1), .ref (a 2), .int (nI 0), .int (nI 0), .int (nI 0), .ref (a 3), .int (nI 4), .int (nI 4), .int (nI 0), .ref (a 4), .ref (a 5), .ref (a 6), .ref (a 7), .ref (a 8), .int (nI 13), .ref (a 9), .int (nI 0), .ref (a 10), .ref (a 11), .ref (a 12), .ref (a 13), .ref (a 14)])), ((a 8), .inl (cI, 80, .inl (upd tp13 13 ((((upd (upd (upd (upd (upd (fun k => nI (Zf k)) 0 x1) 1 x2) 2 x3) 3 x4) 4 x5) 3) >>> ((nI 16) &&& 31)) &&& (nI 255))))), (q1, .inl (cI, 5, .inl (upd (upd (upd (upd (upd (fun k => nI (Zf k)) 0 x1) 1 x2) 2 x3) 3 x4) 4 x5)))]) rfl ?_
  suffices H9 : ∀ tp14 : Nat → Int32, G 1 5 ([((a 0), .inr (6, [.int (nI 0), .ref (a 1), .ref (a 2), .int (nI 0), .int (nI 0), .int (nI 0), .ref (a 3), .int (nI 4), .int (nI 4), .int (nI 0), .ref (a 4), .ref (a 5), .ref (a 6), .ref (a 7), .ref (a 8), .int (nI 13), .ref (a 9), .int (nI 0), .ref (a 10), .ref (a 11), .ref (a 12), .ref (a 13), .ref (a 14)])), ((a 8), .inl (cI, 80, .inl tp14)), (q1, .inl (cI, 5, .inl (upd (upd (upd (upd (upd (fun k => nI (Zf k)) 0 x1) 1 x2) 2 x3) 3 x4) 4 x5)))]) 105 [(11, .int (nI 2)), (10, .int ((upd (upd (upd (upd (upd (fun k => nI (Zf k)) 0 x1) 1 x2) 2 x3) 3 x4) 4 x5) 3)), (9, .int (nI 3)), (8, .int (nI 5)), (7, .ref q1), (6, .ref q1), (0, .ref (a 0)), (1, .int x1), (2, .int x2), (3, .int x3), (4, .int x4), (5, .int x5)] [] from H9 _
  intro tp14
  refine y_aload_n hC dX6_feed_105 6 rfl rfl ?_
  refine y_dup hC dX6_feed_106 rfl ?_
  refine y_get hC cC6 0 rfl 15 (by decide) (inLr15 _ (List.mem_of_getElem? (i := 4) rfl)) rfl dX6_feed_107 ?_
  refine y_iconst hC (v := nI 1) dX6_feed_110 rfl ?_
  refine y_iadd hC (v := nI 14) dX6_feed_111 (by decide) ?_
  refine y_put hC cC6 0 rfl 15 (by decide) (inLr15 _ (List.mem_of_getElem? (i := 4) rfl)) rfl rfl rfl (Nat.le_of_ble_eq_true rfl) dX6_feed_112 ([((a 0), .inr (6, [.int (nI 0), .ref (a 1), .ref (a 2), .int (nI 0), .int (nI 0), .int (nI 0), .ref (a 3), .int (nI 4), .int (nI 4), .int (nI 0), .ref (a 4), .ref (a 5), .ref (a 6), .ref (a 7), .ref (a 8), .int (nI 14), .ref (a 9), .int (nI 0), .ref (a 10), .ref (a 11), .ref (a 12), .ref (a 13), .ref (a 14)])), ((a 8), .inl (cI, 80, .inl tp14)), (q1, .inl (cI, 5, .inl (upd (upd (upd (upd (upd (fun k => nI (Zf k)) 0 x1) 1 x2) 2 x3) 3 x4) 4 x5)))]) rfl ?_
  refine y_iinc hC (v := nI 1) [(11, .int (nI 1)), (10, .int ((upd (upd (upd (upd (upd (fun k => nI (Zf k)) 0 x1) 1 x2) 2 x3) 3 x4) 4 x5) 3)), (9, .int (nI 3)), (8, .int (nI 5)), (7, .ref q1), (6, .ref q1), (0, .ref (a 0)), (1, .int x1), (2, .int x2), (3, .int x3), (4, .int x4), (5, .int x5)] dX6_feed_115 (k := 0) rfl (by decide) (by decide) rfl ?_
  refine y_goto hC 79 dX6_feed_118 (by decide) ?_
  refine y_iload hC dX6_feed_79 0 rfl ?_
  refine y_if_lt_n hC 121 dX6_feed_81 (by decide) 1 rfl (by omega) ?_
  refine y_aload_n hC dX6_feed_84 6 rfl rfl ?_
  refine y_get hC cC6 0 rfl 14 (by decide) (inLr4 _ (List.mem_of_getElem? (i := 17) rfl)) rfl dX6_feed_85 ?_
  refine y_aload_n hC dX6_feed_88 6 rfl rfl ?_
  refine y_get hC cC6 0 rfl 15 (by decide) (inLr15 _ (List.mem_of_getElem? (i := 4) rfl)) rfl dX6_feed_89 ?_
  refine y_iload hC dX6_feed_92 1 rfl ?_
  refine y_bipush hC (v := nI 8) dX6_feed_94 rfl ?_
  refine y_iload hC dX6_feed_96 0 rfl ?_
  refine y_imul hC (v := nI 8) dX6_feed_98 (by decide) ?_
  refine y_ishr hC (v := (((upd (upd (upd (upd (upd (fun k => nI (Zf k)) 0 x1) 1 x2) 2 x3) 3 x4) 4 x5) 3) >>> ((nI 8) &&& 31))) dX6_feed_99 rfl ?_
  refine y_sipush hC (v := nI 255) dX6_feed_100 rfl ?_
  refine y_iand hC (v := (((upd (upd (upd (upd (upd (fun k => nI (Zf k)) 0 x1) 1 x2) 2 x3) 3 x4) 4 x5) 3) >>> ((nI 8) &&& 31)) &&& (nI 255)) dX6_feed_103 rfl ?_
  refine y_iast hC 1 0 rfl rfl 14 rfl (by omega) (by decide) dX6_feed_104 ([((a 0), .inr (6, [.int (nI 0), .ref (a 1), .ref (a 2), .int (nI 0), .int (nI 0), .int (nI 0), .ref (a 3), .int (nI 4), .int (nI 4), .int (nI 0), .ref (a 4), .ref (a 5), .ref (a 6), .ref (a 7), .ref (a 8), .int (nI 14), .ref (a 9), .int (nI 0), .ref (a 10), .ref (a 11), .ref (a 12), .ref (a 13), .ref (a 14)])), ((a 8), .inl (cI, 80, .inl (upd tp14 14 ((((upd (upd (upd (upd (upd (fun k => nI (Zf k)) 0 x1) 1 x2) 2 x3) 3 x4) 4 x5) 3) >>> ((nI 8) &&& 31)) &&& (nI 255))))), (q1, .inl (cI, 5, .inl (upd (upd (upd (upd (upd (fun k => nI (Zf k)) 0 x1) 1 x2) 2 x3) 3 x4) 4 x5)))]) rfl ?_
  suffices H9 : ∀ tp15 : Nat → Int32, G 1 5 ([((a 0), .inr (6, [.int (nI 0), .ref (a 1), .ref (a 2), .int (nI 0), .int (nI 0), .int (nI 0), .ref (a 3), .int (nI 4), .int (nI 4), .int (nI 0), .ref (a 4), .ref (a 5), .ref (a 6), .ref (a 7), .ref (a 8), .int (nI 14), .ref (a 9), .int (nI 0), .ref (a 10), .ref (a 11), .ref (a 12), .ref (a 13), .ref (a 14)])), ((a 8), .inl (cI, 80, .inl tp15)), (q1, .inl (cI, 5, .inl (upd (upd (upd (upd (upd (fun k => nI (Zf k)) 0 x1) 1 x2) 2 x3) 3 x4) 4 x5)))]) 105 [(11, .int (nI 1)), (10, .int ((upd (upd (upd (upd (upd (fun k => nI (Zf k)) 0 x1) 1 x2) 2 x3) 3 x4) 4 x5) 3)), (9, .int (nI 3)), (8, .int (nI 5)), (7, .ref q1), (6, .ref q1), (0, .ref (a 0)), (1, .int x1), (2, .int x2), (3, .int x3), (4, .int x4), (5, .int x5)] [] from H9 _
  intro tp15
  refine y_aload_n hC dX6_feed_105 6 rfl rfl ?_
  refine y_dup hC dX6_feed_106 rfl ?_
  refine y_get hC cC6 0 rfl 15 (by decide) (inLr15 _ (List.mem_of_getElem? (i := 4) rfl)) rfl dX6_feed_107 ?_
  refine y_iconst hC (v := nI 1) dX6_feed_110 rfl ?_
  refine y_iadd hC (v := nI 15) dX6_feed_111 (by decide) ?_
  refine y_put hC cC6 0 rfl 15 (by decide) (inLr15 _ (List.mem_of_getElem? (i := 4) rfl)) rfl rfl rfl (Nat.le_of_ble_eq_true rfl) dX6_feed_112 ([((a 0), .inr (6, [.int (nI 0), .ref (a 1), .ref (a 2), .int (nI 0), .int (nI 0), .int (nI 0), .ref (a 3), .int (nI 4), .int (nI 4), .int (nI 0), .ref (a 4), .ref (a 5), .ref (a 6), .ref (a 7), .ref (a 8), .int (nI 15), .ref (a 9), .int (nI 0), .ref (a 10), .ref (a 11), .ref (a 12), .ref (a 13), .ref (a 14)])), ((a 8), .inl (cI, 80, .inl tp15)), (q1, .inl (cI, 5, .inl (upd (upd (upd (upd (upd (fun k => nI (Zf k)) 0 x1) 1 x2) 2 x3) 3 x4) 4 x5)))]) rfl ?_
  refine y_iinc hC (v := nI 0) [(11, .int (nI 0)), (10, .int ((upd (upd (upd (upd (upd (fun k => nI (Zf k)) 0 x1) 1 x2) 2 x3) 3 x4) 4 x5) 3)), (9, .int (nI 3)), (8, .int (nI 5)), (7, .ref q1), (6, .ref q1), (0, .ref (a 0)), (1, .int x1), (2, .int x2), (3, .int x3), (4, .int x4), (5, .int x5)] dX6_feed_115 (k := 0) rfl (by decide) (by decide) rfl ?_
  refine y_goto hC 79 dX6_feed_118 (by decide) ?_
  refine y_iload hC dX6_feed_79 0 rfl ?_
  refine y_if_lt_n hC 121 dX6_feed_81 (by decide) 0 rfl (by omega) ?_
  refine y_aload_n hC dX6_feed_84 6 rfl rfl ?_
  refine y_get hC cC6 0 rfl 14 (by decide) (inLr4 _ (List.mem_of_getElem? (i := 17) rfl)) rfl dX6_feed_85 ?_
  refine y_aload_n hC dX6_feed_88 6 rfl rfl ?_
  refine y_get hC cC6 0 rfl 15 (by decide) (inLr15 _ (List.mem_of_getElem? (i := 4) rfl)) rfl dX6_feed_89 ?_
  refine y_iload hC dX6_feed_92 1 rfl ?_
  refine y_bipush hC (v := nI 8) dX6_feed_94 rfl ?_
  refine y_iload hC dX6_feed_96 0 rfl ?_
  refine y_imul hC (v := nI 0) dX6_feed_98 (by decide) ?_
  refine y_ishr hC (v := (((upd (upd (upd (upd (upd (fun k => nI (Zf k)) 0 x1) 1 x2) 2 x3) 3 x4) 4 x5) 3) >>> ((nI 0) &&& 31))) dX6_feed_99 rfl ?_
  refine y_sipush hC (v := nI 255) dX6_feed_100 rfl ?_
  refine y_iand hC (v := (((upd (upd (upd (upd (upd (fun k => nI (Zf k)) 0 x1) 1 x2) 2 x3) 3 x4) 4 x5) 3) >>> ((nI 0) &&& 31)) &&& (nI 255)) dX6_feed_103 rfl ?_
  refine y_iast hC 1 0 rfl rfl 15 rfl (by omega) (by decide) dX6_feed_104 ([((a 0), .inr (6, [.int (nI 0), .ref (a 1), .ref (a 2), .int (nI 0), .int (nI 0), .int (nI 0), .ref (a 3), .int (nI 4), .int (nI 4), .int (nI 0), .ref (a 4), .ref (a 5), .ref (a 6), .ref (a 7), .ref (a 8), .int (nI 15), .ref (a 9), .int (nI 0), .ref (a 10), .ref (a 11), .ref (a 12), .ref (a 13), .ref (a 14)])), ((a 8), .inl (cI, 80, .inl (upd tp15 15 ((((upd (upd (upd (upd (upd (fun k => nI (Zf k)) 0 x1) 1 x2) 2 x3) 3 x4) 4 x5) 3) >>> ((nI 0) &&& 31)) &&& (nI 255))))), (q1, .inl (cI, 5, .inl (upd (upd (upd (upd (upd (fun k => nI (Zf k)) 0 x1) 1 x2) 2 x3) 3 x4) 4 x5)))]) rfl ?_
  suffices H9 : ∀ tp16 : Nat → Int32, G 1 5 ([((a 0), .inr (6, [.int (nI 0), .ref (a 1), .ref (a 2), .int (nI 0), .int (nI 0), .int (nI 0), .ref (a 3), .int (nI 4), .int (nI 4), .int (nI 0), .ref (a 4), .ref (a 5), .ref (a 6), .ref (a 7), .ref (a 8), .int (nI 15), .ref (a 9), .int (nI 0), .ref (a 10), .ref (a 11), .ref (a 12), .ref (a 13), .ref (a 14)])), ((a 8), .inl (cI, 80, .inl tp16)), (q1, .inl (cI, 5, .inl (upd (upd (upd (upd (upd (fun k => nI (Zf k)) 0 x1) 1 x2) 2 x3) 3 x4) 4 x5)))]) 105 [(11, .int (nI 0)), (10, .int ((upd (upd (upd (upd (upd (fun k => nI (Zf k)) 0 x1) 1 x2) 2 x3) 3 x4) 4 x5) 3)), (9, .int (nI 3)), (8, .int (nI 5)), (7, .ref q1), (6, .ref q1), (0, .ref (a 0)), (1, .int x1), (2, .int x2), (3, .int x3), (4, .int x4), (5, .int x5)] [] from H9 _
  intro tp16
  refine y_aload_n hC dX6_feed_105 6 rfl rfl ?_
  refine y_dup hC dX6_feed_106 rfl ?_
  refine y_get hC cC6 0 rfl 15 (by decide) (inLr15 _ (List.mem_of_getElem? (i := 4) rfl)) rfl dX6_feed_107 ?_
  refine y_iconst hC (v := nI 1) dX6_feed_110 rfl ?_
  refine y_iadd hC (v := nI 16) dX6_feed_111 (by decide) ?_
  refine y_put hC cC6 0 rfl 15 (by decide) (inLr15 _ (List.mem_of_getElem? (i := 4) rfl)) rfl rfl rfl (Nat.le_of_ble_eq_true rfl) dX6_feed_112 ([((a 0), .inr (6, [.int (nI 0), .ref (a 1), .ref (a 2), .int (nI 0), .int (nI 0), .int (nI 0), .ref (a 3), .int (nI 4), .int (nI 4), .int (nI 0), .ref (a 4), .ref (a 5), .ref (a 6), .ref (a 7), .ref (a 8), .int (nI 16), .ref (a 9), .int (nI 0), .ref (a 10), .ref (a 11), .ref (a 12), .ref (a 13), .ref (a 14)])), ((a 8), .inl (cI, 80, .inl tp16)), (q1, .inl (cI, 5, .inl (upd (upd (upd (upd (upd (fun k => nI (Zf k)) 0 x1) 1 x2) 2 x3) 3 x4) 4 x5)))]) rfl ?_
  refine y_iinc hC (v := (-1)) [(11, .int (-1)), (10, .int ((upd (upd (upd (upd (upd (fun k => nI (Zf k)) 0 x1) 1 x2) 2 x3) 3 x4) 4 x5) 3)), (9, .int (nI 3)), (8, .int (nI 5)), (7, .ref q1), (6, .ref q1), (0, .ref (a 0)), (1, .int x1), (2, .int x2), (3, .int x3), (4, .int x4), (5, .int x5)] dX6_feed_115 (k := 0) rfl (by decide) (by decide) rfl ?_
  refine y_goto hC 79 dX6_feed_118 (by decide) ?_
  refine y_iload hC dX6_feed_79 0 rfl ?_
  refine y_if_lt_z hC 121 dX6_feed_81 (by decide) (fun c81 => ?_) (fun c81 => absurd c81 (by decide))
  refine y_iinc hC (v := nI 4) [(9, .int (nI 4)), (11, .int (-1)), (10, .int ((upd (upd (upd (upd (upd (fun k => nI (Zf k)) 0 x1) 1 x2) 2 x3) 3 x4) 4 x5) 3)), (8, .int (nI 5)), (7, .ref q1), (6, .ref q1), (0, .ref (a 0)), (1, .int x1), (2, .int x2), (3, .int x3), (4, .int x4), (5, .int x5)] dX6_feed_121 (k := 2) rfl (ninc _) (by decide) rfl ?_
  refine y_goto hC 62 dX6_feed_124 (by decide) ?_
  refine y_iload hC dX6_feed_62 0 rfl ?_
  refine y_iload hC dX6_feed_64 3 rfl ?_
  refine y_icmp_ge_n hC 127 dX6_feed_66 (by decide) 4 5 rfl rfl (by omega) (by omega) (fun c66 => absurd c66 (by omega)) (fun c66 => ?_)
  refine y_aload hC dX6_feed_69 4 rfl ?_
  refine y_iload hC dX6_feed_71 0 rfl ?_
  refine y_iald hC 2 0 rfl rfl 4 rfl (by omega) (by decide) dX6_feed_73 ?_
  refine y_istore hC [(10, .int ((upd (upd (upd (upd (upd (fun k => nI (Zf k)) 0 x1) 1 x2) 2 x3) 3 x4) 4 x5) 4)), (9, .int (nI 4)), (11, .int (-1)), (8, .int (nI 5)), (7, .ref q1), (6, .ref q1), (0, .ref (a 0)), (1, .int x1), (2, .int x2), (3, .int x3), (4, .int x4), (5, .int x5)] dX6_feed_74 (by decide) rfl ?_
  refine y_iconst hC (v := nI 3) dX6_feed_76 rfl ?_
  refine y_istore hC [(11, .int (nI 3)), (10, .int ((upd (upd (upd (upd (upd (fun k => nI (Zf k)) 0 x1) 1 x2) 2 x3) 3 x4) 4 x5) 4)), (9, .int (nI 4)), (8, .int (nI 5)), (7, .ref q1), (6, .ref q1), (0, .ref (a 0)), (1, .int x1), (2, .int x2), (3, .int x3), (4, .int x4), (5, .int x5)] dX6_feed_77 (by decide) rfl ?_
  refine y_iload hC dX6_feed_79 0 rfl ?_
  refine y_if_lt_n hC 121 dX6_feed_81 (by decide) 3 rfl (by omega) ?_
  refine y_aload_n hC dX6_feed_84 6 rfl rfl ?_
  refine y_get hC cC6 0 rfl 14 (by decide) (inLr4 _ (List.mem_of_getElem? (i := 17) rfl)) rfl dX6_feed_85 ?_
  refine y_aload_n hC dX6_feed_88 6 rfl rfl ?_
  refine y_get hC cC6 0 rfl 15 (by decide) (inLr15 _ (List.mem_of_getElem? (i := 4) rfl)) rfl dX6_feed_89 ?_
  refine y_iload hC dX6_feed_92 1 rfl ?_
  refine y_bipush hC (v := nI 8) dX6_feed_94 rfl ?_
  refine y_iload hC dX6_feed_96 0 rfl ?_
  refine y_imul hC (v := nI 24) dX6_feed_98 (by decide) ?_
  refine y_ishr hC (v := (((upd (upd (upd (upd (upd (fun k => nI (Zf k)) 0 x1) 1 x2) 2 x3) 3 x4) 4 x5) 4) >>> ((nI 24) &&& 31))) dX6_feed_99 rfl ?_
  refine y_sipush hC (v := nI 255) dX6_feed_100 rfl ?_
  refine y_iand hC (v := (((upd (upd (upd (upd (upd (fun k => nI (Zf k)) 0 x1) 1 x2) 2 x3) 3 x4) 4 x5) 4) >>> ((nI 24) &&& 31)) &&& (nI 255)) dX6_feed_103 rfl ?_
  refine y_iast hC 1 0 rfl rfl 16 rfl (by omega) (by decide) dX6_feed_104 ([((a 0), .inr (6, [.int (nI 0), .ref (a 1), .ref (a 2), .int (nI 0), .int (nI 0), .int (nI 0), .ref (a 3), .int (nI 4), .int (nI 4), .int (nI 0), .ref (a 4), .ref (a 5), .ref (a 6), .ref (a 7), .ref (a 8), .int (nI 16), .ref (a 9), .int (nI 0), .ref (a 10), .ref (a 11), .ref (a 12), .ref (a 13), .ref (a 14)])), ((a 8), .inl (cI, 80, .inl (upd tp16 16 ((((upd (upd (upd (upd (upd (fun k => nI (Zf k)) 0 x1) 1 x2) 2 x3) 3 x4) 4 x5) 4) >>> ((nI 24) &&& 31)) &&& (nI 255))))), (q1, .inl (cI, 5, .inl (upd (upd (upd (upd (upd (fun k => nI (Zf k)) 0 x1) 1 x2) 2 x3) 3 x4) 4 x5)))]) rfl ?_
  suffices H9 : ∀ tp17 : Nat → Int32, G 1 5 ([((a 0), .inr (6, [.int (nI 0), .ref (a 1), .ref (a 2), .int (nI 0), .int (nI 0), .int (nI 0), .ref (a 3), .int (nI 4), .int (nI 4), .int (nI 0), .ref (a 4), .ref (a 5), .ref (a 6), .ref (a 7), .ref (a 8), .int (nI 16), .ref (a 9), .int (nI 0), .ref (a 10), .ref (a 11), .ref (a 12), .ref (a 13), .ref (a 14)])), ((a 8), .inl (cI, 80, .inl tp17)), (q1, .inl (cI, 5, .inl (upd (upd (upd (upd (upd (fun k => nI (Zf k)) 0 x1) 1 x2) 2 x3) 3 x4) 4 x5)))]) 105 [(11, .int (nI 3)), (10, .int ((upd (upd (upd (upd (upd (fun k => nI (Zf k)) 0 x1) 1 x2) 2 x3) 3 x4) 4 x5) 4)), (9, .int (nI 4)), (8, .int (nI 5)), (7, .ref q1), (6, .ref q1), (0, .ref (a 0)), (1, .int x1), (2, .int x2), (3, .int x3), (4, .int x4), (5, .int x5)] [] from H9 _
  intro tp17
  refine y_aload_n hC dX6_feed_105 6 rfl rfl ?_
  refine y_dup hC dX6_feed_106 rfl ?_
  refine y_get hC cC6 0 rfl 15 (by decide) (inLr15 _ (List.mem_of_getElem? (i := 4) rfl)) rfl dX6_feed_107 ?_
  refine y_iconst hC (v := nI 1) dX6_feed_110 rfl ?_
  refine y_iadd hC (v := nI 17) dX6_feed_111 (by decide) ?_
  refine y_put hC cC6 0 rfl 15 (by decide) (inLr15 _ (List.mem_of_getElem? (i := 4) rfl)) rfl rfl rfl (Nat.le_of_ble_eq_true rfl) dX6_feed_112 ([((a 0), .inr (6, [.int (nI 0), .ref (a 1), .ref (a 2), .int (nI 0), .int (nI 0), .int (nI 0), .ref (a 3), .int (nI 4), .int (nI 4), .int (nI 0), .ref (a 4), .ref (a 5), .ref (a 6), .ref (a 7), .ref (a 8), .int (nI 17), .ref (a 9), .int (nI 0), .ref (a 10), .ref (a 11), .ref (a 12), .ref (a 13), .ref (a 14)])), ((a 8), .inl (cI, 80, .inl tp17)), (q1, .inl (cI, 5, .inl (upd (upd (upd (upd (upd (fun k => nI (Zf k)) 0 x1) 1 x2) 2 x3) 3 x4) 4 x5)))]) rfl ?_
  refine y_iinc hC (v := nI 2) [(11, .int (nI 2)), (10, .int ((upd (upd (upd (upd (upd (fun k => nI (Zf k)) 0 x1) 1 x2) 2 x3) 3 x4) 4 x5) 4)), (9, .int (nI 4)), (8, .int (nI 5)), (7, .ref q1), (6, .ref q1), (0, .ref (a 0)), (1, .int x1), (2, .int x2), (3, .int x3), (4, .int x4), (5, .int x5)] dX6_feed_115 (k := 0) rfl (by decide) (by decide) rfl ?_
  refine y_goto hC 79 dX6_feed_118 (by decide) ?_
  refine y_iload hC dX6_feed_79 0 rfl ?_
  refine y_if_lt_n hC 121 dX6_feed_81 (by decide) 2 rfl (by omega) ?_
  refine y_aload_n hC dX6_feed_84 6 rfl rfl ?_
  refine y_get hC cC6 0 rfl 14 (by decide) (inLr4 _ (List.mem_of_getElem? (i := 17) rfl)) rfl dX6_feed_85 ?_
  refine y_aload_n hC dX6_feed_88 6 rfl rfl ?_
  refine y_get hC cC6 0 rfl 15 (by decide) (inLr15 _ (List.mem_of_getElem? (i := 4) rfl)) rfl dX6_feed_89 ?_
  refine y_iload hC dX6_feed_92 1 rfl ?_
  refine y_bipush hC (v := nI 8) dX6_feed_94 rfl ?_
  refine y_iload hC dX6_feed_96 0 rfl ?_
  refine y_imul hC (v := nI 16) dX6_feed_98 (by decide) ?_
  refine y_ishr hC (v := (((upd (upd (upd (upd (upd (fun k => nI (Zf k)) 0 x1) 1 x2) 2 x3) 3 x4) 4 x5) 4) >>> ((nI 16) &&& 31))) dX6_feed_99 rfl ?_
  refine y_sipush hC (v := nI 255) dX6_feed_100 rfl ?_
  refine y_iand hC (v := (((upd (upd (upd (upd (upd (fun k => nI (Zf k)) 0 x1) 1 x2) 2 x3) 3 x4) 4 x5) 4) >>> ((nI 16) &&& 31)) &&& (nI 255)) dX6_feed_103 rfl ?_
  refine y_iast hC 1 0 rfl rfl 17 rfl (by omega) (by decide) dX6_feed_104 ([((a 0), .inr (6, [.int (nI 0), .ref (a 1), .ref (a 2), .int (nI 0), .int (nI 0), .int (nI 0), .ref (a 3), .int (nI 4), .int (nI 4), .int (nI 0), .ref (a 4), .ref (a 5), .ref (a 6), .ref (a 7), .ref (a 8), .int (nI 17), .ref (a 9), .int (nI 0), .ref (a 10), .ref (a 11), .ref (a 12), .ref (a 13), .ref (a 14)])), ((a 8), .inl (cI, 80, .inl (upd tp17 17 ((((upd (upd (upd (upd (upd (fun k => nI (Zf k)) 0 x1) 1 x2) 2 x3) 3 x4) 4 x5) 4) >>> ((nI 16) &&& 31)) &&& (nI 255))))), (q1, .inl (cI, 5, .inl (upd (upd (upd (upd (upd (fun k => nI (Zf k)) 0 x1) 1 x2) 2 x3) 3 x4) 4 x5)))]) rfl ?_
  suffices H9 : ∀ tp18 : Nat → Int32, G 1 5 ([((a 0), .inr (6, [.int (nI 0), .ref (a 1), .ref (a 2), .int (nI 0), .int (nI 0), .int (nI 0), .ref (a 3), .int (nI 4), .int (nI 4), .int (nI 0), .ref (a 4), .ref (a 5), .ref (a 6), .ref (a 7), .ref (a 8), .int (nI 17), .ref (a 9), .int (nI 0), .ref (a 10), .ref (a 11), .ref (a 12), .ref (a 13), .ref (a 14)])), ((a 8), .inl (cI, 80, .inl tp18)), (q1, .inl (cI, 5, .inl (upd (upd (upd (upd (upd (fun k => nI (Zf k)) 0 x1) 1 x2) 2 x3) 3 x4) 4 x5)))]) 105 [(11, .int (nI 2)), (10, .int ((upd (upd (upd (upd (upd (fun k => nI (Zf k)) 0 x1) 1 x2) 2 x3) 3 x4) 4 x5) 4)), (9, .int (nI 4)), (8, .int (nI 5)), (7, .ref q1), (6, .ref q1), (0, .ref (a 0)), (1, .int x1), (2, .int x2), (3, .int x3), (4, .int x4), (5, .int x5)] [] from H9 _
  intro tp18
  refine y_aload_n hC dX6_feed_105 6 rfl rfl ?_
  refine y_dup hC dX6_feed_106 rfl ?_
  refine y_get hC cC6 0 rfl 15 (by decide) (inLr15 _ (List.mem_of_getElem? (i := 4) rfl)) rfl dX6_feed_107 ?_
  refine y_iconst hC (v := nI 1) dX6_feed_110 rfl ?_
  refine y_iadd hC (v := nI 18) dX6_feed_111 (by decide) ?_
  refine y_put hC cC6 0 rfl 15 (by decide) (inLr15 _ (List.mem_of_getElem? (i := 4) rfl)) rfl rfl rfl (Nat.le_of_ble_eq_true rfl) dX6_feed_112 ([((a 0), .inr (6, [.int (nI 0), .ref (a 1), .ref (a 2), .int (nI 0), .int (nI 0), .int (nI 0), .ref (a 3), .int (nI 4), .int (nI 4), .int (nI 0), .ref (a 4), .ref (a 5), .ref (a 6), .ref (a 7), .ref (a 8), .int (nI 18), .ref (a 9), .int (nI 0), .ref (a 10), .ref (a 11), .ref (a 12), .ref (a 13), .ref (a 14)])), ((a 8), .inl (cI, 80, .inl tp18)), (q1, .inl (cI, 5, .inl (upd (upd (upd (upd (upd (fun k => nI (Zf k)) 0 x1) 1 x2) 2 x3) 3 x4) 4 x5)))]) rfl ?_
  refine y_iinc hC (v := nI 1) [(11, .int (nI 1)), (10, .int ((upd (upd (upd (upd (upd (fun k => nI (Zf k)) 0 x1) 1 x2) 2 x3) 3 x4) 4 x5) 4)), (9, .int (nI 4)), (8, .int (nI 5)), (7, .ref q1), (6, .ref q1), (0, .ref (a 0)), (1, .int x1), (2, .int x2), (3, .int x3), (4, .int x4), (5, .int x5)] dX6_feed_115 (k := 0) rfl (by decide) (by decide) rfl ?_
  refine y_goto hC 79 dX6_feed_118 (by decide) ?_
  refine y_iload hC dX6_feed_79 0 rfl ?_
  refine y_if_lt_n hC 121 dX6_feed_81 (by decide) 1 rfl (by omega) ?_
  refine y_aload_n hC dX6_feed_84 6 rfl rfl ?_
  refine y_get hC cC6 0 rfl 14 (by decide) (inLr4 _ (List.mem_of_getElem? (i := 17) rfl)) rfl dX6_feed_85 ?_
  refine y_aload_n hC dX6_feed_88 6 rfl rfl ?_
  refine y_get hC cC6 0 rfl 15 (by decide) (inLr15 _ (List.mem_of_getElem? (i := 4) rfl)) rfl dX6_feed_89 ?_
  refine y_iload hC dX6_feed_92 1 rfl ?_
  refine y_bipush hC (v := nI 8) dX6_feed_94 rfl ?_
  refine y_iload hC dX6_feed_96 0 rfl ?_
  refine y_imul hC (v := nI 8) dX6_feed_98 (by decide) ?_
  refine y_ishr hC (v := (((upd (upd (upd (upd (upd (fun k => nI (Zf k)) 0 x1) 1 x2) 2 x3) 3 x4) 4 x5) 4) >>> ((nI 8) &&& 31))) dX6_feed_99 rfl ?_
  refine y_sipush hC (v := nI 255) dX6_feed_100 rfl ?_
  refine y_iand hC (v := (((upd (upd (upd (upd (upd (fun k => nI (Zf k)) 0 x1) 1 x2) 2 x3) 3 x4) 4 x5) 4) >>> ((nI 8) &&& 31)) &&& (nI 255)) dX6_feed_103 rfl ?_
  refine y_iast hC 1 0 rfl rfl 18 rfl (by omega) (by decide) dX6_feed_104 ([((a 0), .inr (6, [.int (nI 0), .ref (a 1), .ref (a 2), .int (nI 0), .int (nI 0), .int (nI 0), .ref (a 3), .int (nI 4), .int (nI 4), .int (nI 0), .ref (a 4), .ref (a 5), .ref (a 6), .ref (a 7), .ref (a 8), .int (nI 18), .ref (a 9), .int (nI 0), .ref (a 10), .ref (a 11), .ref (a 12), .ref (a 13), .ref (a 14)])), ((a 8), .inl (cI, 80, .inl (upd tp18 18 ((((upd (upd (upd (upd (upd (fun k => nI (Zf k)) 0 x1) 1 x2) 2 x3) 3 x4) 4 x5) 4) >>> ((nI 8) &&& 31)) &&& (nI 255))))), (q1, .inl (cI, 5, .inl (upd (upd (upd (upd (upd (fun k => nI (Zf k)) 0 x1) 1 x2) 2 x3) 3 x4) 4 x5)))]) rfl ?_
  suffices H9 : ∀ tp19 : Nat → Int32, G 1 5 ([((a 0), .inr (6, [.int (nI 0), .ref (a 1), .ref (a 2), .int (nI 0), .int (nI 0), .int (nI 0), .ref (a 3), .int (nI 4), .int (nI 4), .int (nI 0), .ref (a 4), .ref (a 5), .ref (a 6), .ref (a 7), .ref (a 8), .int (nI 18), .ref (a 9), .int (nI 0), .ref (a 10), .ref (a 11), .ref (a 12), .ref (a 13), .ref (a 14)])), ((a 8), .inl (cI, 80, .inl tp19)), (q1, .inl (cI, 5, .inl (upd (upd (upd (upd (upd (fun k => nI (Zf k)) 0 x1) 1 x2) 2 x3) 3 x4) 4 x5)))]) 105 [(11, .int (nI 1)), (10, .int ((upd (upd (upd (upd (upd (fun k => nI (Zf k)) 0 x1) 1 x2) 2 x3) 3 x4) 4 x5) 4)), (9, .int (nI 4)), (8, .int (nI 5)), (7, .ref q1), (6, .ref q1), (0, .ref (a 0)), (1, .int x1), (2, .int x2), (3, .int x3), (4, .int x4), (5, .int x5)] [] from H9 _
  intro tp19
  refine y_aload_n hC dX6_feed_105 6 rfl rfl ?_
  refine y_dup hC dX6_feed_106 rfl ?_
  refine y_get hC cC6 0 rfl 15 (by decide) (inLr15 _ (List.mem_of_getElem? (i := 4) rfl)) rfl dX6_feed_107 ?_
  refine y_iconst hC (v := nI 1) dX6_feed_110 rfl ?_
  refine y_iadd hC (v := nI 19) dX6_feed_111 (by decide) ?_
  refine y_put hC cC6 0 rfl 15 (by decide) (inLr15 _ (List.mem_of_getElem? (i := 4) rfl)) rfl rfl rfl (Nat.le_of_ble_eq_true rfl) dX6_feed_112 ([((a 0), .inr (6, [.int (nI 0), .ref (a 1), .ref (a 2), .int (nI 0), .int (nI 0), .int (nI 0), .ref (a 3), .int (nI 4), .int (nI 4), .int (nI 0), .ref (a 4), .ref (a 5), .ref (a 6), .ref (a 7), .ref (a 8), .int (nI 19), .ref (a 9), .int (nI 0), .ref (a 10), .ref (a 11), .ref (a 12), .ref (a 13), .ref (a 14)])), ((a 8), .inl (cI, 80, .inl tp19)), (q1, .inl (cI, 5, .inl (upd (upd (upd (upd (upd (fun k => nI (Zf k)) 0 x1) 1 x2) 2 x3) 3 x4) 4 x5)))]) rfl ?_
  refine y_iinc hC (v := nI 0) [(11, .int (nI 0)), (10, .int ((upd (upd (upd (upd (upd (fun k => nI (Zf k)) 0 x1) 1 x2) 2 x3) 3 x4) 4 x5) 4)), (9, .int (nI 4)), (8, .int (nI 5)), (7, .ref q1), (6, .ref q1), (0, .ref (a 0)), (1, .int x1), (2, .int x2), (3, .int x3), (4, .int x4), (5, .int x5)] dX6_feed_115 (k := 0) rfl (by decide) (by decide) rfl ?_
  refine y_goto hC 79 dX6_feed_118 (by decide) ?_
  refine y_iload hC dX6_feed_79 0 rfl ?_
  refine y_if_lt_n hC 121 dX6_feed_81 (by decide) 0 rfl (by omega) ?_
  refine y_aload_n hC dX6_feed_84 6 rfl rfl ?_
  refine y_get hC cC6 0 rfl 14 (by decide) (inLr4 _ (List.mem_of_getElem? (i := 17) rfl)) rfl dX6_feed_85 ?_
  refine y_aload_n hC dX6_feed_88 6 rfl rfl ?_
  refine y_get hC cC6 0 rfl 15 (by decide) (inLr15 _ (List.mem_of_getElem? (i := 4) rfl)) rfl dX6_feed_89 ?_
  refine y_iload hC dX6_feed_92 1 rfl ?_
  refine y_bipush hC (v := nI 8) dX6_feed_94 rfl ?_
  refine y_iload hC dX6_feed_96 0 rfl ?_
  refine y_imul hC (v := nI 0) dX6_feed_98 (by decide) ?_
  refine y_ishr hC (v := (((upd (upd (upd (upd (upd (fun k => nI (Zf k)) 0 x1) 1 x2) 2 x3) 3 x4) 4 x5) 4) >>> ((nI 0) &&& 31))) dX6_feed_99 rfl ?_
  refine y_sipush hC (v := nI 255) dX6_feed_100 rfl ?_
  refine y_iand hC (v := (((upd (upd (upd (upd (upd (fun k => nI (Zf k)) 0 x1) 1 x2) 2 x3) 3 x4) 4 x5) 4) >>> ((nI 0) &&& 31)) &&& (nI 255)) dX6_feed_103 rfl ?_
  refine y_iast hC 1 0 rfl rfl 19 rfl (by omega) (by decide) dX6_feed_104 ([((a 0), .inr (6, [.int (nI 0), .ref (a 1), .ref (a 2), .int (nI 0), .int (nI 0), .int (nI 0), .ref (a 3), .int (nI 4), .int (nI 4), .int (nI 0), .ref (a 4), .ref (a 5), .ref (a 6), .ref (a 7), .ref (a 8), .int (nI 19), .ref (a 9), .int (nI 0), .ref (a 10), .ref (a 11), .ref (a 12), .ref (a 13), .ref (a 14)])), ((a 8), .inl (cI, 80, .inl (upd tp19 19 ((((upd (upd (upd (upd (upd (fun k => nI (Zf k)) 0 x1) 1 x2) 2 x3) 3 x4) 4 x5) 4) >>> ((nI 0) &&& 31)) &&& (nI 255))))), (q1, .inl (cI, 5, .inl (upd (upd (upd (upd (upd (fun k => nI (Zf k)) 0 x1) 1 x2) 2 x3) 3 x4) 4 x5)))]) rfl ?_
  suffices H9 : ∀ tp20 : Nat → Int32, G 1 5 ([((a 0), .inr (6, [.int (nI 0), .ref (a 1), .ref (a 2), .int (nI 0), .int (nI 0), .int (nI 0), .ref (a 3), .int (nI 4), .int (nI 4), .int (nI 0), .ref (a 4), .ref (a 5), .ref (a 6), .ref (a 7), .ref (a 8), .int (nI 19), .ref (a 9), .int (nI 0), .ref (a 10), .ref (a 11), .ref (a 12), .ref (a 13), .ref (a 14)])), ((a 8), .inl (cI, 80, .inl tp20)), (q1, .inl (cI, 5, .inl (upd (upd (upd (upd (upd (fun k => nI (Zf k)) 0 x1) 1 x2) 2 x3) 3 x4) 4 x5)))]) 105 [(11, .int (nI 0)), (10, .int ((upd (upd (upd (upd (upd (fun k => nI (Zf k)) 0 x1) 1 x2) 2 x3) 3 x4) 4 x5) 4)), (9, .int (nI 4)), (8, .int (nI 5)), (7, .ref q1), (6, .ref q1), (0, .ref (a 0)), (1, .int x1), (2, .int x2), (3, .int x3), (4, .int x4), (5, .int x5)] [] from H9 _
  intro tp20
  refine y_aload_n hC dX6_feed_105 6 rfl rfl ?_
  refine y_dup hC dX6_feed_106 rfl ?_
  refine y_get hC cC6 0 rfl 15 (by decide) (inLr15 _ (List.mem_of_getElem? (i := 4) rfl)) rfl dX6_feed_107 ?_
  refine y_iconst hC (v := nI 1) dX6_feed_110 rfl ?_
  refine y_iadd hC (v := nI 20) dX6_feed_111 (by decide) ?_
  refine y_put hC cC6 0 rfl 15 (by decide) (inLr15 _ (List.mem_of_getElem? (i := 4) rfl)) rfl rfl rfl (Nat.le_of_ble_eq_true rfl) dX6_feed_112 ([((a 0), .inr (6, [.int (nI 0), .ref (a 1), .ref (a 2), .int (nI 0), .int (nI 0), .int (nI 0), .ref (a 3), .int (nI 4), .int (nI 4), .int (nI 0), .ref (a 4), .ref (a 5), .ref (a 6), .ref (a 7), .ref (a 8), .int (nI 20), .ref (a 9), .int (nI 0), .ref (a 10), .ref (a 11), .ref (a 12), .ref (a 13), .ref (a 14)])), ((a 8), .inl (cI, 80, .inl tp20)), (q1, .inl (cI, 5, .inl (upd (upd (upd (upd (upd (fun k => nI (Zf k)) 0 x1) 1 x2) 2 x3) 3 x4) 4 x5)))]) rfl ?_
  refine y_iinc hC (v := (-1)) [(11, .int (-1)), (10, .int ((upd (upd (upd (upd (upd (fun k => nI (Zf k)) 0 x1) 1 x2) 2 x3) 3 x4) 4 x5) 4)), (9, .int (nI 4)), (8, .int (nI 5)), (7, .ref q1), (6, .ref q1), (0, .ref (a 0)), (1, .int x1), (2, .int x2), (3, .int x3), (4, .int x4), (5, .int x5)] dX6_feed_115 (k := 0) rfl (by decide) (by decide) rfl ?_
  refine y_goto hC 79 dX6_feed_118 (by decide) ?_
  refine y_iload hC dX6_feed_79 0 rfl ?_
  refine y_if_lt_z hC 121 dX6_feed_81 (by decide) (fun c81 => ?_) (fun c81 => absurd c81 (by decide))
  refine y_iinc hC (v := nI 5) [(9, .int (nI 5)), (11, .int (-1)), (10, .int ((upd (upd (upd (upd (upd (fun k => nI (Zf k)) 0 x1) 1 x2) 2 x3) 3 x4) 4 x5) 4)), (8, .int (nI 5)), (7, .ref q1), (6, .ref q1), (0, .ref (a 0)), (1, .int x1), (2, .int x2), (3, .int x3), (4, .int x4), (5, .int x5)] dX6_feed_121 (k := 2) rfl (ninc _) (by decide) rfl ?_
  refine y_goto hC 62 dX6_feed_124 (by decide) ?_
  refine y_iload hC dX6_feed_62 0 rfl ?_
  refine y_iload hC dX6_feed_64 3 rfl ?_
  refine y_icmp_ge_n hC 127 dX6_feed_66 (by decide) 5 5 rfl rfl (by omega) (by omega) (fun c66 => ?_) (fun c66 => absurd c66 (by omega))
  refine y_aload_n hC dX6_feed_127 6 rfl rfl ?_
  refine y_get hC cC6 0 rfl 15 (by decide) (inLr15 _ (List.mem_of_getElem? (i := 4) rfl)) rfl dX6_feed_128 ?_
  refine y_world hC [0] (ws' := [((a 0), .inr (6, [.int (nI 0), .ref (a 1), .ref (a 2), .int (nI 0), .int (nI 0), .int (nI 0), .ref (a 3), .int (nI 4), .int (nI 4), .int (nI 0), .ref (a 4), .ref (a 5), .ref (a 6), .ref (a 7), .ref (a 8), .int (nI 20), .ref (a 9), .int (nI 0), .ref (a 10), .ref (a 11), .ref (a 12), .ref (a 13), .ref (a 14)]))]) rfl rfl ?_
  exact hE (nI 20) (0, _) _ _ _ _ dX6_feed_131 (Nat.le_of_ble_eq_true rfl) (Nat.le_of_ble_eq_true rfl) rfl ⟨rfl, rfl⟩
theorem nV_X6_trim : yV yX6_trim RX6 cX6_trim 2 (some .int) 1 := ⟨(inLr15 _ (List.mem_of_getElem? (i := 13) rfl)), (inLr15 _ (List.mem_of_getElem? (i := 14) rfl)), (inLr1 _ (List.mem_of_getElem? (i := 5) rfl)), (inLr15 _ (List.mem_of_getElem? (i := 15) rfl)), rfl, by decide, by decide, by decide +kernel⟩
set_option maxHeartbeats 4000000 in
set_option maxRecDepth 100000 in
theorem p_X6_trim (a : Nat → Nat) (x : Int32)  : MI l D (tyL cI cO cJ cZ) yX6_trim cX6_trim 2 .int ({ frames := 1, cells := 0, slots := 0, locals := 60 } : Room) [.ref (a 0), .int x] [((a 0), mOb a 0)] (fun r u => u.1 = kcTri x ∧ (kcTri x = 0 → r = nI 0)) (fun (u : Nat × List Value) => [((a 0), .inr (6, .int (nI u.1) :: u.2))]) := by
  refine MI.of (by decide) (Nat.le_of_ble_eq_true rfl) (fun G hC hE => ?_)
  show G 0 0 ([((a 0), mOb a 0)]) 0 [(0, .ref (a 0)), (1, .int x)] []
  refine y_aload_n hC dX6_trim_0 0 rfl rfl ?_
  refine y_iconst hC (v := nI 0) dX6_trim_1 rfl ?_
  refine y_put hC cC6 0 rfl 0 (by decide) (inLr6 _ (List.mem_of_getElem? (i := 7) rfl)) rfl rfl rfl (Nat.le_of_ble_eq_true rfl) dX6_trim_2 ([((a 0), mOb a 0)]) rfl ?_
  refine y_iload_n hC dX6_trim_5 1 rfl rfl ?_
  refine y_iconst hC (v := nI 0) dX6_trim_6 rfl ?_
  refine y_aload_n hC dX6_trim_7 0 rfl rfl ?_
  refine y_get hC cC6 0 rfl 15 (by decide) (inLr15 _ (List.mem_of_getElem? (i := 4) rfl)) rfl dX6_trim_8 ?_
  refine y_callS_i hC (As := [.int x, .int (nI 0), .int (nI 0)]) (rest := []) (c_X6_isIn x (nI 0) (nI 0)) nS_X6_isIn (inLr6 _ (List.mem_of_getElem? (i := 8) rfl)) [] [0] [0] (fun u => [((a 0), mOb a 0)]) rfl rfl rfl rfl (by decide) rfl (fun _ => rfl) rfl rfl (Nat.le_of_ble_eq_true rfl) dX6_trim_11 ⟨(Nat.le_of_ble_eq_true rfl), (Nat.le_of_ble_eq_true rfl)⟩ ⟨(Nat.le_of_ble_eq_true rfl), (Nat.le_of_ble_eq_true rfl)⟩ (fun r1 u1 hw1 => ?_)
  obtain ⟨rfl, hb_u1⟩ := hw1
  try rw [show (nI 0 : Int32).toInt = 0 from by decide] at hb_u1
  try rw [show (nI 0 : Int32).toInt = 0 from by decide] at hb_u1
  refine y_if_ne_n hC 23 dX6_trim_14 (by decide) u1 rfl (by omega) (fun c14 => ?_) (fun c14 => ?_)
  · obtain rfl : x = nI 0 := Int32.toInt_inj.mp (by rw [show (nI 0).toInt = 0 from by decide]; omega)
    have ex := (show (nI 0).toInt = 0 from by decide)
    refine y_aload_n hC dX6_trim_23 0 rfl rfl ?_
    refine y_iload_n hC dX6_trim_24 1 rfl rfl ?_
    refine y_put hC cC6 0 rfl 15 (by decide) (inLr15 _ (List.mem_of_getElem? (i := 4) rfl)) rfl rfl rfl (Nat.le_of_ble_eq_true rfl) dX6_trim_25 ([((a 0), mOb a 0)]) rfl ?_
    refine y_iload_n hC dX6_trim_28 1 rfl rfl ?_
    refine y_world hC [0] (ws' := [((a 0), mOb a 0)]) rfl rfl ?_
    exact hE (nI 0) (0, _) _ _ _ _ dX6_trim_29 (Nat.le_of_ble_eq_true rfl) (Nat.le_of_ble_eq_true rfl) rfl ⟨by show (0 : Nat) = _; unfold kcTri; split <;> omega, fun _ => rfl⟩
  · refine y_aload_n hC dX6_trim_17 0 rfl rfl ?_
    refine y_iconst hC (v := nI 1) dX6_trim_18 rfl ?_
    refine y_callV_i hC (As := [.int (nI 1)]) (rest := []) (c_X6_no _ _ _ 1) nV_X6_no (inLr6 _ (List.mem_of_getElem? (i := 11) rfl)) [0] [] [0] (fun u => [((a 0), mOb a 1)]) rfl rfl rfl rfl (by decide) rfl (fun _ => rfl) 0 rfl rfl rfl rfl (Nat.le_of_ble_eq_true rfl) dX6_trim_19 ⟨(Nat.le_of_ble_eq_true rfl), (Nat.le_of_ble_eq_true rfl)⟩ ⟨(Nat.le_of_ble_eq_true rfl), (Nat.le_of_ble_eq_true rfl)⟩ (fun r2 u2 hw2 => ?_)
    subst hw2
    refine y_world hC [0] (ws' := [((a 0), mOb a 1)]) rfl rfl ?_
    exact hE (nI 0) (1, _) _ _ _ _ dX6_trim_22 (Nat.le_of_ble_eq_true rfl) (Nat.le_of_ble_eq_true rfl) rfl ⟨by show (1 : Nat) = _; unfold kcTri; split <;> omega, fun _ => rfl⟩
theorem nV_X6_tie : yV yX6_tie RX6 cX6_tie 5 (some .int) 0 := ⟨(inLr17 _ (List.mem_of_getElem? (i := 19) rfl)), (inLr17 _ (List.mem_of_getElem? (i := 20) rfl)), (inLr1 _ (List.mem_of_getElem? (i := 5) rfl)), (inLr17 _ (List.mem_of_getElem? (i := 21) rfl)), rfl, by decide, by decide, by decide +kernel⟩
set_option maxHeartbeats 4000000 in
set_option maxRecDepth 100000 in
theorem p_X6_tie (a : Nat → Nat)   : MI l D (tyL cI cO cJ cZ) yX6_tie cX6_tie 5 .int ({ frames := 1, cells := 0, slots := 0, locals := 60 } : Room) [.ref (a 0)] [((a 0), mOb a 0), ((a 8), .inl (cI, 80, .inl (fun k => nI (Zf k))))] (fun r u => u.1 = 0 ∧ r = nI 0) (fun (u : Nat × List Value) => [((a 0), .inr (6, .int (nI u.1) :: u.2))]) := by
  refine MI.of (by decide) (Nat.le_of_ble_eq_true rfl) (fun G hC hE => ?_)
  show G 0 0 ([((a 0), mOb a 0), ((a 8), .inl (cI, 80, .inl (fun k => nI (Zf k))))]) 0 [(0, .ref (a 0))] []
  refine y_aload_n hC dX6_tie_0 0 rfl rfl ?_
  refine y_iconst hC (v := nI 0) dX6_tie_1 rfl ?_
  refine y_put hC cC6 0 rfl 0 (by decide) (inLr6 _ (List.mem_of_getElem? (i := 7) rfl)) rfl rfl rfl (Nat.le_of_ble_eq_true rfl) dX6_tie_2 ([((a 0), mOb a 0), ((a 8), .inl (cI, 80, .inl (fun k => nI (Zf k))))]) rfl ?_
  refine y_iconst hC (v := nI 0) dX6_tie_5 rfl ?_
  refine y_istore_n hC [(1, .int (nI 0)), (0, .ref (a 0))] dX6_tie_6 rfl (by decide) rfl ?_
  refine y_iconst hC (v := nI 1) dX6_tie_7 rfl ?_
  refine y_istore_n hC [(2, .int (nI 1)), (1, .int (nI 0)), (0, .ref (a 0))] dX6_tie_8 rfl (by decide) rfl ?_
  refine y_iconst hC (v := nI 0) dX6_tie_9 rfl ?_
  refine y_istore_n hC [(3, .int (nI 0)), (2, .int (nI 1)), (1, .int (nI 0)), (0, .ref (a 0))] dX6_tie_10 rfl (by decide) rfl ?_
  refine y_iload_n hC dX6_tie_11 0 rfl rfl ?_
  refine y_aload_n hC dX6_tie_12 3 rfl rfl ?_
  refine y_get hC cC6 0 rfl 15 (by decide) (inLr15 _ (List.mem_of_getElem? (i := 4) rfl)) rfl dX6_tie_13 ?_
  refine y_icmp_ge_n hC 111 dX6_tie_16 (by decide) 0 0 rfl rfl (by omega) (by omega) (fun c16 => ?_) (fun c16 => absurd c16 (by omega))
  refine y_aload_n hC dX6_tie_111 3 rfl rfl ?_
  refine y_get hC cC6 0 rfl 9 (by decide) (inLr17 _ (List.mem_of_getElem? (i := 22) rfl)) rfl dX6_tie_112 ?_
  refine y_bipush hC (v := nI 10) dX6_tie_115 rfl ?_
  refine y_icmp_eq_n hC 126 dX6_tie_117 (by decide) 0 10 rfl rfl (by omega) (by omega) (fun c117 => absurd c117 (by omega)) (fun c117 => ?_)
  refine y_iload_n hC dX6_tie_120 2 rfl rfl ?_
  refine y_bipush hC (v := nI 40) dX6_tie_121 rfl ?_
  refine y_icmp_le_n hC 132 dX6_tie_123 (by decide) 0 40 rfl rfl (by omega) (by omega) (fun c123 => ?_) (fun c123 => absurd c123 (by omega))
  refine y_iload_n hC dX6_tie_132 1 rfl rfl ?_
  refine y_if_ne_n hC 138 dX6_tie_133 (by decide) 1 rfl (by omega) (fun c133 => ?_) (fun c133 => absurd c133 (by omega))
  refine y_aload_n hC dX6_tie_138 3 rfl rfl ?_
  refine y_get hC cC6 0 rfl 9 (by decide) (inLr17 _ (List.mem_of_getElem? (i := 22) rfl)) rfl dX6_tie_139 ?_
  refine y_istore_n hC [(3, .int (nI 0)), (2, .int (nI 1)), (1, .int (nI 0)), (0, .ref (a 0))] dX6_tie_142 rfl (by decide) rfl ?_
  refine y_aload_n hC dX6_tie_143 3 rfl rfl ?_
  refine y_dup hC dX6_tie_144 rfl ?_
  refine y_get hC cC6 0 rfl 9 (by decide) (inLr17 _ (List.mem_of_getElem? (i := 22) rfl)) rfl dX6_tie_145 ?_
  refine y_iconst hC (v := nI 1) dX6_tie_148 rfl ?_
  refine y_iadd hC (v := nI 1) dX6_tie_149 (by decide) ?_
  refine y_put hC cC6 0 rfl 9 (by decide) (inLr17 _ (List.mem_of_getElem? (i := 22) rfl)) rfl rfl rfl (Nat.le_of_ble_eq_true rfl) dX6_tie_150 ([((a 0), .inr (6, [.int (nI 0), .ref (a 1), .ref (a 2), .int (nI 0), .int (nI 0), .int (nI 0), .ref (a 3), .int (nI 4), .int (nI 4), .int (nI 1), .ref (a 4), .ref (a 5), .ref (a 6), .ref (a 7), .ref (a 8), .int (nI 0), .ref (a 9), .int (nI 0), .ref (a 10), .ref (a 11), .ref (a 12), .ref (a 13), .ref (a 14)])), ((a 8), .inl (cI, 80, .inl (fun k => nI (Zf k))))]) rfl ?_
  refine y_iconst hC (v := nI 0) dX6_tie_153 rfl ?_
  refine y_istore hC [(4, .int (nI 0)), (3, .int (nI 0)), (2, .int (nI 1)), (1, .int (nI 0)), (0, .ref (a 0))] dX6_tie_154 (by decide) rfl ?_
  refine y_iload hC dX6_tie_156 0 rfl ?_
  refine y_aload_n hC dX6_tie_158 4 rfl rfl ?_
  refine y_get hC cC6 0 rfl 15 (by decide) (inLr15 _ (List.mem_of_getElem? (i := 4) rfl)) rfl dX6_tie_159 ?_
  refine y_icmp_ge_n hC 207 dX6_tie_162 (by decide) 0 0 rfl rfl (by omega) (by omega) (fun c162 => ?_) (fun c162 => absurd c162 (by omega))
  refine y_aload_n hC dX6_tie_207 4 rfl rfl ?_
  refine y_iconst hC (v := nI 0) dX6_tie_208 rfl ?_
  refine y_put hC cC6 0 rfl 15 (by decide) (inLr15 _ (List.mem_of_getElem? (i := 4) rfl)) rfl rfl rfl (Nat.le_of_ble_eq_true rfl) dX6_tie_209 ([((a 0), .inr (6, [.int (nI 0), .ref (a 1), .ref (a 2), .int (nI 0), .int (nI 0), .int (nI 0), .ref (a 3), .int (nI 4), .int (nI 4), .int (nI 1), .ref (a 4), .ref (a 5), .ref (a 6), .ref (a 7), .ref (a 8), .int (nI 0), .ref (a 9), .int (nI 0), .ref (a 10), .ref (a 11), .ref (a 12), .ref (a 13), .ref (a 14)])), ((a 8), .inl (cI, 80, .inl (fun k => nI (Zf k))))]) rfl ?_
  refine y_iload_n hC dX6_tie_212 1 rfl rfl ?_
  refine y_world hC [0] (ws' := [((a 0), .inr (6, [.int (nI 0), .ref (a 1), .ref (a 2), .int (nI 0), .int (nI 0), .int (nI 0), .ref (a 3), .int (nI 4), .int (nI 4), .int (nI 1), .ref (a 4), .ref (a 5), .ref (a 6), .ref (a 7), .ref (a 8), .int (nI 0), .ref (a 9), .int (nI 0), .ref (a 10), .ref (a 11), .ref (a 12), .ref (a 13), .ref (a 14)]))]) rfl rfl ?_
  exact hE (nI 0) (0, _) _ _ _ _ dX6_tie_213 (Nat.le_of_ble_eq_true rfl) (Nat.le_of_ble_eq_true rfl) rfl ⟨rfl, rfl⟩
theorem nV_X6_isCord : yV yX6_isCord RX6 cX6_isCord 2 (some .boolean) 1 := ⟨(inLr22 _ (List.mem_of_getElem? (i := 6) rfl)), (inLr22 _ (List.mem_of_getElem? (i := 7) rfl)), (inLr1 _ (List.mem_of_getElem? (i := 5) rfl)), (inLr22 _ (List.mem_of_getElem? (i := 8) rfl)), rfl, by decide, by decide, by decide +kernel⟩
set_option maxHeartbeats 4000000 in
set_option maxRecDepth 100000 in
theorem p_isCord (a : Nat → Nat) (t : Nat) (x : Int32) : MI l D (tyL cI cO cJ cZ) yX6_isCord cX6_isCord 2 .boolean ({ frames := 1, cells := 0, slots := 0, locals := 22 } : Room) [.ref (a 0), .int x] [((a 0), mOb a t)] (fun r (_ : Unit) => r = nI 0) (fun _ => [((a 0), mOb a t)]) := by
  refine MI.of (by decide) (Nat.le_of_ble_eq_true rfl) (fun G hC hE => ?_)
  show G 0 0 ([((a 0), mOb a t)]) 0 [(0, .ref (a 0)), (1, .int x)] []
  refine y_iload_n hC dX6_isCord_0 1 rfl rfl ?_
  refine y_iconst hC (v := nI 0) dX6_isCord_1 rfl ?_
  refine y_aload_n hC dX6_isCord_2 0 rfl rfl ?_
  refine y_get hC cC6 0 rfl 9 (by decide) (inLr17 _ (List.mem_of_getElem? (i := 22) rfl)) rfl dX6_isCord_3 ?_
  refine y_iconst hC (v := nI 1) dX6_isCord_6 rfl ?_
  refine y_isub hC (v := (-1)) dX6_isCord_7 (by decide) ?_
  refine y_callS_i hC (As := [.int x, .int (nI 0), .int (-1)]) (rest := []) (c_X6_isIn x (nI 0) (-1)) nS_X6_isIn (inLr6 _ (List.mem_of_getElem? (i := 8) rfl)) [] [0] [0] (fun u => [((a 0), mOb a t)]) rfl rfl rfl rfl (by decide) rfl (fun _ => rfl) rfl rfl (Nat.le_of_ble_eq_true rfl) dX6_isCord_8 ⟨(Nat.le_of_ble_eq_true rfl), (Nat.le_of_ble_eq_true rfl)⟩ ⟨(Nat.le_of_ble_eq_true rfl), (Nat.le_of_ble_eq_true rfl)⟩ (fun r1 u1 hw1 => ?_)
  obtain ⟨rfl, hb_u1⟩ := hw1
  try rw [show (nI 0 : Int32).toInt = 0 from by decide] at hb_u1
  try rw [show ((-1) : Int32).toInt = (-1) from by decide] at hb_u1
  exact hE (nI u1) () _ _ _ _ dX6_isCord_11 (Nat.le_of_ble_eq_true rfl) (Nat.le_of_ble_eq_true rfl) (nar_b (by omega)) (by rw [show u1 = 0 by omega])
theorem nV_X6_cord : yV yX6_cord RX6 cX6_cord 3 (some .int) 2 := ⟨(inLr22 _ (List.mem_of_getElem? (i := 2) rfl)), (inLr22 _ (List.mem_of_getElem? (i := 3) rfl)), (inLr1 _ (List.mem_of_getElem? (i := 5) rfl)), (inLr22 _ (List.mem_of_getElem? (i := 4) rfl)), rfl, by decide, by decide, by decide +kernel⟩
set_option maxHeartbeats 4000000 in
set_option maxRecDepth 100000 in
theorem p_X6_cord (a : Nat → Nat) (x : Int32) (y : Int32)  : MI l D (tyL cI cO cJ cZ) yX6_cord cX6_cord 3 .int ({ frames := 2, cells := 0, slots := 0, locals := 80 } : Room) [.ref (a 0), .int x, .int y] [((a 0), mOb a 0)] (fun r u => u.1 = 1) (fun (u : Nat × List Value) => [((a 0), .inr (6, .int (nI u.1) :: u.2))]) := by
  refine MI.of (by decide) (Nat.le_of_ble_eq_true rfl) (fun G hC hE => ?_)
  show G 0 0 ([((a 0), mOb a 0)]) 0 [(0, .ref (a 0)), (1, .int x), (2, .int y)] []
  refine y_aload_n hC dX6_cord_0 0 rfl rfl ?_
  refine y_iconst hC (v := nI 0) dX6_cord_1 rfl ?_
  refine y_put hC cC6 0 rfl 0 (by decide) (inLr6 _ (List.mem_of_getElem? (i := 7) rfl)) rfl rfl rfl (Nat.le_of_ble_eq_true rfl) dX6_cord_2 ([((a 0), mOb a 0)]) rfl ?_
  refine y_aload_n hC dX6_cord_5 0 rfl rfl ?_
  refine y_iload_n hC dX6_cord_6 1 rfl rfl ?_
  refine y_callV_i hC (As := [.int x]) (rest := []) (p_isCord a 0 x) nV_X6_isCord (inLr22 _ (List.mem_of_getElem? (i := 5) rfl)) [0] [] [0] (fun u => [((a 0), mOb a 0)]) rfl rfl rfl rfl (by decide) rfl (fun _ => rfl) 0 rfl rfl rfl rfl (Nat.le_of_ble_eq_true rfl) dX6_cord_7 ⟨(Nat.le_of_ble_eq_true rfl), (Nat.le_of_ble_eq_true rfl)⟩ ⟨(Nat.le_of_ble_eq_true rfl), (Nat.le_of_ble_eq_true rfl)⟩ (fun r1 u1 hw1 => ?_)
  subst hw1
  refine y_if_eq_n hC 32 dX6_cord_10 (by decide) 0 rfl (by omega) (fun c10 => ?_) (fun c10 => absurd c10 (by omega))
  refine y_aload_n hC dX6_cord_32 0 rfl rfl ?_
  refine y_iconst hC (v := nI 1) dX6_cord_33 rfl ?_
  refine y_callV_i hC (As := [.int (nI 1)]) (rest := []) (c_X6_no _ _ _ 1) nV_X6_no (inLr6 _ (List.mem_of_getElem? (i := 11) rfl)) [0] [] [0] (fun u => [((a 0), mOb a 1)]) rfl rfl rfl rfl (by decide) rfl (fun _ => rfl) 0 rfl rfl rfl rfl (Nat.le_of_ble_eq_true rfl) dX6_cord_34 ⟨(Nat.le_of_ble_eq_true rfl), (Nat.le_of_ble_eq_true rfl)⟩ ⟨(Nat.le_of_ble_eq_true rfl), (Nat.le_of_ble_eq_true rfl)⟩ (fun r2 u2 hw2 => ?_)
  subst hw2
  refine y_world hC [0] (ws' := [((a 0), mOb a 1)]) rfl rfl ?_
  exact hE (nI 0) (1, _) _ _ _ _ dX6_cord_37 (Nat.le_of_ble_eq_true rfl) (Nat.le_of_ble_eq_true rfl) rfl rfl
theorem nV_X6_knot : yV yX6_knot RX6 cX6_knot 3 (some .int) 2 := ⟨(inLr24 _ (List.mem_of_getElem? (i := 10) rfl)), (inLr24 _ (List.mem_of_getElem? (i := 11) rfl)), (inLr1 _ (List.mem_of_getElem? (i := 5) rfl)), (inLr24 _ (List.mem_of_getElem? (i := 12) rfl)), rfl, by decide, by decide, by decide +kernel⟩
set_option maxHeartbeats 4000000 in
set_option maxRecDepth 100000 in
theorem p_X6_knot (a : Nat → Nat) (x : Int32) (y : Int32)  : MI l D (tyL cI cO cJ cZ) yX6_knot cX6_knot 3 .int ({ frames := 2, cells := 0, slots := 0, locals := 80 } : Room) [.ref (a 0), .int x, .int y] [((a 0), mOb a 0)] (fun r u => u.1 = 1) (fun (u : Nat × List Value) => [((a 0), .inr (6, .int (nI u.1) :: u.2))]) := by
  refine MI.of (by decide) (Nat.le_of_ble_eq_true rfl) (fun G hC hE => ?_)
  show G 0 0 ([((a 0), mOb a 0)]) 0 [(0, .ref (a 0)), (1, .int x), (2, .int y)] []
  refine y_aload_n hC dX6_knot_0 0 rfl rfl ?_
  refine y_iconst hC (v := nI 0) dX6_knot_1 rfl ?_
  refine y_put hC cC6 0 rfl 0 (by decide) (inLr6 _ (List.mem_of_getElem? (i := 7) rfl)) rfl rfl rfl (Nat.le_of_ble_eq_true rfl) dX6_knot_2 ([((a 0), mOb a 0)]) rfl ?_
  refine y_aload_n hC dX6_knot_5 0 rfl rfl ?_
  refine y_iload_n hC dX6_knot_6 1 rfl rfl ?_
  refine y_callV_i hC (As := [.int x]) (rest := []) (p_isCord a 0 x) nV_X6_isCord (inLr22 _ (List.mem_of_getElem? (i := 5) rfl)) [0] [] [0] (fun u => [((a 0), mOb a 0)]) rfl rfl rfl rfl (by decide) rfl (fun _ => rfl) 0 rfl rfl rfl rfl (Nat.le_of_ble_eq_true rfl) dX6_knot_7 ⟨(Nat.le_of_ble_eq_true rfl), (Nat.le_of_ble_eq_true rfl)⟩ ⟨(Nat.le_of_ble_eq_true rfl), (Nat.le_of_ble_eq_true rfl)⟩ (fun r1 u1 hw1 => ?_)
  subst hw1
  refine y_if_eq_n hC 43 dX6_knot_10 (by decide) 0 rfl (by omega) (fun c10 => ?_) (fun c10 => absurd c10 (by omega))
  refine y_aload_n hC dX6_knot_43 0 rfl rfl ?_
  refine y_iconst hC (v := nI 1) dX6_knot_44 rfl ?_
  refine y_callV_i hC (As := [.int (nI 1)]) (rest := []) (c_X6_no _ _ _ 1) nV_X6_no (inLr6 _ (List.mem_of_getElem? (i := 11) rfl)) [0] [] [0] (fun u => [((a 0), mOb a 1)]) rfl rfl rfl rfl (by decide) rfl (fun _ => rfl) 0 rfl rfl rfl rfl (Nat.le_of_ble_eq_true rfl) dX6_knot_45 ⟨(Nat.le_of_ble_eq_true rfl), (Nat.le_of_ble_eq_true rfl)⟩ ⟨(Nat.le_of_ble_eq_true rfl), (Nat.le_of_ble_eq_true rfl)⟩ (fun r2 u2 hw2 => ?_)
  subst hw2
  refine y_world hC [0] (ws' := [((a 0), mOb a 1)]) rfl rfl ?_
  exact hE (nI 0) (1, _) _ _ _ _ dX6_knot_48 (Nat.le_of_ble_eq_true rfl) (Nat.le_of_ble_eq_true rfl) rfl rfl
theorem nV_X6_retie : yV yX6_retie RX6 cX6_retie 5 (some .int) 3 := ⟨(inLr24 _ (List.mem_of_getElem? (i := 21) rfl)), (inLr24 _ (List.mem_of_getElem? (i := 22) rfl)), (inLr1 _ (List.mem_of_getElem? (i := 5) rfl)), (inLr24 _ (List.mem_of_getElem? (i := 23) rfl)), rfl, by decide, by decide, by decide +kernel⟩
set_option maxHeartbeats 4000000 in
set_option maxRecDepth 100000 in
theorem p_X6_retie (a : Nat → Nat) (x : Int32) (y : Int32) (z : Int32)  : MI l D (tyL cI cO cJ cZ) yX6_retie cX6_retie 5 .int ({ frames := 2, cells := 0, slots := 0, locals := 80 } : Room) [.ref (a 0), .int x, .int y, .int z] [((a 0), mOb a 0)] (fun r u => u.1 = 1) (fun (u : Nat × List Value) => [((a 0), .inr (6, .int (nI u.1) :: u.2))]) := by
  refine MI.of (by decide) (Nat.le_of_ble_eq_true rfl) (fun G hC hE => ?_)
  show G 0 0 ([((a 0), mOb a 0)]) 0 [(0, .ref (a 0)), (1, .int x), (2, .int y), (3, .int z)] []
  refine y_aload_n hC dX6_retie_0 0 rfl rfl ?_
  refine y_iconst hC (v := nI 0) dX6_retie_1 rfl ?_
  refine y_put hC cC6 0 rfl 0 (by decide) (inLr6 _ (List.mem_of_getElem? (i := 7) rfl)) rfl rfl rfl (Nat.le_of_ble_eq_true rfl) dX6_retie_2 ([((a 0), mOb a 0)]) rfl ?_
  refine y_aload_n hC dX6_retie_5 0 rfl rfl ?_
  refine y_iload_n hC dX6_retie_6 1 rfl rfl ?_
  refine y_callV_i hC (As := [.int x]) (rest := []) (p_isCord a 0 x) nV_X6_isCord (inLr22 _ (List.mem_of_getElem? (i := 5) rfl)) [0] [] [0] (fun u => [((a 0), mOb a 0)]) rfl rfl rfl rfl (by decide) rfl (fun _ => rfl) 0 rfl rfl rfl rfl (Nat.le_of_ble_eq_true rfl) dX6_retie_7 ⟨(Nat.le_of_ble_eq_true rfl), (Nat.le_of_ble_eq_true rfl)⟩ ⟨(Nat.le_of_ble_eq_true rfl), (Nat.le_of_ble_eq_true rfl)⟩ (fun r1 u1 hw1 => ?_)
  subst hw1
  refine y_if_eq_n hC 29 dX6_retie_10 (by decide) 0 rfl (by omega) (fun c10 => ?_) (fun c10 => absurd c10 (by omega))
  refine y_aload_n hC dX6_retie_29 0 rfl rfl ?_
  refine y_iconst hC (v := nI 1) dX6_retie_30 rfl ?_
  refine y_callV_i hC (As := [.int (nI 1)]) (rest := []) (c_X6_no _ _ _ 1) nV_X6_no (inLr6 _ (List.mem_of_getElem? (i := 11) rfl)) [0] [] [0] (fun u => [((a 0), mOb a 1)]) rfl rfl rfl rfl (by decide) rfl (fun _ => rfl) 0 rfl rfl rfl rfl (Nat.le_of_ble_eq_true rfl) dX6_retie_31 ⟨(Nat.le_of_ble_eq_true rfl), (Nat.le_of_ble_eq_true rfl)⟩ ⟨(Nat.le_of_ble_eq_true rfl), (Nat.le_of_ble_eq_true rfl)⟩ (fun r2 u2 hw2 => ?_)
  subst hw2
  refine y_world hC [0] (ws' := [((a 0), mOb a 1)]) rfl rfl ?_
  exact hE (nI 0) (1, _) _ _ _ _ dX6_retie_34 (Nat.le_of_ble_eq_true rfl) (Nat.le_of_ble_eq_true rfl) rfl rfl
theorem nV_X6_distance : yV yX6_distance RX6 cX6_distance 3 (some .int) 2 := ⟨(inLr25 _ (List.mem_of_getElem? (i := 12) rfl)), (inLr25 _ (List.mem_of_getElem? (i := 13) rfl)), (inLr1 _ (List.mem_of_getElem? (i := 5) rfl)), (inLr25 _ (List.mem_of_getElem? (i := 14) rfl)), rfl, by decide, by decide, by decide +kernel⟩
set_option maxHeartbeats 4000000 in
set_option maxRecDepth 100000 in
theorem p_X6_distance (a : Nat → Nat) (x : Int32) (y : Int32)  : MI l D (tyL cI cO cJ cZ) yX6_distance cX6_distance 3 .int ({ frames := 2, cells := 0, slots := 0, locals := 80 } : Room) [.ref (a 0), .int x, .int y] [((a 0), mOb a 0)] (fun r u => u.1 = 1) (fun (u : Nat × List Value) => [((a 0), .inr (6, .int (nI u.1) :: u.2))]) := by
  refine MI.of (by decide) (Nat.le_of_ble_eq_true rfl) (fun G hC hE => ?_)
  show G 0 0 ([((a 0), mOb a 0)]) 0 [(0, .ref (a 0)), (1, .int x), (2, .int y)] []
  refine y_aload_n hC dX6_distance_0 0 rfl rfl ?_
  refine y_iconst hC (v := nI 0) dX6_distance_1 rfl ?_
  refine y_put hC cC6 0 rfl 0 (by decide) (inLr6 _ (List.mem_of_getElem? (i := 7) rfl)) rfl rfl rfl (Nat.le_of_ble_eq_true rfl) dX6_distance_2 ([((a 0), mOb a 0)]) rfl ?_
  refine y_aload_n hC dX6_distance_5 0 rfl rfl ?_
  refine y_iload_n hC dX6_distance_6 1 rfl rfl ?_
  refine y_callV_i hC (As := [.int x]) (rest := []) (p_isCord a 0 x) nV_X6_isCord (inLr22 _ (List.mem_of_getElem? (i := 5) rfl)) [0] [] [0] (fun u => [((a 0), mOb a 0)]) rfl rfl rfl rfl (by decide) rfl (fun _ => rfl) 0 rfl rfl rfl rfl (Nat.le_of_ble_eq_true rfl) dX6_distance_7 ⟨(Nat.le_of_ble_eq_true rfl), (Nat.le_of_ble_eq_true rfl)⟩ ⟨(Nat.le_of_ble_eq_true rfl), (Nat.le_of_ble_eq_true rfl)⟩ (fun r1 u1 hw1 => ?_)
  subst hw1
  refine y_if_eq_n hC 30 dX6_distance_10 (by decide) 0 rfl (by omega) (fun c10 => ?_) (fun c10 => absurd c10 (by omega))
  refine y_aload_n hC dX6_distance_30 0 rfl rfl ?_
  refine y_iconst hC (v := nI 1) dX6_distance_31 rfl ?_
  refine y_callV_i hC (As := [.int (nI 1)]) (rest := []) (c_X6_no _ _ _ 1) nV_X6_no (inLr6 _ (List.mem_of_getElem? (i := 11) rfl)) [0] [] [0] (fun u => [((a 0), mOb a 1)]) rfl rfl rfl rfl (by decide) rfl (fun _ => rfl) 0 rfl rfl rfl rfl (Nat.le_of_ble_eq_true rfl) dX6_distance_32 ⟨(Nat.le_of_ble_eq_true rfl), (Nat.le_of_ble_eq_true rfl)⟩ ⟨(Nat.le_of_ble_eq_true rfl), (Nat.le_of_ble_eq_true rfl)⟩ (fun r2 u2 hw2 => ?_)
  subst hw2
  refine y_world hC [0] (ws' := [((a 0), mOb a 1)]) rfl rfl ?_
  exact hE (nI 0) (1, _) _ _ _ _ dX6_distance_35 (Nat.le_of_ble_eq_true rfl) (Nat.le_of_ble_eq_true rfl) rfl rfl
theorem nV_X6_nearest : yV yX6_nearest RX6 cX6_nearest 6 (some .int) 1 := ⟨(inLr26 _ (List.mem_of_getElem? (i := 3) rfl)), (inLr26 _ (List.mem_of_getElem? (i := 4) rfl)), (inLr1 _ (List.mem_of_getElem? (i := 5) rfl)), (inLr26 _ (List.mem_of_getElem? (i := 5) rfl)), rfl, by decide, by decide, by decide +kernel⟩
set_option maxHeartbeats 4000000 in
set_option maxRecDepth 100000 in
theorem p_X6_nearest (a : Nat → Nat) (x : Int32)  : MI l D (tyL cI cO cJ cZ) yX6_nearest cX6_nearest 6 .int ({ frames := 2, cells := 0, slots := 0, locals := 80 } : Room) [.ref (a 0), .int x] [((a 0), mOb a 0)] (fun r u => u.1 = 1) (fun (u : Nat × List Value) => [((a 0), .inr (6, .int (nI u.1) :: u.2))]) := by
  refine MI.of (by decide) (Nat.le_of_ble_eq_true rfl) (fun G hC hE => ?_)
  show G 0 0 ([((a 0), mOb a 0)]) 0 [(0, .ref (a 0)), (1, .int x)] []
  refine y_aload_n hC dX6_nearest_0 0 rfl rfl ?_
  refine y_iconst hC (v := nI 0) dX6_nearest_1 rfl ?_
  refine y_put hC cC6 0 rfl 0 (by decide) (inLr6 _ (List.mem_of_getElem? (i := 7) rfl)) rfl rfl rfl (Nat.le_of_ble_eq_true rfl) dX6_nearest_2 ([((a 0), mOb a 0)]) rfl ?_
  refine y_aload_n hC dX6_nearest_5 0 rfl rfl ?_
  refine y_iload_n hC dX6_nearest_6 1 rfl rfl ?_
  refine y_callV_i hC (As := [.int x]) (rest := []) (p_isCord a 0 x) nV_X6_isCord (inLr22 _ (List.mem_of_getElem? (i := 5) rfl)) [0] [] [0] (fun u => [((a 0), mOb a 0)]) rfl rfl rfl rfl (by decide) rfl (fun _ => rfl) 0 rfl rfl rfl rfl (Nat.le_of_ble_eq_true rfl) dX6_nearest_7 ⟨(Nat.le_of_ble_eq_true rfl), (Nat.le_of_ble_eq_true rfl)⟩ ⟨(Nat.le_of_ble_eq_true rfl), (Nat.le_of_ble_eq_true rfl)⟩ (fun r1 u1 hw1 => ?_)
  subst hw1
  refine y_if_ne_n hC 19 dX6_nearest_10 (by decide) 0 rfl (by omega) (fun c10 => absurd c10 (by omega)) (fun c10 => ?_)
  refine y_aload_n hC dX6_nearest_13 0 rfl rfl ?_
  refine y_iconst hC (v := nI 1) dX6_nearest_14 rfl ?_
  refine y_callV_i hC (As := [.int (nI 1)]) (rest := []) (c_X6_no _ _ _ 1) nV_X6_no (inLr6 _ (List.mem_of_getElem? (i := 11) rfl)) [0] [] [0] (fun u => [((a 0), mOb a 1)]) rfl rfl rfl rfl (by decide) rfl (fun _ => rfl) 0 rfl rfl rfl rfl (Nat.le_of_ble_eq_true rfl) dX6_nearest_15 ⟨(Nat.le_of_ble_eq_true rfl), (Nat.le_of_ble_eq_true rfl)⟩ ⟨(Nat.le_of_ble_eq_true rfl), (Nat.le_of_ble_eq_true rfl)⟩ (fun r2 u2 hw2 => ?_)
  subst hw2
  refine y_world hC [0] (ws' := [((a 0), mOb a 1)]) rfl rfl ?_
  exact hE (nI 0) (1, _) _ _ _ _ dX6_nearest_18 (Nat.le_of_ble_eq_true rfl) (Nat.le_of_ble_eq_true rfl) rfl rfl
theorem nV_X6_read : yV yX6_read RX6 cX6_read 2 (some .int) 1 := ⟨(inLr27 _ (List.mem_of_getElem? (i := 0) rfl)), (inLr27 _ (List.mem_of_getElem? (i := 1) rfl)), (inLr1 _ (List.mem_of_getElem? (i := 5) rfl)), (inLr27 _ (List.mem_of_getElem? (i := 2) rfl)), rfl, by decide, by decide, by decide +kernel⟩
set_option maxHeartbeats 4000000 in
set_option maxRecDepth 100000 in
theorem p_X6_read (a : Nat → Nat) (x : Int32)  : MI l D (tyL cI cO cJ cZ) yX6_read cX6_read 2 .int ({ frames := 2, cells := 0, slots := 0, locals := 80 } : Room) [.ref (a 0), .int x] [((a 0), mOb a 0)] (fun r u => u.1 = 1) (fun (u : Nat × List Value) => [((a 0), .inr (6, .int (nI u.1) :: u.2))]) := by
  refine MI.of (by decide) (Nat.le_of_ble_eq_true rfl) (fun G hC hE => ?_)
  show G 0 0 ([((a 0), mOb a 0)]) 0 [(0, .ref (a 0)), (1, .int x)] []
  refine y_aload_n hC dX6_read_0 0 rfl rfl ?_
  refine y_iconst hC (v := nI 0) dX6_read_1 rfl ?_
  refine y_put hC cC6 0 rfl 0 (by decide) (inLr6 _ (List.mem_of_getElem? (i := 7) rfl)) rfl rfl rfl (Nat.le_of_ble_eq_true rfl) dX6_read_2 ([((a 0), mOb a 0)]) rfl ?_
  refine y_aload_n hC dX6_read_5 0 rfl rfl ?_
  refine y_iload_n hC dX6_read_6 1 rfl rfl ?_
  refine y_callV_i hC (As := [.int x]) (rest := []) (p_isCord a 0 x) nV_X6_isCord (inLr22 _ (List.mem_of_getElem? (i := 5) rfl)) [0] [] [0] (fun u => [((a 0), mOb a 0)]) rfl rfl rfl rfl (by decide) rfl (fun _ => rfl) 0 rfl rfl rfl rfl (Nat.le_of_ble_eq_true rfl) dX6_read_7 ⟨(Nat.le_of_ble_eq_true rfl), (Nat.le_of_ble_eq_true rfl)⟩ ⟨(Nat.le_of_ble_eq_true rfl), (Nat.le_of_ble_eq_true rfl)⟩ (fun r1 u1 hw1 => ?_)
  subst hw1
  refine y_if_ne_n hC 19 dX6_read_10 (by decide) 0 rfl (by omega) (fun c10 => absurd c10 (by omega)) (fun c10 => ?_)
  refine y_aload_n hC dX6_read_13 0 rfl rfl ?_
  refine y_iconst hC (v := nI 1) dX6_read_14 rfl ?_
  refine y_callV_i hC (As := [.int (nI 1)]) (rest := []) (c_X6_no _ _ _ 1) nV_X6_no (inLr6 _ (List.mem_of_getElem? (i := 11) rfl)) [0] [] [0] (fun u => [((a 0), mOb a 1)]) rfl rfl rfl rfl (by decide) rfl (fun _ => rfl) 0 rfl rfl rfl rfl (Nat.le_of_ble_eq_true rfl) dX6_read_15 ⟨(Nat.le_of_ble_eq_true rfl), (Nat.le_of_ble_eq_true rfl)⟩ ⟨(Nat.le_of_ble_eq_true rfl), (Nat.le_of_ble_eq_true rfl)⟩ (fun r2 u2 hw2 => ?_)
  subst hw2
  refine y_world hC [0] (ws' := [((a 0), mOb a 1)]) rfl rfl ?_
  exact hE (nI 0) (1, _) _ _ _ _ dX6_read_18 (Nat.le_of_ble_eq_true rfl) (Nat.le_of_ble_eq_true rfl) rfl rfl
theorem nV_X6_byteAt : yV yX6_byteAt RX6 cX6_byteAt 2 (some .int) 1 := ⟨(inLr27 _ (List.mem_of_getElem? (i := 11) rfl)), (inLr27 _ (List.mem_of_getElem? (i := 12) rfl)), (inLr1 _ (List.mem_of_getElem? (i := 5) rfl)), (inLr27 _ (List.mem_of_getElem? (i := 13) rfl)), rfl, by decide, by decide, by decide +kernel⟩
set_option maxHeartbeats 4000000 in
set_option maxRecDepth 100000 in
theorem p_X6_byteAt (a : Nat → Nat) (x : Int32)  : MI l D (tyL cI cO cJ cZ) yX6_byteAt cX6_byteAt 2 .int ({ frames := 1, cells := 0, slots := 0, locals := 60 } : Room) [.ref (a 0), .int x] [((a 0), mOb a 0)] (fun r u => u.1 = 1) (fun (u : Nat × List Value) => [((a 0), .inr (6, .int (nI u.1) :: u.2))]) := by
  refine MI.of (by decide) (Nat.le_of_ble_eq_true rfl) (fun G hC hE => ?_)
  show G 0 0 ([((a 0), mOb a 0)]) 0 [(0, .ref (a 0)), (1, .int x)] []
  refine y_aload_n hC dX6_byteAt_0 0 rfl rfl ?_
  refine y_iconst hC (v := nI 0) dX6_byteAt_1 rfl ?_
  refine y_put hC cC6 0 rfl 0 (by decide) (inLr6 _ (List.mem_of_getElem? (i := 7) rfl)) rfl rfl rfl (Nat.le_of_ble_eq_true rfl) dX6_byteAt_2 ([((a 0), mOb a 0)]) rfl ?_
  refine y_iload_n hC dX6_byteAt_5 1 rfl rfl ?_
  refine y_iconst hC (v := nI 0) dX6_byteAt_6 rfl ?_
  refine y_aload_n hC dX6_byteAt_7 0 rfl rfl ?_
  refine y_get hC cC6 0 rfl 17 (by decide) (inLr23 _ (List.mem_of_getElem? (i := 20) rfl)) rfl dX6_byteAt_8 ?_
  refine y_iconst hC (v := nI 1) dX6_byteAt_11 rfl ?_
  refine y_isub hC (v := (-1)) dX6_byteAt_12 (by decide) ?_
  refine y_callS_i hC (As := [.int x, .int (nI 0), .int (-1)]) (rest := []) (c_X6_isIn x (nI 0) (-1)) nS_X6_isIn (inLr6 _ (List.mem_of_getElem? (i := 8) rfl)) [] [0] [0] (fun u => [((a 0), mOb a 0)]) rfl rfl rfl rfl (by decide) rfl (fun _ => rfl) rfl rfl (Nat.le_of_ble_eq_true rfl) dX6_byteAt_13 ⟨(Nat.le_of_ble_eq_true rfl), (Nat.le_of_ble_eq_true rfl)⟩ ⟨(Nat.le_of_ble_eq_true rfl), (Nat.le_of_ble_eq_true rfl)⟩ (fun r1 u1 hw1 => ?_)
  obtain ⟨rfl, hb_u1⟩ := hw1
  try rw [show (nI 0 : Int32).toInt = 0 from by decide] at hb_u1
  try rw [show ((-1) : Int32).toInt = (-1) from by decide] at hb_u1
  refine y_if_eq_n hC 28 dX6_byteAt_16 (by decide) u1 rfl (by omega) (fun c16 => ?_) (fun c16 => absurd c16 (by omega))
  refine y_aload_n hC dX6_byteAt_28 0 rfl rfl ?_
  refine y_iconst hC (v := nI 1) dX6_byteAt_29 rfl ?_
  refine y_callV_i hC (As := [.int (nI 1)]) (rest := []) (c_X6_no _ _ _ 1) nV_X6_no (inLr6 _ (List.mem_of_getElem? (i := 11) rfl)) [0] [] [0] (fun u => [((a 0), mOb a 1)]) rfl rfl rfl rfl (by decide) rfl (fun _ => rfl) 0 rfl rfl rfl rfl (Nat.le_of_ble_eq_true rfl) dX6_byteAt_30 ⟨(Nat.le_of_ble_eq_true rfl), (Nat.le_of_ble_eq_true rfl)⟩ ⟨(Nat.le_of_ble_eq_true rfl), (Nat.le_of_ble_eq_true rfl)⟩ (fun r2 u2 hw2 => ?_)
  subst hw2
  refine y_world hC [0] (ws' := [((a 0), mOb a 1)]) rfl rfl ?_
  exact hE (nI 0) (1, _) _ _ _ _ dX6_byteAt_33 (Nat.le_of_ble_eq_true rfl) (Nat.le_of_ble_eq_true rfl) rfl rfl
theorem nV_X6_sum : yV yX6_sum RX6 cX6_sum 6 (some .int) 1 := ⟨(inLr28 _ (List.mem_of_getElem? (i := 9) rfl)), (inLr28 _ (List.mem_of_getElem? (i := 10) rfl)), (inLr1 _ (List.mem_of_getElem? (i := 5) rfl)), (inLr28 _ (List.mem_of_getElem? (i := 11) rfl)), rfl, by decide, by decide, by decide +kernel⟩
set_option maxHeartbeats 4000000 in
set_option maxRecDepth 100000 in
theorem p_sum (a : Nat → Nat) (t k : Nat) (hk : k < 7) : MI l D (tyL cI cO cJ cZ) yX6_sum cX6_sum 6 .int ({ frames := 0, cells := 1, slots := 7, locals := 0 } : Room) [.ref (a 0), .int (nI k)] [((a 0), mOb a t), ((a 1), .inl (cI, 12, .inl (fun k => nI (Zf k))))] (fun r (_ : Unit) => r = nI 0) (fun _ => [((a 0), mOb a t), ((a 1), .inl (cI, 12, .inl (fun k => nI (Zf k))))]) := by
  refine MI.of (by decide) (Nat.le_of_ble_eq_true rfl) (fun G hC hE => ?_)
  show G 0 0 ([((a 0), mOb a t), ((a 1), .inl (cI, 12, .inl (fun k => nI (Zf k))))]) 0 [(0, .ref (a 0)), (1, .int (nI k))] []
  refine y_iconst hC (v := nI 0) dX6_sum_0 rfl ?_
  refine y_istore_n hC [(2, .int (nI 0)), (0, .ref (a 0)), (1, .int (nI k))] dX6_sum_1 rfl (by decide) rfl ?_
  refine y_iconst hC (v := nI 0) dX6_sum_2 rfl ?_
  refine y_istore_n hC [(3, .int (nI 0)), (2, .int (nI 0)), (0, .ref (a 0)), (1, .int (nI k))] dX6_sum_3 rfl (by decide) rfl ?_
  refine y_iconst hC (v := nI 0) dX6_sum_4 rfl ?_
  refine y_istore hC [(4, .int (nI 0)), (3, .int (nI 0)), (2, .int (nI 0)), (0, .ref (a 0)), (1, .int (nI k))] dX6_sum_5 (by decide) rfl ?_
  refine y_iconst hC (v := nI 0) dX6_sum_7 rfl ?_
  refine y_istore hC [(5, .int (nI 0)), (4, .int (nI 0)), (3, .int (nI 0)), (2, .int (nI 0)), (0, .ref (a 0)), (1, .int (nI k))] dX6_sum_8 (by decide) rfl ?_
  have L10_l1 : ∀ n i : Nat, 12 + 1 ≤ i + n → i ≤ 12 → G 0 0 ([((a 0), mOb a t), ((a 1), .inl (cI, 12, .inl (fun k => nI (Zf k))))]) 10 [(0, .ref (a 0)), (1, .int (nI k)), (2, .int (nI 0)), (3, .int (nI 0)), (4, .int (nI 0)), (5, .int (nI i))] [] := by
    intro n
    induction n with
    | zero => intro i h1 h2; omega
    | succ n ih10i =>
      intro i h1i h2i
      refine y_iload hC dX6_sum_10 5 rfl ?_
      refine y_bipush hC (v := nI 12) dX6_sum_12 rfl ?_
      refine y_icmp_ge_n hC 41 dX6_sum_14 (by decide) i 12 rfl rfl (by omega) (by omega) (fun c14 => ?_) (fun c14 => ?_)
      · refine y_iconst hC (v := nI 0) dX6_sum_41 rfl ?_
        refine y_istore hC [(5, .int (nI 0)), (0, .ref (a 0)), (1, .int (nI k)), (2, .int (nI 0)), (3, .int (nI 0)), (4, .int (nI 0))] dX6_sum_42 (by decide) rfl ?_
        refine y_iload hC dX6_sum_44 0 rfl ?_
        refine y_aload_n hC dX6_sum_46 1 rfl rfl ?_
        refine y_get hC cC6 0 rfl 9 (by decide) (inLr17 _ (List.mem_of_getElem? (i := 22) rfl)) rfl dX6_sum_47 ?_
        refine y_icmp_ge_n hC 81 dX6_sum_50 (by decide) 0 0 rfl rfl (by omega) (by omega) (fun c50 => ?_) (fun c50 => absurd c50 (by omega))
        refine y_bipush hC (v := nI 7) dX6_sum_81 rfl ?_
        refine y_newa hC (atype := .int) (N := 7) (a0 := (7, .inl (fun k => nI (Zf k)))) (cA := cI) (inLr2 _ (List.mem_of_getElem? (i := 9) rfl)) rfl 0 rfl ⟨rfl, fun _ h => h⟩ (fun _ => rfl) rfl (by decide) (Nat.le_of_ble_eq_true rfl) (Nat.le_of_ble_eq_true rfl) dX6_sum_83 (fun q1 => ?_)
        show G 1 7 ([((a 0), mOb a t), ((a 1), .inl (cI, 12, .inl (fun k => nI (Zf k)))), (q1, .inl (cI, 7, .inl (fun k => nI (Zf k))))]) 85 [(5, .int (nI 0)), (0, .ref (a 0)), (1, .int (nI k)), (2, .int (nI 0)), (3, .int (nI 0)), (4, .int (nI 0))] [.ref q1]
        refine y_dup hC dX6_sum_85 rfl ?_
        refine y_iconst hC (v := nI 0) dX6_sum_86 rfl ?_
        refine y_iload_n hC dX6_sum_87 3 rfl rfl ?_
        refine y_iast hC 2 0 rfl rfl 0 rfl (by omega) (by decide) dX6_sum_88 ([((a 0), mOb a t), ((a 1), .inl (cI, 12, .inl (fun k => nI (Zf k)))), (q1, .inl (cI, 7, .inl (fun k => nI (Zf k))))]) (by rw [updZ]; rfl) ?_
        refine y_dup hC dX6_sum_89 rfl ?_
        refine y_iconst hC (v := nI 1) dX6_sum_90 rfl ?_
        refine y_aload_n hC dX6_sum_91 1 rfl rfl ?_
        refine y_get hC cC6 0 rfl 9 (by decide) (inLr17 _ (List.mem_of_getElem? (i := 22) rfl)) rfl dX6_sum_92 ?_
        refine y_iast hC 2 0 rfl rfl 1 rfl (by omega) (by decide) dX6_sum_95 ([((a 0), mOb a t), ((a 1), .inl (cI, 12, .inl (fun k => nI (Zf k)))), (q1, .inl (cI, 7, .inl (fun k => nI (Zf k))))]) (by rw [updZ]; rfl) ?_
        refine y_dup hC dX6_sum_96 rfl ?_
        refine y_iconst hC (v := nI 2) dX6_sum_97 rfl ?_
        refine y_aload_n hC dX6_sum_98 1 rfl rfl ?_
        refine y_get hC cC6 0 rfl 5 (by decide) (inLr18 _ (List.mem_of_getElem? (i := 11) rfl)) rfl dX6_sum_99 ?_
        refine y_iast hC 2 0 rfl rfl 2 rfl (by omega) (by decide) dX6_sum_102 ([((a 0), mOb a t), ((a 1), .inl (cI, 12, .inl (fun k => nI (Zf k)))), (q1, .inl (cI, 7, .inl (fun k => nI (Zf k))))]) (by rw [updZ]; rfl) ?_
        refine y_dup hC dX6_sum_103 rfl ?_
        refine y_iconst hC (v := nI 3) dX6_sum_104 rfl ?_
        refine y_iload_n hC dX6_sum_105 4 rfl rfl ?_
        refine y_iast hC 2 0 rfl rfl 3 rfl (by omega) (by decide) dX6_sum_106 ([((a 0), mOb a t), ((a 1), .inl (cI, 12, .inl (fun k => nI (Zf k)))), (q1, .inl (cI, 7, .inl (fun k => nI (Zf k))))]) (by rw [updZ]; rfl) ?_
        refine y_dup hC dX6_sum_107 rfl ?_
        refine y_iconst hC (v := nI 4) dX6_sum_108 rfl ?_
        refine y_iload hC dX6_sum_109 5 rfl ?_
        refine y_iast hC 2 0 rfl rfl 4 rfl (by omega) (by decide) dX6_sum_111 ([((a 0), mOb a t), ((a 1), .inl (cI, 12, .inl (fun k => nI (Zf k)))), (q1, .inl (cI, 7, .inl (fun k => nI (Zf k))))]) (by rw [updZ]; rfl) ?_
        refine y_dup hC dX6_sum_112 rfl ?_
        refine y_iconst hC (v := nI 5) dX6_sum_113 rfl ?_
        refine y_aload_n hC dX6_sum_114 1 rfl rfl ?_
        refine y_get hC cC6 0 rfl 15 (by decide) (inLr15 _ (List.mem_of_getElem? (i := 4) rfl)) rfl dX6_sum_115 ?_
        refine y_iast hC 2 0 rfl rfl 5 rfl (by omega) (by decide) dX6_sum_118 ([((a 0), mOb a t), ((a 1), .inl (cI, 12, .inl (fun k => nI (Zf k)))), (q1, .inl (cI, 7, .inl (fun k => nI (Zf k))))]) (by rw [updZ]; rfl) ?_
        refine y_dup hC dX6_sum_119 rfl ?_
        refine y_bipush hC (v := nI 6) dX6_sum_120 rfl ?_
        refine y_aload_n hC dX6_sum_122 1 rfl rfl ?_
        refine y_get hC cC6 0 rfl 17 (by decide) (inLr23 _ (List.mem_of_getElem? (i := 20) rfl)) rfl dX6_sum_123 ?_
        refine y_iast hC 2 0 rfl rfl 6 rfl (by omega) (by decide) dX6_sum_126 ([((a 0), mOb a t), ((a 1), .inl (cI, 12, .inl (fun k => nI (Zf k)))), (q1, .inl (cI, 7, .inl (fun k => nI (Zf k))))]) (by rw [updZ]; rfl) ?_
        refine y_astore hC [(5, .ref q1), (0, .ref (a 0)), (1, .int (nI k)), (2, .int (nI 0)), (3, .int (nI 0)), (4, .int (nI 0))] dX6_sum_127 (by decide) rfl ?_
        refine y_aload hC dX6_sum_129 0 rfl ?_
        refine y_iload_n hC dX6_sum_131 2 rfl rfl ?_
        refine y_iald hC 2 0 rfl rfl k rfl (by omega) (by decide) dX6_sum_132 ?_
        refine y_world hC [0, 1] (ws' := [((a 0), mOb a t), ((a 1), .inl (cI, 12, .inl (fun k => nI (Zf k))))]) rfl rfl ?_
        exact hE (nI 0) () _ _ _ _ dX6_sum_133 (Nat.le_of_ble_eq_true rfl) (Nat.le_of_ble_eq_true rfl) rfl rfl
      · refine y_iload_n hC dX6_sum_17 2 rfl rfl ?_
        refine y_aload_n hC dX6_sum_18 0 rfl rfl ?_
        refine y_get hC cC6 0 rfl 1 (by decide) (inLr4 _ (List.mem_of_getElem? (i := 8) rfl)) rfl dX6_sum_19 ?_
        refine y_iload hC dX6_sum_22 5 rfl ?_
        refine y_iald hC 1 0 rfl rfl i rfl (by omega) (by decide) dX6_sum_24 ?_
        refine y_if_le_n hC 32 dX6_sum_25 (by decide) 0 rfl (by omega) (fun c25 => ?_) (fun c25 => absurd c25 (by omega))
        refine y_iconst hC (v := nI 0) dX6_sum_32 rfl ?_
        refine y_iadd hC (v := nI 0) dX6_sum_33 (by decide) ?_
        refine y_istore_n hC [(2, .int (nI 0)), (0, .ref (a 0)), (1, .int (nI k)), (3, .int (nI 0)), (4, .int (nI 0)), (5, .int (nI i))] dX6_sum_34 rfl (by decide) rfl ?_
        refine y_iinc hC (v := nI (i + 1)) [(5, .int (nI (i + 1))), (2, .int (nI 0)), (0, .ref (a 0)), (1, .int (nI k)), (3, .int (nI 0)), (4, .int (nI 0))] dX6_sum_35 (k := 5) rfl (ninc _) (by decide) rfl ?_
        refine y_goto hC 10 dX6_sum_38 (by decide) ?_
        refine y_sub hC [2, 3, 1, 4, 5, 0] rfl ?_
        exact ih10i (i + 1) (by omega) (by omega)
  refine y_sub hC [4, 5, 3, 2, 1, 0] rfl ?_
  exact L10_l1 (12 + 1) 0 (by omega) (by omega)
theorem nV_X6_count : yV yX6_count RX6 cX6_count 2 (some .int) 1 := ⟨(inLr28 _ (List.mem_of_getElem? (i := 5) rfl)), (inLr28 _ (List.mem_of_getElem? (i := 6) rfl)), (inLr1 _ (List.mem_of_getElem? (i := 5) rfl)), (inLr28 _ (List.mem_of_getElem? (i := 7) rfl)), rfl, by decide, by decide, by decide +kernel⟩
set_option maxHeartbeats 4000000 in
set_option maxRecDepth 100000 in
theorem p_X6_count (a : Nat → Nat) (x : Int32)  : MI l D (tyL cI cO cJ cZ) yX6_count cX6_count 2 .int ({ frames := 1, cells := 1, slots := 7, locals := 60 } : Room) [.ref (a 0), .int x] [((a 0), mOb a 0), ((a 1), .inl (cI, 12, .inl (fun k => nI (Zf k))))] (fun r u => u.1 = kcCou x ∧ (kcCou x = 0 → r = nI 0)) (fun (u : Nat × List Value) => [((a 0), .inr (6, .int (nI u.1) :: u.2))]) := by
  refine MI.of (by decide) (Nat.le_of_ble_eq_true rfl) (fun G hC hE => ?_)
  show G 0 0 ([((a 0), mOb a 0), ((a 1), .inl (cI, 12, .inl (fun k => nI (Zf k))))]) 0 [(0, .ref (a 0)), (1, .int x)] []
  refine y_aload_n hC dX6_count_0 0 rfl rfl ?_
  refine y_iconst hC (v := nI 0) dX6_count_1 rfl ?_
  refine y_put hC cC6 0 rfl 0 (by decide) (inLr6 _ (List.mem_of_getElem? (i := 7) rfl)) rfl rfl rfl (Nat.le_of_ble_eq_true rfl) dX6_count_2 ([((a 0), mOb a 0), ((a 1), .inl (cI, 12, .inl (fun k => nI (Zf k))))]) rfl ?_
  refine y_iload_n hC dX6_count_5 1 rfl rfl ?_
  refine y_iconst hC (v := nI 0) dX6_count_6 rfl ?_
  refine y_bipush hC (v := nI 6) dX6_count_7 rfl ?_
  refine y_callS_i hC (As := [.int x, .int (nI 0), .int (nI 6)]) (rest := []) (c_X6_isIn x (nI 0) (nI 6)) nS_X6_isIn (inLr6 _ (List.mem_of_getElem? (i := 8) rfl)) [] [0, 1] [0, 1] (fun u => [((a 0), mOb a 0), ((a 1), .inl (cI, 12, .inl (fun k => nI (Zf k))))]) rfl rfl rfl rfl (by decide) rfl (fun _ => rfl) rfl rfl (Nat.le_of_ble_eq_true rfl) dX6_count_9 ⟨(Nat.le_of_ble_eq_true rfl), (Nat.le_of_ble_eq_true rfl)⟩ ⟨(Nat.le_of_ble_eq_true rfl), (Nat.le_of_ble_eq_true rfl)⟩ (fun r1 u1 hw1 => ?_)
  obtain ⟨rfl, hb_u1⟩ := hw1
  try rw [show (nI 0 : Int32).toInt = 0 from by decide] at hb_u1
  try rw [show (nI 6 : Int32).toInt = 6 from by decide] at hb_u1
  refine y_if_eq_n hC 23 dX6_count_12 (by decide) u1 rfl (by omega) (fun c12 => ?_) (fun c12 => ?_)
  · refine y_aload_n hC dX6_count_23 0 rfl rfl ?_
    refine y_iconst hC (v := nI 1) dX6_count_24 rfl ?_
    refine y_callV_i hC (As := [.int (nI 1)]) (rest := []) (c_X6_no _ _ _ 1) nV_X6_no (inLr6 _ (List.mem_of_getElem? (i := 11) rfl)) [0] [1] [1, 0] (fun u => [((a 0), mOb a 1), ((a 1), .inl (cI, 12, .inl (fun k => nI (Zf k))))]) rfl rfl rfl rfl (by decide) rfl (fun _ => rfl) 0 rfl rfl rfl rfl (Nat.le_of_ble_eq_true rfl) dX6_count_25 ⟨(Nat.le_of_ble_eq_true rfl), (Nat.le_of_ble_eq_true rfl)⟩ ⟨(Nat.le_of_ble_eq_true rfl), (Nat.le_of_ble_eq_true rfl)⟩ (fun r2 u2 hw2 => ?_)
    subst hw2
    refine y_world hC [0] (ws' := [((a 0), mOb a 1)]) rfl rfl ?_
    exact hE (nI 0) (1, _) _ _ _ _ dX6_count_28 (Nat.le_of_ble_eq_true rfl) (Nat.le_of_ble_eq_true rfl) rfl ⟨by show (1 : Nat) = _; unfold kcCou; split <;> omega, fun _ => rfl⟩
  · obtain ⟨j1, hj1, rfl⟩ := i32_nat (x := x) (n := 7) (by omega) (by omega)
    have ej1 := nI_toInt (show j1 < 2 ^ 31 by omega)
    refine y_aload_n hC dX6_count_15 0 rfl rfl ?_
    refine y_iload_n hC dX6_count_16 1 rfl rfl ?_
    refine y_callV_i hC (As := [.int (nI j1)]) (rest := []) (p_sum a 0 j1 (by omega)) nV_X6_sum (inLr28 _ (List.mem_of_getElem? (i := 8) rfl)) [0, 1] [] [0, 1] (fun u => [((a 0), mOb a 0), ((a 1), .inl (cI, 12, .inl (fun k => nI (Zf k))))]) rfl rfl rfl rfl (by decide) rfl (fun _ => rfl) 0 rfl rfl rfl rfl (Nat.le_of_ble_eq_true rfl) dX6_count_17 ⟨(Nat.le_of_ble_eq_true rfl), (Nat.le_of_ble_eq_true rfl)⟩ ⟨(Nat.le_of_ble_eq_true rfl), (Nat.le_of_ble_eq_true rfl)⟩ (fun r3 u3 hw3 => ?_)
    subst hw3
    refine y_goto hC 28 dX6_count_20 (by decide) ?_
    refine y_world hC [0] (ws' := [((a 0), mOb a 0)]) rfl rfl ?_
    exact hE (nI 0) (0, _) _ _ _ _ dX6_count_28 (Nat.le_of_ble_eq_true rfl) (Nat.le_of_ble_eq_true rfl) rfl ⟨by show (0 : Nat) = _; unfold kcCou; split <;> omega, fun _ => rfl⟩
theorem nV_X6_mean : yV yX6_mean RX6 cX6_mean 3 (some .double) 0 := ⟨(inLr28 _ (List.mem_of_getElem? (i := 17) rfl)), (inLr28 _ (List.mem_of_getElem? (i := 18) rfl)), (inLr1 _ (List.mem_of_getElem? (i := 5) rfl)), (inLr28 _ (List.mem_of_getElem? (i := 19) rfl)), rfl, by decide, by decide, by decide +kernel⟩
set_option maxHeartbeats 4000000 in
set_option maxRecDepth 100000 in
theorem p_X6_mean (a : Nat → Nat)   : MF l D (tyL cI cO cJ cZ) yX6_mean cX6_mean 3 ({ frames := 1, cells := 1, slots := 7, locals := 60 } : Room) [.ref (a 0)] [((a 0), mOb a 0), ((a 1), .inl (cI, 12, .inl (fun k => nI (Zf k))))] (fun r u => u.1 = 0 ∧ r = 0) (fun (u : Nat × List Value) => [((a 0), .inr (6, .int (nI u.1) :: u.2))]) := by
  refine MF.of (by decide) (Nat.le_of_ble_eq_true rfl) (fun G hC hE => ?_)
  show G 0 0 ([((a 0), mOb a 0), ((a 1), .inl (cI, 12, .inl (fun k => nI (Zf k))))]) 0 [(0, .ref (a 0))] []
  refine y_aload_n hC dX6_mean_0 0 rfl rfl ?_
  refine y_iconst hC (v := nI 0) dX6_mean_1 rfl ?_
  refine y_put hC cC6 0 rfl 0 (by decide) (inLr6 _ (List.mem_of_getElem? (i := 7) rfl)) rfl rfl rfl (Nat.le_of_ble_eq_true rfl) dX6_mean_2 ([((a 0), mOb a 0), ((a 1), .inl (cI, 12, .inl (fun k => nI (Zf k))))]) rfl ?_
  refine y_iconst hC (v := nI 0) dX6_mean_5 rfl ?_
  refine y_istore_n hC [(1, .int (nI 0)), (0, .ref (a 0))] dX6_mean_6 rfl (by decide) rfl ?_
  refine y_iconst hC (v := nI 0) dX6_mean_7 rfl ?_
  refine y_istore_n hC [(2, .int (nI 0)), (1, .int (nI 0)), (0, .ref (a 0))] dX6_mean_8 rfl (by decide) rfl ?_
  have L9_l1 : ∀ n i : Nat, 12 + 1 ≤ i + n → i ≤ 12 → G 0 0 ([((a 0), mOb a 0), ((a 1), .inl (cI, 12, .inl (fun k => nI (Zf k))))]) 9 [(0, .ref (a 0)), (1, .int (nI 0)), (2, .int (nI i))] [] := by
    intro n
    induction n with
    | zero => intro i h1 h2; omega
    | succ n ih9i =>
      intro i h1i h2i
      refine y_iload_n hC dX6_mean_9 2 rfl rfl ?_
      refine y_bipush hC (v := nI 12) dX6_mean_10 rfl ?_
      refine y_icmp_ge_n hC 33 dX6_mean_12 (by decide) i 12 rfl rfl (by omega) (by omega) (fun c12 => ?_) (fun c12 => ?_)
      · refine y_aload_n hC dX6_mean_33 0 rfl rfl ?_
        refine y_iconst hC (v := nI 0) dX6_mean_34 rfl ?_
        refine y_callV_i hC (As := [.int (nI 0)]) (rest := []) (p_sum a 0 0 (by omega)) nV_X6_sum (inLr28 _ (List.mem_of_getElem? (i := 8) rfl)) [0, 1] [] [0, 1] (fun u => [((a 0), mOb a 0), ((a 1), .inl (cI, 12, .inl (fun k => nI (Zf k))))]) rfl rfl rfl rfl (by decide) rfl (fun _ => rfl) 0 rfl rfl rfl rfl (Nat.le_of_ble_eq_true rfl) dX6_mean_35 ⟨(Nat.le_of_ble_eq_true rfl), (Nat.le_of_ble_eq_true rfl)⟩ ⟨(Nat.le_of_ble_eq_true rfl), (Nat.le_of_ble_eq_true rfl)⟩ (fun r1 u1 hw1 => ?_)
        subst hw1
        refine y_if_ne_n hC 45 dX6_mean_38 (by decide) 0 rfl (by omega) (fun c38 => absurd c38 (by omega)) (fun c38 => ?_)
        refine y_dconst0 hC dX6_mean_41 ?_
        refine y_goto hC 54 dX6_mean_42 (by decide) ?_
        refine y_world hC [0] (ws' := [((a 0), mOb a 0)]) rfl rfl ?_
        exact hE 0 (0, _) _ _ _ _ dX6_mean_54 (Nat.le_of_ble_eq_true rfl) (Nat.le_of_ble_eq_true rfl) ⟨rfl, rfl⟩
      · refine y_iload_n hC dX6_mean_15 1 rfl rfl ?_
        refine y_aload_n hC dX6_mean_16 0 rfl rfl ?_
        refine y_get hC cC6 0 rfl 1 (by decide) (inLr4 _ (List.mem_of_getElem? (i := 8) rfl)) rfl dX6_mean_17 ?_
        refine y_iload_n hC dX6_mean_20 2 rfl rfl ?_
        refine y_iald hC 1 0 rfl rfl i rfl (by omega) (by decide) dX6_mean_21 ?_
        refine y_callS_i hC (As := [.int (nI 0)]) (rest := [.int (nI 0)]) (p_len0) nS_X6_lengthOf (inLr7 _ (List.mem_of_getElem? (i := 15) rfl)) [] [0, 1] [0, 1] (fun u => [((a 0), mOb a 0), ((a 1), .inl (cI, 12, .inl (fun k => nI (Zf k))))]) rfl rfl rfl rfl (by decide) rfl (fun _ => rfl) rfl rfl (Nat.le_of_ble_eq_true rfl) dX6_mean_22 ⟨(Nat.le_of_ble_eq_true rfl), (Nat.le_of_ble_eq_true rfl)⟩ ⟨(Nat.le_of_ble_eq_true rfl), (Nat.le_of_ble_eq_true rfl)⟩ (fun r2 u2 hw2 => ?_)
        subst hw2
        refine y_iadd hC (v := nI 0) dX6_mean_25 (by decide) ?_
        refine y_istore_n hC [(1, .int (nI 0)), (0, .ref (a 0)), (2, .int (nI i))] dX6_mean_26 rfl (by decide) rfl ?_
        refine y_iinc hC (v := nI (i + 1)) [(2, .int (nI (i + 1))), (1, .int (nI 0)), (0, .ref (a 0))] dX6_mean_27 (k := 2) rfl (ninc _) (by decide) rfl ?_
        refine y_goto hC 9 dX6_mean_30 (by decide) ?_
        refine y_sub hC [2, 1, 0] rfl ?_
        exact ih9i (i + 1) (by omega) (by omega)
  refine y_sub hC [2, 1, 0] rfl ?_
  exact L9_l1 (12 + 1) 0 (by omega) (by omega)
theorem nV_X6_digest : yV yX6_digest RX6 cX6_digest 5 (some .long) 0 := ⟨(inLr29 _ (List.mem_of_getElem? (i := 9) rfl)), (inLr29 _ (List.mem_of_getElem? (i := 10) rfl)), (inLr1 _ (List.mem_of_getElem? (i := 5) rfl)), (inLr29 _ (List.mem_of_getElem? (i := 11) rfl)), rfl, by decide, by decide, by decide +kernel⟩
set_option maxHeartbeats 4000000 in
set_option maxRecDepth 100000 in
theorem p_X6_digest (a : Nat → Nat)   : ML l D (tyL cI cO cJ cZ) yX6_digest cX6_digest 5 ({ frames := 2, cells := 7, slots := 49, locals := 80 } : Room) [.ref (a 0)] [((a 0), mOb a 0), ((a 1), .inl (cI, 12, .inl (fun k => nI (Zf k)))), ((a 2), .inl (cI, 12, .inl (fun k => nI (Zf k))))] (fun r u => u.1 = 0 ∧ r = dgf 43) (fun (u : Nat × List Value) => [((a 0), .inr (6, .int (nI u.1) :: u.2))]) := by
  refine ML.of (by decide) (Nat.le_of_ble_eq_true rfl) (fun G hC hE => ?_)
  show G 0 0 ([((a 0), mOb a 0), ((a 1), .inl (cI, 12, .inl (fun k => nI (Zf k)))), ((a 2), .inl (cI, 12, .inl (fun k => nI (Zf k))))]) 0 [(0, .ref (a 0))] []
  refine y_aload_n hC dX6_digest_0 0 rfl rfl ?_
  refine y_iconst hC (v := nI 0) dX6_digest_1 rfl ?_
  refine y_put hC cC6 0 rfl 0 (by decide) (inLr6 _ (List.mem_of_getElem? (i := 7) rfl)) rfl rfl rfl (Nat.le_of_ble_eq_true rfl) dX6_digest_2 ([((a 0), mOb a 0), ((a 1), .inl (cI, 12, .inl (fun k => nI (Zf k)))), ((a 2), .inl (cI, 12, .inl (fun k => nI (Zf k))))]) rfl ?_
  refine y_ldc2 hC (v := lN 571) dX6_digest_5 (inLr29 _ (List.mem_of_getElem? (i := 12) rfl)) ?_
  refine y_lstore_n hC [(1, .long (lN 571)), (0, .ref (a 0))] dX6_digest_8 rfl (by decide) rfl ?_
  refine y_iconst hC (v := nI 0) dX6_digest_9 rfl ?_
  refine y_istore_n hC [(3, .int (nI 0)), (1, .long (lN 571)), (0, .ref (a 0))] dX6_digest_10 rfl (by decide) rfl ?_
  refine y_iload_n hC dX6_digest_11 0 rfl rfl ?_
  refine y_bipush hC (v := nI 7) dX6_digest_12 rfl ?_
  refine y_icmp_ge_n hC 36 dX6_digest_14 (by decide) 0 7 rfl rfl (by omega) (by omega) (fun c14 => absurd c14 (by omega)) (fun c14 => ?_)
  refine y_lload_n hC dX6_digest_17 1 rfl rfl ?_
  refine y_ldc2 hC (v := lN 31) dX6_digest_18 (inLr29 _ (List.mem_of_getElem? (i := 13) rfl)) ?_
  refine y_lmul hC (v := (lN 571) * (lN 31)) dX6_digest_21 rfl ?_
  refine y_aload_n hC dX6_digest_22 2 rfl rfl ?_
  refine y_iload_n hC dX6_digest_23 0 rfl rfl ?_
  refine y_callV_i hC (As := [.int (nI 0)]) (rest := [.long ((lN 571) * (lN 31))]) (p_sum a 0 0 (by omega)) nV_X6_sum (inLr28 _ (List.mem_of_getElem? (i := 8) rfl)) [0, 1] [2] [1, 2, 0] (fun u => [((a 0), mOb a 0), ((a 1), .inl (cI, 12, .inl (fun k => nI (Zf k)))), ((a 2), .inl (cI, 12, .inl (fun k => nI (Zf k))))]) rfl rfl rfl rfl (by decide) rfl (fun _ => rfl) 0 rfl rfl rfl rfl (Nat.le_of_ble_eq_true rfl) dX6_digest_24 ⟨(Nat.le_of_ble_eq_true rfl), (Nat.le_of_ble_eq_true rfl)⟩ ⟨(Nat.le_of_ble_eq_true rfl), (Nat.le_of_ble_eq_true rfl)⟩ (fun r1 u1 hw1 => ?_)
  subst hw1
  refine y_i2l hC (v := (nI 0).toInt64) dX6_digest_27 rfl ?_
  refine y_ladd hC (v := ((lN 571) * (lN 31)) + ((nI 0).toInt64)) dX6_digest_28 rfl ?_
  refine y_lstore_n hC [(1, .long (((lN 571) * (lN 31)) + ((nI 0).toInt64))), (3, .int (nI 0)), (0, .ref (a 0))] dX6_digest_29 rfl (by decide) rfl ?_
  refine y_iinc hC (v := nI 1) [(3, .int (nI 1)), (1, .long (((lN 571) * (lN 31)) + ((nI 0).toInt64))), (0, .ref (a 0))] dX6_digest_30 (k := 1) rfl (ninc _) (by decide) rfl ?_
  refine y_goto hC 11 dX6_digest_33 (by decide) ?_
  refine y_iload_n hC dX6_digest_11 0 rfl rfl ?_
  refine y_bipush hC (v := nI 7) dX6_digest_12 rfl ?_
  refine y_icmp_ge_n hC 36 dX6_digest_14 (by decide) 1 7 rfl rfl (by omega) (by omega) (fun c14 => absurd c14 (by omega)) (fun c14 => ?_)
  refine y_lload_n hC dX6_digest_17 1 rfl rfl ?_
  refine y_ldc2 hC (v := lN 31) dX6_digest_18 (inLr29 _ (List.mem_of_getElem? (i := 13) rfl)) ?_
  refine y_lmul hC (v := (((lN 571) * (lN 31)) + ((nI 0).toInt64)) * (lN 31)) dX6_digest_21 rfl ?_
  refine y_aload_n hC dX6_digest_22 2 rfl rfl ?_
  refine y_iload_n hC dX6_digest_23 0 rfl rfl ?_
  refine y_callV_i hC (As := [.int (nI 1)]) (rest := [.long ((((lN 571) * (lN 31)) + ((nI 0).toInt64)) * (lN 31))]) (p_sum a 0 1 (by omega)) nV_X6_sum (inLr28 _ (List.mem_of_getElem? (i := 8) rfl)) [0, 1] [2] [1, 2, 0] (fun u => [((a 0), mOb a 0), ((a 1), .inl (cI, 12, .inl (fun k => nI (Zf k)))), ((a 2), .inl (cI, 12, .inl (fun k => nI (Zf k))))]) rfl rfl rfl rfl (by decide) rfl (fun _ => rfl) 0 rfl rfl rfl rfl (Nat.le_of_ble_eq_true rfl) dX6_digest_24 ⟨(Nat.le_of_ble_eq_true rfl), (Nat.le_of_ble_eq_true rfl)⟩ ⟨(Nat.le_of_ble_eq_true rfl), (Nat.le_of_ble_eq_true rfl)⟩ (fun r2 u2 hw2 => ?_)
  subst hw2
  refine y_i2l hC (v := (nI 0).toInt64) dX6_digest_27 rfl ?_
  refine y_ladd hC (v := ((((lN 571) * (lN 31)) + ((nI 0).toInt64)) * (lN 31)) + ((nI 0).toInt64)) dX6_digest_28 rfl ?_
  refine y_lstore_n hC [(1, .long (((((lN 571) * (lN 31)) + ((nI 0).toInt64)) * (lN 31)) + ((nI 0).toInt64))), (3, .int (nI 1)), (0, .ref (a 0))] dX6_digest_29 rfl (by decide) rfl ?_
  refine y_iinc hC (v := nI 2) [(3, .int (nI 2)), (1, .long (((((lN 571) * (lN 31)) + ((nI 0).toInt64)) * (lN 31)) + ((nI 0).toInt64))), (0, .ref (a 0))] dX6_digest_30 (k := 1) rfl (ninc _) (by decide) rfl ?_
  refine y_goto hC 11 dX6_digest_33 (by decide) ?_
  refine y_iload_n hC dX6_digest_11 0 rfl rfl ?_
  refine y_bipush hC (v := nI 7) dX6_digest_12 rfl ?_
  refine y_icmp_ge_n hC 36 dX6_digest_14 (by decide) 2 7 rfl rfl (by omega) (by omega) (fun c14 => absurd c14 (by omega)) (fun c14 => ?_)
  refine y_lload_n hC dX6_digest_17 1 rfl rfl ?_
  refine y_ldc2 hC (v := lN 31) dX6_digest_18 (inLr29 _ (List.mem_of_getElem? (i := 13) rfl)) ?_
  refine y_lmul hC (v := (((((lN 571) * (lN 31)) + ((nI 0).toInt64)) * (lN 31)) + ((nI 0).toInt64)) * (lN 31)) dX6_digest_21 rfl ?_
  refine y_aload_n hC dX6_digest_22 2 rfl rfl ?_
  refine y_iload_n hC dX6_digest_23 0 rfl rfl ?_
  refine y_callV_i hC (As := [.int (nI 2)]) (rest := [.long ((((((lN 571) * (lN 31)) + ((nI 0).toInt64)) * (lN 31)) + ((nI 0).toInt64)) * (lN 31))]) (p_sum a 0 2 (by omega)) nV_X6_sum (inLr28 _ (List.mem_of_getElem? (i := 8) rfl)) [0, 1] [2] [1, 2, 0] (fun u => [((a 0), mOb a 0), ((a 1), .inl (cI, 12, .inl (fun k => nI (Zf k)))), ((a 2), .inl (cI, 12, .inl (fun k => nI (Zf k))))]) rfl rfl rfl rfl (by decide) rfl (fun _ => rfl) 0 rfl rfl rfl rfl (Nat.le_of_ble_eq_true rfl) dX6_digest_24 ⟨(Nat.le_of_ble_eq_true rfl), (Nat.le_of_ble_eq_true rfl)⟩ ⟨(Nat.le_of_ble_eq_true rfl), (Nat.le_of_ble_eq_true rfl)⟩ (fun r3 u3 hw3 => ?_)
  subst hw3
  refine y_i2l hC (v := (nI 0).toInt64) dX6_digest_27 rfl ?_
  refine y_ladd hC (v := ((((((lN 571) * (lN 31)) + ((nI 0).toInt64)) * (lN 31)) + ((nI 0).toInt64)) * (lN 31)) + ((nI 0).toInt64)) dX6_digest_28 rfl ?_
  refine y_lstore_n hC [(1, .long (((((((lN 571) * (lN 31)) + ((nI 0).toInt64)) * (lN 31)) + ((nI 0).toInt64)) * (lN 31)) + ((nI 0).toInt64))), (3, .int (nI 2)), (0, .ref (a 0))] dX6_digest_29 rfl (by decide) rfl ?_
  refine y_iinc hC (v := nI 3) [(3, .int (nI 3)), (1, .long (((((((lN 571) * (lN 31)) + ((nI 0).toInt64)) * (lN 31)) + ((nI 0).toInt64)) * (lN 31)) + ((nI 0).toInt64))), (0, .ref (a 0))] dX6_digest_30 (k := 1) rfl (ninc _) (by decide) rfl ?_
  refine y_goto hC 11 dX6_digest_33 (by decide) ?_
  refine y_iload_n hC dX6_digest_11 0 rfl rfl ?_
  refine y_bipush hC (v := nI 7) dX6_digest_12 rfl ?_
  refine y_icmp_ge_n hC 36 dX6_digest_14 (by decide) 3 7 rfl rfl (by omega) (by omega) (fun c14 => absurd c14 (by omega)) (fun c14 => ?_)
  refine y_lload_n hC dX6_digest_17 1 rfl rfl ?_
  refine y_ldc2 hC (v := lN 31) dX6_digest_18 (inLr29 _ (List.mem_of_getElem? (i := 13) rfl)) ?_
  refine y_lmul hC (v := (((((((lN 571) * (lN 31)) + ((nI 0).toInt64)) * (lN 31)) + ((nI 0).toInt64)) * (lN 31)) + ((nI 0).toInt64)) * (lN 31)) dX6_digest_21 rfl ?_
  refine y_aload_n hC dX6_digest_22 2 rfl rfl ?_
  refine y_iload_n hC dX6_digest_23 0 rfl rfl ?_
  refine y_callV_i hC (As := [.int (nI 3)]) (rest := [.long ((((((((lN 571) * (lN 31)) + ((nI 0).toInt64)) * (lN 31)) + ((nI 0).toInt64)) * (lN 31)) + ((nI 0).toInt64)) * (lN 31))]) (p_sum a 0 3 (by omega)) nV_X6_sum (inLr28 _ (List.mem_of_getElem? (i := 8) rfl)) [0, 1] [2] [1, 2, 0] (fun u => [((a 0), mOb a 0), ((a 1), .inl (cI, 12, .inl (fun k => nI (Zf k)))), ((a 2), .inl (cI, 12, .inl (fun k => nI (Zf k))))]) rfl rfl rfl rfl (by decide) rfl (fun _ => rfl) 0 rfl rfl rfl rfl (Nat.le_of_ble_eq_true rfl) dX6_digest_24 ⟨(Nat.le_of_ble_eq_true rfl), (Nat.le_of_ble_eq_true rfl)⟩ ⟨(Nat.le_of_ble_eq_true rfl), (Nat.le_of_ble_eq_true rfl)⟩ (fun r4 u4 hw4 => ?_)
  subst hw4
  refine y_i2l hC (v := (nI 0).toInt64) dX6_digest_27 rfl ?_
  refine y_ladd hC (v := ((((((((lN 571) * (lN 31)) + ((nI 0).toInt64)) * (lN 31)) + ((nI 0).toInt64)) * (lN 31)) + ((nI 0).toInt64)) * (lN 31)) + ((nI 0).toInt64)) dX6_digest_28 rfl ?_
  refine y_lstore_n hC [(1, .long (((((((((lN 571) * (lN 31)) + ((nI 0).toInt64)) * (lN 31)) + ((nI 0).toInt64)) * (lN 31)) + ((nI 0).toInt64)) * (lN 31)) + ((nI 0).toInt64))), (3, .int (nI 3)), (0, .ref (a 0))] dX6_digest_29 rfl (by decide) rfl ?_
  refine y_iinc hC (v := nI 4) [(3, .int (nI 4)), (1, .long (((((((((lN 571) * (lN 31)) + ((nI 0).toInt64)) * (lN 31)) + ((nI 0).toInt64)) * (lN 31)) + ((nI 0).toInt64)) * (lN 31)) + ((nI 0).toInt64))), (0, .ref (a 0))] dX6_digest_30 (k := 1) rfl (ninc _) (by decide) rfl ?_
  refine y_goto hC 11 dX6_digest_33 (by decide) ?_
  refine y_iload_n hC dX6_digest_11 0 rfl rfl ?_
  refine y_bipush hC (v := nI 7) dX6_digest_12 rfl ?_
  refine y_icmp_ge_n hC 36 dX6_digest_14 (by decide) 4 7 rfl rfl (by omega) (by omega) (fun c14 => absurd c14 (by omega)) (fun c14 => ?_)
  refine y_lload_n hC dX6_digest_17 1 rfl rfl ?_
  refine y_ldc2 hC (v := lN 31) dX6_digest_18 (inLr29 _ (List.mem_of_getElem? (i := 13) rfl)) ?_
  refine y_lmul hC (v := (((((((((lN 571) * (lN 31)) + ((nI 0).toInt64)) * (lN 31)) + ((nI 0).toInt64)) * (lN 31)) + ((nI 0).toInt64)) * (lN 31)) + ((nI 0).toInt64)) * (lN 31)) dX6_digest_21 rfl ?_
  refine y_aload_n hC dX6_digest_22 2 rfl rfl ?_
  refine y_iload_n hC dX6_digest_23 0 rfl rfl ?_
  refine y_callV_i hC (As := [.int (nI 4)]) (rest := [.long ((((((((((lN 571) * (lN 31)) + ((nI 0).toInt64)) * (lN 31)) + ((nI 0).toInt64)) * (lN 31)) + ((nI 0).toInt64)) * (lN 31)) + ((nI 0).toInt64)) * (lN 31))]) (p_sum a 0 4 (by omega)) nV_X6_sum (inLr28 _ (List.mem_of_getElem? (i := 8) rfl)) [0, 1] [2] [1, 2, 0] (fun u => [((a 0), mOb a 0), ((a 1), .inl (cI, 12, .inl (fun k => nI (Zf k)))), ((a 2), .inl (cI, 12, .inl (fun k => nI (Zf k))))]) rfl rfl rfl rfl (by decide) rfl (fun _ => rfl) 0 rfl rfl rfl rfl (Nat.le_of_ble_eq_true rfl) dX6_digest_24 ⟨(Nat.le_of_ble_eq_true rfl), (Nat.le_of_ble_eq_true rfl)⟩ ⟨(Nat.le_of_ble_eq_true rfl), (Nat.le_of_ble_eq_true rfl)⟩ (fun r5 u5 hw5 => ?_)
  subst hw5
  refine y_i2l hC (v := (nI 0).toInt64) dX6_digest_27 rfl ?_
  refine y_ladd hC (v := ((((((((((lN 571) * (lN 31)) + ((nI 0).toInt64)) * (lN 31)) + ((nI 0).toInt64)) * (lN 31)) + ((nI 0).toInt64)) * (lN 31)) + ((nI 0).toInt64)) * (lN 31)) + ((nI 0).toInt64)) dX6_digest_28 rfl ?_
  refine y_lstore_n hC [(1, .long (((((((((((lN 571) * (lN 31)) + ((nI 0).toInt64)) * (lN 31)) + ((nI 0).toInt64)) * (lN 31)) + ((nI 0).toInt64)) * (lN 31)) + ((nI 0).toInt64)) * (lN 31)) + ((nI 0).toInt64))), (3, .int (nI 4)), (0, .ref (a 0))] dX6_digest_29 rfl (by decide) rfl ?_
  refine y_iinc hC (v := nI 5) [(3, .int (nI 5)), (1, .long (((((((((((lN 571) * (lN 31)) + ((nI 0).toInt64)) * (lN 31)) + ((nI 0).toInt64)) * (lN 31)) + ((nI 0).toInt64)) * (lN 31)) + ((nI 0).toInt64)) * (lN 31)) + ((nI 0).toInt64))), (0, .ref (a 0))] dX6_digest_30 (k := 1) rfl (ninc _) (by decide) rfl ?_
  refine y_goto hC 11 dX6_digest_33 (by decide) ?_
  refine y_iload_n hC dX6_digest_11 0 rfl rfl ?_
  refine y_bipush hC (v := nI 7) dX6_digest_12 rfl ?_
  refine y_icmp_ge_n hC 36 dX6_digest_14 (by decide) 5 7 rfl rfl (by omega) (by omega) (fun c14 => absurd c14 (by omega)) (fun c14 => ?_)
  refine y_lload_n hC dX6_digest_17 1 rfl rfl ?_
  refine y_ldc2 hC (v := lN 31) dX6_digest_18 (inLr29 _ (List.mem_of_getElem? (i := 13) rfl)) ?_
  refine y_lmul hC (v := (((((((((((lN 571) * (lN 31)) + ((nI 0).toInt64)) * (lN 31)) + ((nI 0).toInt64)) * (lN 31)) + ((nI 0).toInt64)) * (lN 31)) + ((nI 0).toInt64)) * (lN 31)) + ((nI 0).toInt64)) * (lN 31)) dX6_digest_21 rfl ?_
  refine y_aload_n hC dX6_digest_22 2 rfl rfl ?_
  refine y_iload_n hC dX6_digest_23 0 rfl rfl ?_
  refine y_callV_i hC (As := [.int (nI 5)]) (rest := [.long ((((((((((((lN 571) * (lN 31)) + ((nI 0).toInt64)) * (lN 31)) + ((nI 0).toInt64)) * (lN 31)) + ((nI 0).toInt64)) * (lN 31)) + ((nI 0).toInt64)) * (lN 31)) + ((nI 0).toInt64)) * (lN 31))]) (p_sum a 0 5 (by omega)) nV_X6_sum (inLr28 _ (List.mem_of_getElem? (i := 8) rfl)) [0, 1] [2] [1, 2, 0] (fun u => [((a 0), mOb a 0), ((a 1), .inl (cI, 12, .inl (fun k => nI (Zf k)))), ((a 2), .inl (cI, 12, .inl (fun k => nI (Zf k))))]) rfl rfl rfl rfl (by decide) rfl (fun _ => rfl) 0 rfl rfl rfl rfl (Nat.le_of_ble_eq_true rfl) dX6_digest_24 ⟨(Nat.le_of_ble_eq_true rfl), (Nat.le_of_ble_eq_true rfl)⟩ ⟨(Nat.le_of_ble_eq_true rfl), (Nat.le_of_ble_eq_true rfl)⟩ (fun r6 u6 hw6 => ?_)
  subst hw6
  refine y_i2l hC (v := (nI 0).toInt64) dX6_digest_27 rfl ?_
  refine y_ladd hC (v := ((((((((((((lN 571) * (lN 31)) + ((nI 0).toInt64)) * (lN 31)) + ((nI 0).toInt64)) * (lN 31)) + ((nI 0).toInt64)) * (lN 31)) + ((nI 0).toInt64)) * (lN 31)) + ((nI 0).toInt64)) * (lN 31)) + ((nI 0).toInt64)) dX6_digest_28 rfl ?_
  refine y_lstore_n hC [(1, .long (((((((((((((lN 571) * (lN 31)) + ((nI 0).toInt64)) * (lN 31)) + ((nI 0).toInt64)) * (lN 31)) + ((nI 0).toInt64)) * (lN 31)) + ((nI 0).toInt64)) * (lN 31)) + ((nI 0).toInt64)) * (lN 31)) + ((nI 0).toInt64))), (3, .int (nI 5)), (0, .ref (a 0))] dX6_digest_29 rfl (by decide) rfl ?_
  refine y_iinc hC (v := nI 6) [(3, .int (nI 6)), (1, .long (((((((((((((lN 571) * (lN 31)) + ((nI 0).toInt64)) * (lN 31)) + ((nI 0).toInt64)) * (lN 31)) + ((nI 0).toInt64)) * (lN 31)) + ((nI 0).toInt64)) * (lN 31)) + ((nI 0).toInt64)) * (lN 31)) + ((nI 0).toInt64))), (0, .ref (a 0))] dX6_digest_30 (k := 1) rfl (ninc _) (by decide) rfl ?_
  refine y_goto hC 11 dX6_digest_33 (by decide) ?_
  refine y_iload_n hC dX6_digest_11 0 rfl rfl ?_
  refine y_bipush hC (v := nI 7) dX6_digest_12 rfl ?_
  refine y_icmp_ge_n hC 36 dX6_digest_14 (by decide) 6 7 rfl rfl (by omega) (by omega) (fun c14 => absurd c14 (by omega)) (fun c14 => ?_)
  refine y_lload_n hC dX6_digest_17 1 rfl rfl ?_
  refine y_ldc2 hC (v := lN 31) dX6_digest_18 (inLr29 _ (List.mem_of_getElem? (i := 13) rfl)) ?_
  refine y_lmul hC (v := (((((((((((((lN 571) * (lN 31)) + ((nI 0).toInt64)) * (lN 31)) + ((nI 0).toInt64)) * (lN 31)) + ((nI 0).toInt64)) * (lN 31)) + ((nI 0).toInt64)) * (lN 31)) + ((nI 0).toInt64)) * (lN 31)) + ((nI 0).toInt64)) * (lN 31)) dX6_digest_21 rfl ?_
  refine y_aload_n hC dX6_digest_22 2 rfl rfl ?_
  refine y_iload_n hC dX6_digest_23 0 rfl rfl ?_
  refine y_callV_i hC (As := [.int (nI 6)]) (rest := [.long ((((((((((((((lN 571) * (lN 31)) + ((nI 0).toInt64)) * (lN 31)) + ((nI 0).toInt64)) * (lN 31)) + ((nI 0).toInt64)) * (lN 31)) + ((nI 0).toInt64)) * (lN 31)) + ((nI 0).toInt64)) * (lN 31)) + ((nI 0).toInt64)) * (lN 31))]) (p_sum a 0 6 (by omega)) nV_X6_sum (inLr28 _ (List.mem_of_getElem? (i := 8) rfl)) [0, 1] [2] [1, 2, 0] (fun u => [((a 0), mOb a 0), ((a 1), .inl (cI, 12, .inl (fun k => nI (Zf k)))), ((a 2), .inl (cI, 12, .inl (fun k => nI (Zf k))))]) rfl rfl rfl rfl (by decide) rfl (fun _ => rfl) 0 rfl rfl rfl rfl (Nat.le_of_ble_eq_true rfl) dX6_digest_24 ⟨(Nat.le_of_ble_eq_true rfl), (Nat.le_of_ble_eq_true rfl)⟩ ⟨(Nat.le_of_ble_eq_true rfl), (Nat.le_of_ble_eq_true rfl)⟩ (fun r7 u7 hw7 => ?_)
  subst hw7
  refine y_i2l hC (v := (nI 0).toInt64) dX6_digest_27 rfl ?_
  refine y_ladd hC (v := ((((((((((((((lN 571) * (lN 31)) + ((nI 0).toInt64)) * (lN 31)) + ((nI 0).toInt64)) * (lN 31)) + ((nI 0).toInt64)) * (lN 31)) + ((nI 0).toInt64)) * (lN 31)) + ((nI 0).toInt64)) * (lN 31)) + ((nI 0).toInt64)) * (lN 31)) + ((nI 0).toInt64)) dX6_digest_28 rfl ?_
  refine y_lstore_n hC [(1, .long (((((((((((((((lN 571) * (lN 31)) + ((nI 0).toInt64)) * (lN 31)) + ((nI 0).toInt64)) * (lN 31)) + ((nI 0).toInt64)) * (lN 31)) + ((nI 0).toInt64)) * (lN 31)) + ((nI 0).toInt64)) * (lN 31)) + ((nI 0).toInt64)) * (lN 31)) + ((nI 0).toInt64))), (3, .int (nI 6)), (0, .ref (a 0))] dX6_digest_29 rfl (by decide) rfl ?_
  refine y_iinc hC (v := nI 7) [(3, .int (nI 7)), (1, .long (((((((((((((((lN 571) * (lN 31)) + ((nI 0).toInt64)) * (lN 31)) + ((nI 0).toInt64)) * (lN 31)) + ((nI 0).toInt64)) * (lN 31)) + ((nI 0).toInt64)) * (lN 31)) + ((nI 0).toInt64)) * (lN 31)) + ((nI 0).toInt64)) * (lN 31)) + ((nI 0).toInt64))), (0, .ref (a 0))] dX6_digest_30 (k := 1) rfl (ninc _) (by decide) rfl ?_
  refine y_goto hC 11 dX6_digest_33 (by decide) ?_
  refine y_iload_n hC dX6_digest_11 0 rfl rfl ?_
  refine y_bipush hC (v := nI 7) dX6_digest_12 rfl ?_
  refine y_icmp_ge_n hC 36 dX6_digest_14 (by decide) 7 7 rfl rfl (by omega) (by omega) (fun c14 => ?_) (fun c14 => absurd c14 (by omega))
  refine y_iconst hC (v := nI 0) dX6_digest_36 rfl ?_
  refine y_istore_n hC [(3, .int (nI 0)), (1, .long (((((((((((((((lN 571) * (lN 31)) + ((nI 0).toInt64)) * (lN 31)) + ((nI 0).toInt64)) * (lN 31)) + ((nI 0).toInt64)) * (lN 31)) + ((nI 0).toInt64)) * (lN 31)) + ((nI 0).toInt64)) * (lN 31)) + ((nI 0).toInt64)) * (lN 31)) + ((nI 0).toInt64))), (0, .ref (a 0))] dX6_digest_37 rfl (by decide) rfl ?_
  have L38_l1 : ∀ (n : Nat) (i : Nat), (13 ≤ i + n) → (i ≤ 12) → G 7 49 ([((a 0), mOb a 0), ((a 1), .inl (cI, 12, .inl (fun k => nI (Zf k)))), ((a 2), .inl (cI, 12, .inl (fun k => nI (Zf k))))]) 38 [(0, .ref (a 0)), (1, .long (dgf (7 + 3 * i))), (3, .int (nI i))] [] := by
    intro n
    induction n with
    | zero => intro i h1 h2; omega
    | succ n ihd =>
      intro i h1 h2
      refine y_iload_n hC dX6_digest_38 2 rfl rfl ?_
      refine y_bipush hC (v := nI 12) dX6_digest_39 rfl ?_
      refine y_icmp_ge_n hC 80 dX6_digest_41 (by decide) i 12 rfl rfl (by omega) (by omega) (fun c41 => ?_) (fun c41 => ?_)
      · obtain rfl : i = 12 := by omega
        refine y_iconst hC (v := nI 0) dX6_digest_80 rfl ?_
        refine y_istore_n hC [(3, .int (nI 0)), (0, .ref (a 0)), (1, .long (dgf (7 + 3 * 12)))] dX6_digest_81 rfl (by decide) rfl ?_
        refine y_iload_n hC dX6_digest_82 0 rfl rfl ?_
        refine y_aload_n hC dX6_digest_83 1 rfl rfl ?_
        refine y_get hC cC6 0 rfl 9 (by decide) (inLr17 _ (List.mem_of_getElem? (i := 22) rfl)) rfl dX6_digest_84 ?_
        refine y_icmp_ge_n hC 167 dX6_digest_87 (by decide) 0 0 rfl rfl (by omega) (by omega) (fun c87 => ?_) (fun c87 => absurd c87 (by omega))
        refine y_iconst hC (v := nI 0) dX6_digest_167 rfl ?_
        refine y_istore_n hC [(3, .int (nI 0)), (0, .ref (a 0)), (1, .long (dgf (7 + 3 * 12)))] dX6_digest_168 rfl (by decide) rfl ?_
        refine y_iload_n hC dX6_digest_169 0 rfl rfl ?_
        refine y_aload_n hC dX6_digest_170 1 rfl rfl ?_
        refine y_get hC cC6 0 rfl 17 (by decide) (inLr23 _ (List.mem_of_getElem? (i := 20) rfl)) rfl dX6_digest_171 ?_
        refine y_icmp_ge_n hC 197 dX6_digest_174 (by decide) 0 0 rfl rfl (by omega) (by omega) (fun c174 => ?_) (fun c174 => absurd c174 (by omega))
        refine y_lload_n hC dX6_digest_197 2 rfl rfl ?_
        refine y_world hC [0] (ws' := [((a 0), mOb a 0)]) rfl rfl ?_
        exact hE (dgf (7 + 3 * 12)) (0, _) _ _ _ _ dX6_digest_198 (Nat.le_of_ble_eq_true rfl) (Nat.le_of_ble_eq_true rfl) ⟨rfl, rfl⟩
      · refine y_iconst hC (v := nI 0) dX6_digest_44 rfl ?_
        refine y_istore hC [(4, .int (nI 0)), (0, .ref (a 0)), (1, .long (dgf (7 + 3 * i))), (3, .int (nI i))] dX6_digest_45 (by decide) rfl ?_
        refine y_iload hC dX6_digest_47 0 rfl ?_
        refine y_iconst hC (v := nI 3) dX6_digest_49 rfl ?_
        refine y_icmp_ge_n hC 74 dX6_digest_50 (by decide) 0 3 rfl rfl (by omega) (by omega) (fun c50 => absurd c50 (by omega)) (fun c50 => ?_)
        refine y_lload_n hC dX6_digest_53 2 rfl rfl ?_
        refine y_ldc2 hC (v := lN 31) dX6_digest_54 (inLr29 _ (List.mem_of_getElem? (i := 13) rfl)) ?_
        refine y_lmul hC (v := (dgf (7 + 3 * i)) * (lN 31)) dX6_digest_57 rfl ?_
        refine y_aload_n hC dX6_digest_58 1 rfl rfl ?_
        refine y_iload_n hC dX6_digest_59 3 rfl rfl ?_
        refine y_iload hC dX6_digest_60 0 rfl ?_
        refine y_callV_i hC (As := [.int (nI i), .int (nI 0)]) (rest := [.long ((dgf (7 + 3 * i)) * (lN 31))]) (p_told a 0 i 0 (by omega) (by omega)) nV_X6_letterTold (inLr7 _ (List.mem_of_getElem? (i := 11) rfl)) [0, 1, 2] [] [0, 1, 2] (fun u => [((a 0), mOb a 0), ((a 1), .inl (cI, 12, .inl (fun k => nI (Zf k)))), ((a 2), .inl (cI, 12, .inl (fun k => nI (Zf k))))]) rfl rfl rfl rfl (by decide) rfl (fun _ => rfl) 0 rfl rfl rfl rfl (Nat.le_of_ble_eq_true rfl) dX6_digest_62 ⟨(Nat.le_of_ble_eq_true rfl), (Nat.le_of_ble_eq_true rfl)⟩ ⟨(Nat.le_of_ble_eq_true rfl), (Nat.le_of_ble_eq_true rfl)⟩ (fun r8 u8 hw8 => ?_)
        subst hw8
        refine y_i2l hC (v := (nI 0).toInt64) dX6_digest_65 rfl ?_
        refine y_ladd hC (v := ((dgf (7 + 3 * i)) * (lN 31)) + ((nI 0).toInt64)) dX6_digest_66 rfl ?_
        refine y_lstore_n hC [(1, .long (((dgf (7 + 3 * i)) * (lN 31)) + ((nI 0).toInt64))), (4, .int (nI 0)), (0, .ref (a 0)), (3, .int (nI i))] dX6_digest_67 rfl (by decide) rfl ?_
        refine y_iinc hC (v := nI 1) [(4, .int (nI 1)), (1, .long (((dgf (7 + 3 * i)) * (lN 31)) + ((nI 0).toInt64))), (0, .ref (a 0)), (3, .int (nI i))] dX6_digest_68 (k := 1) rfl (ninc _) (by decide) rfl ?_
        refine y_goto hC 47 dX6_digest_71 (by decide) ?_
        refine y_iload hC dX6_digest_47 0 rfl ?_
        refine y_iconst hC (v := nI 3) dX6_digest_49 rfl ?_
        refine y_icmp_ge_n hC 74 dX6_digest_50 (by decide) 1 3 rfl rfl (by omega) (by omega) (fun c50 => absurd c50 (by omega)) (fun c50 => ?_)
        refine y_lload_n hC dX6_digest_53 1 rfl rfl ?_
        refine y_ldc2 hC (v := lN 31) dX6_digest_54 (inLr29 _ (List.mem_of_getElem? (i := 13) rfl)) ?_
        refine y_lmul hC (v := (((dgf (7 + 3 * i)) * (lN 31)) + ((nI 0).toInt64)) * (lN 31)) dX6_digest_57 rfl ?_
        refine y_aload_n hC dX6_digest_58 2 rfl rfl ?_
        refine y_iload_n hC dX6_digest_59 3 rfl rfl ?_
        refine y_iload hC dX6_digest_60 0 rfl ?_
        refine y_callV_i hC (As := [.int (nI i), .int (nI 1)]) (rest := [.long ((((dgf (7 + 3 * i)) * (lN 31)) + ((nI 0).toInt64)) * (lN 31))]) (p_told a 0 i 1 (by omega) (by omega)) nV_X6_letterTold (inLr7 _ (List.mem_of_getElem? (i := 11) rfl)) [0, 1, 2] [] [0, 1, 2] (fun u => [((a 0), mOb a 0), ((a 1), .inl (cI, 12, .inl (fun k => nI (Zf k)))), ((a 2), .inl (cI, 12, .inl (fun k => nI (Zf k))))]) rfl rfl rfl rfl (by decide) rfl (fun _ => rfl) 0 rfl rfl rfl rfl (Nat.le_of_ble_eq_true rfl) dX6_digest_62 ⟨(Nat.le_of_ble_eq_true rfl), (Nat.le_of_ble_eq_true rfl)⟩ ⟨(Nat.le_of_ble_eq_true rfl), (Nat.le_of_ble_eq_true rfl)⟩ (fun r9 u9 hw9 => ?_)
        subst hw9
        refine y_i2l hC (v := (nI 0).toInt64) dX6_digest_65 rfl ?_
        refine y_ladd hC (v := ((((dgf (7 + 3 * i)) * (lN 31)) + ((nI 0).toInt64)) * (lN 31)) + ((nI 0).toInt64)) dX6_digest_66 rfl ?_
        refine y_lstore_n hC [(1, .long (((((dgf (7 + 3 * i)) * (lN 31)) + ((nI 0).toInt64)) * (lN 31)) + ((nI 0).toInt64))), (4, .int (nI 1)), (0, .ref (a 0)), (3, .int (nI i))] dX6_digest_67 rfl (by decide) rfl ?_
        refine y_iinc hC (v := nI 2) [(4, .int (nI 2)), (1, .long (((((dgf (7 + 3 * i)) * (lN 31)) + ((nI 0).toInt64)) * (lN 31)) + ((nI 0).toInt64))), (0, .ref (a 0)), (3, .int (nI i))] dX6_digest_68 (k := 1) rfl (ninc _) (by decide) rfl ?_
        refine y_goto hC 47 dX6_digest_71 (by decide) ?_
        refine y_iload hC dX6_digest_47 0 rfl ?_
        refine y_iconst hC (v := nI 3) dX6_digest_49 rfl ?_
        refine y_icmp_ge_n hC 74 dX6_digest_50 (by decide) 2 3 rfl rfl (by omega) (by omega) (fun c50 => absurd c50 (by omega)) (fun c50 => ?_)
        refine y_lload_n hC dX6_digest_53 1 rfl rfl ?_
        refine y_ldc2 hC (v := lN 31) dX6_digest_54 (inLr29 _ (List.mem_of_getElem? (i := 13) rfl)) ?_
        refine y_lmul hC (v := (((((dgf (7 + 3 * i)) * (lN 31)) + ((nI 0).toInt64)) * (lN 31)) + ((nI 0).toInt64)) * (lN 31)) dX6_digest_57 rfl ?_
        refine y_aload_n hC dX6_digest_58 2 rfl rfl ?_
        refine y_iload_n hC dX6_digest_59 3 rfl rfl ?_
        refine y_iload hC dX6_digest_60 0 rfl ?_
        refine y_callV_i hC (As := [.int (nI i), .int (nI 2)]) (rest := [.long ((((((dgf (7 + 3 * i)) * (lN 31)) + ((nI 0).toInt64)) * (lN 31)) + ((nI 0).toInt64)) * (lN 31))]) (p_told a 0 i 2 (by omega) (by omega)) nV_X6_letterTold (inLr7 _ (List.mem_of_getElem? (i := 11) rfl)) [0, 1, 2] [] [0, 1, 2] (fun u => [((a 0), mOb a 0), ((a 1), .inl (cI, 12, .inl (fun k => nI (Zf k)))), ((a 2), .inl (cI, 12, .inl (fun k => nI (Zf k))))]) rfl rfl rfl rfl (by decide) rfl (fun _ => rfl) 0 rfl rfl rfl rfl (Nat.le_of_ble_eq_true rfl) dX6_digest_62 ⟨(Nat.le_of_ble_eq_true rfl), (Nat.le_of_ble_eq_true rfl)⟩ ⟨(Nat.le_of_ble_eq_true rfl), (Nat.le_of_ble_eq_true rfl)⟩ (fun r10 u10 hw10 => ?_)
        subst hw10
        refine y_i2l hC (v := (nI 0).toInt64) dX6_digest_65 rfl ?_
        refine y_ladd hC (v := ((((((dgf (7 + 3 * i)) * (lN 31)) + ((nI 0).toInt64)) * (lN 31)) + ((nI 0).toInt64)) * (lN 31)) + ((nI 0).toInt64)) dX6_digest_66 rfl ?_
        refine y_lstore_n hC [(1, .long (((((((dgf (7 + 3 * i)) * (lN 31)) + ((nI 0).toInt64)) * (lN 31)) + ((nI 0).toInt64)) * (lN 31)) + ((nI 0).toInt64))), (4, .int (nI 2)), (0, .ref (a 0)), (3, .int (nI i))] dX6_digest_67 rfl (by decide) rfl ?_
        refine y_iinc hC (v := nI 3) [(4, .int (nI 3)), (1, .long (((((((dgf (7 + 3 * i)) * (lN 31)) + ((nI 0).toInt64)) * (lN 31)) + ((nI 0).toInt64)) * (lN 31)) + ((nI 0).toInt64))), (0, .ref (a 0)), (3, .int (nI i))] dX6_digest_68 (k := 1) rfl (ninc _) (by decide) rfl ?_
        refine y_goto hC 47 dX6_digest_71 (by decide) ?_
        refine y_iload hC dX6_digest_47 0 rfl ?_
        refine y_iconst hC (v := nI 3) dX6_digest_49 rfl ?_
        refine y_icmp_ge_n hC 74 dX6_digest_50 (by decide) 3 3 rfl rfl (by omega) (by omega) (fun c50 => ?_) (fun c50 => absurd c50 (by omega))
        refine y_iinc hC (v := nI (i + 1)) [(3, .int (nI (i + 1))), (4, .int (nI 3)), (1, .long (((((((dgf (7 + 3 * i)) * (lN 31)) + ((nI 0).toInt64)) * (lN 31)) + ((nI 0).toInt64)) * (lN 31)) + ((nI 0).toInt64))), (0, .ref (a 0))] dX6_digest_74 (k := 3) rfl (ninc _) (by decide) rfl ?_
        refine y_goto hC 38 dX6_digest_77 (by decide) ?_
        refine y_sub hC [3, 2, 0] rfl ?_
        exact ihd (i + 1) (by omega) (by omega)
  refine y_sub hC [2, 1, 0] rfl ?_
  exact L38_l1 13 0 (by omega) (by omega)
theorem nI_X6_init : yI yX6_init cX6_init 2 0 := ⟨(inLr4 _ (List.mem_of_getElem? (i := 5) rfl)), (inLr1 _ (List.mem_of_getElem? (i := 5) rfl)), (inLr4 _ (List.mem_of_getElem? (i := 6) rfl)), rfl, ⟨by decide, by decide, by decide +kernel⟩⟩
theorem feel_step {F : Nat → Nat} {i v : Nat} (h : ∀ k, k < i → F k = feelv k) (hv : feelv i = v) : ∀ k, k < i + 1 → updN F i v k = feelv k := by
  intro k hk
  unfold updN
  by_cases e : k = i
  · rw [if_pos e, e, hv]
  · rw [if_neg e]; exact h k (by omega)
set_option maxHeartbeats 4000000 in
set_option maxRecDepth 100000 in
theorem p_X6_init (h0 : Nat) : MV l D (tyL cI cO cJ cZ) yX6_init cX6_init 2 ({ frames := 1, cells := 14, slots := 845, locals := 20 } : Room) [.ref h0] [(h0, .inr (6, [.int (nI 0), .null, .null, .int (nI 0), .int (nI 0), .int (nI 0), .null, .int (nI 0), .int (nI 0), .int (nI 0), .null, .null, .null, .null, .null, .int (nI 0), .null, .int (nI 0), .null, .null, .null, .null, .null]))] (fun (u : (Nat → Nat) × (Nat → Nat)) => u.1 0 = h0 ∧ ∀ k, k < 25 → u.2 k = feelv k) (fun (u : (Nat → Nat) × (Nat → Nat)) => [((u.1 0), .inr (6, [.int (nI 0), .ref (u.1 1), .ref (u.1 2), .int (nI 0), .int (nI 0), .int (nI 0), .ref (u.1 3), .int (nI 4), .int (nI 4), .int (nI 0), .ref (u.1 4), .ref (u.1 5), .ref (u.1 6), .ref (u.1 7), .ref (u.1 8), .int (nI 0), .ref (u.1 9), .int (nI 0), .ref (u.1 10), .ref (u.1 11), .ref (u.1 12), .ref (u.1 13), .ref (u.1 14)])), ((u.1 1), .inl (cI, 12, .inl (fun k => nI (Zf k)))), ((u.1 2), .inl (cI, 12, .inl (fun k => nI (Zf k)))), ((u.1 3), .inl (cI, 25, .inl (fun k => nI (u.2 k)))), ((u.1 4), .inl (cI, 10, .inl (fun k => nI (Zf k)))), ((u.1 5), .inl (cI, 400, .inl (fun k => nI (Zf k)))), ((u.1 6), .inl (cI, 10, .inl (fun k => nI (Zf k)))), ((u.1 7), .inl (cI, 10, .inl (fun k => nI (Zf k)))), ((u.1 8), .inl (cI, 80, .inl (fun k => nI (Zf k)))), ((u.1 9), .inl (cI, 40, .inl (fun k => nI (Zf k)))), ((u.1 10), .inl (cI, 41, .inl (fun k => nI (Zf k)))), ((u.1 11), .inl (cI, 41, .inl (fun k => nI (Zf k)))), ((u.1 12), .inl (cI, 41, .inl (fun k => nI (Zf k)))), ((u.1 13), .inl (cI, 41, .inl (fun k => nI (Zf k)))), ((u.1 14), .inl (cI, 41, .inl (fun k => nI (Zf k))))]) := by
  refine MV.of (by decide) (Nat.le_of_ble_eq_true rfl) (fun G hC hE => ?_)
  show G 0 0 ([(h0, .inr (6, [.int (nI 0), .null, .null, .int (nI 0), .int (nI 0), .int (nI 0), .null, .int (nI 0), .int (nI 0), .int (nI 0), .null, .null, .null, .null, .null, .int (nI 0), .null, .int (nI 0), .null, .null, .null, .null, .null]))]) 0 [(0, .ref h0)] []
  refine y_aload_n hC dX6_init_0 0 rfl rfl ?_
  refine y_objInit hC (inLr4 _ (List.mem_of_getElem? (i := 7) rfl)) (inLr1 _ (List.mem_of_getElem? (i := 11) rfl)) (inLr1 _ (List.mem_of_getElem? (i := 12) rfl)) dX6_init_1 (Nat.le_of_ble_eq_true rfl) (Nat.le_of_ble_eq_true rfl) ?_
  refine y_aload_n hC dX6_init_4 0 rfl rfl ?_
  refine y_bipush hC (v := nI 12) dX6_init_5 rfl ?_
  refine y_newa hC (atype := .int) (N := 12) (a0 := (12, .inl (fun k => nI (Zf k)))) (cA := cI) (inLr2 _ (List.mem_of_getElem? (i := 9) rfl)) rfl 0 rfl ⟨rfl, fun _ h => h⟩ (fun _ => rfl) rfl (by decide) (Nat.le_of_ble_eq_true rfl) (Nat.le_of_ble_eq_true rfl) dX6_init_7 (fun q1 => ?_)
  show G 1 12 ([(h0, .inr (6, [.int (nI 0), .null, .null, .int (nI 0), .int (nI 0), .int (nI 0), .null, .int (nI 0), .int (nI 0), .int (nI 0), .null, .null, .null, .null, .null, .int (nI 0), .null, .int (nI 0), .null, .null, .null, .null, .null])), (q1, .inl (cI, 12, .inl (fun k => nI (Zf k))))]) 9 [(0, .ref h0)] [.ref q1, .ref h0]
  refine y_putF hC cC6 rfl 0 rfl 1 (by decide) (inLr4 _ (List.mem_of_getElem? (i := 8) rfl)) rfl rfl rfl rfl (Nat.le_of_ble_eq_true rfl) dX6_init_9 ([(h0, .inr (6, [.int (nI 0), .ref q1, .null, .int (nI 0), .int (nI 0), .int (nI 0), .null, .int (nI 0), .int (nI 0), .int (nI 0), .null, .null, .null, .null, .null, .int (nI 0), .null, .int (nI 0), .null, .null, .null, .null, .null])), (q1, .inl (cI, 12, .inl (fun k => nI (Zf k))))]) rfl ?_
  refine y_aload_n hC dX6_init_12 0 rfl rfl ?_
  refine y_bipush hC (v := nI 12) dX6_init_13 rfl ?_
  refine y_newa hC (atype := .int) (N := 12) (a0 := (12, .inl (fun k => nI (Zf k)))) (cA := cI) (inLr2 _ (List.mem_of_getElem? (i := 9) rfl)) rfl 0 rfl ⟨rfl, fun _ h => h⟩ (fun _ => rfl) rfl (by decide) (Nat.le_of_ble_eq_true rfl) (Nat.le_of_ble_eq_true rfl) dX6_init_15 (fun q2 => ?_)
  show G 2 24 ([(h0, .inr (6, [.int (nI 0), .ref q1, .null, .int (nI 0), .int (nI 0), .int (nI 0), .null, .int (nI 0), .int (nI 0), .int (nI 0), .null, .null, .null, .null, .null, .int (nI 0), .null, .int (nI 0), .null, .null, .null, .null, .null])), (q1, .inl (cI, 12, .inl (fun k => nI (Zf k)))), (q2, .inl (cI, 12, .inl (fun k => nI (Zf k))))]) 17 [(0, .ref h0)] [.ref q2, .ref h0]
  refine y_putF hC cC6 rfl 0 rfl 2 (by decide) (inLr4 _ (List.mem_of_getElem? (i := 9) rfl)) rfl rfl rfl rfl (Nat.le_of_ble_eq_true rfl) dX6_init_17 ([(h0, .inr (6, [.int (nI 0), .ref q1, .ref q2, .int (nI 0), .int (nI 0), .int (nI 0), .null, .int (nI 0), .int (nI 0), .int (nI 0), .null, .null, .null, .null, .null, .int (nI 0), .null, .int (nI 0), .null, .null, .null, .null, .null])), (q1, .inl (cI, 12, .inl (fun k => nI (Zf k)))), (q2, .inl (cI, 12, .inl (fun k => nI (Zf k))))]) rfl ?_
  refine y_aload_n hC dX6_init_20 0 rfl rfl ?_
  refine y_bipush hC (v := nI 25) dX6_init_21 rfl ?_
  refine y_newa hC (atype := .int) (N := 25) (a0 := (25, .inl (fun k => nI (Zf k)))) (cA := cI) (inLr2 _ (List.mem_of_getElem? (i := 9) rfl)) rfl 0 rfl ⟨rfl, fun _ h => h⟩ (fun _ => rfl) rfl (by decide) (Nat.le_of_ble_eq_true rfl) (Nat.le_of_ble_eq_true rfl) dX6_init_23 (fun q3 => ?_)
  show G 3 49 ([(h0, .inr (6, [.int (nI 0), .ref q1, .ref q2, .int (nI 0), .int (nI 0), .int (nI 0), .null, .int (nI 0), .int (nI 0), .int (nI 0), .null, .null, .null, .null, .null, .int (nI 0), .null, .int (nI 0), .null, .null, .null, .null, .null])), (q1, .inl (cI, 12, .inl (fun k => nI (Zf k)))), (q2, .inl (cI, 12, .inl (fun k => nI (Zf k)))), (q3, .inl (cI, 25, .inl (fun k => nI (Zf k))))]) 25 [(0, .ref h0)] [.ref q3, .ref h0]
  refine y_putF hC cC6 rfl 0 rfl 6 (by decide) (inLr4 _ (List.mem_of_getElem? (i := 10) rfl)) rfl rfl rfl rfl (Nat.le_of_ble_eq_true rfl) dX6_init_25 ([(h0, .inr (6, [.int (nI 0), .ref q1, .ref q2, .int (nI 0), .int (nI 0), .int (nI 0), .ref q3, .int (nI 0), .int (nI 0), .int (nI 0), .null, .null, .null, .null, .null, .int (nI 0), .null, .int (nI 0), .null, .null, .null, .null, .null])), (q1, .inl (cI, 12, .inl (fun k => nI (Zf k)))), (q2, .inl (cI, 12, .inl (fun k => nI (Zf k)))), (q3, .inl (cI, 25, .inl (fun k => nI (Zf k))))]) rfl ?_
  refine y_aload_n hC dX6_init_28 0 rfl rfl ?_
  refine y_iconst hC (v := nI 4) dX6_init_29 rfl ?_
  refine y_put hC cC6 0 rfl 7 (by decide) (inLr4 _ (List.mem_of_getElem? (i := 11) rfl)) rfl rfl rfl (Nat.le_of_ble_eq_true rfl) dX6_init_30 ([(h0, .inr (6, [.int (nI 0), .ref q1, .ref q2, .int (nI 0), .int (nI 0), .int (nI 0), .ref q3, .int (nI 4), .int (nI 0), .int (nI 0), .null, .null, .null, .null, .null, .int (nI 0), .null, .int (nI 0), .null, .null, .null, .null, .null])), (q1, .inl (cI, 12, .inl (fun k => nI (Zf k)))), (q2, .inl (cI, 12, .inl (fun k => nI (Zf k)))), (q3, .inl (cI, 25, .inl (fun k => nI (Zf k))))]) rfl ?_
  refine y_aload_n hC dX6_init_33 0 rfl rfl ?_
  refine y_iconst hC (v := nI 4) dX6_init_34 rfl ?_
  refine y_put hC cC6 0 rfl 8 (by decide) (inLr4 _ (List.mem_of_getElem? (i := 12) rfl)) rfl rfl rfl (Nat.le_of_ble_eq_true rfl) dX6_init_35 ([(h0, .inr (6, [.int (nI 0), .ref q1, .ref q2, .int (nI 0), .int (nI 0), .int (nI 0), .ref q3, .int (nI 4), .int (nI 4), .int (nI 0), .null, .null, .null, .null, .null, .int (nI 0), .null, .int (nI 0), .null, .null, .null, .null, .null])), (q1, .inl (cI, 12, .inl (fun k => nI (Zf k)))), (q2, .inl (cI, 12, .inl (fun k => nI (Zf k)))), (q3, .inl (cI, 25, .inl (fun k => nI (Zf k))))]) rfl ?_
  refine y_aload_n hC dX6_init_38 0 rfl rfl ?_
  refine y_bipush hC (v := nI 10) dX6_init_39 rfl ?_
  refine y_newa hC (atype := .int) (N := 10) (a0 := (10, .inl (fun k => nI (Zf k)))) (cA := cI) (inLr2 _ (List.mem_of_getElem? (i := 9) rfl)) rfl 0 rfl ⟨rfl, fun _ h => h⟩ (fun _ => rfl) rfl (by decide) (Nat.le_of_ble_eq_true rfl) (Nat.le_of_ble_eq_true rfl) dX6_init_41 (fun q4 => ?_)
  show G 4 59 ([(h0, .inr (6, [.int (nI 0), .ref q1, .ref q2, .int (nI 0), .int (nI 0), .int (nI 0), .ref q3, .int (nI 4), .int (nI 4), .int (nI 0), .null, .null, .null, .null, .null, .int (nI 0), .null, .int (nI 0), .null, .null, .null, .null, .null])), (q1, .inl (cI, 12, .inl (fun k => nI (Zf k)))), (q2, .inl (cI, 12, .inl (fun k => nI (Zf k)))), (q3, .inl (cI, 25, .inl (fun k => nI (Zf k)))), (q4, .inl (cI, 10, .inl (fun k => nI (Zf k))))]) 43 [(0, .ref h0)] [.ref q4, .ref h0]
  refine y_putF hC cC6 rfl 0 rfl 10 (by decide) (inLr4 _ (List.mem_of_getElem? (i := 13) rfl)) rfl rfl rfl rfl (Nat.le_of_ble_eq_true rfl) dX6_init_43 ([(h0, .inr (6, [.int (nI 0), .ref q1, .ref q2, .int (nI 0), .int (nI 0), .int (nI 0), .ref q3, .int (nI 4), .int (nI 4), .int (nI 0), .ref q4, .null, .null, .null, .null, .int (nI 0), .null, .int (nI 0), .null, .null, .null, .null, .null])), (q1, .inl (cI, 12, .inl (fun k => nI (Zf k)))), (q2, .inl (cI, 12, .inl (fun k => nI (Zf k)))), (q3, .inl (cI, 25, .inl (fun k => nI (Zf k)))), (q4, .inl (cI, 10, .inl (fun k => nI (Zf k))))]) rfl ?_
  refine y_aload_n hC dX6_init_46 0 rfl rfl ?_
  refine y_sipush hC (v := nI 400) dX6_init_47 rfl ?_
  refine y_newa hC (atype := .int) (N := 400) (a0 := (400, .inl (fun k => nI (Zf k)))) (cA := cI) (inLr2 _ (List.mem_of_getElem? (i := 9) rfl)) rfl 0 rfl ⟨rfl, fun _ h => h⟩ (fun _ => rfl) rfl (by decide) (Nat.le_of_ble_eq_true rfl) (Nat.le_of_ble_eq_true rfl) dX6_init_50 (fun q5 => ?_)
  show G 5 459 ([(h0, .inr (6, [.int (nI 0), .ref q1, .ref q2, .int (nI 0), .int (nI 0), .int (nI 0), .ref q3, .int (nI 4), .int (nI 4), .int (nI 0), .ref q4, .null, .null, .null, .null, .int (nI 0), .null, .int (nI 0), .null, .null, .null, .null, .null])), (q1, .inl (cI, 12, .inl (fun k => nI (Zf k)))), (q2, .inl (cI, 12, .inl (fun k => nI (Zf k)))), (q3, .inl (cI, 25, .inl (fun k => nI (Zf k)))), (q4, .inl (cI, 10, .inl (fun k => nI (Zf k)))), (q5, .inl (cI, 400, .inl (fun k => nI (Zf k))))]) 52 [(0, .ref h0)] [.ref q5, .ref h0]
  refine y_putF hC cC6 rfl 0 rfl 11 (by decide) (inLr4 _ (List.mem_of_getElem? (i := 14) rfl)) rfl rfl rfl rfl (Nat.le_of_ble_eq_true rfl) dX6_init_52 ([(h0, .inr (6, [.int (nI 0), .ref q1, .ref q2, .int (nI 0), .int (nI 0), .int (nI 0), .ref q3, .int (nI 4), .int (nI 4), .int (nI 0), .ref q4, .ref q5, .null, .null, .null, .int (nI 0), .null, .int (nI 0), .null, .null, .null, .null, .null])), (q1, .inl (cI, 12, .inl (fun k => nI (Zf k)))), (q2, .inl (cI, 12, .inl (fun k => nI (Zf k)))), (q3, .inl (cI, 25, .inl (fun k => nI (Zf k)))), (q4, .inl (cI, 10, .inl (fun k => nI (Zf k)))), (q5, .inl (cI, 400, .inl (fun k => nI (Zf k))))]) rfl ?_
  refine y_aload_n hC dX6_init_55 0 rfl rfl ?_
  refine y_bipush hC (v := nI 10) dX6_init_56 rfl ?_
  refine y_newa hC (atype := .int) (N := 10) (a0 := (10, .inl (fun k => nI (Zf k)))) (cA := cI) (inLr2 _ (List.mem_of_getElem? (i := 9) rfl)) rfl 0 rfl ⟨rfl, fun _ h => h⟩ (fun _ => rfl) rfl (by decide) (Nat.le_of_ble_eq_true rfl) (Nat.le_of_ble_eq_true rfl) dX6_init_58 (fun q6 => ?_)
  show G 6 469 ([(h0, .inr (6, [.int (nI 0), .ref q1, .ref q2, .int (nI 0), .int (nI 0), .int (nI 0), .ref q3, .int (nI 4), .int (nI 4), .int (nI 0), .ref q4, .ref q5, .null, .null, .null, .int (nI 0), .null, .int (nI 0), .null, .null, .null, .null, .null])), (q1, .inl (cI, 12, .inl (fun k => nI (Zf k)))), (q2, .inl (cI, 12, .inl (fun k => nI (Zf k)))), (q3, .inl (cI, 25, .inl (fun k => nI (Zf k)))), (q4, .inl (cI, 10, .inl (fun k => nI (Zf k)))), (q5, .inl (cI, 400, .inl (fun k => nI (Zf k)))), (q6, .inl (cI, 10, .inl (fun k => nI (Zf k))))]) 60 [(0, .ref h0)] [.ref q6, .ref h0]
  refine y_putF hC cC6 rfl 0 rfl 12 (by decide) (inLr4 _ (List.mem_of_getElem? (i := 15) rfl)) rfl rfl rfl rfl (Nat.le_of_ble_eq_true rfl) dX6_init_60 ([(h0, .inr (6, [.int (nI 0), .ref q1, .ref q2, .int (nI 0), .int (nI 0), .int (nI 0), .ref q3, .int (nI 4), .int (nI 4), .int (nI 0), .ref q4, .ref q5, .ref q6, .null, .null, .int (nI 0), .null, .int (nI 0), .null, .null, .null, .null, .null])), (q1, .inl (cI, 12, .inl (fun k => nI (Zf k)))), (q2, .inl (cI, 12, .inl (fun k => nI (Zf k)))), (q3, .inl (cI, 25, .inl (fun k => nI (Zf k)))), (q4, .inl (cI, 10, .inl (fun k => nI (Zf k)))), (q5, .inl (cI, 400, .inl (fun k => nI (Zf k)))), (q6, .inl (cI, 10, .inl (fun k => nI (Zf k))))]) rfl ?_
  refine y_aload_n hC dX6_init_63 0 rfl rfl ?_
  refine y_bipush hC (v := nI 10) dX6_init_64 rfl ?_
  refine y_newa hC (atype := .int) (N := 10) (a0 := (10, .inl (fun k => nI (Zf k)))) (cA := cI) (inLr2 _ (List.mem_of_getElem? (i := 9) rfl)) rfl 0 rfl ⟨rfl, fun _ h => h⟩ (fun _ => rfl) rfl (by decide) (Nat.le_of_ble_eq_true rfl) (Nat.le_of_ble_eq_true rfl) dX6_init_66 (fun q7 => ?_)
  show G 7 479 ([(h0, .inr (6, [.int (nI 0), .ref q1, .ref q2, .int (nI 0), .int (nI 0), .int (nI 0), .ref q3, .int (nI 4), .int (nI 4), .int (nI 0), .ref q4, .ref q5, .ref q6, .null, .null, .int (nI 0), .null, .int (nI 0), .null, .null, .null, .null, .null])), (q1, .inl (cI, 12, .inl (fun k => nI (Zf k)))), (q2, .inl (cI, 12, .inl (fun k => nI (Zf k)))), (q3, .inl (cI, 25, .inl (fun k => nI (Zf k)))), (q4, .inl (cI, 10, .inl (fun k => nI (Zf k)))), (q5, .inl (cI, 400, .inl (fun k => nI (Zf k)))), (q6, .inl (cI, 10, .inl (fun k => nI (Zf k)))), (q7, .inl (cI, 10, .inl (fun k => nI (Zf k))))]) 68 [(0, .ref h0)] [.ref q7, .ref h0]
  refine y_putF hC cC6 rfl 0 rfl 13 (by decide) (inLr4 _ (List.mem_of_getElem? (i := 16) rfl)) rfl rfl rfl rfl (Nat.le_of_ble_eq_true rfl) dX6_init_68 ([(h0, .inr (6, [.int (nI 0), .ref q1, .ref q2, .int (nI 0), .int (nI 0), .int (nI 0), .ref q3, .int (nI 4), .int (nI 4), .int (nI 0), .ref q4, .ref q5, .ref q6, .ref q7, .null, .int (nI 0), .null, .int (nI 0), .null, .null, .null, .null, .null])), (q1, .inl (cI, 12, .inl (fun k => nI (Zf k)))), (q2, .inl (cI, 12, .inl (fun k => nI (Zf k)))), (q3, .inl (cI, 25, .inl (fun k => nI (Zf k)))), (q4, .inl (cI, 10, .inl (fun k => nI (Zf k)))), (q5, .inl (cI, 400, .inl (fun k => nI (Zf k)))), (q6, .inl (cI, 10, .inl (fun k => nI (Zf k)))), (q7, .inl (cI, 10, .inl (fun k => nI (Zf k))))]) rfl ?_
  refine y_aload_n hC dX6_init_71 0 rfl rfl ?_
  refine y_bipush hC (v := nI 80) dX6_init_72 rfl ?_
  refine y_newa hC (atype := .int) (N := 80) (a0 := (80, .inl (fun k => nI (Zf k)))) (cA := cI) (inLr2 _ (List.mem_of_getElem? (i := 9) rfl)) rfl 0 rfl ⟨rfl, fun _ h => h⟩ (fun _ => rfl) rfl (by decide) (Nat.le_of_ble_eq_true rfl) (Nat.le_of_ble_eq_true rfl) dX6_init_74 (fun q8 => ?_)
  show G 8 559 ([(h0, .inr (6, [.int (nI 0), .ref q1, .ref q2, .int (nI 0), .int (nI 0), .int (nI 0), .ref q3, .int (nI 4), .int (nI 4), .int (nI 0), .ref q4, .ref q5, .ref q6, .ref q7, .null, .int (nI 0), .null, .int (nI 0), .null, .null, .null, .null, .null])), (q1, .inl (cI, 12, .inl (fun k => nI (Zf k)))), (q2, .inl (cI, 12, .inl (fun k => nI (Zf k)))), (q3, .inl (cI, 25, .inl (fun k => nI (Zf k)))), (q4, .inl (cI, 10, .inl (fun k => nI (Zf k)))), (q5, .inl (cI, 400, .inl (fun k => nI (Zf k)))), (q6, .inl (cI, 10, .inl (fun k => nI (Zf k)))), (q7, .inl (cI, 10, .inl (fun k => nI (Zf k)))), (q8, .inl (cI, 80, .inl (fun k => nI (Zf k))))]) 76 [(0, .ref h0)] [.ref q8, .ref h0]
  refine y_putF hC cC6 rfl 0 rfl 14 (by decide) (inLr4 _ (List.mem_of_getElem? (i := 17) rfl)) rfl rfl rfl rfl (Nat.le_of_ble_eq_true rfl) dX6_init_76 ([(h0, .inr (6, [.int (nI 0), .ref q1, .ref q2, .int (nI 0), .int (nI 0), .int (nI 0), .ref q3, .int (nI 4), .int (nI 4), .int (nI 0), .ref q4, .ref q5, .ref q6, .ref q7, .ref q8, .int (nI 0), .null, .int (nI 0), .null, .null, .null, .null, .null])), (q1, .inl (cI, 12, .inl (fun k => nI (Zf k)))), (q2, .inl (cI, 12, .inl (fun k => nI (Zf k)))), (q3, .inl (cI, 25, .inl (fun k => nI (Zf k)))), (q4, .inl (cI, 10, .inl (fun k => nI (Zf k)))), (q5, .inl (cI, 400, .inl (fun k => nI (Zf k)))), (q6, .inl (cI, 10, .inl (fun k => nI (Zf k)))), (q7, .inl (cI, 10, .inl (fun k => nI (Zf k)))), (q8, .inl (cI, 80, .inl (fun k => nI (Zf k))))]) rfl ?_
  refine y_aload_n hC dX6_init_79 0 rfl rfl ?_
  refine y_bipush hC (v := nI 40) dX6_init_80 rfl ?_
  refine y_newa hC (atype := .int) (N := 40) (a0 := (40, .inl (fun k => nI (Zf k)))) (cA := cI) (inLr2 _ (List.mem_of_getElem? (i := 9) rfl)) rfl 0 rfl ⟨rfl, fun _ h => h⟩ (fun _ => rfl) rfl (by decide) (Nat.le_of_ble_eq_true rfl) (Nat.le_of_ble_eq_true rfl) dX6_init_82 (fun q9 => ?_)
  show G 9 599 ([(h0, .inr (6, [.int (nI 0), .ref q1, .ref q2, .int (nI 0), .int (nI 0), .int (nI 0), .ref q3, .int (nI 4), .int (nI 4), .int (nI 0), .ref q4, .ref q5, .ref q6, .ref q7, .ref q8, .int (nI 0), .null, .int (nI 0), .null, .null, .null, .null, .null])), (q1, .inl (cI, 12, .inl (fun k => nI (Zf k)))), (q2, .inl (cI, 12, .inl (fun k => nI (Zf k)))), (q3, .inl (cI, 25, .inl (fun k => nI (Zf k)))), (q4, .inl (cI, 10, .inl (fun k => nI (Zf k)))), (q5, .inl (cI, 400, .inl (fun k => nI (Zf k)))), (q6, .inl (cI, 10, .inl (fun k => nI (Zf k)))), (q7, .inl (cI, 10, .inl (fun k => nI (Zf k)))), (q8, .inl (cI, 80, .inl (fun k => nI (Zf k)))), (q9, .inl (cI, 40, .inl (fun k => nI (Zf k))))]) 84 [(0, .ref h0)] [.ref q9, .ref h0]
  refine y_putF hC cC6 rfl 0 rfl 16 (by decide) (inLr4 _ (List.mem_of_getElem? (i := 18) rfl)) rfl rfl rfl rfl (Nat.le_of_ble_eq_true rfl) dX6_init_84 ([(h0, .inr (6, [.int (nI 0), .ref q1, .ref q2, .int (nI 0), .int (nI 0), .int (nI 0), .ref q3, .int (nI 4), .int (nI 4), .int (nI 0), .ref q4, .ref q5, .ref q6, .ref q7, .ref q8, .int (nI 0), .ref q9, .int (nI 0), .null, .null, .null, .null, .null])), (q1, .inl (cI, 12, .inl (fun k => nI (Zf k)))), (q2, .inl (cI, 12, .inl (fun k => nI (Zf k)))), (q3, .inl (cI, 25, .inl (fun k => nI (Zf k)))), (q4, .inl (cI, 10, .inl (fun k => nI (Zf k)))), (q5, .inl (cI, 400, .inl (fun k => nI (Zf k)))), (q6, .inl (cI, 10, .inl (fun k => nI (Zf k)))), (q7, .inl (cI, 10, .inl (fun k => nI (Zf k)))), (q8, .inl (cI, 80, .inl (fun k => nI (Zf k)))), (q9, .inl (cI, 40, .inl (fun k => nI (Zf k))))]) rfl ?_
  refine y_aload_n hC dX6_init_87 0 rfl rfl ?_
  refine y_bipush hC (v := nI 41) dX6_init_88 rfl ?_
  refine y_newa hC (atype := .int) (N := 41) (a0 := (41, .inl (fun k => nI (Zf k)))) (cA := cI) (inLr2 _ (List.mem_of_getElem? (i := 9) rfl)) rfl 0 rfl ⟨rfl, fun _ h => h⟩ (fun _ => rfl) rfl (by decide) (Nat.le_of_ble_eq_true rfl) (Nat.le_of_ble_eq_true rfl) dX6_init_90 (fun q10 => ?_)
  show G 10 640 ([(h0, .inr (6, [.int (nI 0), .ref q1, .ref q2, .int (nI 0), .int (nI 0), .int (nI 0), .ref q3, .int (nI 4), .int (nI 4), .int (nI 0), .ref q4, .ref q5, .ref q6, .ref q7, .ref q8, .int (nI 0), .ref q9, .int (nI 0), .null, .null, .null, .null, .null])), (q1, .inl (cI, 12, .inl (fun k => nI (Zf k)))), (q2, .inl (cI, 12, .inl (fun k => nI (Zf k)))), (q3, .inl (cI, 25, .inl (fun k => nI (Zf k)))), (q4, .inl (cI, 10, .inl (fun k => nI (Zf k)))), (q5, .inl (cI, 400, .inl (fun k => nI (Zf k)))), (q6, .inl (cI, 10, .inl (fun k => nI (Zf k)))), (q7, .inl (cI, 10, .inl (fun k => nI (Zf k)))), (q8, .inl (cI, 80, .inl (fun k => nI (Zf k)))), (q9, .inl (cI, 40, .inl (fun k => nI (Zf k)))), (q10, .inl (cI, 41, .inl (fun k => nI (Zf k))))]) 92 [(0, .ref h0)] [.ref q10, .ref h0]
  refine y_putF hC cC6 rfl 0 rfl 18 (by decide) (inLr4 _ (List.mem_of_getElem? (i := 19) rfl)) rfl rfl rfl rfl (Nat.le_of_ble_eq_true rfl) dX6_init_92 ([(h0, .inr (6, [.int (nI 0), .ref q1, .ref q2, .int (nI 0), .int (nI 0), .int (nI 0), .ref q3, .int (nI 4), .int (nI 4), .int (nI 0), .ref q4, .ref q5, .ref q6, .ref q7, .ref q8, .int (nI 0), .ref q9, .int (nI 0), .ref q10, .null, .null, .null, .null])), (q1, .inl (cI, 12, .inl (fun k => nI (Zf k)))), (q2, .inl (cI, 12, .inl (fun k => nI (Zf k)))), (q3, .inl (cI, 25, .inl (fun k => nI (Zf k)))), (q4, .inl (cI, 10, .inl (fun k => nI (Zf k)))), (q5, .inl (cI, 400, .inl (fun k => nI (Zf k)))), (q6, .inl (cI, 10, .inl (fun k => nI (Zf k)))), (q7, .inl (cI, 10, .inl (fun k => nI (Zf k)))), (q8, .inl (cI, 80, .inl (fun k => nI (Zf k)))), (q9, .inl (cI, 40, .inl (fun k => nI (Zf k)))), (q10, .inl (cI, 41, .inl (fun k => nI (Zf k))))]) rfl ?_
  refine y_aload_n hC dX6_init_95 0 rfl rfl ?_
  refine y_bipush hC (v := nI 41) dX6_init_96 rfl ?_
  refine y_newa hC (atype := .int) (N := 41) (a0 := (41, .inl (fun k => nI (Zf k)))) (cA := cI) (inLr2 _ (List.mem_of_getElem? (i := 9) rfl)) rfl 0 rfl ⟨rfl, fun _ h => h⟩ (fun _ => rfl) rfl (by decide) (Nat.le_of_ble_eq_true rfl) (Nat.le_of_ble_eq_true rfl) dX6_init_98 (fun q11 => ?_)
  show G 11 681 ([(h0, .inr (6, [.int (nI 0), .ref q1, .ref q2, .int (nI 0), .int (nI 0), .int (nI 0), .ref q3, .int (nI 4), .int (nI 4), .int (nI 0), .ref q4, .ref q5, .ref q6, .ref q7, .ref q8, .int (nI 0), .ref q9, .int (nI 0), .ref q10, .null, .null, .null, .null])), (q1, .inl (cI, 12, .inl (fun k => nI (Zf k)))), (q2, .inl (cI, 12, .inl (fun k => nI (Zf k)))), (q3, .inl (cI, 25, .inl (fun k => nI (Zf k)))), (q4, .inl (cI, 10, .inl (fun k => nI (Zf k)))), (q5, .inl (cI, 400, .inl (fun k => nI (Zf k)))), (q6, .inl (cI, 10, .inl (fun k => nI (Zf k)))), (q7, .inl (cI, 10, .inl (fun k => nI (Zf k)))), (q8, .inl (cI, 80, .inl (fun k => nI (Zf k)))), (q9, .inl (cI, 40, .inl (fun k => nI (Zf k)))), (q10, .inl (cI, 41, .inl (fun k => nI (Zf k)))), (q11, .inl (cI, 41, .inl (fun k => nI (Zf k))))]) 100 [(0, .ref h0)] [.ref q11, .ref h0]
  refine y_putF hC cC6 rfl 0 rfl 19 (by decide) (inLr4 _ (List.mem_of_getElem? (i := 20) rfl)) rfl rfl rfl rfl (Nat.le_of_ble_eq_true rfl) dX6_init_100 ([(h0, .inr (6, [.int (nI 0), .ref q1, .ref q2, .int (nI 0), .int (nI 0), .int (nI 0), .ref q3, .int (nI 4), .int (nI 4), .int (nI 0), .ref q4, .ref q5, .ref q6, .ref q7, .ref q8, .int (nI 0), .ref q9, .int (nI 0), .ref q10, .ref q11, .null, .null, .null])), (q1, .inl (cI, 12, .inl (fun k => nI (Zf k)))), (q2, .inl (cI, 12, .inl (fun k => nI (Zf k)))), (q3, .inl (cI, 25, .inl (fun k => nI (Zf k)))), (q4, .inl (cI, 10, .inl (fun k => nI (Zf k)))), (q5, .inl (cI, 400, .inl (fun k => nI (Zf k)))), (q6, .inl (cI, 10, .inl (fun k => nI (Zf k)))), (q7, .inl (cI, 10, .inl (fun k => nI (Zf k)))), (q8, .inl (cI, 80, .inl (fun k => nI (Zf k)))), (q9, .inl (cI, 40, .inl (fun k => nI (Zf k)))), (q10, .inl (cI, 41, .inl (fun k => nI (Zf k)))), (q11, .inl (cI, 41, .inl (fun k => nI (Zf k))))]) rfl ?_
  refine y_aload_n hC dX6_init_103 0 rfl rfl ?_
  refine y_bipush hC (v := nI 41) dX6_init_104 rfl ?_
  refine y_newa hC (atype := .int) (N := 41) (a0 := (41, .inl (fun k => nI (Zf k)))) (cA := cI) (inLr2 _ (List.mem_of_getElem? (i := 9) rfl)) rfl 0 rfl ⟨rfl, fun _ h => h⟩ (fun _ => rfl) rfl (by decide) (Nat.le_of_ble_eq_true rfl) (Nat.le_of_ble_eq_true rfl) dX6_init_106 (fun q12 => ?_)
  show G 12 722 ([(h0, .inr (6, [.int (nI 0), .ref q1, .ref q2, .int (nI 0), .int (nI 0), .int (nI 0), .ref q3, .int (nI 4), .int (nI 4), .int (nI 0), .ref q4, .ref q5, .ref q6, .ref q7, .ref q8, .int (nI 0), .ref q9, .int (nI 0), .ref q10, .ref q11, .null, .null, .null])), (q1, .inl (cI, 12, .inl (fun k => nI (Zf k)))), (q2, .inl (cI, 12, .inl (fun k => nI (Zf k)))), (q3, .inl (cI, 25, .inl (fun k => nI (Zf k)))), (q4, .inl (cI, 10, .inl (fun k => nI (Zf k)))), (q5, .inl (cI, 400, .inl (fun k => nI (Zf k)))), (q6, .inl (cI, 10, .inl (fun k => nI (Zf k)))), (q7, .inl (cI, 10, .inl (fun k => nI (Zf k)))), (q8, .inl (cI, 80, .inl (fun k => nI (Zf k)))), (q9, .inl (cI, 40, .inl (fun k => nI (Zf k)))), (q10, .inl (cI, 41, .inl (fun k => nI (Zf k)))), (q11, .inl (cI, 41, .inl (fun k => nI (Zf k)))), (q12, .inl (cI, 41, .inl (fun k => nI (Zf k))))]) 108 [(0, .ref h0)] [.ref q12, .ref h0]
  refine y_putF hC cC6 rfl 0 rfl 20 (by decide) (inLr4 _ (List.mem_of_getElem? (i := 21) rfl)) rfl rfl rfl rfl (Nat.le_of_ble_eq_true rfl) dX6_init_108 ([(h0, .inr (6, [.int (nI 0), .ref q1, .ref q2, .int (nI 0), .int (nI 0), .int (nI 0), .ref q3, .int (nI 4), .int (nI 4), .int (nI 0), .ref q4, .ref q5, .ref q6, .ref q7, .ref q8, .int (nI 0), .ref q9, .int (nI 0), .ref q10, .ref q11, .ref q12, .null, .null])), (q1, .inl (cI, 12, .inl (fun k => nI (Zf k)))), (q2, .inl (cI, 12, .inl (fun k => nI (Zf k)))), (q3, .inl (cI, 25, .inl (fun k => nI (Zf k)))), (q4, .inl (cI, 10, .inl (fun k => nI (Zf k)))), (q5, .inl (cI, 400, .inl (fun k => nI (Zf k)))), (q6, .inl (cI, 10, .inl (fun k => nI (Zf k)))), (q7, .inl (cI, 10, .inl (fun k => nI (Zf k)))), (q8, .inl (cI, 80, .inl (fun k => nI (Zf k)))), (q9, .inl (cI, 40, .inl (fun k => nI (Zf k)))), (q10, .inl (cI, 41, .inl (fun k => nI (Zf k)))), (q11, .inl (cI, 41, .inl (fun k => nI (Zf k)))), (q12, .inl (cI, 41, .inl (fun k => nI (Zf k))))]) rfl ?_
  refine y_aload_n hC dX6_init_111 0 rfl rfl ?_
  refine y_bipush hC (v := nI 41) dX6_init_112 rfl ?_
  refine y_newa hC (atype := .int) (N := 41) (a0 := (41, .inl (fun k => nI (Zf k)))) (cA := cI) (inLr2 _ (List.mem_of_getElem? (i := 9) rfl)) rfl 0 rfl ⟨rfl, fun _ h => h⟩ (fun _ => rfl) rfl (by decide) (Nat.le_of_ble_eq_true rfl) (Nat.le_of_ble_eq_true rfl) dX6_init_114 (fun q13 => ?_)
  show G 13 763 ([(h0, .inr (6, [.int (nI 0), .ref q1, .ref q2, .int (nI 0), .int (nI 0), .int (nI 0), .ref q3, .int (nI 4), .int (nI 4), .int (nI 0), .ref q4, .ref q5, .ref q6, .ref q7, .ref q8, .int (nI 0), .ref q9, .int (nI 0), .ref q10, .ref q11, .ref q12, .null, .null])), (q1, .inl (cI, 12, .inl (fun k => nI (Zf k)))), (q2, .inl (cI, 12, .inl (fun k => nI (Zf k)))), (q3, .inl (cI, 25, .inl (fun k => nI (Zf k)))), (q4, .inl (cI, 10, .inl (fun k => nI (Zf k)))), (q5, .inl (cI, 400, .inl (fun k => nI (Zf k)))), (q6, .inl (cI, 10, .inl (fun k => nI (Zf k)))), (q7, .inl (cI, 10, .inl (fun k => nI (Zf k)))), (q8, .inl (cI, 80, .inl (fun k => nI (Zf k)))), (q9, .inl (cI, 40, .inl (fun k => nI (Zf k)))), (q10, .inl (cI, 41, .inl (fun k => nI (Zf k)))), (q11, .inl (cI, 41, .inl (fun k => nI (Zf k)))), (q12, .inl (cI, 41, .inl (fun k => nI (Zf k)))), (q13, .inl (cI, 41, .inl (fun k => nI (Zf k))))]) 116 [(0, .ref h0)] [.ref q13, .ref h0]
  refine y_putF hC cC6 rfl 0 rfl 21 (by decide) (inLr4 _ (List.mem_of_getElem? (i := 22) rfl)) rfl rfl rfl rfl (Nat.le_of_ble_eq_true rfl) dX6_init_116 ([(h0, .inr (6, [.int (nI 0), .ref q1, .ref q2, .int (nI 0), .int (nI 0), .int (nI 0), .ref q3, .int (nI 4), .int (nI 4), .int (nI 0), .ref q4, .ref q5, .ref q6, .ref q7, .ref q8, .int (nI 0), .ref q9, .int (nI 0), .ref q10, .ref q11, .ref q12, .ref q13, .null])), (q1, .inl (cI, 12, .inl (fun k => nI (Zf k)))), (q2, .inl (cI, 12, .inl (fun k => nI (Zf k)))), (q3, .inl (cI, 25, .inl (fun k => nI (Zf k)))), (q4, .inl (cI, 10, .inl (fun k => nI (Zf k)))), (q5, .inl (cI, 400, .inl (fun k => nI (Zf k)))), (q6, .inl (cI, 10, .inl (fun k => nI (Zf k)))), (q7, .inl (cI, 10, .inl (fun k => nI (Zf k)))), (q8, .inl (cI, 80, .inl (fun k => nI (Zf k)))), (q9, .inl (cI, 40, .inl (fun k => nI (Zf k)))), (q10, .inl (cI, 41, .inl (fun k => nI (Zf k)))), (q11, .inl (cI, 41, .inl (fun k => nI (Zf k)))), (q12, .inl (cI, 41, .inl (fun k => nI (Zf k)))), (q13, .inl (cI, 41, .inl (fun k => nI (Zf k))))]) rfl ?_
  refine y_aload_n hC dX6_init_119 0 rfl rfl ?_
  refine y_bipush hC (v := nI 41) dX6_init_120 rfl ?_
  refine y_newa hC (atype := .int) (N := 41) (a0 := (41, .inl (fun k => nI (Zf k)))) (cA := cI) (inLr2 _ (List.mem_of_getElem? (i := 9) rfl)) rfl 0 rfl ⟨rfl, fun _ h => h⟩ (fun _ => rfl) rfl (by decide) (Nat.le_of_ble_eq_true rfl) (Nat.le_of_ble_eq_true rfl) dX6_init_122 (fun q14 => ?_)
  show G 14 804 ([(h0, .inr (6, [.int (nI 0), .ref q1, .ref q2, .int (nI 0), .int (nI 0), .int (nI 0), .ref q3, .int (nI 4), .int (nI 4), .int (nI 0), .ref q4, .ref q5, .ref q6, .ref q7, .ref q8, .int (nI 0), .ref q9, .int (nI 0), .ref q10, .ref q11, .ref q12, .ref q13, .null])), (q1, .inl (cI, 12, .inl (fun k => nI (Zf k)))), (q2, .inl (cI, 12, .inl (fun k => nI (Zf k)))), (q3, .inl (cI, 25, .inl (fun k => nI (Zf k)))), (q4, .inl (cI, 10, .inl (fun k => nI (Zf k)))), (q5, .inl (cI, 400, .inl (fun k => nI (Zf k)))), (q6, .inl (cI, 10, .inl (fun k => nI (Zf k)))), (q7, .inl (cI, 10, .inl (fun k => nI (Zf k)))), (q8, .inl (cI, 80, .inl (fun k => nI (Zf k)))), (q9, .inl (cI, 40, .inl (fun k => nI (Zf k)))), (q10, .inl (cI, 41, .inl (fun k => nI (Zf k)))), (q11, .inl (cI, 41, .inl (fun k => nI (Zf k)))), (q12, .inl (cI, 41, .inl (fun k => nI (Zf k)))), (q13, .inl (cI, 41, .inl (fun k => nI (Zf k)))), (q14, .inl (cI, 41, .inl (fun k => nI (Zf k))))]) 124 [(0, .ref h0)] [.ref q14, .ref h0]
  refine y_putF hC cC6 rfl 0 rfl 22 (by decide) (inLr4 _ (List.mem_of_getElem? (i := 23) rfl)) rfl rfl rfl rfl (Nat.le_of_ble_eq_true rfl) dX6_init_124 ([(h0, .inr (6, [.int (nI 0), .ref q1, .ref q2, .int (nI 0), .int (nI 0), .int (nI 0), .ref q3, .int (nI 4), .int (nI 4), .int (nI 0), .ref q4, .ref q5, .ref q6, .ref q7, .ref q8, .int (nI 0), .ref q9, .int (nI 0), .ref q10, .ref q11, .ref q12, .ref q13, .ref q14])), (q1, .inl (cI, 12, .inl (fun k => nI (Zf k)))), (q2, .inl (cI, 12, .inl (fun k => nI (Zf k)))), (q3, .inl (cI, 25, .inl (fun k => nI (Zf k)))), (q4, .inl (cI, 10, .inl (fun k => nI (Zf k)))), (q5, .inl (cI, 400, .inl (fun k => nI (Zf k)))), (q6, .inl (cI, 10, .inl (fun k => nI (Zf k)))), (q7, .inl (cI, 10, .inl (fun k => nI (Zf k)))), (q8, .inl (cI, 80, .inl (fun k => nI (Zf k)))), (q9, .inl (cI, 40, .inl (fun k => nI (Zf k)))), (q10, .inl (cI, 41, .inl (fun k => nI (Zf k)))), (q11, .inl (cI, 41, .inl (fun k => nI (Zf k)))), (q12, .inl (cI, 41, .inl (fun k => nI (Zf k)))), (q13, .inl (cI, 41, .inl (fun k => nI (Zf k)))), (q14, .inl (cI, 41, .inl (fun k => nI (Zf k))))]) rfl ?_
  refine y_iconst hC (v := nI 0) dX6_init_127 rfl ?_
  refine y_istore_n hC [(1, .int (nI 0)), (0, .ref h0)] dX6_init_128 rfl (by decide) rfl ?_
  have L129_l1 : ∀ (n : Nat) (i : Nat) (F : Nat → Nat), (26 ≤ i + n) → (i ≤ 25) → (∀ k, k < i → F k = feelv k) → G 14 804 ([(h0, .inr (6, [.int (nI 0), .ref q1, .ref q2, .int (nI 0), .int (nI 0), .int (nI 0), .ref q3, .int (nI 4), .int (nI 4), .int (nI 0), .ref q4, .ref q5, .ref q6, .ref q7, .ref q8, .int (nI 0), .ref q9, .int (nI 0), .ref q10, .ref q11, .ref q12, .ref q13, .ref q14])), (q1, .inl (cI, 12, .inl (fun k => nI (Zf k)))), (q2, .inl (cI, 12, .inl (fun k => nI (Zf k)))), (q3, .inl (cI, 25, .inl (fun k => nI (F k)))), (q4, .inl (cI, 10, .inl (fun k => nI (Zf k)))), (q5, .inl (cI, 400, .inl (fun k => nI (Zf k)))), (q6, .inl (cI, 10, .inl (fun k => nI (Zf k)))), (q7, .inl (cI, 10, .inl (fun k => nI (Zf k)))), (q8, .inl (cI, 80, .inl (fun k => nI (Zf k)))), (q9, .inl (cI, 40, .inl (fun k => nI (Zf k)))), (q10, .inl (cI, 41, .inl (fun k => nI (Zf k)))), (q11, .inl (cI, 41, .inl (fun k => nI (Zf k)))), (q12, .inl (cI, 41, .inl (fun k => nI (Zf k)))), (q13, .inl (cI, 41, .inl (fun k => nI (Zf k)))), (q14, .inl (cI, 41, .inl (fun k => nI (Zf k))))]) 129 [(0, .ref h0), (1, .int (nI i))] [] := by
    intro n
    induction n with
    | zero => intro i F h1 h2 h3; omega
    | succ n ihf =>
      intro i F h1 h2 h3
      refine y_iload_n hC dX6_init_129 1 rfl rfl ?_
      refine y_bipush hC (v := nI 25) dX6_init_130 rfl ?_
      refine y_icmp_ge_n hC 161 dX6_init_132 (by decide) i 25 rfl rfl (by omega) (by omega) (fun c132 => ?_) (fun c132 => ?_)
      · have h3e : ∀ k, k < 25 → F k = feelv k := fun k hk => h3 k (by omega)
        exact hE (fun k => ([h0, q1, q2, q3, q4, q5, q6, q7, q8, q9, q10, q11, q12, q13, q14] : List Nat).getD k 0, F) _ _ _ _ dX6_init_161 (Nat.le_of_ble_eq_true rfl) (Nat.le_of_ble_eq_true rfl) ⟨rfl, h3e⟩
      · refine y_aload_n hC dX6_init_135 0 rfl rfl ?_
        refine y_get hC cC6 0 rfl 6 (by decide) (inLr4 _ (List.mem_of_getElem? (i := 10) rfl)) rfl dX6_init_136 ?_
        refine y_iload_n hC dX6_init_139 1 rfl rfl ?_
        refine y_iload_n hC dX6_init_140 1 rfl rfl ?_
        refine y_iconst hC (v := nI 5) dX6_init_141 rfl ?_
        refine y_idiv hC (v := nI (i / 5)) dX6_init_142 (by decide) (pk_div (by omega) (by decide) (by decide)) ?_
        refine y_iload_n hC dX6_init_143 1 rfl rfl ?_
        refine y_iconst hC (v := nI 5) dX6_init_144 rfl ?_
        refine y_irem hC (v := nI (i % 5)) dX6_init_145 (by decide) (pk_rem (by omega) (by decide) (by decide)) ?_
        refine y_icmp_ne_n hC 153 dX6_init_146 (by decide) (i / 5) (i % 5) rfl rfl (by omega) (by omega) (fun c146 => ?_) (fun c146 => ?_)
        · have hv : feelv i = 3 := by unfold feelv; rw [if_neg c146]
          refine y_iconst hC (v := nI 3) dX6_init_153 rfl ?_
          refine y_iast hC 3 0 rfl rfl i rfl (by omega) (by decide) dX6_init_154 ([(h0, .inr (6, [.int (nI 0), .ref q1, .ref q2, .int (nI 0), .int (nI 0), .int (nI 0), .ref q3, .int (nI 4), .int (nI 4), .int (nI 0), .ref q4, .ref q5, .ref q6, .ref q7, .ref q8, .int (nI 0), .ref q9, .int (nI 0), .ref q10, .ref q11, .ref q12, .ref q13, .ref q14])), (q1, .inl (cI, 12, .inl (fun k => nI (Zf k)))), (q2, .inl (cI, 12, .inl (fun k => nI (Zf k)))), (q3, .inl (cI, 25, .inl (fun k => nI ((updN F i 3) k)))), (q4, .inl (cI, 10, .inl (fun k => nI (Zf k)))), (q5, .inl (cI, 400, .inl (fun k => nI (Zf k)))), (q6, .inl (cI, 10, .inl (fun k => nI (Zf k)))), (q7, .inl (cI, 10, .inl (fun k => nI (Zf k)))), (q8, .inl (cI, 80, .inl (fun k => nI (Zf k)))), (q9, .inl (cI, 40, .inl (fun k => nI (Zf k)))), (q10, .inl (cI, 41, .inl (fun k => nI (Zf k)))), (q11, .inl (cI, 41, .inl (fun k => nI (Zf k)))), (q12, .inl (cI, 41, .inl (fun k => nI (Zf k)))), (q13, .inl (cI, 41, .inl (fun k => nI (Zf k)))), (q14, .inl (cI, 41, .inl (fun k => nI (Zf k))))]) (by rw [← updN_eq]; rfl) ?_
          refine y_iinc hC (v := nI (i + 1)) [(1, .int (nI (i + 1))), (0, .ref h0)] dX6_init_155 (k := 1) rfl (ninc _) (by decide) rfl ?_
          refine y_goto hC 129 dX6_init_158 (by decide) ?_
          refine y_sub hC [1, 0] rfl ?_
          exact ihf (i + 1) _ (by omega) (by omega) (feel_step h3 hv)
        · have hv : feelv i = 0 := by unfold feelv; rw [if_pos c146]
          refine y_iconst hC (v := nI 0) dX6_init_149 rfl ?_
          refine y_goto hC 154 dX6_init_150 (by decide) ?_
          refine y_iast hC 3 0 rfl rfl i rfl (by omega) (by decide) dX6_init_154 ([(h0, .inr (6, [.int (nI 0), .ref q1, .ref q2, .int (nI 0), .int (nI 0), .int (nI 0), .ref q3, .int (nI 4), .int (nI 4), .int (nI 0), .ref q4, .ref q5, .ref q6, .ref q7, .ref q8, .int (nI 0), .ref q9, .int (nI 0), .ref q10, .ref q11, .ref q12, .ref q13, .ref q14])), (q1, .inl (cI, 12, .inl (fun k => nI (Zf k)))), (q2, .inl (cI, 12, .inl (fun k => nI (Zf k)))), (q3, .inl (cI, 25, .inl (fun k => nI ((updN F i 0) k)))), (q4, .inl (cI, 10, .inl (fun k => nI (Zf k)))), (q5, .inl (cI, 400, .inl (fun k => nI (Zf k)))), (q6, .inl (cI, 10, .inl (fun k => nI (Zf k)))), (q7, .inl (cI, 10, .inl (fun k => nI (Zf k)))), (q8, .inl (cI, 80, .inl (fun k => nI (Zf k)))), (q9, .inl (cI, 40, .inl (fun k => nI (Zf k)))), (q10, .inl (cI, 41, .inl (fun k => nI (Zf k)))), (q11, .inl (cI, 41, .inl (fun k => nI (Zf k)))), (q12, .inl (cI, 41, .inl (fun k => nI (Zf k)))), (q13, .inl (cI, 41, .inl (fun k => nI (Zf k)))), (q14, .inl (cI, 41, .inl (fun k => nI (Zf k))))]) (by rw [← updN_eq]; rfl) ?_
          refine y_iinc hC (v := nI (i + 1)) [(1, .int (nI (i + 1))), (0, .ref h0)] dX6_init_155 (k := 1) rfl (ninc _) (by decide) rfl ?_
          refine y_goto hC 129 dX6_init_158 (by decide) ?_
          refine y_sub hC [1, 0] rfl ?_
          exact ihf (i + 1) _ (by omega) (by omega) (feel_step h3 hv)
  refine y_sub hC [1, 0] rfl ?_
  exact L129_l1 26 0 Zf (by omega) (by omega) (fun k hk => absurd hk (by omega))
end P1M
