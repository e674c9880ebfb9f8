section P1M
variable {l : Launch} {D : va_G} {cI cO cJ cZ : ClassId}
/-- the fresh reference, but for what it threw -/
abbrev mOb (a : Nat → Nat) (t : Nat) : va_E := .inr (6, [.int (nI t), .ref (a 1), .ref (a 2), .int (nI 0), .int (nI 0), .int (nI 0), .ref (a 3), .int (nI 4), .int (nI 4), .int (nI 0), .ref (a 4), .ref (a 5), .ref (a 6), .ref (a 7), .ref (a 8), .int (nI 0), .ref (a 9), .int (nI 0), .ref (a 10), .ref (a 11), .ref (a 12), .ref (a 13), .ref (a 14)])
set_option maxHeartbeats 4000000 in
set_option maxRecDepth 100000 in
theorem p_len0  : MI l D (tyL cI cO cJ cZ) yX6_lengthOf cX6_lengthOf 1 .int ({ frames := 0, cells := 0, slots := 0, locals := 0 } : Room) [.int (nI 0)] [] (fun r (_ : Unit) => r = nI 0) (fun _ => []) := by
  refine MI.of (by decide) (Nat.le_of_ble_eq_true rfl) (fun G hC hE => ?_)
  show G 0 0 ([]) 0 [(0, .int (nI 0))] []
  refine y_iload_n hC dX6_lengthOf_0 0 rfl rfl ?_
  refine y_if_ne_n hC 8 dX6_lengthOf_1 (by decide) 0 rfl (by omega) (fun c1 => absurd c1 (by omega)) (fun c1 => ?_)
  refine y_iconst hC (v := nI 0) dX6_lengthOf_4 rfl ?_
  refine y_goto hC 17 dX6_lengthOf_5 (by decide) ?_
  exact hE (nI 0) () _ _ _ _ dX6_lengthOf_17 (Nat.le_of_ble_eq_true rfl) (Nat.le_of_ble_eq_true rfl) rfl rfl
theorem nV_X6_letterTold : yV yX6_letterTold RX6 cX6_letterTold 3 (some .int) 2 := ⟨(inLr7 _ (List.mem_of_getElem? (i := 12) rfl)), (inLr7 _ (List.mem_of_getElem? (i := 13) rfl)), (inLr1 _ (List.mem_of_getElem? (i := 5) rfl)), (inLr7 _ (List.mem_of_getElem? (i := 14) rfl)), rfl, by decide, by decide, by decide +kernel⟩
set_option maxHeartbeats 4000000 in
set_option maxRecDepth 100000 in
theorem p_told (a : Nat → Nat) (t i k : Nat) (hi : i < 12) (hk : k < 3) : MI l D (tyL cI cO cJ cZ) yX6_letterTold cX6_letterTold 3 .int ({ frames := 1, cells := 0, slots := 0, locals := 20 } : Room) [.ref (a 0), .int (nI i), .int (nI k)] [((a 0), mOb a t), ((a 1), .inl (cI, 12, .inl (fun k => nI ((fun _ => 0) k)))), ((a 2), .inl (cI, 12, .inl (fun k => nI ((fun _ => 0) k))))] (fun r (_ : Unit) => r = nI 0) (fun _ => [((a 0), mOb a t), ((a 1), .inl (cI, 12, .inl (fun k => nI ((fun _ => 0) k)))), ((a 2), .inl (cI, 12, .inl (fun k => nI ((fun _ => 0) k))))]) := by
  refine MI.of (by decide) (Nat.le_of_ble_eq_true rfl) (fun G hC hE => ?_)
  show G 0 0 [((a 0), mOb a t), ((a 1), .inl (cI, 12, .inl (fun k => nI ((fun _ => 0) k)))), ((a 2), .inl (cI, 12, .inl (fun k => nI ((fun _ => 0) k))))] 0 [(0, .ref (a 0)), (1, .int (nI i)), (2, .int (nI k))] []
  refine y_iload_n hC dX6_letterTold_0 2 rfl rfl ?_
  refine y_if_ne_n hC 13 dX6_letterTold_1 (by decide) k rfl (by omega) (fun c1 => ?_) (fun c1 => ?_)
  · refine y_iload_n hC dX6_letterTold_13 2 rfl rfl ?_
    refine y_iconst hC (v := nI 1) dX6_letterTold_14 rfl ?_
    refine y_icmp_ne_n hC 30 dX6_letterTold_15 (by decide) k 1 rfl rfl (by omega) (by omega) (fun c15 => ?_) (fun c15 => ?_)
    · refine y_aload_n hC dX6_letterTold_30 0 rfl rfl ?_
      refine y_get hC cC6 0 rfl 2 (by decide) (inLr4 _ (List.mem_of_getElem? (i := 9) rfl)) rfl dX6_letterTold_31 ?_
      refine y_iload_n hC dX6_letterTold_34 1 rfl rfl ?_
      refine y_iald hC 2 0 rfl rfl i rfl (by omega) (by decide) dX6_letterTold_35 ?_
      exact hE (nI 0) () _ _ _ _ dX6_letterTold_36 (Nat.le_of_ble_eq_true rfl) (Nat.le_of_ble_eq_true rfl) rfl rfl
    · refine y_aload_n hC dX6_letterTold_18 0 rfl rfl ?_
      refine y_get hC cC6 0 rfl 1 (by decide) (inLr4 _ (List.mem_of_getElem? (i := 8) rfl)) rfl dX6_letterTold_19 ?_
      refine y_iload_n hC dX6_letterTold_22 1 rfl rfl ?_
      refine y_iald hC 1 0 rfl rfl i rfl (by omega) (by decide) dX6_letterTold_23 ?_
      refine y_callS_i hC (As := [.int (nI 0)]) (rest := []) (p_len0) nS_X6_lengthOf (inLr7 _ (List.mem_of_getElem? (i := 15) rfl)) [] [0, 1, 2] [0, 1, 2] (fun u => [((a 0), mOb a t), ((a 1), .inl (cI, 12, .inl (fun k => nI ((fun _ => 0) k)))), ((a 2), .inl (cI, 12, .inl (fun k => nI ((fun _ => 0) k))))]) rfl rfl rfl rfl (by decide) rfl (fun _ => rfl) rfl rfl (Nat.le_of_ble_eq_true rfl) dX6_letterTold_24 ⟨(Nat.le_of_ble_eq_true rfl), (Nat.le_of_ble_eq_true rfl)⟩ ⟨(Nat.le_of_ble_eq_true rfl), (Nat.le_of_ble_eq_true rfl)⟩ (fun r1 u1 hw1 => ?_)
      subst hw1
      refine y_goto hC 36 dX6_letterTold_27 (by decide) ?_
      exact hE (nI 0) () _ _ _ _ dX6_letterTold_36 (Nat.le_of_ble_eq_true rfl) (Nat.le_of_ble_eq_true rfl) rfl rfl
  · refine y_aload_n hC dX6_letterTold_4 0 rfl rfl ?_
    refine y_get hC cC6 0 rfl 1 (by decide) (inLr4 _ (List.mem_of_getElem? (i := 8) rfl)) rfl dX6_letterTold_5 ?_
    refine y_iload_n hC dX6_letterTold_8 1 rfl rfl ?_
    refine y_iald hC 1 0 rfl rfl i rfl (by omega) (by decide) dX6_letterTold_9 ?_
    refine y_goto hC 36 dX6_letterTold_10 (by decide) ?_
    exact hE (nI 0) () _ _ _ _ dX6_letterTold_36 (Nat.le_of_ble_eq_true rfl) (Nat.le_of_ble_eq_true rfl) rfl rfl
theorem nV_X6_letter : yV yX6_letter RX6 cX6_letter 3 (some .int) 2 := ⟨(inLr7 _ (List.mem_of_getElem? (i := 8) rfl)), (inLr7 _ (List.mem_of_getElem? (i := 9) rfl)), (inLr1 _ (List.mem_of_getElem? (i := 5) rfl)), (inLr7 _ (List.mem_of_getElem? (i := 10) rfl)), rfl, by decide, by decide, by decide +kernel⟩
set_option maxHeartbeats 4000000 in
set_option maxRecDepth 100000 in
theorem p_X6_letter (a : Nat → Nat) (x : Int32) (y : Int32)  : MI l D (tyL cI cO cJ cZ) yX6_letter cX6_letter 3 .int ({ frames := 2, cells := 0, slots := 0, locals := 60 } : Room) [.ref (a 0), .int x, .int y] [((a 0), mOb a 0), ((a 1), .inl (cI, 12, .inl (fun k => nI ((fun _ => 0) k)))), ((a 2), .inl (cI, 12, .inl (fun k => nI ((fun _ => 0) k))))] (fun r u => u.1 = kcLet x y ∧ (kcLet x y = 0 → r = nI 0)) (fun (u : Nat × List Value) => [((a 0), .inr (6, .int (nI u.1) :: u.2))]) := by
  refine MI.of (by decide) (Nat.le_of_ble_eq_true rfl) (fun G hC hE => ?_)
  show G 0 0 ([((a 0), mOb a 0), ((a 1), .inl (cI, 12, .inl (fun k => nI ((fun _ => 0) k)))), ((a 2), .inl (cI, 12, .inl (fun k => nI ((fun _ => 0) k))))]) 0 [(0, .ref (a 0)), (1, .int x), (2, .int y)] []
  refine y_aload_n hC dX6_letter_0 0 rfl rfl ?_
  refine y_iconst hC (v := nI 0) dX6_letter_1 rfl ?_
  refine y_put hC cC6 0 rfl 0 (by decide) (inLr6 _ (List.mem_of_getElem? (i := 7) rfl)) rfl rfl rfl (Nat.le_of_ble_eq_true rfl) dX6_letter_2 ([((a 0), mOb a 0), ((a 1), .inl (cI, 12, .inl (fun k => nI ((fun _ => 0) k)))), ((a 2), .inl (cI, 12, .inl (fun k => nI ((fun _ => 0) k))))]) rfl ?_
  refine y_iload_n hC dX6_letter_5 1 rfl rfl ?_
  refine y_iconst hC (v := nI 0) dX6_letter_6 rfl ?_
  refine y_bipush hC (v := nI 11) dX6_letter_7 rfl ?_
  refine y_callS_i hC (As := [.int x, .int (nI 0), .int (nI 11)]) (rest := []) (c_X6_isIn (x) 0 11 (by decide) (by decide)) nS_X6_isIn (inLr6 _ (List.mem_of_getElem? (i := 8) rfl)) [] [0, 1, 2] [0, 1, 2] (fun u => [((a 0), mOb a 0), ((a 1), .inl (cI, 12, .inl (fun k => nI ((fun _ => 0) k)))), ((a 2), .inl (cI, 12, .inl (fun k => nI ((fun _ => 0) k))))]) rfl rfl rfl rfl (by decide) rfl (fun _ => rfl) rfl rfl (Nat.le_of_ble_eq_true rfl) dX6_letter_9 ⟨(Nat.le_of_ble_eq_true rfl), (Nat.le_of_ble_eq_true rfl)⟩ ⟨(Nat.le_of_ble_eq_true rfl), (Nat.le_of_ble_eq_true rfl)⟩ (fun r1 u1 hw1 => ?_)
  obtain ⟨rfl, hb_u1⟩ := hw1
  refine y_if_eq_n hC 33 dX6_letter_12 (by decide) u1 rfl (by omega) (fun c12 => ?_) (fun c12 => ?_)
  · refine y_aload_n hC dX6_letter_33 0 rfl rfl ?_
    refine y_iconst hC (v := nI 1) dX6_letter_34 rfl ?_
    refine y_callV_i hC (As := [.int (nI 1)]) (rest := []) (c_X6_no _ _ _ 1) nV_X6_no (inLr6 _ (List.mem_of_getElem? (i := 11) rfl)) [0] [1, 2] [2, 0, 1] (fun u => [((a 0), mOb a 1), ((a 1), .inl (cI, 12, .inl (fun k => nI ((fun _ => 0) k)))), ((a 2), .inl (cI, 12, .inl (fun k => nI ((fun _ => 0) k))))]) rfl rfl rfl rfl (by decide) rfl (fun _ => rfl) 0 rfl rfl rfl rfl (Nat.le_of_ble_eq_true rfl) dX6_letter_35 ⟨(Nat.le_of_ble_eq_true rfl), (Nat.le_of_ble_eq_true rfl)⟩ ⟨(Nat.le_of_ble_eq_true rfl), (Nat.le_of_ble_eq_true rfl)⟩ (fun r2 u2 hw2 => ?_)
    subst hw2
    refine y_world hC [0] (ws' := [((a 0), mOb a 1)]) rfl rfl ?_
    exact hE (nI 0) (1, _) _ _ _ _ dX6_letter_38 (Nat.le_of_ble_eq_true rfl) (Nat.le_of_ble_eq_true rfl) rfl ⟨by show (1 : Nat) = _; unfold kcLet; split <;> omega, fun _ => rfl⟩
  · refine y_iload_n hC dX6_letter_15 2 rfl rfl ?_
    refine y_iconst hC (v := nI 0) dX6_letter_16 rfl ?_
    refine y_iconst hC (v := nI 2) dX6_letter_17 rfl ?_
    refine y_callS_i hC (As := [.int y, .int (nI 0), .int (nI 2)]) (rest := []) (c_X6_isIn (y) 0 2 (by decide) (by decide)) nS_X6_isIn (inLr6 _ (List.mem_of_getElem? (i := 8) rfl)) [] [0, 1, 2] [0, 1, 2] (fun u => [((a 0), mOb a 0), ((a 1), .inl (cI, 12, .inl (fun k => nI ((fun _ => 0) k)))), ((a 2), .inl (cI, 12, .inl (fun k => nI ((fun _ => 0) k))))]) rfl rfl rfl rfl (by decide) rfl (fun _ => rfl) rfl rfl (Nat.le_of_ble_eq_true rfl) dX6_letter_18 ⟨(Nat.le_of_ble_eq_true rfl), (Nat.le_of_ble_eq_true rfl)⟩ ⟨(Nat.le_of_ble_eq_true rfl), (Nat.le_of_ble_eq_true rfl)⟩ (fun r3 u3 hw3 => ?_)
    obtain ⟨rfl, hb_u3⟩ := hw3
    refine y_if_eq_n hC 33 dX6_letter_21 (by decide) u3 rfl (by omega) (fun c21 => ?_) (fun c21 => ?_)
    · refine y_aload_n hC dX6_letter_33 0 rfl rfl ?_
      refine y_iconst hC (v := nI 1) dX6_letter_34 rfl ?_
      refine y_callV_i hC (As := [.int (nI 1)]) (rest := []) (c_X6_no _ _ _ 1) nV_X6_no (inLr6 _ (List.mem_of_getElem? (i := 11) rfl)) [0] [1, 2] [2, 0, 1] (fun u => [((a 0), mOb a 1), ((a 1), .inl (cI, 12, .inl (fun k => nI ((fun _ => 0) k)))), ((a 2), .inl (cI, 12, .inl (fun k => nI ((fun _ => 0) k))))]) rfl rfl rfl rfl (by decide) rfl (fun _ => rfl) 0 rfl rfl rfl rfl (Nat.le_of_ble_eq_true rfl) dX6_letter_35 ⟨(Nat.le_of_ble_eq_true rfl), (Nat.le_of_ble_eq_true rfl)⟩ ⟨(Nat.le_of_ble_eq_true rfl), (Nat.le_of_ble_eq_true rfl)⟩ (fun r4 u4 hw4 => ?_)
      subst hw4
      refine y_world hC [0] (ws' := [((a 0), mOb a 1)]) rfl rfl ?_
      exact hE (nI 0) (1, _) _ _ _ _ dX6_letter_38 (Nat.le_of_ble_eq_true rfl) (Nat.le_of_ble_eq_true rfl) rfl ⟨by show (1 : Nat) = _; unfold kcLet; split <;> omega, fun _ => rfl⟩
    · obtain ⟨j1, hj1, rfl⟩ := i32_nat (x := x) (n := 12) (by omega) (by omega)
      have ej1 := nI_toInt (show j1 < 2 ^ 31 by omega)
      obtain ⟨j2, hj2, rfl⟩ := i32_nat (x := y) (n := 3) (by omega) (by omega)
      have ej2 := nI_toInt (show j2 < 2 ^ 31 by omega)
      refine y_aload_n hC dX6_letter_24 0 rfl rfl ?_
      refine y_iload_n hC dX6_letter_25 1 rfl rfl ?_
      refine y_iload_n hC dX6_letter_26 2 rfl rfl ?_
      refine y_callV_i hC (As := [.int (nI j1), .int (nI j2)]) (rest := []) (p_told a 0 j1 j2 (by omega) (by omega)) nV_X6_letterTold (inLr7 _ (List.mem_of_getElem? (i := 11) rfl)) [0, 1, 2] [] [0, 1, 2] (fun u => [((a 0), mOb a 0), ((a 1), .inl (cI, 12, .inl (fun k => nI ((fun _ => 0) k)))), ((a 2), .inl (cI, 12, .inl (fun k => nI ((fun _ => 0) k))))]) rfl rfl rfl rfl (by decide) rfl (fun _ => rfl) 0 rfl rfl rfl rfl (Nat.le_of_ble_eq_true rfl) dX6_letter_27 ⟨(Nat.le_of_ble_eq_true rfl), (Nat.le_of_ble_eq_true rfl)⟩ ⟨(Nat.le_of_ble_eq_true rfl), (Nat.le_of_ble_eq_true rfl)⟩ (fun r5 u5 hw5 => ?_)
      subst hw5
      refine y_goto hC 38 dX6_letter_30 (by decide) ?_
      refine y_world hC [0] (ws' := [((a 0), mOb a 0)]) rfl rfl ?_
      exact hE (nI 0) (0, _) _ _ _ _ dX6_letter_38 (Nat.le_of_ble_eq_true rfl) (Nat.le_of_ble_eq_true rfl) rfl ⟨by show (0 : Nat) = _; unfold kcLet; split <;> omega, fun _ => rfl⟩
end P1M
