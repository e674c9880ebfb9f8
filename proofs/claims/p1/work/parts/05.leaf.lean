section LEAF
variable {l : Launch} {D : va_G} {cI cO cJ cZ : ClassId}
theorem nV_X6_thrown : yV yX6_thrown RX6 cX6_thrown 1 (some .int) 0 := ⟨(inLr6 _ (List.mem_of_getElem? (i := 19) rfl)), (inLr6 _ (List.mem_of_getElem? (i := 20) rfl)), (inLr1 _ (List.mem_of_getElem? (i := 5) rfl)), (inLr6 _ (List.mem_of_getElem? (i := 21) rfl)), rfl, by decide, by decide, by decide +kernel⟩
theorem nV_X6_no : yV yX6_no RX6 cX6_no 2 (some .int) 1 := ⟨(inLr6 _ (List.mem_of_getElem? (i := 12) rfl)), (inLr6 _ (List.mem_of_getElem? (i := 13) rfl)), (inLr1 _ (List.mem_of_getElem? (i := 5) rfl)), (inLr6 _ (List.mem_of_getElem? (i := 14) rfl)), rfl, by decide, by decide, by decide +kernel⟩
theorem nS_X6_isIn : yS yX6_isIn cX6_isIn 3 (some .boolean) 3 := ⟨(inLr6 _ (List.mem_of_getElem? (i := 9) rfl)), (inLr1 _ (List.mem_of_getElem? (i := 5) rfl)), (inLr6 _ (List.mem_of_getElem? (i := 10) rfl)), ⟨by decide, by decide, by decide +kernel⟩⟩
theorem nS_X6_lengthOf : yS yX6_lengthOf cX6_lengthOf 1 (some .int) 1 := ⟨(inLr7 _ (List.mem_of_getElem? (i := 16) rfl)), (inLr1 _ (List.mem_of_getElem? (i := 5) rfl)), (inLr7 _ (List.mem_of_getElem? (i := 17) rfl)), ⟨by decide, by decide, by decide +kernel⟩⟩
theorem nS_X6_knotOf : yS yX6_knotOf cX6_knotOf 4 (some .int) 2 := ⟨(inLr10 _ (List.mem_of_getElem? (i := 0) rfl)), (inLr1 _ (List.mem_of_getElem? (i := 5) rfl)), (inLr10 _ (List.mem_of_getElem? (i := 1) rfl)), ⟨by decide, by decide, by decide +kernel⟩⟩
theorem nS_X6_isRow : yS yX6_isRow cX6_isRow 3 (some .boolean) 1 := ⟨(inLr6 _ (List.mem_of_getElem? (i := 16) rfl)), (inLr1 _ (List.mem_of_getElem? (i := 5) rfl)), (inLr6 _ (List.mem_of_getElem? (i := 17) rfl)), ⟨by decide, by decide, by decide +kernel⟩⟩
theorem nS_X5_isNoLetter : yS yX5_isNoLetter cX5_isNoLetter 1 (some .boolean) 1 := ⟨(inLr5 _ (List.mem_of_getElem? (i := 16) rfl)), (inLr1 _ (List.mem_of_getElem? (i := 2) rfl)), (inLr5 _ (List.mem_of_getElem? (i := 17) rfl)), ⟨by decide, by decide, by decide +kernel⟩⟩
theorem nS_X5_isNoKind : yS yX5_isNoKind cX5_isNoKind 1 (some .boolean) 1 := ⟨(inLr5 _ (List.mem_of_getElem? (i := 21) rfl)), (inLr1 _ (List.mem_of_getElem? (i := 2) rfl)), (inLr5 _ (List.mem_of_getElem? (i := 22) rfl)), ⟨by decide, by decide, by decide +kernel⟩⟩
theorem nV_X0_kindAt : yV yX0_kindAt RX0 cX0_kindAt 3 (some .int) 2 := ⟨(inLr17 _ (List.mem_of_getElem? (i := 3) rfl)), (inLr17 _ (List.mem_of_getElem? (i := 4) rfl)), (inLr1 _ (List.mem_of_getElem? (i := 15) rfl)), (inLr17 _ (List.mem_of_getElem? (i := 5) rfl)), rfl, by decide, by decide, by decide +kernel⟩
set_option maxHeartbeats 1000000 in
theorem c_X6_thrown (h : Nat) (t : Int32) (fs : List Value) : MI l D (tyL cI cO cJ cZ) yX6_thrown cX6_thrown 1 .int ({ frames := 0, cells := 0, slots := 0, locals := 0 } : Room) [.ref h] [(h, .inr (6, .int t :: fs))] (fun r (_ : Unit) => r = t) (fun _ => [(h, .inr (6, .int t :: fs))]) := by
  refine MI.of (by decide) (Nat.le_of_ble_eq_true rfl) (fun G hC hE => ?_)
  show G 0 0 [(h, .inr (6, .int t :: fs))] 0 [(0, .ref h)] []
  refine y_aload_n hC dX6_thrown_0 0 rfl rfl ?_
  refine y_get hC cC6 0 rfl 0 (by decide) (inLr6 _ (List.mem_of_getElem? (i := 7) rfl)) rfl dX6_thrown_1 ?_
  exact hE t () _ _ _ _ dX6_thrown_4 (Nat.le_of_ble_eq_true rfl) (Nat.le_of_ble_eq_true rfl) rfl rfl
set_option maxHeartbeats 1000000 in
theorem c_X6_no (h : Nat) (t : Int32) (fs : List Value) (n : Nat) : MI l D (tyL cI cO cJ cZ) yX6_no cX6_no 2 .int ({ frames := 0, cells := 0, slots := 0, locals := 0 } : Room) [.ref h, .int (nI n)] [(h, .inr (6, .int t :: fs))] (fun r (_ : Unit) => r = nI 0) (fun _ => [(h, .inr (6, .int (nI n) :: fs))]) := by
  refine MI.of (by decide) (Nat.le_of_ble_eq_true rfl) (fun G hC hE => ?_)
  show G 0 0 [(h, .inr (6, .int t :: fs))] 0 [(0, .ref h), (1, .int (nI n))] []
  refine y_aload_n hC dX6_no_0 0 rfl rfl ?_
  refine y_iload_n hC dX6_no_1 1 rfl rfl ?_
  refine y_put hC cC6 0 (fs := .int t :: fs) rfl 0 (by decide) (inLr6 _ (List.mem_of_getElem? (i := 7) rfl)) rfl rfl rfl (by simp) dX6_no_2 ([(h, .inr (6, .int (nI n) :: fs))]) rfl ?_
  refine y_iconst hC (v := nI 0) dX6_no_5 rfl ?_
  exact hE (nI 0) () _ _ _ _ dX6_no_6 (Nat.le_of_ble_eq_true rfl) (Nat.le_of_ble_eq_true rfl) rfl rfl
set_option maxHeartbeats 4000000 in
set_option maxRecDepth 100000 in
theorem c_X6_isIn (x lo hi : Int32) : MI l D (tyL cI cO cJ cZ) yX6_isIn cX6_isIn 3 .boolean ({ frames := 0, cells := 0, slots := 0, locals := 0 } : Room) [.int x, .int lo, .int hi] ([]) (fun r (u : Nat) => r = nI u ∧ ((u = 1 ∧ lo.toInt ≤ x.toInt ∧ x.toInt ≤ hi.toInt) ∨ (u = 0 ∧ (x.toInt < lo.toInt ∨ hi.toInt < x.toInt)))) (fun _ => []) := by
  refine MI.of (by decide) (Nat.le_of_ble_eq_true rfl) (fun G hC hE => ?_)
  show G 0 0 ([]) 0 [(0, .int x), (1, .int lo), (2, .int hi)] []
  refine y_iload_n hC dX6_isIn_0 0 rfl rfl ?_
  refine y_iload_n hC dX6_isIn_1 1 rfl rfl ?_
  refine y_icmp_lt_w hC 14 dX6_isIn_2 (by decide) (fun c2 => ?_) (fun c2 => ?_)
  · refine y_iconst hC (v := nI 0) dX6_isIn_14 rfl ?_
    exact hE (nI 0) 0 _ _ _ _ dX6_isIn_15 (Nat.le_of_ble_eq_true rfl) (Nat.le_of_ble_eq_true rfl) rfl ⟨rfl, by omega⟩
  · refine y_iload_n hC dX6_isIn_5 0 rfl rfl ?_
    refine y_iload_n hC dX6_isIn_6 2 rfl rfl ?_
    refine y_icmp_gt_w hC 14 dX6_isIn_7 (by decide) (fun c7 => ?_) (fun c7 => ?_)
    · refine y_iconst hC (v := nI 0) dX6_isIn_14 rfl ?_
      exact hE (nI 0) 0 _ _ _ _ dX6_isIn_15 (Nat.le_of_ble_eq_true rfl) (Nat.le_of_ble_eq_true rfl) rfl ⟨rfl, by omega⟩
    · refine y_iconst hC (v := nI 1) dX6_isIn_10 rfl ?_
      refine y_goto hC 15 dX6_isIn_11 (by decide) ?_
      exact hE (nI 1) 1 _ _ _ _ dX6_isIn_15 (Nat.le_of_ble_eq_true rfl) (Nat.le_of_ble_eq_true rfl) rfl ⟨rfl, by omega⟩
end LEAF
