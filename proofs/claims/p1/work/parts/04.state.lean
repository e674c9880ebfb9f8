/-! the pictures of the system: arrays and numbers as natural functions -/
abbrev tyL (cI cO cJ cZ : ClassId) : List (ClassId × FieldType) := [(cI, .int), (cO, .object "KnotLetters$Cord"), (cJ, .long), (cZ, .boolean)]
def updN (F : Nat → Nat) (i v : Nat) : Nat → Nat := fun k => if k = i then v else F k
def updF (F : Nat → Nat → Nat) (j : Nat) (g : Nat → Nat) : Nat → Nat → Nat := fun i => if i = j then g else F i
theorem updN_eq (F : Nat → Nat) (i v : Nat) : (fun k => nI (updN F i v k)) = upd (fun k => nI (F k)) i (nI v) := by
  funext k
  unfold updN upd
  by_cases h : k = i
  · rw [if_pos h, if_pos h]
  · rw [if_neg h, if_neg h]
/-- the reference: the object, and its fourteen rows -/
abbrev mW (cI : ClassId) (a : Nat → Nat) (V : Nat → Nat) (F : Nat → Nat → Nat) : va_W := [
  (a 0, .inr (6, [.int (nI (V 0)), .ref (a 1), .ref (a 2), .int (nI (V 1)), .int (nI (V 2)), .int (nI (V 3)), .ref (a 3), .int (nI (V 4)), .int (nI (V 5)), .int (nI (V 6)), .ref (a 4), .ref (a 5), .ref (a 6), .ref (a 7), .ref (a 8), .int (nI (V 7)), .ref (a 9), .int (nI (V 8)), .ref (a 10), .ref (a 11), .ref (a 12), .ref (a 13), .ref (a 14)])),
  (a 1, .inl (cI, 12, .inl (fun k => nI (F 1 k)))), (a 2, .inl (cI, 12, .inl (fun k => nI (F 2 k)))), (a 3, .inl (cI, 25, .inl (fun k => nI (F 3 k)))), (a 4, .inl (cI, 10, .inl (fun k => nI (F 4 k)))), (a 5, .inl (cI, 400, .inl (fun k => nI (F 5 k)))), (a 6, .inl (cI, 10, .inl (fun k => nI (F 6 k)))), (a 7, .inl (cI, 10, .inl (fun k => nI (F 7 k)))), (a 8, .inl (cI, 80, .inl (fun k => nI (F 8 k)))), (a 9, .inl (cI, 40, .inl (fun k => nI (F 9 k)))), (a 10, .inl (cI, 41, .inl (fun k => nI (F 10 k)))), (a 11, .inl (cI, 41, .inl (fun k => nI (F 11 k)))), (a 12, .inl (cI, 41, .inl (fun k => nI (F 12 k)))), (a 13, .inl (cI, 41, .inl (fun k => nI (F 13 k)))), (a 14, .inl (cI, 41, .inl (fun k => nI (F 14 k))))]
section YZ
variable {l : Launch} {G : GT} {cc : ByteArray} {own : String} {nL : Nat} {R : Room} {D : va_G} {tys : List (ClassId × FieldType)} {nm : String}
variable {ce sl : Nat} {ws : va_W} {pc : Nat} {lv : List (Nat × Value)} {st : List Value}
theorem i32_nat {x : Int32} {n : Nat} (h0 : 0 ≤ x.toInt) (h1 : x.toInt < n) : ∃ j : Nat, j < n ∧ x = nI j := by
  refine ⟨x.toInt.toNat, by omega, ?_⟩
  have h2 := x.toInt_lt
  apply Int32.toInt_inj.mp
  rw [nI_toInt (by omega)]
  omega
theorem y_if_eq_z (hC : Cx l G cc own nL R D tys nm) {x : Int32} {off : Int} (tgt : Nat) (hdg : decode cc pc = .ok (.ifCond .eq off, 3)) (ht : (pc : Int) + off = (tgt : Int)) (kt : x.toInt = (0 : Int) → G ce sl ws tgt lv st) (kf : x.toInt ≠ (0 : Int) → G ce sl ws (pc + 3) lv st) : G ce sl ws pc lv (.int x :: st) := by
  exact y_if_eq hC tgt hdg ht (fun h => kt (by rw [h]; exact Int32.toInt_zero)) (fun h => kf (fun q => h (Int32.toInt_inj.mp (q.trans Int32.toInt_zero.symm))))
theorem y_icmp_eq_z (hC : Cx l G cc own nL R D tys nm) {x y : Int32} {off : Int} (tgt : Nat) (hdg : decode cc pc = .ok (.if_icmp .eq off, 3)) (ht : (pc : Int) + off = (tgt : Int)) (b : Nat) (hy : y = nI b) (hb : b < 2 ^ 31) (kt : x.toInt = (b : Int) → G ce sl ws tgt lv st) (kf : x.toInt ≠ (b : Int) → G ce sl ws (pc + 3) lv st) : G ce sl ws pc lv (.int y :: .int x :: st) := by
  subst hy
  have e := nI_toInt hb
  exact y_icmp_eq hC tgt hdg ht (fun h => kt (by rw [h]; exact e)) (fun h => kf (fun q => h (Int32.toInt_inj.mp (q.trans e.symm))))
theorem y_if_ne_z (hC : Cx l G cc own nL R D tys nm) {x : Int32} {off : Int} (tgt : Nat) (hdg : decode cc pc = .ok (.ifCond .ne off, 3)) (ht : (pc : Int) + off = (tgt : Int)) (kt : x.toInt ≠ (0 : Int) → G ce sl ws tgt lv st) (kf : x.toInt = (0 : Int) → G ce sl ws (pc + 3) lv st) : G ce sl ws pc lv (.int x :: st) := by
  exact y_if_ne hC tgt hdg ht (fun h => kt (fun q => h (Int32.toInt_inj.mp (q.trans Int32.toInt_zero.symm)))) (fun h => kf (by rw [h]; exact Int32.toInt_zero))
theorem y_icmp_ne_z (hC : Cx l G cc own nL R D tys nm) {x y : Int32} {off : Int} (tgt : Nat) (hdg : decode cc pc = .ok (.if_icmp .ne off, 3)) (ht : (pc : Int) + off = (tgt : Int)) (b : Nat) (hy : y = nI b) (hb : b < 2 ^ 31) (kt : x.toInt ≠ (b : Int) → G ce sl ws tgt lv st) (kf : x.toInt = (b : Int) → G ce sl ws (pc + 3) lv st) : G ce sl ws pc lv (.int y :: .int x :: st) := by
  subst hy
  have e := nI_toInt hb
  exact y_icmp_ne hC tgt hdg ht (fun h => kt (fun q => h (Int32.toInt_inj.mp (q.trans e.symm)))) (fun h => kf (by rw [h]; exact e))
theorem y_if_lt_z (hC : Cx l G cc own nL R D tys nm) {x : Int32} {off : Int} (tgt : Nat) (hdg : decode cc pc = .ok (.ifCond .lt off, 3)) (ht : (pc : Int) + off = (tgt : Int)) (kt : x.toInt < (0 : Int) → G ce sl ws tgt lv st) (kf : (0 : Int) ≤ x.toInt → G ce sl ws (pc + 3) lv st) : G ce sl ws pc lv (.int x :: st) := by
  exact y_if_lt hC tgt hdg ht (fun h => kt (by rw [Int32.lt_iff_toInt_lt] at h; first | (rw [Int32.toInt_zero] at h; omega) | omega)) (fun h => kf (by rw [Int32.lt_iff_toInt_lt] at h; first | (rw [Int32.toInt_zero] at h; omega) | omega))
theorem y_icmp_lt_z (hC : Cx l G cc own nL R D tys nm) {x y : Int32} {off : Int} (tgt : Nat) (hdg : decode cc pc = .ok (.if_icmp .lt off, 3)) (ht : (pc : Int) + off = (tgt : Int)) (b : Nat) (hy : y = nI b) (hb : b < 2 ^ 31) (kt : x.toInt < (b : Int) → G ce sl ws tgt lv st) (kf : (b : Int) ≤ x.toInt → G ce sl ws (pc + 3) lv st) : G ce sl ws pc lv (.int y :: .int x :: st) := by
  subst hy
  have e := nI_toInt hb
  exact y_icmp_lt hC tgt hdg ht (fun h => kt (by rw [Int32.lt_iff_toInt_lt] at h; first | (rw [Int32.toInt_zero] at h; omega) | omega)) (fun h => kf (by rw [Int32.lt_iff_toInt_lt] at h; first | (rw [Int32.toInt_zero] at h; omega) | omega))
theorem y_if_ge_z (hC : Cx l G cc own nL R D tys nm) {x : Int32} {off : Int} (tgt : Nat) (hdg : decode cc pc = .ok (.ifCond .ge off, 3)) (ht : (pc : Int) + off = (tgt : Int)) (kt : (0 : Int) ≤ x.toInt → G ce sl ws tgt lv st) (kf : x.toInt < (0 : Int) → G ce sl ws (pc + 3) lv st) : G ce sl ws pc lv (.int x :: st) := by
  exact y_if_ge hC tgt hdg ht (fun h => kt (by rw [Int32.le_iff_toInt_le] at h; first | (rw [Int32.toInt_zero] at h; omega) | omega)) (fun h => kf (by rw [Int32.le_iff_toInt_le] at h; first | (rw [Int32.toInt_zero] at h; omega) | omega))
theorem y_icmp_ge_z (hC : Cx l G cc own nL R D tys nm) {x y : Int32} {off : Int} (tgt : Nat) (hdg : decode cc pc = .ok (.if_icmp .ge off, 3)) (ht : (pc : Int) + off = (tgt : Int)) (b : Nat) (hy : y = nI b) (hb : b < 2 ^ 31) (kt : (b : Int) ≤ x.toInt → G ce sl ws tgt lv st) (kf : x.toInt < (b : Int) → G ce sl ws (pc + 3) lv st) : G ce sl ws pc lv (.int y :: .int x :: st) := by
  subst hy
  have e := nI_toInt hb
  exact y_icmp_ge hC tgt hdg ht (fun h => kt (by rw [Int32.le_iff_toInt_le] at h; first | (rw [Int32.toInt_zero] at h; omega) | omega)) (fun h => kf (by rw [Int32.le_iff_toInt_le] at h; first | (rw [Int32.toInt_zero] at h; omega) | omega))
theorem y_if_gt_z (hC : Cx l G cc own nL R D tys nm) {x : Int32} {off : Int} (tgt : Nat) (hdg : decode cc pc = .ok (.ifCond .gt off, 3)) (ht : (pc : Int) + off = (tgt : Int)) (kt : (0 : Int) < x.toInt → G ce sl ws tgt lv st) (kf : x.toInt ≤ (0 : Int) → G ce sl ws (pc + 3) lv st) : G ce sl ws pc lv (.int x :: st) := by
  exact y_if_gt hC tgt hdg ht (fun h => kt (by rw [Int32.lt_iff_toInt_lt] at h; first | (rw [Int32.toInt_zero] at h; omega) | omega)) (fun h => kf (by rw [Int32.lt_iff_toInt_lt] at h; first | (rw [Int32.toInt_zero] at h; omega) | omega))
theorem y_icmp_gt_z (hC : Cx l G cc own nL R D tys nm) {x y : Int32} {off : Int} (tgt : Nat) (hdg : decode cc pc = .ok (.if_icmp .gt off, 3)) (ht : (pc : Int) + off = (tgt : Int)) (b : Nat) (hy : y = nI b) (hb : b < 2 ^ 31) (kt : (b : Int) < x.toInt → G ce sl ws tgt lv st) (kf : x.toInt ≤ (b : Int) → G ce sl ws (pc + 3) lv st) : G ce sl ws pc lv (.int y :: .int x :: st) := by
  subst hy
  have e := nI_toInt hb
  exact y_icmp_gt hC tgt hdg ht (fun h => kt (by rw [Int32.lt_iff_toInt_lt] at h; first | (rw [Int32.toInt_zero] at h; omega) | omega)) (fun h => kf (by rw [Int32.lt_iff_toInt_lt] at h; first | (rw [Int32.toInt_zero] at h; omega) | omega))
theorem y_if_le_z (hC : Cx l G cc own nL R D tys nm) {x : Int32} {off : Int} (tgt : Nat) (hdg : decode cc pc = .ok (.ifCond .le off, 3)) (ht : (pc : Int) + off = (tgt : Int)) (kt : x.toInt ≤ (0 : Int) → G ce sl ws tgt lv st) (kf : (0 : Int) < x.toInt → G ce sl ws (pc + 3) lv st) : G ce sl ws pc lv (.int x :: st) := by
  exact y_if_le hC tgt hdg ht (fun h => kt (by rw [Int32.le_iff_toInt_le] at h; first | (rw [Int32.toInt_zero] at h; omega) | omega)) (fun h => kf (by rw [Int32.le_iff_toInt_le] at h; first | (rw [Int32.toInt_zero] at h; omega) | omega))
theorem y_icmp_le_z (hC : Cx l G cc own nL R D tys nm) {x y : Int32} {off : Int} (tgt : Nat) (hdg : decode cc pc = .ok (.if_icmp .le off, 3)) (ht : (pc : Int) + off = (tgt : Int)) (b : Nat) (hy : y = nI b) (hb : b < 2 ^ 31) (kt : x.toInt ≤ (b : Int) → G ce sl ws tgt lv st) (kf : (b : Int) < x.toInt → G ce sl ws (pc + 3) lv st) : G ce sl ws pc lv (.int y :: .int x :: st) := by
  subst hy
  have e := nI_toInt hb
  exact y_icmp_le hC tgt hdg ht (fun h => kt (by rw [Int32.le_iff_toInt_le] at h; first | (rw [Int32.toInt_zero] at h; omega) | omega)) (fun h => kf (by rw [Int32.le_iff_toInt_le] at h; first | (rw [Int32.toInt_zero] at h; omega) | omega))
theorem y_icmp_eq_w (hC : Cx l G cc own nL R D tys nm) {x y : Int32} {off : Int} (tgt : Nat) (hdg : decode cc pc = .ok (.if_icmp .eq off, 3)) (ht : (pc : Int) + off = (tgt : Int)) (kt : x.toInt = y.toInt → G ce sl ws tgt lv st) (kf : x.toInt ≠ y.toInt → G ce sl ws (pc + 3) lv st) : G ce sl ws pc lv (.int y :: .int x :: st) := by
  exact y_icmp_eq hC tgt hdg ht (fun h => kt (by rw [h])) (fun h => kf (fun q => h (Int32.toInt_inj.mp q)))
theorem y_icmp_ne_w (hC : Cx l G cc own nL R D tys nm) {x y : Int32} {off : Int} (tgt : Nat) (hdg : decode cc pc = .ok (.if_icmp .ne off, 3)) (ht : (pc : Int) + off = (tgt : Int)) (kt : x.toInt ≠ y.toInt → G ce sl ws tgt lv st) (kf : x.toInt = y.toInt → G ce sl ws (pc + 3) lv st) : G ce sl ws pc lv (.int y :: .int x :: st) := by
  exact y_icmp_ne hC tgt hdg ht (fun h => kt (fun q => h (Int32.toInt_inj.mp q))) (fun h => kf (by rw [h]))
theorem y_icmp_lt_w (hC : Cx l G cc own nL R D tys nm) {x y : Int32} {off : Int} (tgt : Nat) (hdg : decode cc pc = .ok (.if_icmp .lt off, 3)) (ht : (pc : Int) + off = (tgt : Int)) (kt : x.toInt < y.toInt → G ce sl ws tgt lv st) (kf : y.toInt ≤ x.toInt → G ce sl ws (pc + 3) lv st) : G ce sl ws pc lv (.int y :: .int x :: st) := by
  exact y_icmp_lt hC tgt hdg ht (fun h => kt (by rw [Int32.lt_iff_toInt_lt] at h; omega)) (fun h => kf (by rw [Int32.lt_iff_toInt_lt] at h; omega))
theorem y_icmp_ge_w (hC : Cx l G cc own nL R D tys nm) {x y : Int32} {off : Int} (tgt : Nat) (hdg : decode cc pc = .ok (.if_icmp .ge off, 3)) (ht : (pc : Int) + off = (tgt : Int)) (kt : y.toInt ≤ x.toInt → G ce sl ws tgt lv st) (kf : x.toInt < y.toInt → G ce sl ws (pc + 3) lv st) : G ce sl ws pc lv (.int y :: .int x :: st) := by
  exact y_icmp_ge hC tgt hdg ht (fun h => kt (by rw [Int32.le_iff_toInt_le] at h; omega)) (fun h => kf (by rw [Int32.le_iff_toInt_le] at h; omega))
theorem y_icmp_gt_w (hC : Cx l G cc own nL R D tys nm) {x y : Int32} {off : Int} (tgt : Nat) (hdg : decode cc pc = .ok (.if_icmp .gt off, 3)) (ht : (pc : Int) + off = (tgt : Int)) (kt : y.toInt < x.toInt → G ce sl ws tgt lv st) (kf : x.toInt ≤ y.toInt → G ce sl ws (pc + 3) lv st) : G ce sl ws pc lv (.int y :: .int x :: st) := by
  exact y_icmp_gt hC tgt hdg ht (fun h => kt (by rw [Int32.lt_iff_toInt_lt] at h; omega)) (fun h => kf (by rw [Int32.lt_iff_toInt_lt] at h; omega))
theorem y_icmp_le_w (hC : Cx l G cc own nL R D tys nm) {x y : Int32} {off : Int} (tgt : Nat) (hdg : decode cc pc = .ok (.if_icmp .le off, 3)) (ht : (pc : Int) + off = (tgt : Int)) (kt : x.toInt ≤ y.toInt → G ce sl ws tgt lv st) (kf : y.toInt < x.toInt → G ce sl ws (pc + 3) lv st) : G ce sl ws pc lv (.int y :: .int x :: st) := by
  exact y_icmp_le hC tgt hdg ht (fun h => kt (by rw [Int32.le_iff_toInt_le] at h; omega)) (fun h => kf (by rw [Int32.le_iff_toInt_le] at h; omega))
theorem nar_b {b : Nat} (h : b ≤ 1) : narrow .boolean (.int (nI b)) = .int (nI b) := by
  rcases (show b = 0 ∨ b = 1 by omega) with rfl | rfl <;> rfl
def Zf : Nat → Nat := fun _ => 0
theorem updZ (i : Nat) : upd (fun k => nI (Zf k)) i (nI 0) = (fun k => nI (Zf k)) := by
  funext k
  unfold upd
  by_cases h : k = i
  · rw [if_pos h]; rfl
  · rw [if_neg h]
end YZ
