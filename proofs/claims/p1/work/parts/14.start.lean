section Start
set_option maxRecDepth 100000
theorem str_in : ∀ w ∈ strL.map (fun q => Cond.stringRef q.1 q.2.1 q.2.2), w ∈ lw_tbl := in_at [370, 408, 417, 495, 511, 533, 541, 550, 563, 581, 599, 615, 653, 661, 662, 670, 705] (by decide +kernel)
theorem nest_in : ∀ w ∈ nestL.map (fun q => Cond.methodLinkNest q.1 q.2.1 q.2.2 "KnotLetters"), w ∈ lw_tbl := in_at [499, 68, 102, 187] (by decide +kernel)
theorem exW_in : ∀ w ∈ exW, w ∈ lw_tbl := in_at [331, 504, 574, 333, 335, 337] (by decide +kernel)
theorem in_fl {T : Cond} {ws : List Cond} (ps : List Nat) (h : ws = ps.filterMap (fun i => (flatC T)[i]?)) : ∀ w ∈ ws, w ∈ flatC T := by
  intro w hw
  rw [h] at hw
  obtain ⟨i, -, hi⟩ := List.mem_filterMap.mp hw
  exact List.mem_of_getElem? hi
theorem nc_in : ∀ w ∈ ncL.map (fun q => Cond.not (.castable q.1 q.2)), w ∈ flatC (Cond.and given_1 narrow_1) := in_fl [32, 13, 23, 14, 22, 31] (by decide +kernel)
theorem us_in : Cond.isRef (.static Bundle.tN "UNASSIGNED_STACK" Bundle.steD) ∈ flatC (Cond.and given_1 narrow_1) := List.mem_of_getElem? (i := 4) (by decide +kernel)
theorem ss_in : Cond.isRef (.static Bundle.tN "SUPPRESSED_SENTINEL" Bundle.listD) ∈ flatC (Cond.and given_1 narrow_1) := List.mem_of_getElem? (i := 5) (by decide +kernel)
theorem lus_in : Cond.laysStatic Bundle.tN "UNASSIGNED_STACK" Bundle.steD ∈ lw_tbl := List.mem_of_getElem? (i := 356) (by decide +kernel)
theorem lss_in : Cond.laysStatic Bundle.tN "SUPPRESSED_SENTINEL" Bundle.listD ∈ lw_tbl := List.mem_of_getElem? (i := 358) (by decide +kernel)
theorem ini_in : Cond.initialized Bundle.tN ∈ lw_tbl := List.mem_of_getElem? (i := 51) (by decide +kernel)
theorem ao_in : Cond.arrayOver (.object RX1) ∈ lw_tbl := List.mem_of_getElem? (i := 185) (by decide +kernel)
theorem ar_int : Cond.arrayClass .int ∈ lw_tbl := List.mem_of_getElem? (i := 99) (by decide +kernel)
theorem ar_long : Cond.arrayClass .long ∈ lw_tbl := List.mem_of_getElem? (i := 977) (by decide +kernel)
theorem ar_boolean : Cond.arrayClass .boolean ∈ lw_tbl := List.mem_of_getElem? (i := 834) (by decide +kernel)
theorem ins_X0 : Cond.instantiable RX0 7 ∈ lw_tbl := List.mem_of_getElem? (i := 67) (by decide +kernel)
theorem ins_X1 : Cond.instantiable RX1 5 ∈ lw_tbl := List.mem_of_getElem? (i := 186) (by decide +kernel)
theorem ins_X2 : Cond.instantiable RX2 4 ∈ lw_tbl := List.mem_of_getElem? (i := 128) (by decide +kernel)
theorem ins_X3 : Cond.instantiable RX3 5 ∈ lw_tbl := List.mem_of_getElem? (i := 101) (by decide +kernel)
theorem ins_X4 : Cond.instantiable RX4 8 ∈ lw_tbl := List.mem_of_getElem? (i := 154) (by decide +kernel)
theorem ins_X5 : Cond.instantiable RX5 10 ∈ lw_tbl := List.mem_of_getElem? (i := 59) (by decide +kernel)
theorem ins_X6 : Cond.instantiable RX6 23 ∈ lw_tbl := List.mem_of_getElem? (i := 711) (by decide +kernel)
/-- the tables and the start give all that the walks ask -/
theorem gK_start {s : State} {args : Array Value} (hts0 : ∀ w ∈ lw_tbl, w.before args s = true) (hfl : ∀ w ∈ flatC (Cond.and given_1 narrow_1), w.before args s = true) : ∃ (D : va_G) (cI cO cJ cZ : ClassId), gK D (tyL cI cO cJ cZ) s := by
  have hts : ∀ w ∈ wsL_law, w.before args s = true := fun w h => hts0 w (wsL_law_in w h)
  obtain ⟨cX0, iX0, hX0⟩ := u_known hts inlX0 (hts0 _ ins_X0)
  obtain ⟨cX1, iX1, hX1⟩ := u_known hts inlX1 (hts0 _ ins_X1)
  obtain ⟨cX2, iX2, hX2⟩ := u_known hts inlX2 (hts0 _ ins_X2)
  obtain ⟨cX3, iX3, hX3⟩ := u_known hts inlX3 (hts0 _ ins_X3)
  obtain ⟨cX4, iX4, hX4⟩ := u_known hts inlX4 (hts0 _ ins_X4)
  obtain ⟨cX5, iX5, hX5⟩ := u_known hts inlX5 (hts0 _ ins_X5)
  obtain ⟨cX6, iX6, hX6⟩ := u_known hts inlX6 (hts0 _ ins_X6)
  obtain ⟨cI, kI, mI, aI, bI, eI⟩ := Cond.arrayClass_spec (hts0 _ ar_int)
  obtain ⟨cJ, kJ, mJ, aJ, bJ, eJ⟩ := Cond.arrayClass_spec (hts0 _ ar_long)
  obtain ⟨cZ, kZ, mZ, aZ, bZ, eZ⟩ := Cond.arrayClass_spec (hts0 _ ar_boolean)
  obtain ⟨mO, cO, kO, aO, -, bO, eO, fO⟩ := Cond.arrayOver_spec (hts0 _ ao_in)
  refine ⟨(fun c => match c with | 0 => cX0 | 1 => cX1 | 2 => cX2 | 3 => cX3 | 4 => cX4 | 5 => cX5 | _ => cX6, fun c => match c with | 0 => iX0 | 1 => iX1 | 2 => iX2 | 3 => iX3 | 4 => iX4 | 5 => iX5 | _ => iX6), cI, cO, cJ, cZ, ⟨?_, ?_⟩, ?_, ?_, ?_, ?_, ?_⟩
  · intro c q hq
    match c, hq with
    | 0, hq => cases hq; exact hX0
    | 1, hq => cases hq; exact hX1
    | 2, hq => cases hq; exact hX2
    | 3, hq => cases hq; exact hX3
    | 4, hq => cases hq; exact hX4
    | 5, hq => cases hq; exact hX5
    | 6, hq => cases hq; exact hX6
    | n + 7, hq => cases hq
  · intro k q hq
    match k, hq with
    | 0, hq => cases hq; exact ⟨fun N z => ⟨(fun k h => by cases h), kI, bI, mI, eI⟩, aI⟩
    | 1, hq => cases hq; exact ⟨fun N z => ⟨(fun k h => by cases h), kO, bO, mO, eO⟩, kO, mO, bO, eO, aO, fO⟩
    | 2, hq => cases hq; exact ⟨fun N z => ⟨(fun k h => by cases h), kJ, bJ, mJ, eJ⟩, aJ⟩
    | 3, hq => cases hq; exact ⟨fun N z => ⟨(fun k h => by cases h), kZ, bZ, mZ, eZ⟩, aZ⟩
    | n + 4, hq => cases hq
  · intro q hq
    exact va_Nw.of rfl (hts0 _ (nest_in _ (List.mem_map.mpr ⟨q, hq, rfl⟩)))
  · intro q hq
    have h1 := hts0 _ (str_in _ (List.mem_map.mpr ⟨q, hq, rfl⟩))
    have h2 : ∃ cur, s.vm.findClass q.1 = some cur := by
      simp only [strL, List.mem_cons, List.not_mem_nil, or_false] at hq
      have h5 : s.vm.findClass RX5 = some cX5 := hX5.2.1
      rcases hq with rfl | rfl | rfl | rfl | rfl | rfl | rfl | rfl | rfl | rfl | rfl | rfl | rfl | rfl | rfl | rfl | rfl <;> exact ⟨cX5, h5⟩
    obtain ⟨cur, h3⟩ := h2
    obtain ⟨k, cf, i, a, -, -, -, -, -, h4⟩ := Cond.stringRef_spec h3 h1
    exact ⟨a, vk_R.of h1 h4⟩
  · intro q hq
    exact va_Nc.of (hfl _ (nc_in _ (List.mem_map.mpr ⟨q, hq, rfl⟩)))
  · intro w hw
    exact va_Nw.of (exW_tab w hw) (hts0 _ (exW_in w hw))
  · exact va_AO.of (hts0 _ ao_in)
theorem gT_start {s : State} {args : Array Value} (hts0 : ∀ w ∈ lw_tbl, w.before args s = true) (hfl : ∀ w ∈ flatC (Cond.and given_1 narrow_1), w.before args s = true) : gT (fun q => s.heap.size ≤ q) s s.heap :=
  ⟨vx_Zqof (hts0 _ lus_in) (hts0 _ ini_in) (hfl _ us_in) (fun _ h => Nat.not_le.mpr h), vx_Zqof (hts0 _ lss_in) (hts0 _ ini_in) (hfl _ ss_in) (fun _ h => Nat.not_le.mpr h)⟩
theorem start6 {p : Program} {e : Env} {s : State} {m : MethodId} {below : List Frame} {meth : Method} {c : Code} (l : Launch) (hflags : l.flags = flags0) {b L : Nat} {xs : Nat → Int32} (hL : L ≤ 6) (C0 : lw_At p s m meth c b L xs) : W p l e room_1 s m #[Value.ref b] below meth c s.heap [] 0 0 (lw_Z below #[Value.ref b] s) (entryFrame m ([Value.ref b] : List Value).toArray 9) := by
  obtain ⟨hx, hb, hr, hml, hown, hts0, hX, hbl, hlk, hgv⟩ := C0
  have hlt : l.stackTraces = false := by unfold Launch.stackTraces; rw [hflags]; decide +kernel
  have hfl := flat_of_before _ hgv
  obtain ⟨D, cI, cO, cJ, cZ, hK⟩ := gK_start hts0 hfl
  have hT := gT_start hts0 hfl
  have hl := lv_entry [Value.ref b] (n := 9) (Nat.le_of_ble_eq_true rfl)
  rw [lg_entry_eq]
  refine p1_law hlt hL (G := Y p l e room_1 s m #[Value.ref b] below meth c (fun q => s.heap.size ≤ q) D 9 (lw_Z below #[Value.ref b] s)) ⟨p, e, s, m, #[Value.ref b], below, meth, c, fun q => s.heap.size ≤ q, _, ⟨⟨hx, hb, hml, hown, fun w h => hts0 w (wsL_law_in w h)⟩, hK, hT, fun _ h => h, hlk, rfl⟩, hX, hbl, Nat.not_le.mpr hbl⟩ ?_ s.heap [] _ (fun k q h => by cases h) ⟨(fun i j p q h => by cases h), (fun k q h => by cases h)⟩ va_S.rf hl
  intro ce sl pc ws lv hdg h1 h2 H locs ls hP hD hS hl
  refine va_forget (fun q hq => hS.2.2 q hq) ?_
  refine W.widen h1 h2 ?_
  refine W.base ?_
  exact lw_ret (Drawn.sameBut.refl s.drawn lw_cs) hx hb hr hlk hdg
end Start
