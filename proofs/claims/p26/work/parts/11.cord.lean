/-! a cord: n places P, a gap is 5; its words, and the sums over them -/
section MB
def frn (P : Nat → Nat) (n : Nat) : Nat → Nat
  | 0 => 0
  | t + 1 => if t = n ∨ P t = 5 then t + 1 else frn P n t
def kN (P : Nat → Nat) (n : Nat) : Nat → Nat
  | 0 => 0
  | t + 1 => if t = n ∨ P t = 5 then kN P n t else kN P n t + 1
def gN (P : Nat → Nat) (n : Nat) : Nat → Nat
  | 0 => 0
  | t + 1 => if t ≠ n ∧ P t = 5 then gN P n t + 1 else gN P n t
def sgm (P : Nat → Nat) (n : Nat) (f op : Nat → Nat → Nat) (a : Nat) : Nat → Nat
  | 0 => a
  | t + 1 => if t = n ∨ P t = 5 then op (sgm P n f op a t) (f (frn P n t) t) else sgm P n f op a t
def wd (P : Nat → Nat) (t : Nat) : Nat → Nat := fun d => P (t - d)
variable {P : Nat → Nat} {n : Nat}
theorem frn_e {t : Nat} (h : t = n ∨ P t = 5) : frn P n (t + 1) = t + 1 := by show (if t = n ∨ P t = 5 then _ else _) = _; rw [if_pos h]
theorem frn_n {t : Nat} (h : ¬ (t = n ∨ P t = 5)) : frn P n (t + 1) = frn P n t := by show (if t = n ∨ P t = 5 then _ else _) = _; rw [if_neg h]
theorem kN_e {t : Nat} (h : t = n ∨ P t = 5) : kN P n (t + 1) = kN P n t := by show (if t = n ∨ P t = 5 then _ else _) = _; rw [if_pos h]
theorem kN_n {t : Nat} (h : ¬ (t = n ∨ P t = 5)) : kN P n (t + 1) = kN P n t + 1 := by show (if t = n ∨ P t = 5 then _ else _) = _; rw [if_neg h]
theorem gN_e {t : Nat} (h : t ≠ n ∧ P t = 5) : gN P n (t + 1) = gN P n t + 1 := by show (if t ≠ n ∧ P t = 5 then _ else _) = _; rw [if_pos h]
theorem gN_n {t : Nat} (h : ¬ (t ≠ n ∧ P t = 5)) : gN P n (t + 1) = gN P n t := by show (if t ≠ n ∧ P t = 5 then _ else _) = _; rw [if_neg h]
theorem sgm_e {f op : Nat → Nat → Nat} {a t : Nat} (h : t = n ∨ P t = 5) : sgm P n f op a (t + 1) = op (sgm P n f op a t) (f (frn P n t) t) := by show (if t = n ∨ P t = 5 then _ else _) = _; rw [if_pos h]
theorem sgm_n {f op : Nat → Nat → Nat} {a t : Nat} (h : ¬ (t = n ∨ P t = 5)) : sgm P n f op a (t + 1) = sgm P n f op a t := by show (if t = n ∨ P t = 5 then _ else _) = _; rw [if_neg h]
theorem frn_le (t : Nat) : frn P n t ≤ t := by
  induction t with
  | zero => exact Nat.le_refl _
  | succ t ih =>
    by_cases h : t = n ∨ P t = 5
    · rw [frn_e h]; exact Nat.le_refl _
    · rw [frn_n h]; omega
theorem frn_mid {t x : Nat} (h1 : frn P n t ≤ x) (h2 : x < t) : ¬ (x = n ∨ P x = 5) := by
  induction t with
  | zero => omega
  | succ t ih =>
    by_cases h : t = n ∨ P t = 5
    · rw [frn_e h] at h1; omega
    · rw [frn_n h] at h1
      by_cases e : x = t
      · rw [e]; exact h
      · exact ih h1 (by omega)
theorem kN_frn (t : Nat) : kN P n (frn P n t) + (t - frn P n t) = kN P n t := by
  induction t with
  | zero => rfl
  | succ t ih =>
    by_cases h : t = n ∨ P t = 5
    · rw [frn_e h, Nat.sub_self]; rfl
    · have := frn_le (P := P) (n := n) t
      rw [frn_n h, kN_n h]; omega
theorem kg (t : Nat) (h : t ≤ n) : kN P n t + gN P n t = t := by
  induction t with
  | zero => rfl
  | succ t ih =>
    have := ih (by omega)
    by_cases h1 : P t = 5
    · rw [kN_e (Or.inr h1), gN_e ⟨by omega, h1⟩]; omega
    · rw [kN_n (by omega), gN_n (by omega)]; omega
theorem kN_last : kN P n (n + 1) = kN P n n := kN_e (Or.inl rfl)
theorem gN_last : gN P n (n + 1) = gN P n n := gN_n (by omega)
theorem kN_mono {s t : Nat} (h : s ≤ t) : kN P n s ≤ kN P n t := by
  induction t with
  | zero => obtain rfl : s = 0 := by omega
            exact Nat.le_refl _
  | succ t ih =>
    by_cases e : s = t + 1
    · rw [e]; exact Nat.le_refl _
    · have := ih (by omega)
      by_cases h1 : t = n ∨ P t = 5
      · rw [kN_e h1]; exact this
      · rw [kN_n h1]; omega
abbrev fW (M Gh : Nat) (Z K P : Nat → Nat) : Nat → Nat → Nat := fun a b => Wt M Gh Z K (wd P b) (b - a)
abbrev fL (M Gh : Nat) (Z K P : Nat → Nat) : Nat → Nat → Nat := fun a b => Wt M Gh Z K (wd P b) (b - a) % 64
noncomputable abbrev fX (Z K P : Nat → Nat) : Nat → Nat → Nat := fun a b => Xt Z K (wd P b) (b - a)
abbrev SW (M Gh : Nat) (Z K P : Nat → Nat) (n : Nat) : Nat → Nat := sgm P n (fW M Gh Z K P) (fun x y => x + y) 0
abbrev SL (M Gh : Nat) (Z K P : Nat → Nat) (n : Nat) : Nat → Nat := sgm P n (fL M Gh Z K P) (fun x y => x + y) 0
noncomputable abbrev SX (Z K P : Nat → Nat) (n : Nat) : Nat → Nat := sgm P n (fX Z K P) (fun x y => min (x * y) 1000000) 1
variable {M Gh : Nat} {Z K : Nat → Nat}
theorem SW_e {t : Nat} (h : t = n ∨ P t = 5) : SW M Gh Z K P n (t + 1) = SW M Gh Z K P n t + Wt M Gh Z K (wd P t) (t - frn P n t) := sgm_e h
theorem SL_e {t : Nat} (h : t = n ∨ P t = 5) : SL M Gh Z K P n (t + 1) = SL M Gh Z K P n t + Wt M Gh Z K (wd P t) (t - frn P n t) % 64 := sgm_e h
theorem SX_e {t : Nat} (h : t = n ∨ P t = 5) : SX Z K P n (t + 1) = min (SX Z K P n t * Xt Z K (wd P t) (t - frn P n t)) 1000000 := sgm_e h
theorem SW_n {t : Nat} (h : ¬ (t = n ∨ P t = 5)) : SW M Gh Z K P n (t + 1) = SW M Gh Z K P n t := sgm_n h
theorem SL_n {t : Nat} (h : ¬ (t = n ∨ P t = 5)) : SL M Gh Z K P n (t + 1) = SL M Gh Z K P n t := sgm_n h
theorem SX_n {t : Nat} (h : ¬ (t = n ∨ P t = 5)) : SX Z K P n (t + 1) = SX Z K P n t := sgm_n h
theorem sums (hM : 1 ≤ M) (hG : 1 ≤ Gh) (hn : n ≤ 40) : ∀ t, t ≤ n + 1 → SW M Gh Z K P n t ≤ 64 * (Gh * kN P n (frn P n t)) ∧ (∃ c, SW M Gh Z K P n t = 64 * c + SL M Gh Z K P n t) ∧ SL M Gh Z K P n t ≤ kN P n (frn P n t) ∧ (0 < SX Z K P n t → SW M Gh Z K P n t ≤ kN P n (frn P n t)) ∧ (SW M Gh Z K P n t < 64 → 0 < SX Z K P n t) ∧ SX Z K P n t ≤ 1000000 := by
  intro t
  induction t with
  | zero => intro _; exact ⟨Nat.zero_le _, ⟨0, rfl⟩, Nat.zero_le _, fun _ => Nat.zero_le _, fun _ => Nat.one_pos, by show (1 : Nat) ≤ 1000000; decide⟩
  | succ t ih =>
    intro ht
    obtain ⟨a1, ⟨c, a2⟩, a3, a4, a5, a6⟩ := ih (by omega)
    by_cases h : t = n ∨ P t = 5
    · have hk := kN_frn (P := P) (n := n) t
      have hf := frn_le (P := P) (n := n) t
      have w1 := Wt_ghost (M := M) (Gh := Gh) (Z := Z) (K := K) (q := wd P t) (t - frn P n t)
      have w2 := Wt_mod (M := M) (Gh := Gh) (Z := Z) (K := K) (q := wd P t) (d := t - frn P n t) (by omega)
      have w3 := Wt_of_Xt (M := M) (Gh := Gh) (Z := Z) (K := K) (q := wd P t) (t - frn P n t)
      have w4 := Xt_of_Wt (M := M) (Gh := Gh) (Z := Z) (K := K) (q := wd P t) hM hG (t - frn P n t)
      rw [SW_e h, SL_e h, SX_e h, frn_e h, kN_e h]
      rw [← hk, Nat.mul_add Gh]
      generalize Wt M Gh Z K (wd P t) (t - frn P n t) = w at *
      generalize Xt Z K (wd P t) (t - frn P n t) = x at *
      generalize SW M Gh Z K P n t = sw at *
      generalize SL M Gh Z K P n t = sl at *
      generalize SX Z K P n t = sx at *
      refine ⟨by omega, ⟨c + w / 64, by omega⟩, by omega, fun h9 => ?_, fun h9 => ?_, Nat.min_le_right _ _⟩
      · have h8 : 0 < sx * x := Nat.lt_of_lt_of_le h9 (Nat.min_le_left _ _)
        have h7 : 0 < sx := Nat.pos_of_mul_pos_right h8
        have h6 : 0 < x := Nat.pos_of_mul_pos_left h8
        have := a4 h7
        have := w3 h6
        omega
      · have h8 : 0 < sx * x := Nat.mul_pos (a5 (by omega)) (w4 (by omega))
        omega
    · rw [SW_n h, SL_n h, SX_n h, frn_n h]
      exact ⟨a1, ⟨c, a2⟩, a3, a4, a5, a6⟩
/-- what the law asks of a cord's reading -/
theorem sums_end (hM : 1 ≤ M) (hG : 1 ≤ Gh) (hn : n ≤ 40) : SW M Gh Z K P n (n + 1) / 64 ≤ Gh * kN P n n ∧ SW M Gh Z K P n (n + 1) % 64 = SL M Gh Z K P n (n + 1) ∧ SL M Gh Z K P n (n + 1) ≤ kN P n n ∧ (SW M Gh Z K P n (n + 1) / 64 = 0 ↔ 0 < SX Z K P n (n + 1)) ∧ SX Z K P n (n + 1) ≤ 1000000 ∧ SW M Gh Z K P n (n + 1) ≤ 64 * (Gh * 40) := by
  obtain ⟨a1, ⟨c, a2⟩, a3, a4, a5, a6⟩ := sums (P := P) (Z := Z) (K := K) hM hG hn (n + 1) (Nat.le_refl _)
  rw [frn_e (Or.inl rfl), kN_last] at a1 a3 a4
  have hk : kN P n n ≤ n := by have := kg (P := P) (n := n) n (Nat.le_refl _); omega
  have hk2 : Gh * kN P n n ≤ Gh * 40 := Nat.mul_le_mul_left _ (by omega)
  refine ⟨by omega, by omega, a3, ⟨fun h => a5 (by omega), fun h => ?_⟩, a6, by omega⟩
  have := a4 h
  omega
theorem SL_le (hM : 1 ≤ M) (hG : 1 ≤ Gh) (hn : n ≤ 40) {t : Nat} (ht : t ≤ n + 1) : SL M Gh Z K P n t ≤ kN P n (frn P n t) := (sums (P := P) (Z := Z) (K := K) hM hG hn t ht).2.2.1
theorem SW_le (hM : 1 ≤ M) (hG : 1 ≤ Gh) (hn : n ≤ 40) (hG9 : Gh ≤ 9) {t : Nat} (ht : t ≤ n + 1) : SW M Gh Z K P n t ≤ 23040 := by
  have h1 := (sums (P := P) (Z := Z) (K := K) hM hG hn t ht).1
  have h2 : kN P n (frn P n t) ≤ kN P n (n + 1) := kN_mono (by have := frn_le (P := P) (n := n) t; omega)
  have h3 := kg (P := P) (n := n) n (Nat.le_refl _)
  rw [kN_last] at h2
  have h4 : Gh * kN P n (frn P n t) ≤ 9 * 40 := Nat.mul_le_mul hG9 (by omega)
  omega
theorem SX_le (hM : 1 ≤ M) (hG : 1 ≤ Gh) (hn : n ≤ 40) {t : Nat} (ht : t ≤ n + 1) : SX Z K P n t ≤ 1000000 := (sums (P := P) (Z := Z) (K := K) hM hG hn t ht).2.2.2.2.2
/-- each word of the cord reads without an error -/
def good (Z K P : Nat → Nat) (n : Nat) : Prop := ∀ t, t ≤ n → (t = n ∨ P t = 5) → 0 < Xt Z K (wd P t) (t - frn P n t)
theorem good_SX (h : good Z K P n) : ∀ t, t ≤ n + 1 → 0 < SX Z K P n t := by
  intro t
  induction t with
  | zero => intro _; exact Nat.one_pos
  | succ t ih =>
    intro ht
    have h1 := ih (by omega)
    by_cases e : t = n ∨ P t = 5
    · rw [SX_e e]
      have h2 := h t (by omega) e
      have h3 : 0 < SX Z K P n t * Xt Z K (wd P t) (t - frn P n t) := Nat.mul_pos h1 h2
      show 0 < min (SX Z K P n t * Xt Z K (wd P t) (t - frn P n t)) 1000000
      omega
    · rw [SX_n e]; exact h1
theorem frn_congr {P' : Nat → Nat} {n' t : Nat} (hn : t ≤ n) (hn' : t ≤ n') (h : ∀ x, x < t → P' x = P x) : frn P' n' t = frn P n t := by
  induction t with
  | zero => rfl
  | succ t ih =>
    have h1 := ih (by omega) (by omega) (fun x hx => h x (by omega))
    have h2 := h t (by omega)
    by_cases e : P t = 5
    · rw [frn_e (Or.inr e), frn_e (Or.inr (h2.trans e))]
    · rw [frn_n (by omega), frn_n (by omega), h1]
theorem kN_congr {P' : Nat → Nat} {n' t : Nat} (hn : t ≤ n) (hn' : t ≤ n') (h : ∀ x, x < t → P' x = P x) : kN P' n' t = kN P n t := by
  induction t with
  | zero => rfl
  | succ t ih =>
    have h1 := ih (by omega) (by omega) (fun x hx => h x (by omega))
    have h2 := h t (by omega)
    by_cases e : P t = 5
    · rw [kN_e (Or.inr e), kN_e (Or.inr (h2.trans e)), h1]
    · rw [kN_n (by omega), kN_n (by omega), h1]
theorem gN_congr {P' : Nat → Nat} {n' t : Nat} (hn : t ≤ n) (hn' : t ≤ n') (h : ∀ x, x < t → P' x = P x) : gN P' n' t = gN P n t := by
  have h1 := kN_congr hn hn' h
  have h2 := kg (P := P) (n := n) t hn
  have h3 := kg (P := P') (n := n') t hn'
  omega
theorem good_0 : good Z K P 0 := by
  intro t ht _
  obtain rfl : t = 0 := by omega
  show 0 < Xt Z K (wd P 0) 0
  rw [Xt_0]; decide
theorem wd_congr {P' : Nat → Nat} {t : Nat} (h : ∀ x, x < t → P' x = P x) : ∀ e, e ≤ t → 0 < e → wd P' t e = wd P t e := fun e h1 h2 => h _ (by omega)
theorem good_gap {P' : Nat → Nat} (h : good Z K P n) (hx : ∀ x, x < n → P' x = P x) (h5 : P' n = 5) : good Z K P' (n + 1) := by
  intro t ht e
  by_cases e1 : t = n + 1
  · subst e1
    rw [frn_e (Or.inr h5), Nat.sub_self, Xt_0]; decide
  · have e2 : t = n ∨ P t = 5 := by
      by_cases e3 : t = n
      · exact Or.inl e3
      · exact Or.inr (by rw [← hx t (by omega)]; exact e.resolve_left e1)
    have h1 := h t (by omega) e2
    rw [frn_congr (P := P) (n := n) (by omega) (by omega) (fun x hx' => hx x (by omega)), Xt_congr (q := wd P t) (n := t) (wd_congr (fun x hx' => hx x (by omega))) _ (by omega)]
    exact h1
theorem frn_run {P' : Nat → Nat} {m : Nat} (hx : ∀ x, x < n → P' x = P x) : ∀ s, (∀ i, i < s → P' (n + i) ≠ 5) → n + s ≤ m → frn P' m (n + s) = frn P n n := by
  intro s
  induction s with
  | zero => intro _ hm; exact frn_congr (Nat.le_refl _) hm hx
  | succ s ih =>
    intro h5 hm
    have h1 := h5 s (by omega)
    show frn P' m (n + s + 1) = _
    rw [frn_n (by omega)]
    exact ih (fun i hi => h5 i (by omega)) (by omega)
theorem good_letter {P' : Nat → Nat} {l : Nat} (hl : l < 12) (h0 : 0 < Z l) (h : good Z K P n) (hx : ∀ x, x < n → P' x = P x) (hk : ∀ i, i < Z l → P' (n + i) = K (4 * l + i)) (h5 : ∀ i, i < Z l → K (4 * l + i) ≠ 5) : good Z K P' (n + Z l) := by
  intro t ht e
  by_cases e1 : t = n + Z l
  · subst e1
    have hf := frn_le (P := P) (n := n) n
    rw [frn_run hx (Z l) (fun i hi => by rw [hk i hi]; exact h5 i hi) (Nat.le_refl _), show n + Z l - frn P n n = (n - frn P n n) + Z l by omega]
    refine Xt_behind (q := wd P n) (n := n - frn P n n) hl h0 (fun e h1 h2 => ?_) (fun i hi => ?_) _ (Nat.le_refl _) (h n (Nat.le_refl _) (Or.inl rfl))
    · show P' (n + Z l - (e + Z l)) = P (n - e)
      rw [show n + Z l - (e + Z l) = n - e by omega]
      exact hx _ (by omega)
    · show K (4 * l + i) = P' (n + Z l - (Z l - i))
      rw [show n + Z l - (Z l - i) = n + i by omega, hk i hi]
  · have hlt : t < n := by
      by_cases h9 : t < n
      · exact h9
      · exfalso
        have h8 := hk (t - n) (by omega)
        rw [show n + (t - n) = t by omega] at h8
        exact h5 (t - n) (by omega) (h8.symm.trans (e.resolve_left e1))
    have h1 := h t (by omega) (Or.inr (by rw [← hx t hlt]; exact e.resolve_left e1))
    rw [frn_congr (P := P) (n := n) (by omega) (by omega) (fun x hx' => hx x (by omega)), Xt_congr (q := wd P t) (n := t) (wd_congr (fun x hx' => hx x (by omega))) _ (by omega)]
    exact h1
/-! distances -/
def tk5 (a b : Nat) : Nat := if a = b then 0 else if a = 5 ∨ b = 5 then 100000 else 3
def ms (M k : Nat) : Nat := if k = 5 then 9 else M
def smS (M : Nat) (A : Nat → Nat) : Nat → Nat
  | 0 => 0
  | n + 1 => smS M A n + ms M (A n)
def dSt (M Gh : Nat) (B : Nat → Nat) (k : Nat) (L : Nat → Nat) : Nat → Nat
  | 0 => L 0 + ms M k
  | j + 1 => min (L j + tk5 k (B j)) (min (dSt M Gh B k L j + ms Gh (B j)) (L (j + 1) + ms M k))
def dLn (M Gh : Nat) (A B : Nat → Nat) : Nat → Nat → Nat
  | 0 => smS Gh B
  | m + 1 => dSt M Gh B (A m) (dLn M Gh A B m)
theorem dSt_s {B : Nat → Nat} {k : Nat} {L : Nat → Nat} {j : Nat} : dSt M Gh B k L (j + 1) = min (L j + tk5 k (B j)) (min (dSt M Gh B k L j + ms Gh (B j)) (L (j + 1) + ms M k)) := rfl
theorem dLn_s {A B : Nat → Nat} {m : Nat} : dLn M Gh A B (m + 1) = dSt M Gh B (A m) (dLn M Gh A B m) := rfl
theorem dLn_le {A B : Nat → Nat} (m j : Nat) : dLn M Gh A B m j ≤ smS M A m + smS Gh B j := by
  induction m generalizing j with
  | zero => show smS Gh B j ≤ 0 + smS Gh B j; omega
  | succ m ih =>
    rw [dLn_s]
    show _ ≤ smS M A m + ms M (A m) + smS Gh B j
    cases j with
    | zero => have := ih 0; show dLn M Gh A B m 0 + ms M (A m) ≤ _; omega
    | succ j =>
      have := ih (j + 1)
      rw [dSt_s]
      omega
theorem dLn_diag {A : Nat → Nat} (m : Nat) : dLn M Gh A A m m = 0 := by
  induction m with
  | zero => rfl
  | succ m ih =>
    rw [dLn_s, dSt_s, ih, tk5, if_pos rfl]
    exact Nat.zero_min _
theorem ms_le {M k : Nat} (h : M ≤ 9) : ms M k ≤ 9 := by unfold ms; split <;> omega
theorem smS_le {A : Nat → Nat} {m : Nat} (h : M ≤ 9) : smS M A m ≤ 9 * m := by
  induction m with
  | zero => exact Nat.le_refl _
  | succ m ih => have := ms_le (k := A m) h; show smS M A m + ms M (A m) ≤ _; omega
theorem smS_kg {A : Nat → Nat} {n t : Nat} (h : t ≤ n) : smS M A t = M * kN A n t + 9 * gN A n t := by
  induction t with
  | zero => rfl
  | succ t ih =>
    have h1 := ih (by omega)
    show smS M A t + ms M (A t) = _
    by_cases e : A t = 5
    · rw [kN_e (Or.inr e), gN_e ⟨by omega, e⟩, ms, if_pos e, h1]; omega
    · rw [kN_n (by omega), gN_n (by omega), ms, if_neg e, h1, Nat.mul_succ]; omega
end MB
