/-! the reader's sums, as numbers of a word: q d is the kind at the distance d from the word's end -/
section MA
def tkN (a b : Nat) : Nat := if a = b then 0 else 3
def minI (f : Nat → Nat) : Nat → Nat → Nat
  | 0, w => w
  | n + 1, w => min (minI f n w) (f n)
def minL (Z : Nat → Nat) (g : Nat → Nat → Nat) : Nat → Nat → Nat
  | 0, w => w
  | l + 1, w => minI (g l) (Z l) (minL Z g l w)
theorem minI_w (f : Nat → Nat) (n w : Nat) : minI f n w ≤ w := by
  induction n with
  | zero => exact Nat.le_refl _
  | succ n ih => exact Nat.le_trans (Nat.min_le_left _ _) ih
theorem minI_f {f : Nat → Nat} {n w i : Nat} (h : i < n) : minI f n w ≤ f i := by
  induction n with
  | zero => omega
  | succ n ih =>
    by_cases e : i = n
    · subst e; exact Nat.min_le_right _ _
    · exact Nat.le_trans (Nat.min_le_left _ _) (ih (by omega))
theorem minI_or (f : Nat → Nat) (n w : Nat) : minI f n w = w ∨ ∃ i, i < n ∧ minI f n w = f i := by
  induction n with
  | zero => exact Or.inl rfl
  | succ n ih =>
    show min (minI f n w) (f n) = w ∨ ∃ i, i < n + 1 ∧ min (minI f n w) (f n) = f i
    rcases Nat.le_total (minI f n w) (f n) with h | h
    · rw [Nat.min_eq_left h]
      rcases ih with h1 | ⟨i, h1, h2⟩
      · exact Or.inl h1
      · exact Or.inr ⟨i, by omega, h2⟩
    · rw [Nat.min_eq_right h]
      exact Or.inr ⟨n, by omega, rfl⟩
theorem minL_w (Z : Nat → Nat) (g : Nat → Nat → Nat) (n w : Nat) : minL Z g n w ≤ w := by
  induction n with
  | zero => exact Nat.le_refl _
  | succ n ih => exact Nat.le_trans (minI_w _ _ _) ih
theorem minL_f {Z : Nat → Nat} {g : Nat → Nat → Nat} {n w l i : Nat} (h : l < n) (hi : i < Z l) : minL Z g n w ≤ g l i := by
  induction n with
  | zero => omega
  | succ n ih =>
    by_cases e : l = n
    · subst e; exact minI_f hi
    · exact Nat.le_trans (minI_w _ _ _) (ih (by omega))
theorem minL_or (Z : Nat → Nat) (g : Nat → Nat → Nat) (n w : Nat) : minL Z g n w = w ∨ ∃ l i, l < n ∧ i < Z l ∧ minL Z g n w = g l i := by
  induction n with
  | zero => exact Or.inl rfl
  | succ n ih =>
    rcases minI_or (g n) (Z n) (minL Z g n w) with h | ⟨i, h1, h2⟩
    · rcases ih with h3 | ⟨l, i, h3, h4, h5⟩
      · exact Or.inl (h.trans h3)
      · exact Or.inr ⟨l, i, by omega, h4, h.trans h5⟩
    · exact Or.inr ⟨n, i, by omega, h1, h2⟩
/-- the weights of the slots of one letter, l of z knots, d knots left, at a place of kind k and weight w; B1: those at the place behind -/
def bgn (M Gh : Nat) (K B1 : Nat → Nat) (l z k w : Nat) : Nat → Nat
  | 0 => w
  | d + 1 => min (min (min (w + 64 * (M * (d + 1))) (bgn M Gh K B1 l z k w d + 64 * M)) (B1 (z - (d + 1)) + 64 * Gh)) (B1 (z - d) + 64 * tkN (K (4 * l + (z - (d + 1)))) k)
/-- a candidate of a place: letter l with its first i knots missed, the next one taken -/
def cnd (M : Nat) (K : Nat → Nat) (B1 : Nat → Nat → Nat) (k : Nat) (l i : Nat) : Nat := B1 l (i + 1) + 64 * (i * M + tkN (K (4 * l + i)) k) + 1
def WB (M Gh : Nat) (Z K q : Nat → Nat) : Nat → Nat × (Nat → Nat → Nat)
  | 0 => (0, fun l j => 64 * (M * (Z l - j)))
  | d + 1 => (minL Z (cnd M K (WB M Gh Z K q d).2 (q (d + 1))) 12 ((WB M Gh Z K q d).1 + 64 * Gh),
      fun l j => bgn M Gh K ((WB M Gh Z K q d).2 l) l (Z l) (q (d + 1)) (minL Z (cnd M K (WB M Gh Z K q d).2 (q (d + 1))) 12 ((WB M Gh Z K q d).1 + 64 * Gh)) (Z l - j))
abbrev Wt (M Gh : Nat) (Z K q : Nat → Nat) (d : Nat) : Nat := (WB M Gh Z K q d).1
abbrev Bg (M Gh : Nat) (Z K q : Nat → Nat) (d l j : Nat) : Nat := (WB M Gh Z K q d).2 l j
variable {M Gh : Nat} {Z K q : Nat → Nat}
theorem Wt_0 : Wt M Gh Z K q 0 = 0 := rfl
theorem Wt_s (d : Nat) : Wt M Gh Z K q (d + 1) = minL Z (cnd M K (Bg M Gh Z K q d) (q (d + 1))) 12 (Wt M Gh Z K q d + 64 * Gh) := rfl
theorem Bg_0 (l j : Nat) : Bg M Gh Z K q 0 l j = 64 * (M * (Z l - j)) := rfl
theorem Bg_s (d l j : Nat) : Bg M Gh Z K q (d + 1) l j = bgn M Gh K (Bg M Gh Z K q d l) l (Z l) (q (d + 1)) (Wt M Gh Z K q (d + 1)) (Z l - j) := rfl
theorem Wt_ghost (d : Nat) : Wt M Gh Z K q d ≤ 64 * (Gh * d) := by
  induction d with
  | zero => exact Nat.zero_le _
  | succ d ih =>
    rw [Wt_s]
    refine Nat.le_trans (minL_w _ _ _ _) ?_
    rw [Nat.mul_succ]
    omega
/-- so many letters, 64 times a cost -/
def mdl (w m : Nat) : Prop := ∃ c k : Nat, w = 64 * c + k ∧ k ≤ m
theorem mdl_add {w m : Nat} (c : Nat) (h : mdl w m) : mdl (w + 64 * c) m := by
  obtain ⟨a, k, h1, h2⟩ := h
  exact ⟨a + c, k, by omega, h2⟩
theorem mdl_mono {w m n : Nat} (h : mdl w m) (hn : m ≤ n) : mdl w n := by
  obtain ⟨a, k, h1, h2⟩ := h
  exact ⟨a, k, h1, by omega⟩
theorem mdl_min {a b m : Nat} (ha : mdl a m) (hb : mdl b m) : mdl (min a b) m := by
  rcases Nat.le_total a b with h | h
  · rw [Nat.min_eq_left h]; exact ha
  · rw [Nat.min_eq_right h]; exact hb
theorem mdl_mod {w m : Nat} (h : mdl w m) (hm : m < 64) : w % 64 ≤ m := by
  obtain ⟨a, k, h1, h2⟩ := h
  omega
theorem WB_mdl (d : Nat) : mdl (Wt M Gh Z K q d) d ∧ ∀ l j, mdl (Bg M Gh Z K q d l j) d := by
  induction d with
  | zero => exact ⟨⟨0, 0, rfl, Nat.le_refl _⟩, fun l j => ⟨M * (Z l - j), 0, by rw [Bg_0]; rfl, Nat.le_refl _⟩⟩
  | succ d ih =>
    have hw : mdl (Wt M Gh Z K q (d + 1)) (d + 1) := by
      rw [Wt_s]
      rcases minL_or Z (cnd M K (Bg M Gh Z K q d) (q (d + 1))) 12 (Wt M Gh Z K q d + 64 * Gh) with h | ⟨l, i, -, -, h⟩
      · rw [h]; exact mdl_mono (mdl_add _ ih.1) (by omega)
      · rw [h]
        obtain ⟨a, k, h1, h2⟩ := ih.2 l (i + 1)
        exact ⟨a + (i * M + tkN (K (4 * l + i)) (q (d + 1))), k + 1, by unfold cnd; rw [h1]; omega, by omega⟩
    refine ⟨hw, fun l j => ?_⟩
    rw [Bg_s]
    generalize Z l - j = n
    induction n with
    | zero => exact hw
    | succ n ihn =>
      exact mdl_min (mdl_min (mdl_min (mdl_add _ hw) (mdl_add _ ihn)) (mdl_mono (mdl_add _ (ih.2 l _)) (by omega))) (mdl_mono (mdl_add _ (ih.2 l _)) (by omega))
theorem Wt_mod {d : Nat} (hd : d < 64) : Wt M Gh Z K q d % 64 ≤ d := mdl_mod (WB_mdl d).1 hd
/-- letter l stands at the distance d -/
def stN (Z K q : Nat → Nat) (l d : Nat) : Prop := 0 < Z l ∧ Z l ≤ d ∧ ∀ i, i < Z l → K (4 * l + i) = q (d - i)
noncomputable def stB (Z K q : Nat → Nat) (l d : Nat) : Bool := by classical exact decide (stN Z K q l d)
theorem stB_t {l d : Nat} (h : stN Z K q l d) : stB Z K q l d = true := by simp [stB, h]
theorem stB_f {l d : Nat} (h : ¬ stN Z K q l d) : stB Z K q l d = false := by simp [stB, h]
theorem stB_iff {l d : Nat} : stB Z K q l d = true ↔ stN Z K q l d := by simp [stB]
/-- the sum over the first letters that stand there -/
noncomputable def sumS (Z K q X : Nat → Nat) (d : Nat) : Nat → Nat
  | 0 => 0
  | l + 1 => sumS Z K q X d l + (if stB Z K q l d = true then X (d - Z l) else 0)
theorem sumS_pos {X : Nat → Nat} {d n : Nat} : 0 < sumS Z K q X d n ↔ ∃ l, l < n ∧ stN Z K q l d ∧ 0 < X (d - Z l) := by
  induction n with
  | zero => exact ⟨fun h => absurd h (Nat.lt_irrefl _), fun ⟨l, h, _⟩ => absurd h (Nat.not_lt_zero l)⟩
  | succ n ih =>
    show 0 < sumS Z K q X d n + (if stB Z K q n d = true then X (d - Z n) else 0) ↔ _
    constructor
    · intro h
      by_cases h1 : 0 < sumS Z K q X d n
      · obtain ⟨l, h2, h3⟩ := ih.mp h1
        exact ⟨l, by omega, h3⟩
      · by_cases h2 : stB Z K q n d = true
        · rw [if_pos h2] at h
          exact ⟨n, by omega, stB_iff.mp h2, by omega⟩
        · rw [if_neg h2] at h
          omega
    · rintro ⟨l, h1, h2, h3⟩
      by_cases e : l = n
      · subst e
        rw [if_pos (stB_t h2)]
        omega
      · have := ih.mpr ⟨l, by omega, h2, h3⟩
        omega
theorem sumS_congr {X Y : Nat → Nat} {d n : Nat} (h : ∀ e, e < d → X e = Y e) : sumS Z K q X d n = sumS Z K q Y d n := by
  induction n with
  | zero => rfl
  | succ n ih =>
    show sumS Z K q X d n + (if stB Z K q n d = true then X (d - Z n) else 0) = sumS Z K q Y d n + (if stB Z K q n d = true then Y (d - Z n) else 0)
    rw [ih]
    by_cases h2 : stB Z K q n d = true
    · rw [if_pos h2, if_pos h2]
      have h3 := stB_iff.mp h2
      rw [h _ (by have := h3.1; have := h3.2.1; omega)]
    · rw [if_neg h2, if_neg h2]
/-- all exact readings from each distance -/
noncomputable def XH (Z K q : Nat → Nat) : Nat → Nat → Nat
  | 0 => fun _ => 1
  | d + 1 => fun e => if e = d + 1 then min (sumS Z K q (XH Z K q d) (d + 1) 12) 1000000 else XH Z K q d e
noncomputable def Xt (Z K q : Nat → Nat) (d : Nat) : Nat := XH Z K q d d
theorem XH_le {d e : Nat} (h : e ≤ d) : XH Z K q d e = Xt Z K q e := by
  induction d with
  | zero => obtain rfl : e = 0 := by omega
            rfl
  | succ d ih =>
    by_cases h1 : e = d + 1
    · subst h1; rfl
    · show (if e = d + 1 then _ else XH Z K q d e) = _
      rw [if_neg h1]
      exact ih (by omega)
theorem Xt_0 : Xt Z K q 0 = 1 := rfl
theorem Xt_s (d : Nat) : Xt Z K q (d + 1) = min (sumS Z K q (Xt Z K q) (d + 1) 12) 1000000 := by
  show (if d + 1 = d + 1 then min (sumS Z K q (XH Z K q d) (d + 1) 12) 1000000 else _) = _
  rw [if_pos rfl, sumS_congr (Y := Xt Z K q) (fun e he => XH_le (by omega))]
theorem Xt_pos (d : Nat) : 0 < Xt Z K q (d + 1) ↔ ∃ l, l < 12 ∧ stN Z K q l (d + 1) ∧ 0 < Xt Z K q (d + 1 - Z l) := by
  rw [Xt_s, ← sumS_pos]
  omega
theorem Xt_le (d : Nat) : Xt Z K q d ≤ 1000000 := by
  cases d with
  | zero => exact by rw [Xt_0]; decide
  | succ d => rw [Xt_s]; exact Nat.min_le_right _ _
theorem bgn_0 {B1 : Nat → Nat} {l z k w : Nat} : bgn M Gh K B1 l z k w 0 = w := rfl
theorem bgn_s {B1 : Nat → Nat} {l z k w d : Nat} : bgn M Gh K B1 l z k w (d + 1) = min (min (min (w + 64 * (M * (d + 1))) (bgn M Gh K B1 l z k w d + 64 * M)) (B1 (z - (d + 1)) + 64 * Gh)) (B1 (z - d) + 64 * tkN (K (4 * l + (z - (d + 1)))) k) := rfl
theorem Bg_end (d l : Nat) : Bg M Gh Z K q d l (Z l) = Wt M Gh Z K q d := by
  cases d with
  | zero => rw [Bg_0, Nat.sub_self]; rfl
  | succ d => rw [Bg_s, Nat.sub_self]; rfl
/-- a letter that stands there costs nothing -/
theorem Bg_std {l d : Nat} (h : stN Z K q l d) : ∀ n j, j + n = Z l → 1 ≤ j → Bg M Gh Z K q (d - j) l j ≤ Wt M Gh Z K q (d - Z l) := by
  obtain ⟨h1, h2, h3⟩ := h
  intro n
  induction n with
  | zero =>
    intro j hj _
    obtain rfl : j = Z l := by omega
    rw [Bg_end]
    exact Nat.le_refl _
  | succ n ih =>
    intro j hj hj1
    have h4 := ih (j + 1) (by omega) (by omega)
    obtain ⟨e, he⟩ : ∃ e, d - j = e + 1 := ⟨d - j - 1, by omega⟩
    rw [he, Bg_s, show Z l - j = n + 1 by omega, bgn_s]
    refine Nat.le_trans (Nat.min_le_right _ _) ?_
    rw [show Z l - n = j + 1 by omega, show Z l - (n + 1) = j by omega, h3 j (by omega), he, tkN, if_pos rfl]
    rw [show d - (j + 1) = e by omega] at h4
    exact h4
theorem Wt_of_Xt : ∀ d, 0 < Xt Z K q d → Wt M Gh Z K q d ≤ d := by
  intro d
  induction d using Nat.strongRecOn with
  | ind d ih =>
    cases d with
    | zero => intro _; exact Nat.le_refl _
    | succ d =>
      intro h
      obtain ⟨l, h1, h2, h3⟩ := (Xt_pos d).mp h
      obtain ⟨a1, a2, a3⟩ := id h2
      have h4 := ih (d + 1 - Z l) (by omega) h3
      have h5 := Bg_std (M := M) (Gh := Gh) h2 (Z l - 1) 1 (by omega) (Nat.le_refl _)
      have h6 : Wt M Gh Z K q (d + 1) ≤ cnd M K (Bg M Gh Z K q d) (q (d + 1)) l 0 := by rw [Wt_s]; exact minL_f h1 a1
      have h7 := a3 0 a1
      unfold cnd at h6
      rw [h7, tkN, if_pos (by rfl), Nat.zero_mul] at h6
      rw [Nat.add_sub_cancel] at h5
      rw [Nat.zero_add] at h6
      omega
theorem Bg_cost (hM : 1 ≤ M) (hG : 1 ≤ Gh) {l : Nat} : ∀ n j d, j + n = Z l → Bg M Gh Z K q d l j < 64 → n ≤ d ∧ (∀ i, i < n → K (4 * l + (j + i)) = q (d - i)) ∧ Wt M Gh Z K q (d - n) < 64 := by
  intro n
  induction n with
  | zero =>
    intro j d hj h
    obtain rfl : j = Z l := by omega
    rw [Bg_end] at h
    exact ⟨Nat.zero_le _, fun i hi => absurd hi (Nat.not_lt_zero i), h⟩
  | succ n ih =>
    intro j d hj h
    have hm : M * (n + 1) = M * n + M := Nat.mul_succ _ _
    cases d with
    | zero =>
      rw [Bg_0, show Z l - j = n + 1 by omega] at h
      omega
    | succ d =>
      rw [Bg_s, show Z l - j = n + 1 by omega, bgn_s, show Z l - n = j + 1 by omega, show Z l - (n + 1) = j by omega] at h
      have h1 : Bg M Gh Z K q d l (j + 1) + 64 * tkN (K (4 * l + j)) (q (d + 1)) < 64 := by omega
      have h2 : K (4 * l + j) = q (d + 1) := by
        by_cases e : K (4 * l + j) = q (d + 1)
        · exact e
        · rw [tkN, if_neg e] at h1; omega
      obtain ⟨h3, h4, h5⟩ := ih (j + 1) d (by omega) (by omega)
      refine ⟨by omega, fun i hi => ?_, by rw [show d + 1 - (n + 1) = d - n by omega]; exact h5⟩
      cases i with
      | zero => exact h2
      | succ i =>
        have := h4 i (by omega)
        rw [show j + 1 + i = j + (i + 1) by omega] at this
        rw [this]
        congr 1
        omega
theorem Xt_of_Wt (hM : 1 ≤ M) (hG : 1 ≤ Gh) : ∀ d, Wt M Gh Z K q d < 64 → 0 < Xt Z K q d := by
  intro d
  induction d using Nat.strongRecOn with
  | ind d ih =>
    cases d with
    | zero => intro _; rw [Xt_0]; decide
    | succ d =>
      intro h
      rw [Wt_s] at h
      rcases minL_or Z (cnd M K (Bg M Gh Z K q d) (q (d + 1))) 12 (Wt M Gh Z K q d + 64 * Gh) with e | ⟨l, i, hl, hi, e⟩
      · rw [e] at h; omega
      · rw [e] at h
        unfold cnd at h
        have h0 : i * M = 0 := by omega
        have hi0 : i = 0 := by
          rcases Nat.mul_eq_zero.mp h0 with h9 | h9 <;> omega
        subst hi0
        have h2 : K (4 * l + 0) = q (d + 1) := by
          by_cases e : K (4 * l + 0) = q (d + 1)
          · exact e
          · rw [tkN, if_neg e] at h; omega
        obtain ⟨h3, h4, h5⟩ := Bg_cost hM hG (Z l - 1) 1 d (by omega) (show Bg M Gh Z K q d l (0 + 1) < 64 by omega)
        refine (Xt_pos d).mpr ⟨l, hl, ⟨by omega, by omega, fun i hi => ?_⟩, ih (d + 1 - Z l) (by omega) (by rw [show d + 1 - Z l = d - (Z l - 1) by omega]; exact h5)⟩
        cases i with
        | zero => exact h2
        | succ i =>
          have := h4 i (by omega)
          rw [show 1 + i = i + 1 by omega] at this
          rw [this]
          congr 1
          omega
theorem stN_congr {q' : Nat → Nat} {l d d' : Nat} (hd : d ≤ d') (h : ∀ i, i < d → q' (d' - i) = q (d - i)) (hs : stN Z K q l d) : stN Z K q' l d' := by
  obtain ⟨h1, h2, h3⟩ := hs
  exact ⟨h1, by omega, fun i hi => by rw [h3 i hi, h i (by omega)]⟩
/-- a word that reads, and a letter behind it, is a word that reads -/
theorem Xt_behind {q' : Nat → Nat} {l n : Nat} (hl : l < 12) (h0 : 0 < Z l) (hq : ∀ e, e ≤ n → 0 < e → q' (e + Z l) = q e) (hk : ∀ i, i < Z l → K (4 * l + i) = q' (Z l - i)) :
    ∀ e, e ≤ n → 0 < Xt Z K q e → 0 < Xt Z K q' (e + Z l) := by
  intro e
  induction e using Nat.strongRecOn with
  | ind e ih =>
    intro he hx
    cases e with
    | zero =>
      rw [Nat.zero_add]
      obtain ⟨z, hz⟩ : ∃ z, Z l = z + 1 := ⟨Z l - 1, by omega⟩
      rw [hz]
      refine (Xt_pos z).mpr ⟨l, hl, ⟨h0, by omega, fun i hi => by rw [hk i hi, hz]⟩, ?_⟩
      rw [hz, Nat.sub_self, Xt_0]
      decide
    | succ e =>
      obtain ⟨m, h1, h2, h3⟩ := (Xt_pos e).mp hx
      have hp := h2.1
      have hq2 := h2.2.1
      rw [show e + 1 + Z l = (e + Z l) + 1 by omega]
      refine (Xt_pos _).mpr ⟨m, h1, stN_congr (q := q) (d := e + 1) (by omega) (fun i hi => ?_) h2, ?_⟩
      · rw [show e + Z l + 1 - i = (e + 1 - i) + Z l by omega]
        exact hq _ (by omega) (by omega)
      · rw [show e + Z l + 1 - Z m = (e + 1 - Z m) + Z l by omega]
        exact ih _ (by omega) (by omega) h3
theorem Xt_congr {q' : Nat → Nat} {n : Nat} (hq : ∀ e, e ≤ n → 0 < e → q' e = q e) : ∀ d, d ≤ n → Xt Z K q' d = Xt Z K q d := by
  intro d
  induction d using Nat.strongRecOn with
  | ind d ih =>
    intro hd
    cases d with
    | zero => rfl
    | succ d =>
      rw [Xt_s, Xt_s]
      congr 1
      have hst : ∀ l, stB Z K q' l (d + 1) = stB Z K q l (d + 1) := by
        intro l
        by_cases h : stN Z K q l (d + 1)
        · rw [stB_t h, stB_t]
          obtain ⟨h1, h2, h3⟩ := h
          exact ⟨h1, h2, fun i hi => by rw [h3 i hi, hq _ (by omega) (by omega)]⟩
        · rw [stB_f h, stB_f]
          rintro ⟨h1, h2, h3⟩
          exact h ⟨h1, h2, fun i hi => by rw [h3 i hi, hq _ (by omega) (by omega)]⟩
      have : ∀ m, sumS Z K q' (Xt Z K q') (d + 1) m = sumS Z K q (Xt Z K q) (d + 1) m := by
        intro m
        induction m with
        | zero => rfl
        | succ m ihm =>
          show sumS Z K q' (Xt Z K q') (d + 1) m + (if stB Z K q' m (d + 1) = true then Xt Z K q' (d + 1 - Z m) else 0) = sumS Z K q (Xt Z K q) (d + 1) m + (if stB Z K q m (d + 1) = true then Xt Z K q (d + 1 - Z m) else 0)
          rw [ihm, hst]
          by_cases h : stB Z K q m (d + 1) = true
          · rw [if_pos h, if_pos h]
            have h1 := (stB_iff.mp h).1
            rw [ih _ (by omega) (by omega)]
          · rw [if_neg h, if_neg h]
      exact this 12
end MA
